/-! the reference: its reading; kinds 37, marks 38, numbers 39, behinds 40, rules 41 -/
def mpH (h : Hp) (c : CT) (i : Nat) : Hp := (fun q j => if q = 37 then c.1 j else if q = 38 then c.2.1 j else if q = 39 then c.2.2.1 j else if q = 40 then c.2.2.2.1 j else if q = 41 then c.2.2.2.2.1 j else if q = 31 ∧ j = 9 then nI c.2.2.2.2.2 else if q = 31 ∧ j = 10 then nI i else h.1 q j, h.2)
theorem mp_K (h : Hp) (c : CT) (k i : Nat) (x : Int32) : pI (mpH h c k) 37 i x = mpH h (cK c i x) k := by
  refine hp_ext (fun q j => ?_) (fun q j => rfl)
  simp only [pI_g, mpH, cK, upd]
  by_cases e : q = 37
  · subst e
    by_cases e2 : j = i <;> simp [e2]
  · simp [e]
theorem mp_M (h : Hp) (c : CT) (k i : Nat) (x : Int32) : pI (mpH h c k) 38 i x = mpH h (cM c i x) k := by
  refine hp_ext (fun q j => ?_) (fun q j => rfl)
  simp only [pI_g, mpH, cM, upd]
  by_cases e : q = 38
  · subst e
    by_cases e2 : j = i <;> simp [e2]
  · simp [e]
theorem mp_N (h : Hp) (c : CT) (k i : Nat) (x : Int32) : pI (mpH h c k) 39 i x = mpH h (cN c i x) k := by
  refine hp_ext (fun q j => ?_) (fun q j => rfl)
  simp only [pI_g, mpH, cN, upd]
  by_cases e : q = 39
  · subst e
    by_cases e2 : j = i <;> simp [e2]
  · simp [e]
theorem mp_B (h : Hp) (c : CT) (k i : Nat) (x : Int32) : pI (mpH h c k) 40 i x = mpH h (cB c i x) k := by
  refine hp_ext (fun q j => ?_) (fun q j => rfl)
  simp only [pI_g, mpH, cB, upd]
  by_cases e : q = 40
  · subst e
    by_cases e2 : j = i <;> simp [e2]
  · simp [e]
theorem mp_R (h : Hp) (c : CT) (k i : Nat) (x : Int32) : pI (mpH h c k) 41 i x = mpH h (cR c i x) k := by
  refine hp_ext (fun q j => ?_) (fun q j => rfl)
  simp only [pI_g, mpH, cR, upd]
  by_cases e : q = 41
  · subst e
    by_cases e2 : j = i <;> simp [e2]
  · simp [e]
theorem mp_A (h : Hp) (c : CT) (k a : Nat) : pI (mpH h c k) 31 9 (nI a) = mpH h (cA c a) k := by
  refine hp_ext (fun q j => ?_) (fun q j => rfl)
  simp only [pI_g, mpH, cA]
  by_cases e : q = 31 ∧ j = 9
  · obtain ⟨rfl, rfl⟩ := e; simp
  · simp [e]
theorem mp_C (h : Hp) (c : CT) (k a : Nat) : pI (mpH h c k) 31 10 (nI a) = mpH h c a := by
  refine hp_ext (fun q j => ?_) (fun q j => rfl)
  simp only [pI_g, mpH]
  by_cases e : q = 31 ∧ j = 10
  · obtain ⟨rfl, rfl⟩ := e; simp
  · simp [e]
theorem mp_at (h : Hp) (c : CT) (k : Nat) : (mpH h c k).1 31 9 = nI (cAt c) := by simp [mpH, cAt]
theorem mp_cl (h : Hp) (c : CT) (k : Nat) : (mpH h c k).1 31 10 = nI k := by simp [mpH]
theorem mp_len (h : Hp) (c : CT) (k : Nat) : (mpH h c k).1 31 8 = h.1 31 8 := by simp [mpH]
theorem mp_byt (h : Hp) (c : CT) (k j : Nat) : (mpH h c k).1 36 j = h.1 36 j := by simp [mpH]
theorem mp_num (h : Hp) (c : CT) (k j : Nat) : (mpH h c k).1 39 j = c.2.2.1 j := by simp [mpH]
def MTX (h : Hp) (bt : Nat → Nat) (n : Nat) : Prop := h.1 31 8 = nI n ∧ n ≤ 100 ∧ ∀ j, j < n → h.1 36 j = nI (bt j) ∧ bt j < 256
def hrV (bt : Nat → Nat) (n a : Nat) : Int32 := if a < n then nI (bt a) else -1
theorem c_X9_here {h : Hp} {bt : Nat → Nat} {n : Nat} (hT : MTX h bt n) (c : CT) (i : Nat) (hc : cAt c < 2 ^ 30) : Rn 0 MX9_here [.ref 31] (mpH h c i) (EI (hrV bt n (cAt c)) (mpH h c i)) := by
  obtain ⟨hl, hn, hB⟩ := id hT
  refine rn_of mm_X9_here (le_b rfl) rfl ?_
  unfold hrV
  refine r_aload0 dX9_here_0 ?_
  refine r_getI dX9_here_1 fl_X9_109 rfl rfl ?_
  refine r_aload0 dX9_here_4 ?_
  refine r_getI dX9_here_5 fl_X9_103 rfl rfl ?_
  rw [mp_at, mp_len, hl]
  by_cases h1 : cAt c < n
  · rw [if_pos h1]
    refine r_icmpge (tgt := 23) dX9_here_8 (by decide) (fun c9 => absurd c9 (nI_ge h1 (by omega))) (fun _ => ?_)
    refine r_aload0 dX9_here_11 ?_
    refine r_getR dX9_here_12 fl_X9_29 rfl rfl ?_
    refine r_aload0 dX9_here_15 ?_
    refine r_getI dX9_here_16 fl_X9_109 rfl rfl ?_
    rw [mp_at]
    refine r_ialdN dX9_here_19 rfl (by omega) ?_
    refine r_goto (tgt := 24) dX9_here_20 (by decide) ?_
    exact r_iretE dX9_here_24 rfl (by rw [mp_byt, (hB _ h1).1]) (rfl)
  · rw [if_neg h1]
    refine r_icmpge (tgt := 23) dX9_here_8 (by decide) (fun _ => ?_) (fun c9 => absurd (nI_le (by omega) (by omega)) c9)
    refine r_iconst_m1 dX9_here_23 ?_
    exact r_iretE dX9_here_24 rfl (rfl) (rfl)
theorem nI_nm1 {n : Nat} (h : n < 2 ^ 31) : ¬ nI n = -1 := by
  intro q
  have q := congrArg Int32.toInt q
  rw [nI_toInt h] at q
  have e : (-1 : Int32).toInt = -1 := by decide
  omega
theorem hrV_eq {bt : Nat → Nat} {n a ch : Nat} (hB : a < n → bt a < 256) (hch : ch < 2 ^ 31) : hrV bt n a = nI ch ↔ a < n ∧ bt a = ch := by
  unfold hrV
  by_cases h1 : a < n
  · rw [if_pos h1]
    have := hB h1
    rw [nI_eq (by omega) hch]
    exact ⟨fun q => ⟨h1, q⟩, fun q => q.2⟩
  · rw [if_neg h1]
    refine ⟨fun q => ?_, fun q => absurd q.1 h1⟩
    exact absurd q.symm (nI_nm1 hch)
theorem hb_of {h : Hp} {bt : Nat → Nat} {n : Nat} (hT : MTX h bt n) (a : Nat) : a < n → bt a < 256 := fun q => (hT.2.2 a q).2
theorem c_X9_must {h : Hp} {bt : Nat → Nat} {n : Nat} (hT : MTX h bt n) (ch : Nat) (c : CT) (i : Nat) (hc : cAt c < 2 ^ 30) (hch : ch < 2 ^ 31) : Rn 1 MX9_must [.ref 31, .int (nI ch)] (mpH h c i) (EI (b2i (skF bt n ch c).1) (mpH h (skF bt n ch c).2 i)) := by
  refine rn_of mm_X9_must (le_b rfl) rfl ?_
  unfold skF
  by_cases e : cAt c < n ∧ bt (cAt c) = ch
  · rw [if_pos e]
    refine r_aload0 dX9_must_0 ?_
    refine r_cV0I dX9_must_1 mm_X9_here im_X9_here se_X9_here ml_X9_112 rfl rfl rfl (c_X9_here hT c i hc) (by decide) (Nat.le_of_ble_eq_true rfl) ?_
    refine r_iload1 dX9_must_4 ?_
    refine r_icmpne (tgt := 12) dX9_must_5 (by decide) (fun c9 => absurd ((hrV_eq (hb_of hT _) hch).mpr e) c9) (fun _ => ?_)
    refine r_iconst_1 dX9_must_8 ?_
    refine r_goto (tgt := 13) dX9_must_9 (by decide) ?_
    refine r_istore2 dX9_must_13 rfl (by decide) ?_
    refine r_aload0 dX9_must_14 ?_
    refine r_dup rfl dX9_must_15 ?_
    refine r_getI dX9_must_16 fl_X9_109 rfl rfl ?_
    refine r_iload2 dX9_must_19 ?_
    refine r_ifeq (tgt := 27) dX9_must_20 (by decide) (fun c9 => absurd c9 (by decide)) (fun _ => ?_)
    refine r_iconst_1 dX9_must_23 ?_
    refine r_goto (tgt := 28) dX9_must_24 (by decide) ?_
    refine r_iadd dX9_must_28 ?_
    rw [mp_at, nI_1]
    refine r_putI dX9_must_29 fw_X9_109 rfl rfl ?_
    rw [mp_A]
    refine r_iload2 dX9_must_32 ?_
    exact r_zretE dX9_must_33 rfl (by decide) (rfl) (rfl)
  · rw [if_neg e]
    refine r_aload0 dX9_must_0 ?_
    refine r_cV0I dX9_must_1 mm_X9_here im_X9_here se_X9_here ml_X9_112 rfl rfl rfl (c_X9_here hT c i hc) (by decide) (Nat.le_of_ble_eq_true rfl) ?_
    refine r_iload1 dX9_must_4 ?_
    refine r_icmpne (tgt := 12) dX9_must_5 (by decide) (fun _ => ?_) (fun c9 => absurd c9 (fun q => e ((hrV_eq (hb_of hT _) hch).mp q)))
    refine r_iconst_0 dX9_must_12 ?_
    refine r_istore2 dX9_must_13 rfl (by decide) ?_
    refine r_aload0 dX9_must_14 ?_
    refine r_dup rfl dX9_must_15 ?_
    refine r_getI dX9_must_16 fl_X9_109 rfl rfl ?_
    refine r_iload2 dX9_must_19 ?_
    refine r_ifeq (tgt := 27) dX9_must_20 (by decide) (fun _ => ?_) (fun c9 => absurd (rfl) c9)
    refine r_iconst_0 dX9_must_27 ?_
    refine r_iadd dX9_must_28 ?_
    rw [mp_at, i32_add0]
    refine r_putI dX9_must_29 fw_X9_109 rfl rfl ?_
    rw [mp_A]
    refine r_iload2 dX9_must_32 ?_
    exact r_zretE dX9_must_33 rfl (by decide) (rfl) (rfl)
theorem iof_out : ∀ k, k < 256 → (k < 99 ∨ 118 < k) → iof 0 (nI k) = -1 := by decide +kernel
theorem iof_m1 : ∀ j, j < 2 → ∀ k, k < 256 → iof j (nI k) < 0 → iof j (nI k) = -1 := by decide +kernel
theorem ruN_m1 {bt : Nat → Nat} {n j a : Nat} (hj : j < 2) (hB : a < n → bt a < 256) (h : ruN bt n j a < 0) : ruN bt n j a = -1 := by
  unfold ruN at h ⊢
  by_cases h1 : a < n
  · rw [if_pos h1] at h ⊢
    exact iof_m1 j hj _ (hB h1) h
  · rw [if_neg h1]
theorem c_X9_kindOf {bt : Nat → Nat} {n a : Nat} (h : Hp) (hB : a < n → bt a < 256) : Rn 0 MX9_kindOf [.int (hrV bt n a)] h (EI (ruN bt n 0 a) h) := by
  refine rn_of mm_X9_kindOf (le_b rfl) rfl ?_
  unfold hrV ruN
  by_cases h1 : a < n
  · rw [if_pos h1, if_pos h1]
    have hb := hB h1
    generalize bt a = k at *
    by_cases c : k < 99 ∨ 118 < k
    · have e := iof_out k hb c
      rw [e]
      refine r_iload0 dX9_kindOf_0 ?_
      refine r_tabOut (tgt := 117) dX9_kindOf_1 (by rw [nI_toInt (by omega)]; omega) (by decide) ?_
      refine r_iconst_m1 dX9_kindOf_117 ?_
      exact r_iretE dX9_kindOf_118 rfl (rfl) (rfl)
    · have : k = 99 ∨ k = 100 ∨ k = 101 ∨ k = 102 ∨ k = 103 ∨ k = 104 ∨ k = 105 ∨ k = 106 ∨ k = 107 ∨ k = 108 ∨ k = 109 ∨ k = 110 ∨ k = 111 ∨ k = 112 ∨ k = 113 ∨ k = 114 ∨ k = 115 ∨ k = 116 ∨ k = 117 ∨ k = 118 := by omega
      rcases this with rfl | rfl | rfl | rfl | rfl | rfl | rfl | rfl | rfl | rfl | rfl | rfl | rfl | rfl | rfl | rfl | rfl | rfl | rfl | rfl
      · refine r_iload0 dX9_kindOf_0 ?_
        refine r_tabIn (tgt := 104) dX9_kindOf_1 (by decide) (by decide) (by rfl) (by decide) ?_
        refine r_iconst_4 dX9_kindOf_104 ?_
        exact r_iretE dX9_kindOf_105 rfl (by decide +kernel) (rfl)
      · refine r_iload0 dX9_kindOf_0 ?_
        refine r_tabIn (tgt := 102) dX9_kindOf_1 (by decide) (by decide) (by rfl) (by decide) ?_
        refine r_iconst_3 dX9_kindOf_102 ?_
        exact r_iretE dX9_kindOf_103 rfl (by decide +kernel) (rfl)
      · refine r_iload0 dX9_kindOf_0 ?_
        refine r_tabIn (tgt := 117) dX9_kindOf_1 (by decide) (by decide) (by rfl) (by decide) ?_
        refine r_iconst_m1 dX9_kindOf_117 ?_
        exact r_iretE dX9_kindOf_118 rfl (by decide +kernel) (rfl)
      · refine r_iload0 dX9_kindOf_0 ?_
        refine r_tabIn (tgt := 117) dX9_kindOf_1 (by decide) (by decide) (by rfl) (by decide) ?_
        refine r_iconst_m1 dX9_kindOf_117 ?_
        exact r_iretE dX9_kindOf_118 rfl (by decide +kernel) (rfl)
      · refine r_iload0 dX9_kindOf_0 ?_
        refine r_tabIn (tgt := 111) dX9_kindOf_1 (by decide) (by decide) (by rfl) (by decide) ?_
        refine r_bipush bv_7 dX9_kindOf_111 ?_
        exact r_iretE dX9_kindOf_113 rfl (by decide +kernel) (rfl)
      · refine r_iload0 dX9_kindOf_0 ?_
        refine r_tabIn (tgt := 106) dX9_kindOf_1 (by decide) (by decide) (by rfl) (by decide) ?_
        refine r_iconst_5 dX9_kindOf_106 ?_
        exact r_iretE dX9_kindOf_107 rfl (by decide +kernel) (rfl)
      · refine r_iload0 dX9_kindOf_0 ?_
        refine r_tabIn (tgt := 117) dX9_kindOf_1 (by decide) (by decide) (by rfl) (by decide) ?_
        refine r_iconst_m1 dX9_kindOf_117 ?_
        exact r_iretE dX9_kindOf_118 rfl (by decide +kernel) (rfl)
      · refine r_iload0 dX9_kindOf_0 ?_
        refine r_tabIn (tgt := 117) dX9_kindOf_1 (by decide) (by decide) (by rfl) (by decide) ?_
        refine r_iconst_m1 dX9_kindOf_117 ?_
        exact r_iretE dX9_kindOf_118 rfl (by decide +kernel) (rfl)
      · refine r_iload0 dX9_kindOf_0 ?_
        refine r_tabIn (tgt := 117) dX9_kindOf_1 (by decide) (by decide) (by rfl) (by decide) ?_
        refine r_iconst_m1 dX9_kindOf_117 ?_
        exact r_iretE dX9_kindOf_118 rfl (by decide +kernel) (rfl)
      · refine r_iload0 dX9_kindOf_0 ?_
        refine r_tabIn (tgt := 108) dX9_kindOf_1 (by decide) (by decide) (by rfl) (by decide) ?_
        refine r_bipush bv_6 dX9_kindOf_108 ?_
        exact r_iretE dX9_kindOf_110 rfl (by decide +kernel) (rfl)
      · refine r_iload0 dX9_kindOf_0 ?_
        refine r_tabIn (tgt := 96) dX9_kindOf_1 (by decide) (by decide) (by rfl) (by decide) ?_
        refine r_iconst_0 dX9_kindOf_96 ?_
        exact r_iretE dX9_kindOf_97 rfl (by decide +kernel) (rfl)
      · refine r_iload0 dX9_kindOf_0 ?_
        refine r_tabIn (tgt := 117) dX9_kindOf_1 (by decide) (by decide) (by rfl) (by decide) ?_
        refine r_iconst_m1 dX9_kindOf_117 ?_
        exact r_iretE dX9_kindOf_118 rfl (by decide +kernel) (rfl)
      · refine r_iload0 dX9_kindOf_0 ?_
        refine r_tabIn (tgt := 114) dX9_kindOf_1 (by decide) (by decide) (by rfl) (by decide) ?_
        refine r_bipush bv_8 dX9_kindOf_114 ?_
        exact r_iretE dX9_kindOf_116 rfl (by decide +kernel) (rfl)
      · refine r_iload0 dX9_kindOf_0 ?_
        refine r_tabIn (tgt := 117) dX9_kindOf_1 (by decide) (by decide) (by rfl) (by decide) ?_
        refine r_iconst_m1 dX9_kindOf_117 ?_
        exact r_iretE dX9_kindOf_118 rfl (by decide +kernel) (rfl)
      · refine r_iload0 dX9_kindOf_0 ?_
        refine r_tabIn (tgt := 117) dX9_kindOf_1 (by decide) (by decide) (by rfl) (by decide) ?_
        refine r_iconst_m1 dX9_kindOf_117 ?_
        exact r_iretE dX9_kindOf_118 rfl (by decide +kernel) (rfl)
      · refine r_iload0 dX9_kindOf_0 ?_
        refine r_tabIn (tgt := 117) dX9_kindOf_1 (by decide) (by decide) (by rfl) (by decide) ?_
        refine r_iconst_m1 dX9_kindOf_117 ?_
        exact r_iretE dX9_kindOf_118 rfl (by decide +kernel) (rfl)
      · refine r_iload0 dX9_kindOf_0 ?_
        refine r_tabIn (tgt := 98) dX9_kindOf_1 (by decide) (by decide) (by rfl) (by decide) ?_
        refine r_iconst_1 dX9_kindOf_98 ?_
        exact r_iretE dX9_kindOf_99 rfl (by decide +kernel) (rfl)
      · refine r_iload0 dX9_kindOf_0 ?_
        refine r_tabIn (tgt := 117) dX9_kindOf_1 (by decide) (by decide) (by rfl) (by decide) ?_
        refine r_iconst_m1 dX9_kindOf_117 ?_
        exact r_iretE dX9_kindOf_118 rfl (by decide +kernel) (rfl)
      · refine r_iload0 dX9_kindOf_0 ?_
        refine r_tabIn (tgt := 117) dX9_kindOf_1 (by decide) (by decide) (by rfl) (by decide) ?_
        refine r_iconst_m1 dX9_kindOf_117 ?_
        exact r_iretE dX9_kindOf_118 rfl (by decide +kernel) (rfl)
      · refine r_iload0 dX9_kindOf_0 ?_
        refine r_tabIn (tgt := 100) dX9_kindOf_1 (by decide) (by decide) (by rfl) (by decide) ?_
        refine r_iconst_2 dX9_kindOf_100 ?_
        exact r_iretE dX9_kindOf_101 rfl (by decide +kernel) (rfl)
  · rw [if_neg h1, if_neg h1]
    refine r_iload0 dX9_kindOf_0 ?_
    refine r_tabOut (tgt := 117) dX9_kindOf_1 ((by decide)) (by decide) ?_
    refine r_iconst_m1 dX9_kindOf_117 ?_
    exact r_iretE dX9_kindOf_118 rfl (rfl) (rfl)

theorem c_X9_figures {h : Hp} {bt : Nat → Nat} {n : Nat} (hT : MTX h bt n) (most : Nat) (v : Int32) (c : CT) (i : Nat) (hc : cAt c < 2 ^ 29) (hm : most ≤ 10) : Rn 1 MX9_figures [.ref 31, .int v, .int (nI most)] (mpH h c i) (EI (if (rf bt n most (cAt c) v).1 = 0 then -1 else (rf bt n most (cAt c) v).2) (mpH h (cA c (cAt c + (rf bt n most (cAt c) v).1)) i)) := by
  refine rn_of mm_X9_figures (le_b rfl) rfl ?_
  generalize hR : rf bt n most (cAt c) v = R
  refine r_aload0 dX9_figures_0 ?_
  refine r_getI dX9_figures_1 fl_X9_109 rfl rfl ?_
  rw [mp_at]
  refine r_istore3 dX9_figures_4 rfl (by decide) ?_
  refine r_iload1 dX9_figures_5 ?_
  refine r_istore4 dX9_figures_6 rfl (by decide) ?_
  have hRm : R.1 ≤ most := by
    rw [← hR]
    have : ∀ k a v, (rf bt n k a v).1 ≤ k := by
      intro k
      induction k with
      | zero => intro a v; exact Nat.le_refl _
      | succ k ih =>
        intro a v
        rw [rf]
        split
        · exact Nat.zero_le _
        · have := ih (a + 1) (10 * v + nI (by assumption))
          exact Nat.succ_le_succ (ih _ _)
    exact this _ _ _
  have last : Aw 1 MX9_figures (Kp (EI (if R.1 = 0 then -1 else R.2) (mpH h (cA c (cAt c + R.1)) i))) 63 [some (.ref 31), some (.int v), some (.int (nI most)), some (.int (nI (cAt c))), some (.int R.2)] [] (mpH h (cA c (cAt c + R.1)) i) := by
    have e : cAt (cA c (cAt c + R.1)) = cAt c + R.1 := rfl
    refine r_aload0 dX9_figures_63 ?_
    refine r_getI dX9_figures_64 fl_X9_109 rfl rfl ?_
    rw [mp_at, e]
    by_cases z : R.1 = 0
    · rw [if_pos z]
      refine r_iload3 dX9_figures_67 ?_
      refine r_icmpne (tgt := 75) dX9_figures_68 (by decide) (fun c9 => absurd (by rw [z]; rfl) c9) (fun _ => ?_)
      refine r_iconst_m1 dX9_figures_71 ?_
      refine r_goto (tgt := 77) dX9_figures_72 (by decide) ?_
      exact r_iretE dX9_figures_77 rfl (rfl) (rfl)
    · rw [if_neg z]
      refine r_iload3 dX9_figures_67 ?_
      refine r_icmpne (tgt := 75) dX9_figures_68 (by decide) (fun _ => ?_) (fun c9 => absurd c9 (fun q => by have := (nI_eq (by omega) (by omega)).mp q; omega))
      refine r_iload4 dX9_figures_75 ?_
      exact r_iretE dX9_figures_77 rfl (rfl) (rfl)
  have key : ∀ k x u, x + k = most → (rf bt n k (cAt c + x) u).1 + x = R.1 → (rf bt n k (cAt c + x) u).2 = R.2 → Aw 1 MX9_figures (Kp (EI (if R.1 = 0 then -1 else R.2) (mpH h (cA c (cAt c + R.1)) i))) 8 [some (.ref 31), some (.int v), some (.int (nI most)), some (.int (nI (cAt c))), some (.int u)] [] (mpH h (cA c (cAt c + x)) i) := by
    intro k
    induction k with
    | zero =>
      intro x u hx h1 h2
      have h1 : 0 + x = R.1 := h1
      have h2 : u = R.2 := h2
      have e : cAt (cA c (cAt c + x)) = cAt c + x := rfl
      refine r_aload0 dX9_figures_8 ?_
      refine r_getI dX9_figures_9 fl_X9_109 rfl rfl ?_
      refine r_iload3 dX9_figures_12 ?_
      refine r_iload2 dX9_figures_13 ?_
      refine r_iadd dX9_figures_14 ?_
      rw [mp_at, e, nI_add]
      refine r_icmpge (tgt := 63) dX9_figures_15 (by decide) (fun _ => ?_) (fun c9 => absurd (by rw [show x = most by omega]; exact Int32.le_refl _) c9)
      rw [h2, show x = R.1 by omega]
      exact last
    | succ k ih =>
      intro x u hx h1 h2
      have e : cAt (cA c (cAt c + x)) = cAt c + x := rfl
      rw [rf] at h1 h2
      refine r_aload0 dX9_figures_8 ?_
      refine r_getI dX9_figures_9 fl_X9_109 rfl rfl ?_
      refine r_iload3 dX9_figures_12 ?_
      refine r_iload2 dX9_figures_13 ?_
      refine r_iadd dX9_figures_14 ?_
      rw [mp_at, e, nI_add]
      by_cases d : cAt c + x < n ∧ 48 ≤ bt (cAt c + x) ∧ bt (cAt c + x) ≤ 57
      · have ef : fgN bt n (cAt c + x) = some (bt (cAt c + x) - 48) := if_pos d
        rw [ef] at h1 h2
        dsimp only at h1 h2
        have eh : hrV bt n (cAt c + x) = nI (bt (cAt c + x)) := if_pos d.1
        have rh := c_X9_here hT (cA c (cAt c + x)) i (by rw [e]; omega)
        rw [e, eh] at rh
        refine r_icmpge (tgt := 63) dX9_figures_15 (by decide) (fun c9 => absurd c9 (nI_ge (by omega) (by omega))) (fun _ => ?_)
        refine r_aload0 dX9_figures_18 ?_
        refine r_cV0I dX9_figures_19 mm_X9_here im_X9_here se_X9_here ml_X9_112 rfl rfl rfl (rh) (by decide) (Nat.le_of_ble_eq_true rfl) ?_
        refine r_i2l dX9_figures_22 ?_
        refine r_ldc2 ct_X9_116 dX9_figures_23 ?_
        refine r_ldc2 ct_X9_118 dX9_figures_26 ?_
        refine r_cS3I dX9_figures_29 mm_X9_in st_X9_in ml_X9_74 (c_inI_y (lo := 48) (hi := 57) _ (by decide) (by decide) (nI_nlt (b := 48) d.2.1 (by omega)) (nI_nlt (a := 57) d.2.2 (by omega))) (by decide) (Nat.le_of_ble_eq_true rfl) ?_
        refine r_ifeq (tgt := 63) dX9_figures_32 (by decide) (fun c9 => absurd c9 (by decide)) (fun _ => ?_)
        refine r_bipush bv_10 dX9_figures_35 ?_
        refine r_iload4 dX9_figures_37 ?_
        refine r_imul dX9_figures_39 ?_
        refine r_aload0 dX9_figures_40 ?_
        refine r_cV0I dX9_figures_41 mm_X9_here im_X9_here se_X9_here ml_X9_112 rfl rfl rfl (rh) (by decide) (Nat.le_of_ble_eq_true rfl) ?_
        refine r_iadd dX9_figures_44 ?_
        refine r_bipush bv_48 dX9_figures_45 ?_
        refine r_isub dX9_figures_47 ?_
        have ev : (10 : Int32) * u + nI (bt (cAt c + x)) - 48 = 10 * u + nI (bt (cAt c + x) - 48) := by
          rw [Int32.sub_eq_add_neg, Int32.add_assoc, ← Int32.sub_eq_add_neg, show nI (bt (cAt c + x)) - 48 = nI (bt (cAt c + x) - 48) from pk_sub (b := 48) d.2.1]
        rw [ev]
        refine r_istore4 dX9_figures_48 rfl (by decide) ?_
        refine r_aload0 dX9_figures_50 ?_
        refine r_dup rfl dX9_figures_51 ?_
        refine r_getI dX9_figures_52 fl_X9_109 rfl rfl ?_
        refine r_iconst_1 dX9_figures_55 ?_
        refine r_iadd dX9_figures_56 ?_
        rw [mp_at, e, nI_1]
        refine r_putI dX9_figures_57 fw_X9_109 rfl rfl ?_
        rw [mp_A]
        have ec : cA (cA c (cAt c + x)) (cAt c + x + 1) = cA c (cAt c + (x + 1)) := rfl
        rw [ec]
        refine r_goto (tgt := 8) dX9_figures_60 (by decide) ?_
        exact ih (x + 1) _ (by omega) (by rw [← h1]; have : cAt c + (x + 1) = cAt c + x + 1 := rfl; rw [this]; omega) h2
      · have ef : fgN bt n (cAt c + x) = none := if_neg d
        rw [ef] at h1 h2
        dsimp only at h1 h2
        have rh := c_X9_here hT (cA c (cAt c + x)) i (by rw [e]; omega)
        rw [e] at rh
        have hout : hrV bt n (cAt c + x) < 48 ∨ 57 < hrV bt n (cAt c + x) := by
          unfold hrV
          by_cases q : cAt c + x < n
          · rw [if_pos q]
            have := hb_of hT _ q
            by_cases q2 : 48 ≤ bt (cAt c + x)
            · exact Or.inr (nI_lt (a := 57) (by omega) (by omega))
            · exact Or.inl (nI_lt (b := 48) (by omega) (by decide))
          · rw [if_neg q]; exact Or.inl (by decide)
        refine r_icmpge (tgt := 63) dX9_figures_15 (by decide) (fun c9 => absurd c9 (nI_ge (by omega) (by omega))) (fun _ => ?_)
        refine r_aload0 dX9_figures_18 ?_
        refine r_cV0I dX9_figures_19 mm_X9_here im_X9_here se_X9_here ml_X9_112 rfl rfl rfl (rh) (by decide) (Nat.le_of_ble_eq_true rfl) ?_
        refine r_i2l dX9_figures_22 ?_
        refine r_ldc2 ct_X9_116 dX9_figures_23 ?_
        refine r_ldc2 ct_X9_118 dX9_figures_26 ?_
        refine r_cS3I dX9_figures_29 mm_X9_in st_X9_in ml_X9_74 (c_inI_n (lo := 48) (hi := 57) _ (by decide) (by decide) hout) (by decide) (Nat.le_of_ble_eq_true rfl) ?_
        refine r_ifeq (tgt := 63) dX9_figures_32 (by decide) (fun _ => ?_) (fun c9 => absurd (rfl) c9)
        rw [h2, show x = R.1 by omega]
        exact last
  have k0 := key most 0 v (by omega) (by rw [Nat.add_zero, Nat.add_zero, hR]) (by rw [Nat.add_zero, hR])
  exact k0
theorem upd_id {f : Nat → Int32} {i : Nat} {x : Int32} (h : f i = x) : upd f i x = f := by
  funext j
  unfold upd
  by_cases e : j = i
  · rw [if_pos e, e, h]
  · rw [if_neg e]
theorem upd_upd (f : Nat → Int32) (i : Nat) (x y : Int32) : upd (upd f i x) i y = upd f i y := by
  funext j
  unfold upd
  by_cases e : j = i
  · rw [if_pos e, if_pos e]
  · rw [if_neg e, if_neg e, if_neg e]
theorem iof1 : ∀ k, k < 256 → iof 1 (nI k) = if k = 117 then 0 else if k = 101 then 1 else if k = 116 then 2 else -1 := by decide +kernel
theorem c_X9_readsRule {h : Hp} {bt : Nat → Nat} {n : Nat} (hT : MTX h bt n) (c : CT) (i : Nat) (hc : cAt c < 2 ^ 29) (hi : i < 10) (h0 : c.2.2.2.2.1 i = 0) : Rn 1 MX9_readsRule [.ref 31] (mpH h c i) (EV (mpH h (ruF bt n i c) i)) := by
  refine rn_of mm_X9_readsRule (le_b rfl) rfl ?_
  have rh := c_X9_here hT c i (by omega)
  have hv : ∀ k, k < 2 ^ 31 → (hrV bt n (cAt c) = nI k ↔ cAt c < n ∧ bt (cAt c) = k) := fun k hk => hrV_eq (hb_of hT _) hk
  have yes : ∀ r : Nat, r ≤ 2 → ruN bt n 1 (cAt c) = nI r → Aw 1 MX9_readsRule (Kp (EV (mpH h (ruF bt n i c) i))) 36 [some (.ref 31), some (.int (hrV bt n (cAt c))), none] [.int (nI r)] (mpH h c i) := by
    intro r hr er
    have hn1 := nI_nm1 (n := r) (by omega)
    have eu : ruF bt n i c = cA (cR c i (nI r)) (cAt c + 1) := by
      unfold ruF
      rw [er, if_neg (nI_pos (by omega))]
    rw [eu]
    refine r_istore2 dX9_readsRule_36 rfl (by decide) ?_
    refine r_aload0 dX9_readsRule_37 ?_
    refine r_getR dX9_readsRule_38 fl_X9_44 rfl rfl ?_
    refine r_aload0 dX9_readsRule_41 ?_
    refine r_getI dX9_readsRule_42 fl_X9_120 rfl rfl ?_
    rw [mp_cl]
    refine r_iload2 dX9_readsRule_45 ?_
    refine r_iconst_m1 dX9_readsRule_46 ?_
    refine r_icmpne (tgt := 54) dX9_readsRule_47 (by decide) (fun _ => ?_) (fun c9 => absurd c9 (hn1))
    refine r_iload2 dX9_readsRule_54 ?_
    refine r_iastN dX9_readsRule_55 rfl hi ?_
    rw [mp_R]
    refine r_aload0 dX9_readsRule_56 ?_
    refine r_dup rfl dX9_readsRule_57 ?_
    refine r_getI dX9_readsRule_58 fl_X9_109 rfl rfl ?_
    refine r_iload2 dX9_readsRule_61 ?_
    refine r_iconst_m1 dX9_readsRule_62 ?_
    refine r_icmpne (tgt := 70) dX9_readsRule_63 (by decide) (fun _ => ?_) (fun c9 => absurd c9 (hn1))
    refine r_iconst_1 dX9_readsRule_70 ?_
    refine r_iadd dX9_readsRule_71 ?_
    rw [mp_at, nI_1]
    refine r_putI dX9_readsRule_72 fw_X9_109 rfl rfl ?_
    rw [mp_A]
    exact r_vretE dX9_readsRule_75 rfl (rfl)
  by_cases c1 : cAt c < n ∧ bt (cAt c) = 117
  · have er : ruN bt n 1 (cAt c) = nI 0 := by
      unfold ruN
      rw [if_pos c1.1, c1.2]
      decide +kernel
    refine r_aload0 dX9_readsRule_0 ?_
    refine r_cV0I dX9_readsRule_1 mm_X9_here im_X9_here se_X9_here ml_X9_112 rfl rfl rfl (rh) (by decide) (Nat.le_of_ble_eq_true rfl) ?_
    refine r_istore1 dX9_readsRule_4 rfl (by decide) ?_
    refine r_iload1 dX9_readsRule_5 ?_
    refine r_bipush bv_117 dX9_readsRule_6 ?_
    refine r_icmpne (tgt := 15) dX9_readsRule_8 (by decide) (fun c9 => absurd ((hv 117 (by decide)).mpr c1) c9) (fun _ => ?_)
    refine r_iconst_0 dX9_readsRule_11 ?_
    refine r_goto (tgt := 36) dX9_readsRule_12 (by decide) ?_
    exact yes 0 (by decide) er
  · have n1 : ¬ hrV bt n (cAt c) = 117 := fun q => c1 ((hv 117 (by decide)).mp q)
    by_cases c2 : cAt c < n ∧ bt (cAt c) = 101
    · have er : ruN bt n 1 (cAt c) = nI 1 := by
        unfold ruN
        rw [if_pos c2.1, c2.2]
        decide +kernel
      refine r_aload0 dX9_readsRule_0 ?_
      refine r_cV0I dX9_readsRule_1 mm_X9_here im_X9_here se_X9_here ml_X9_112 rfl rfl rfl (rh) (by decide) (Nat.le_of_ble_eq_true rfl) ?_
      refine r_istore1 dX9_readsRule_4 rfl (by decide) ?_
      refine r_iload1 dX9_readsRule_5 ?_
      refine r_bipush bv_117 dX9_readsRule_6 ?_
      refine r_icmpne (tgt := 15) dX9_readsRule_8 (by decide) (fun _ => ?_) (fun c9 => absurd c9 (n1))
      refine r_iload1 dX9_readsRule_15 ?_
      refine r_bipush bv_101 dX9_readsRule_16 ?_
      refine r_icmpne (tgt := 25) dX9_readsRule_18 (by decide) (fun c9 => absurd ((hv 101 (by decide)).mpr c2) c9) (fun _ => ?_)
      refine r_iconst_1 dX9_readsRule_21 ?_
      refine r_goto (tgt := 36) dX9_readsRule_22 (by decide) ?_
      exact yes 1 (by decide) er
    · have n2 : ¬ hrV bt n (cAt c) = 101 := fun q => c2 ((hv 101 (by decide)).mp q)
      by_cases c3 : cAt c < n ∧ bt (cAt c) = 116
      · have er : ruN bt n 1 (cAt c) = nI 2 := by
          unfold ruN
          rw [if_pos c3.1, c3.2]
          decide +kernel
        refine r_aload0 dX9_readsRule_0 ?_
        refine r_cV0I dX9_readsRule_1 mm_X9_here im_X9_here se_X9_here ml_X9_112 rfl rfl rfl (rh) (by decide) (Nat.le_of_ble_eq_true rfl) ?_
        refine r_istore1 dX9_readsRule_4 rfl (by decide) ?_
        refine r_iload1 dX9_readsRule_5 ?_
        refine r_bipush bv_117 dX9_readsRule_6 ?_
        refine r_icmpne (tgt := 15) dX9_readsRule_8 (by decide) (fun _ => ?_) (fun c9 => absurd c9 (n1))
        refine r_iload1 dX9_readsRule_15 ?_
        refine r_bipush bv_101 dX9_readsRule_16 ?_
        refine r_icmpne (tgt := 25) dX9_readsRule_18 (by decide) (fun _ => ?_) (fun c9 => absurd c9 (n2))
        refine r_iload1 dX9_readsRule_25 ?_
        refine r_bipush bv_116 dX9_readsRule_26 ?_
        refine r_icmpne (tgt := 35) dX9_readsRule_28 (by decide) (fun c9 => absurd ((hv 116 (by decide)).mpr c3) c9) (fun _ => ?_)
        refine r_iconst_2 dX9_readsRule_31 ?_
        refine r_goto (tgt := 36) dX9_readsRule_32 (by decide) ?_
        exact yes 2 (by decide) er
      · have n3 : ¬ hrV bt n (cAt c) = 116 := fun q => c3 ((hv 116 (by decide)).mp q)
        have er : ruN bt n 1 (cAt c) = -1 := by
          unfold ruN
          by_cases q : cAt c < n
          · rw [if_pos q, iof1 _ (hb_of hT _ q), if_neg (fun z => c1 ⟨q, z⟩), if_neg (fun z => c2 ⟨q, z⟩), if_neg (fun z => c3 ⟨q, z⟩)]
          · rw [if_neg q]
        have eu : ruF bt n i c = c := by
          unfold ruF
          rw [er, if_pos (by decide)]
        have er2 : cR c i 0 = c := by
          unfold cR
          rw [upd_id h0]
        rw [eu]
        refine r_aload0 dX9_readsRule_0 ?_
        refine r_cV0I dX9_readsRule_1 mm_X9_here im_X9_here se_X9_here ml_X9_112 rfl rfl rfl (rh) (by decide) (Nat.le_of_ble_eq_true rfl) ?_
        refine r_istore1 dX9_readsRule_4 rfl (by decide) ?_
        refine r_iload1 dX9_readsRule_5 ?_
        refine r_bipush bv_117 dX9_readsRule_6 ?_
        refine r_icmpne (tgt := 15) dX9_readsRule_8 (by decide) (fun _ => ?_) (fun c9 => absurd c9 (n1))
        refine r_iload1 dX9_readsRule_15 ?_
        refine r_bipush bv_101 dX9_readsRule_16 ?_
        refine r_icmpne (tgt := 25) dX9_readsRule_18 (by decide) (fun _ => ?_) (fun c9 => absurd c9 (n2))
        refine r_iload1 dX9_readsRule_25 ?_
        refine r_bipush bv_116 dX9_readsRule_26 ?_
        refine r_icmpne (tgt := 35) dX9_readsRule_28 (by decide) (fun _ => ?_) (fun c9 => absurd c9 (n3))
        refine r_iconst_m1 dX9_readsRule_35 ?_
        refine r_istore2 dX9_readsRule_36 rfl (by decide) ?_
        refine r_aload0 dX9_readsRule_37 ?_
        refine r_getR dX9_readsRule_38 fl_X9_44 rfl rfl ?_
        refine r_aload0 dX9_readsRule_41 ?_
        refine r_getI dX9_readsRule_42 fl_X9_120 rfl rfl ?_
        rw [mp_cl]
        refine r_iload2 dX9_readsRule_45 ?_
        refine r_iconst_m1 dX9_readsRule_46 ?_
        refine r_icmpne (tgt := 54) dX9_readsRule_47 (by decide) (fun c9 => absurd (rfl) c9) (fun _ => ?_)
        refine r_iconst_0 dX9_readsRule_50 ?_
        refine r_goto (tgt := 55) dX9_readsRule_51 (by decide) ?_
        refine r_iastN dX9_readsRule_55 rfl hi ?_
        rw [mp_R, er2]
        refine r_aload0 dX9_readsRule_56 ?_
        refine r_dup rfl dX9_readsRule_57 ?_
        refine r_getI dX9_readsRule_58 fl_X9_109 rfl rfl ?_
        refine r_iload2 dX9_readsRule_61 ?_
        refine r_iconst_m1 dX9_readsRule_62 ?_
        refine r_icmpne (tgt := 70) dX9_readsRule_63 (by decide) (fun c9 => absurd (rfl) c9) (fun _ => ?_)
        refine r_iconst_0 dX9_readsRule_66 ?_
        refine r_goto (tgt := 71) dX9_readsRule_67 (by decide) ?_
        refine r_iadd dX9_readsRule_71 ?_
        rw [mp_at, i32_add0]
        refine r_putI dX9_readsRule_72 fw_X9_109 rfl rfl ?_
        rw [mp_A]
        exact r_vretE dX9_readsRule_75 rfl (rfl)
theorem c_X9_readsMark {h : Hp} {bt : Nat → Nat} {n : Nat} (hT : MTX h bt n) (c : CT) (i : Nat) (hc : cAt c < 2 ^ 29) (hi : i < 10) : Rn 1 MX9_readsMark [.ref 31] (mpH h c i) (EI (b2i (mkF bt n i c).1) (mpH h (mkF bt n i c).2 i)) := by
  refine rn_of mm_X9_readsMark (le_b rfl) rfl ?_
  have rh := c_X9_here hT c i (by omega)
  by_cases d : cAt c < n ∧ 48 ≤ bt (cAt c) ∧ bt (cAt c) ≤ 54
  · have eh : hrV bt n (cAt c) = nI (bt (cAt c)) := if_pos d.1
    have ef : mkF bt n i c = (true, cA (cM c i (nI (bt (cAt c) - 48))) (cAt c + 1)) := by
      unfold mkF
      rw [show fgN bt n (cAt c) = some (bt (cAt c) - 48) from if_pos ⟨d.1, d.2.1, by omega⟩]
      dsimp only
      rw [if_pos (by omega)]
    rw [ef]
    rw [eh] at rh
    refine r_aload0 dX9_readsMark_0 ?_
    refine r_cV0I dX9_readsMark_1 mm_X9_here im_X9_here se_X9_here ml_X9_112 rfl rfl rfl (rh) (by decide) (Nat.le_of_ble_eq_true rfl) ?_
    refine r_i2l dX9_readsMark_4 ?_
    refine r_ldc2 ct_X9_116 dX9_readsMark_5 ?_
    refine r_ldc2 ct_X9_123 dX9_readsMark_8 ?_
    refine r_cS3I dX9_readsMark_11 mm_X9_in st_X9_in ml_X9_74 (c_inI_y (lo := 48) (hi := 54) _ (by decide) (by decide) (nI_nlt (b := 48) d.2.1 (by omega)) (nI_nlt (a := 54) d.2.2 (by omega))) (by decide) (Nat.le_of_ble_eq_true rfl) ?_
    refine r_ifne (tgt := 19) dX9_readsMark_14 (by decide) (fun _ => ?_) (fun c9 => absurd c9 (by decide))
    refine r_aload0 dX9_readsMark_19 ?_
    refine r_getR dX9_readsMark_20 fl_X9_35 rfl rfl ?_
    refine r_aload0 dX9_readsMark_23 ?_
    refine r_getI dX9_readsMark_24 fl_X9_120 rfl rfl ?_
    rw [mp_cl]
    refine r_aload0 dX9_readsMark_27 ?_
    refine r_cV0I dX9_readsMark_28 mm_X9_here im_X9_here se_X9_here ml_X9_112 rfl rfl rfl (rh) (by decide) (Nat.le_of_ble_eq_true rfl) ?_
    refine r_bipush bv_48 dX9_readsMark_31 ?_
    refine r_isub dX9_readsMark_33 ?_
    rw [show nI (bt (cAt c)) - 48 = nI (bt (cAt c) - 48) from pk_sub (b := 48) d.2.1]
    refine r_iastN dX9_readsMark_34 rfl hi ?_
    rw [mp_M]
    refine r_aload0 dX9_readsMark_35 ?_
    refine r_dup rfl dX9_readsMark_36 ?_
    refine r_getI dX9_readsMark_37 fl_X9_109 rfl rfl ?_
    refine r_iconst_1 dX9_readsMark_40 ?_
    refine r_iadd dX9_readsMark_41 ?_
    rw [mp_at, nI_1]
    refine r_putI dX9_readsMark_42 fw_X9_109 rfl rfl ?_
    rw [mp_A]
    refine r_iconst_1 dX9_readsMark_45 ?_
    exact r_zretE dX9_readsMark_46 rfl (by decide) (rfl) (rfl)
  · have ef : mkF bt n i c = (false, c) := by
      unfold mkF fgN
      by_cases q : cAt c < n ∧ 48 ≤ bt (cAt c) ∧ bt (cAt c) ≤ 57
      · rw [if_pos q]
        dsimp only
        rw [if_neg (fun z => d ⟨q.1, q.2.1, by omega⟩)]
      · rw [if_neg q]
    have hout : hrV bt n (cAt c) < 48 ∨ 54 < hrV bt n (cAt c) := by
      unfold hrV
      by_cases q : cAt c < n
      · rw [if_pos q]
        have := hb_of hT _ q
        by_cases q2 : 48 ≤ bt (cAt c)
        · exact Or.inr (nI_lt (a := 54) (by omega) (by omega))
        · exact Or.inl (nI_lt (b := 48) (by omega) (by decide))
      · rw [if_neg q]; exact Or.inl (by decide)
    rw [ef]
    refine r_aload0 dX9_readsMark_0 ?_
    refine r_cV0I dX9_readsMark_1 mm_X9_here im_X9_here se_X9_here ml_X9_112 rfl rfl rfl (rh) (by decide) (Nat.le_of_ble_eq_true rfl) ?_
    refine r_i2l dX9_readsMark_4 ?_
    refine r_ldc2 ct_X9_116 dX9_readsMark_5 ?_
    refine r_ldc2 ct_X9_123 dX9_readsMark_8 ?_
    refine r_cS3I dX9_readsMark_11 mm_X9_in st_X9_in ml_X9_74 (c_inI_n (lo := 48) (hi := 54) _ (by decide) (by decide) hout) (by decide) (Nat.le_of_ble_eq_true rfl) ?_
    refine r_ifne (tgt := 19) dX9_readsMark_14 (by decide) (fun c9 => absurd (rfl) c9) (fun _ => ?_)
    refine r_iconst_0 dX9_readsMark_17 ?_
    exact r_zretE dX9_readsMark_18 rfl (by decide) (rfl) (rfl)
