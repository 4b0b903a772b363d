/-! ClaimText: read, told, append, all, settle, heldBy -/
theorem andF_at {x : Bool × CT} {f : CT → Bool × CT} {a k : Nat} (h1 : cAt x.2 ≤ a) (h2 : ∀ c, cAt (f c).2 ≤ cAt c + k) : cAt (andF x f).2 ≤ a + k := by
  unfold andF
  split
  · have := h2 x.2; omega
  · simp only; omega
theorem rcF_at {bt : Nat → Nat} {n i : Nat} {c : CT} : cAt (rcF bt n i c).2 ≤ cAt c + 8 := by
  have h0 : cAt (c0F c i (ruN bt n 0 (cAt c))) = cAt c + 1 := rfl
  unfold rcF
  split
  · simp only; omega
  · split
    · have a1 : cAt (mkF bt n i (c0F c i (ruN bt n 0 (cAt c)))).2 ≤ cAt c + 2 := by have := mkF_at (bt := bt) (n := n) (i := i) (c := c0F c i (ruN bt n 0 (cAt c))); omega
      have a2 := andF_at (f := rnF bt n i 2) (andF_at (f := skF bt n 61) a1 (fun c => skF_at)) (fun c => rnF_at)
      omega
    · split
      · have a1 : cAt (mkF bt n i (c0F c i (ruN bt n 0 (cAt c)))).2 ≤ cAt c + 2 := by have := mkF_at (bt := bt) (n := n) (i := i) (c := c0F c i (ruN bt n 0 (cAt c))); omega
        have a2 := andF_at (f := fun x => (true, ruF bt n i x)) (andF_at (f := skF bt n 37) (andF_at (f := rnF bt n i 3) (andF_at (f := skF bt n 61) a1 (fun c => skF_at)) (fun c => rnF_at)) (fun c => skF_at)) (fun c => ruF_at)
        omega
      · split
        · have a1 : cAt (skF bt n 61 (c0F c i (ruN bt n 0 (cAt c)))).2 ≤ cAt c + 2 := by have := skF_at (bt := bt) (n := n) (ch := 61) (c := c0F c i (ruN bt n 0 (cAt c))); omega
          have a2 := andF_at (f := mkF bt n i) a1 (fun c => mkF_at)
          omega
        · have a1 : cAt (skF bt n 61 (c0F c i (ruN bt n 0 (cAt c)))).2 ≤ cAt c + 2 := by have := skF_at (bt := bt) (n := n) (ch := 61) (c := c0F c i (ruN bt n 0 (cAt c))); omega
          have a2 := andF_at (f := fun x => (true, ruF bt n i x)) (andF_at (f := rbF bt n i) (andF_at (f := rnF bt n i 2) a1 (fun c => rnF_at)) (fun c => rbF_at)) (fun c => ruF_at)
          omega
def rdL (bt : Nat → Nat) (n : Nat) : Nat → Nat → CT → Option Nat × CT
  | 0, _, c => (none, c)
  | f + 1, i, c => if (rcF bt n i c).1 = false then (none, (rcF bt n i c).2) else if n ≤ cAt (rcF bt n i c).2 then (some (i + 1), (rcF bt n i c).2) else if i = 9 then (none, (rcF bt n i c).2) else if (skF bt n 59 (rcF bt n i c).2).1 = false then (none, (skF bt n 59 (rcF bt n i c).2).2) else rdL bt n f (i + 1) (skF bt n 59 (rcF bt n i c).2).2
def rdR (bt : Nat → Nat) (n : Nat) (c : CT) : Option Nat × CT := if n = 0 then (some 0, c) else rdL bt n 10 0 c
def rSz : Option Nat → Int32
  | some k => nI k
  | none => 0
def rFl (r : Option Nat × CT) : Int32 := match r.1 with
  | some _ => -1
  | none => nI (cAt r.2)
def c0H (h : Hp) : CT := (h.1 3, h.1 4, h.1 5, h.1 6, h.1 7, 0)
def rdHr (h : Hp) (r : Option Nat × CT) : Hp := ctH (pI (pI h 1 9 (rSz r.1)) 1 10 (rFl r)) r.2
def rdH (h : Hp) (bt : Nat → Nat) (n : Nat) : Hp := rdHr h (rdR bt n (c0H h))
theorem ctH_f (h : Hp) (c : CT) {k : Nat} (x : Int32) (hk : k ≠ 11) : pI (ctH h c) 1 k x = ctH (pI h 1 k x) c := by
  refine hp_ext (fun q j => ?_) (fun q j => rfl)
  simp only [pI_g, ctH]
  by_cases e : q = 1
  · subst e
    by_cases e2 : j = k
    · subst e2; simp [hk]
    · simp [e2]
  · simp [e]
theorem pI_swap (h : Hp) (p : Nat) {j k : Nat} (x y : Int32) (hjk : j ≠ k) : pI (pI h p j x) p k y = pI (pI h p k y) p j x := by
  refine hp_ext (fun q i => ?_) (fun q i => rfl)
  simp only [pI_g]
  by_cases e1 : q = p ∧ i = k
  · by_cases e2 : q = p ∧ i = j
    · omega
    · simp [e1, e2]
      intro h9; omega
  · simp [e1]
theorem c_X1_read {h : Hp} {bt : Nat → Nat} {n : Nat} (hT : TX h bt n) : Rn 6 MX1_read [.ref 1] h (EV (rdH h bt n)) := by
  obtain ⟨hl, hn, hB⟩ := id hT
  have hT1 : TX (pI (pI h 1 9 0) 1 10 (-1)) bt n := ⟨by simp only [pI_g]; exact hl, hn, fun j hj => by rw [pI_ne _ _ _ (by decide), pI_ne _ _ _ (by decide)]; exact hB j hj⟩
  refine rn_of mm_X1_read (le_b rfl) rfl ?_
  refine r_aload0 dX1_read_0 ?_
  refine r_iconst_0 dX1_read_1 ?_
  refine r_putI dX1_read_2 fw_X1_46 rfl rfl ?_
  refine r_aload0 dX1_read_5 ?_
  refine r_iconst_0 dX1_read_6 ?_
  refine r_putI dX1_read_7 fw_X1_43 rfl rfl ?_
  refine r_aload0 dX1_read_10 ?_
  refine r_iconst_m1 dX1_read_11 ?_
  refine r_putI dX1_read_12 fw_X1_36 rfl rfl ?_
  have e0 : pI (pI (pI h 1 11 0) 1 9 0) 1 10 (-1) = ctH (pI (pI h 1 9 0) 1 10 (-1)) (c0H h) := by
    rw [pI_swap h 1 (j := 11) (k := 9) _ _ (by decide), pI_swap _ 1 (j := 11) (k := 10) _ _ (by decide)]
    have := ctH_A (pI (pI h 1 9 0) 1 10 (-1)) (h.1 3, h.1 4, h.1 5, h.1 6, h.1 7, 0) 0
    refine hp_ext (fun q j => ?_) (fun q j => rfl)
    simp only [pI_g, ctH, c0H]
    by_cases e1 : q = 3
    · subst e1; simp
    · by_cases e2 : q = 4
      · subst e2; simp
      · by_cases e3 : q = 5
        · subst e3; simp
        · by_cases e4 : q = 6
          · subst e4; simp
          · by_cases e5 : q = 7
            · subst e5; simp
            · simp [e1, e2, e3, e4, e5]; rfl
  rw [e0]
  have hfix : ∀ r : Option Nat × CT, rdHr (pI (pI h 1 9 0) 1 10 (-1)) r = rdHr h r := by
    intro r
    unfold rdHr
    rw [pI_swap h 1 (j := 9) (k := 10) _ _ (by decide), pI_twice, pI_swap h 1 (j := 10) (k := 9) _ _ (by decide), pI_twice]
  refine r_aload0 dX1_read_15 ?_
  refine r_getI dX1_read_16 fl_X1_40 rfl rfl ?_
  rw [ctH_len, hT1.1]
  by_cases h0 : n = 0
  · subst h0
    have er : rdH h bt 0 = ctH (pI (pI h 1 9 0) 1 10 (-1)) (c0H h) := rfl
    refine r_ifne (tgt := 23) dX1_read_19 (by decide) (fun c9 => absurd (by decide) c9) (fun _ => ?_)
    exact r_vretE dX1_read_22 rfl (er.symm)
  · have er : rdH h bt n = rdHr (pI (pI h 1 9 0) 1 10 (-1)) (rdL bt n 10 0 (c0H h)) := by
      rw [hfix]
      unfold rdH rdR
      rw [if_neg h0]
    rw [er]
    refine r_ifne (tgt := 23) dX1_read_19 (by decide) (fun _ => ?_) (fun c9 => absurd c9 (nI_ne (by omega) (by omega)))
    refine r_iconst_0 dX1_read_23 ?_
    refine r_istore1 dX1_read_24 rfl (by decide) ?_
    have z1 : (pI (pI h 1 9 0) 1 10 (-1)).1 1 9 = 0 := by simp [pI_g]
    have z2 : (pI (pI h 1 9 0) 1 10 (-1)).1 1 10 = -1 := by simp [pI_g]
    generalize (pI (pI h 1 9 0) 1 10 (-1)) = h1 at hT1 z1 z2 ⊢
    have hnone : ∀ c : CT, pI (ctH h1 c) 1 10 (nI (cAt c)) = rdHr h1 (none, c) := by
      intro c
      rw [ctH_f _ _ _ (by decide)]
      unfold rdHr rFl rSz
      simp only
      have e : pI h1 1 9 0 = h1 := by rw [← z1, pI_self]
      rw [e]
    have hsome : ∀ (c : CT) (k : Nat), pI (ctH h1 c) 1 9 (nI k) = rdHr h1 (some k, c) := by
      intro c k
      rw [ctH_f _ _ _ (by decide)]
      unfold rdHr rFl rSz
      simp only
      have e : pI (pI h1 1 9 (nI k)) 1 10 (-1) = pI h1 1 9 (nI k) := by
        have e2 : (pI h1 1 9 (nI k)).1 1 10 = -1 := by simp [pI_g, z2]
        rw [← e2, pI_self]
      rw [e]
    have fin : ∀ (c : CT) (x1 : Option Value), Aw 6 MX1_read (Kp (EV (rdHr h1 (none, c)))) 85 [some (.ref 1), x1] [] (ctH h1 c) := by
      intro c x1
      refine r_aload0 dX1_read_85 ?_
      refine r_aload0 dX1_read_86 ?_
      refine r_getI dX1_read_87 fl_X1_46 rfl rfl ?_
      refine r_putI dX1_read_90 fw_X1_36 rfl rfl ?_
      rw [ctH_at, hnone]
      exact r_vretE dX1_read_93 rfl (rfl)
    have key : ∀ f i (c : CT), i + f = 10 → cAt c ≤ 20 * i → Aw 6 MX1_read (Kp (EV (rdHr h1 (rdL bt n f i c)))) 25 [some (.ref 1), some (.int (nI i))] [] (ctH h1 c) := by
      intro f
      induction f with
      | zero =>
        intro i c hi hc
        have : i = 10 := by omega
        subst this
        refine r_iload1 dX1_read_25 ?_
        refine r_bipush bv_10 dX1_read_26 ?_
        refine r_icmpge (tgt := 85) dX1_read_28 (by decide) (fun _ => ?_) (fun c9 => absurd (Int32.le_refl _) c9)
        exact fin c _
      | succ f ih =>
        intro i c hi hc
        have a1 := rcF_at (bt := bt) (n := n) (i := i) (c := c)
        rw [rdL]
        refine r_iload1 dX1_read_25 ?_
        refine r_bipush bv_10 dX1_read_26 ?_
        refine r_icmpge (tgt := 85) dX1_read_28 (by decide) (fun c9 => absurd c9 (nI_ge (b := 10) (by omega) (by decide))) (fun _ => ?_)
        refine r_aload0 dX1_read_31 ?_
        refine r_iload1 dX1_read_32 ?_
        refine r_cV1I dX1_read_33 mm_X1_readClaim im_X1_readClaim se_X1_readClaim ml_X1_49 rfl rfl rfl (c_X1_readClaim hT1 i c (by omega) (by omega)) (by decide) (Nat.le_of_ble_eq_true rfl) ?_
        generalize rcF bt n i c = r at a1 ⊢
        cases hr : r.1 with
        | false =>
          rw [if_pos rfl]
          refine r_ifne (tgt := 42) dX1_read_36 (by decide) (fun c9 => absurd (rfl) c9) (fun _ => ?_)
          refine r_goto (tgt := 85) dX1_read_39 (by decide) ?_
          exact fin _ _
        | true =>
          rw [if_neg (by decide)]
          refine r_ifne (tgt := 42) dX1_read_36 (by decide) (fun _ => ?_) (fun c9 => absurd c9 (by decide))
          refine r_aload0 dX1_read_42 ?_
          refine r_getI dX1_read_43 fl_X1_46 rfl rfl ?_
          refine r_aload0 dX1_read_46 ?_
          refine r_getI dX1_read_47 fl_X1_40 rfl rfl ?_
          rw [ctH_at, ctH_len, hT1.1]
          by_cases h1' : n ≤ cAt r.2
          · rw [if_pos h1']
            refine r_icmplt (tgt := 61) dX1_read_50 (by decide) (fun c9 => absurd c9 (nI_nlt h1' (by omega))) (fun _ => ?_)
            refine r_aload0 dX1_read_53 ?_
            refine r_iload1 dX1_read_54 ?_
            refine r_iconst_1 dX1_read_55 ?_
            refine r_iadd dX1_read_56 ?_
            rw [nI_1]
            refine r_putI dX1_read_57 fw_X1_43 rfl rfl ?_
            rw [hsome]
            exact r_vretE dX1_read_60 rfl (rfl)
          · rw [if_neg h1']
            by_cases h9 : i = 9
            · rw [if_pos h9]
              subst h9
              refine r_icmplt (tgt := 61) dX1_read_50 (by decide) (fun _ => ?_) (fun c9 => absurd (nI_lt (by omega) (by omega)) c9)
              refine r_iload1 dX1_read_61 ?_
              refine r_bipush bv_9 dX1_read_62 ?_
              refine r_icmpeq (tgt := 85) dX1_read_64 (by decide) (fun _ => ?_) (fun c9 => absurd (rfl) c9)
              exact fin _ _
            · rw [if_neg h9]
              have a2 := skF_at (bt := bt) (n := n) (ch := 59) (c := r.2)
              refine r_icmplt (tgt := 61) dX1_read_50 (by decide) (fun _ => ?_) (fun c9 => absurd (nI_lt (by omega) (by omega)) c9)
              refine r_iload1 dX1_read_61 ?_
              refine r_bipush bv_9 dX1_read_62 ?_
              refine r_icmpeq (tgt := 85) dX1_read_64 (by decide) (fun c9 => absurd c9 (fun q => h9 ((nI_eq (a := i) (b := 9) (by omega) (by decide)).mp q))) (fun _ => ?_)
              refine r_aload0 dX1_read_67 ?_
              refine r_bipush bv_59 dX1_read_68 ?_
              refine r_cV1I dX1_read_70 mm_X1_skip im_X1_skip se_X1_skip ml_X1_53 rfl rfl rfl (c_X1_skip hT1 59 r.2 (by omega) (by decide)) (by decide) (Nat.le_of_ble_eq_true rfl) ?_
              generalize skF bt n 59 r.2 = s at a2 ⊢
              cases hs : s.1 with
              | false =>
                rw [if_pos rfl]
                refine r_ifne (tgt := 79) dX1_read_73 (by decide) (fun c9 => absurd (rfl) c9) (fun _ => ?_)
                refine r_goto (tgt := 85) dX1_read_76 (by decide) ?_
                exact fin _ _
              | true =>
                rw [if_neg (by decide)]
                refine r_ifne (tgt := 79) dX1_read_73 (by decide) (fun _ => ?_) (fun c9 => absurd c9 (by decide))
                refine r_iinc1_1 dX1_read_79 rfl (by decide) ?_
                refine r_goto (tgt := 25) dX1_read_82 (by decide) ?_
                rw [nI_1]
                exact ih (i + 1) s.2 (by omega) (by omega)
    exact key 10 0 (c0H h) rfl (Nat.zero_le _)
theorem c_X1_told (i w : Nat) (h : Hp) (hi : i < 10) (hw : w ≤ 4) : Rn 0 MX1_told [.ref 1, .int (nI i), .int (nI w)] h (EI (h.1 (3 + w) i) h) := by
  refine rn_of mm_X1_told (le_b rfl) rfl ?_
  have : w = 0 ∨ w = 1 ∨ w = 2 ∨ w = 3 ∨ w = 4 := by omega
  rcases this with rfl | rfl | rfl | rfl | rfl
  · refine r_iload2 dX1_told_0 ?_
    refine r_tabIn (tgt := 32) dX1_told_1 (by decide) (by decide) (by rfl) (by decide) ?_
    refine r_aload0 dX1_told_32 ?_
    refine r_getR dX1_told_33 fl_X1_15 rfl rfl ?_
    refine r_iload1 dX1_told_36 ?_
    refine r_ialdN dX1_told_37 rfl hi ?_
    exact r_iretE dX1_told_38 rfl (rfl) (rfl)
  · refine r_iload2 dX1_told_0 ?_
    refine r_tabIn (tgt := 39) dX1_told_1 (by decide) (by decide) (by rfl) (by decide) ?_
    refine r_aload0 dX1_told_39 ?_
    refine r_getR dX1_told_40 fl_X1_18 rfl rfl ?_
    refine r_iload1 dX1_told_43 ?_
    refine r_ialdN dX1_told_44 rfl hi ?_
    exact r_iretE dX1_told_45 rfl (rfl) (rfl)
  · refine r_iload2 dX1_told_0 ?_
    refine r_tabIn (tgt := 46) dX1_told_1 (by decide) (by decide) (by rfl) (by decide) ?_
    refine r_aload0 dX1_told_46 ?_
    refine r_getR dX1_told_47 fl_X1_21 rfl rfl ?_
    refine r_iload1 dX1_told_50 ?_
    refine r_ialdN dX1_told_51 rfl hi ?_
    exact r_iretE dX1_told_52 rfl (rfl) (rfl)
  · refine r_iload2 dX1_told_0 ?_
    refine r_tabIn (tgt := 53) dX1_told_1 (by decide) (by decide) (by rfl) (by decide) ?_
    refine r_aload0 dX1_told_53 ?_
    refine r_getR dX1_told_54 fl_X1_24 rfl rfl ?_
    refine r_iload1 dX1_told_57 ?_
    refine r_ialdN dX1_told_58 rfl hi ?_
    exact r_iretE dX1_told_59 rfl (rfl) (rfl)
  · refine r_iload2 dX1_told_0 ?_
    refine r_tabOut (tgt := 60) dX1_told_1 (by decide) (by decide) ?_
    refine r_aload0 dX1_told_60 ?_
    refine r_getR dX1_told_61 fl_X1_27 rfl rfl ?_
    refine r_iload1 dX1_told_64 ?_
    refine r_ialdN dX1_told_65 rfl hi ?_
    exact r_iretE dX1_told_66 rfl (rfl) (rfl)
theorem c_X1_append (n : Nat) (b : Int32) (h : Hp) (hl : h.1 1 8 = nI n) (hn : n ≤ 100) : Rn 0 MX1_append [.ref 1, .int b] h (if n < 100 then EI 1 (pI (pI h 2 n b) 1 8 (nI (n + 1))) else EI 0 h) := by
  refine rn_of mm_X1_append (le_b rfl) rfl ?_
  by_cases h1 : n < 100
  · rw [if_pos h1]
    refine r_aload0 dX1_append_0 ?_
    refine r_getI dX1_append_1 fl_X1_40 rfl rfl ?_
    refine r_iflt (tgt := 16) dX1_append_4 (by decide) (fun c9 => absurd c9 (by rw [hl]; exact nI_pos (by omega))) (fun _ => ?_)
    refine r_aload0 dX1_append_7 ?_
    refine r_getI dX1_append_8 fl_X1_40 rfl rfl ?_
    refine r_bipush bv_100 dX1_append_11 ?_
    refine r_icmplt (tgt := 18) dX1_append_13 (by decide) (fun _ => ?_) (fun c9 => absurd (by rw [hl]; exact nI_lt (b := 100) h1 (by decide)) c9)
    refine r_aload0 dX1_append_18 ?_
    refine r_getR dX1_append_19 fl_X1_9 rfl rfl ?_
    refine r_aload0 dX1_append_22 ?_
    refine r_getI dX1_append_23 fl_X1_40 rfl rfl ?_
    rw [hl]
    refine r_iload1 dX1_append_26 ?_
    refine r_iastN dX1_append_27 rfl h1 ?_
    refine r_aload0 dX1_append_28 ?_
    refine r_dup rfl dX1_append_29 ?_
    refine r_getI dX1_append_30 fl_X1_40 rfl rfl ?_
    rw [pI_ne _ _ _ (by decide), hl]
    refine r_iconst_1 dX1_append_33 ?_
    refine r_iadd dX1_append_34 ?_
    refine r_putI dX1_append_35 fw_X1_40 rfl rfl ?_
    rw [nI_1]
    refine r_iconst_1 dX1_append_38 ?_
    exact r_zretE dX1_append_39 rfl (by decide) (rfl) (rfl)
  · rw [if_neg h1]
    refine r_aload0 dX1_append_0 ?_
    refine r_getI dX1_append_1 fl_X1_40 rfl rfl ?_
    refine r_iflt (tgt := 16) dX1_append_4 (by decide) (fun c9 => absurd c9 (by rw [hl]; exact nI_pos (by omega))) (fun _ => ?_)
    refine r_aload0 dX1_append_7 ?_
    refine r_getI dX1_append_8 fl_X1_40 rfl rfl ?_
    refine r_bipush bv_100 dX1_append_11 ?_
    refine r_icmplt (tgt := 18) dX1_append_13 (by decide) (fun c9 => absurd c9 (by rw [hl]; exact nI_nlt (b := 100) (by omega) (by omega))) (fun _ => ?_)
    refine r_iconst_0 dX1_append_16 ?_
    exact r_zretE dX1_append_17 rfl (by decide) (rfl) (rfl)
def fAll (s : Int32) : Int32 := (1 <<< (s &&& 31)) - 1
theorem c_X1_all (h : Hp) : Rn 0 MX1_all [.ref 1] h (EI (fAll (h.1 1 9)) h) := by
  refine rn_of mm_X1_all (le_b rfl) rfl ?_
  refine r_iconst_1 dX1_all_0 ?_
  refine r_aload0 dX1_all_1 ?_
  refine r_getI dX1_all_2 fl_X1_43 rfl rfl ?_
  refine r_ishl dX1_all_5 ?_
  refine r_iconst_1 dX1_all_6 ?_
  refine r_isub dX1_all_7 ?_
  exact r_iretE dX1_all_8 rfl (rfl) (rfl)
theorem c_X1_settleOne (i : Nat) (v : Int32) (h : Hp) (hi : i < 10) : Rn 0 MX1_settleOne [.ref 1, .int (nI i), .int v] h (EV (pI (pI h 8 i v) 9 i v)) := by
  refine rn_of mm_X1_settleOne (le_b rfl) rfl ?_
  refine r_aload0 dX1_settleOne_0 ?_
  refine r_getR dX1_settleOne_1 fl_X1_30 rfl rfl ?_
  refine r_iload1 dX1_settleOne_4 ?_
  refine r_iload2 dX1_settleOne_5 ?_
  refine r_iastN dX1_settleOne_6 rfl hi ?_
  refine r_aload0 dX1_settleOne_7 ?_
  refine r_getR dX1_settleOne_8 fl_X1_33 rfl rfl ?_
  refine r_iload1 dX1_settleOne_11 ?_
  refine r_iload2 dX1_settleOne_12 ?_
  refine r_iastN dX1_settleOne_13 rfl hi ?_
  exact r_vretE dX1_settleOne_14 rfl (rfl)
theorem c_X1_settleRounded (i : Nat) (f dv : Int32) (h : Hp) (hi : i < 10) : Rn 3 MX1_settleRounded [.ref 1, .int (nI i), .int f, .int dv] h (EV (pI (pI h 8 i (fLeast (h.1 5 i) (h.1 7 i) f dv)) 9 i (fMost (h.1 5 i) (h.1 7 i) f dv))) := by
  refine rn_of mm_X1_settleRounded (le_b rfl) rfl ?_
  refine r_aload0 dX1_settleRounded_0 ?_
  refine r_getR dX1_settleRounded_1 fl_X1_30 rfl rfl ?_
  refine r_iload1 dX1_settleRounded_4 ?_
  refine r_aload0 dX1_settleRounded_5 ?_
  refine r_getR dX1_settleRounded_6 fl_X1_21 rfl rfl ?_
  refine r_iload1 dX1_settleRounded_9 ?_
  refine r_ialdN dX1_settleRounded_10 rfl hi ?_
  refine r_aload0 dX1_settleRounded_11 ?_
  refine r_getR dX1_settleRounded_12 fl_X1_27 rfl rfl ?_
  refine r_iload1 dX1_settleRounded_15 ?_
  refine r_ialdN dX1_settleRounded_16 rfl hi ?_
  refine r_iload2 dX1_settleRounded_17 ?_
  refine r_iload3 dX1_settleRounded_18 ?_
  refine r_cS4I dX1_settleRounded_19 mm_X3_least st_X3_least ml_X1_102 (c_X3_least _ _ _ _ _) (by decide) (Nat.le_of_ble_eq_true rfl) ?_
  refine r_iastN dX1_settleRounded_22 rfl hi ?_
  refine r_aload0 dX1_settleRounded_23 ?_
  refine r_getR dX1_settleRounded_24 fl_X1_33 rfl rfl ?_
  refine r_iload1 dX1_settleRounded_27 ?_
  refine r_aload0 dX1_settleRounded_28 ?_
  refine r_getR dX1_settleRounded_29 fl_X1_21 rfl rfl ?_
  refine r_iload1 dX1_settleRounded_32 ?_
  refine r_ialdN dX1_settleRounded_33 rfl hi ?_
  refine r_aload0 dX1_settleRounded_34 ?_
  refine r_getR dX1_settleRounded_35 fl_X1_27 rfl rfl ?_
  refine r_iload1 dX1_settleRounded_38 ?_
  refine r_ialdN dX1_settleRounded_39 rfl hi ?_
  rw [pI_ne _ _ _ (by decide), pI_ne _ _ _ (by decide)]
  refine r_iload2 dX1_settleRounded_40 ?_
  refine r_iload3 dX1_settleRounded_41 ?_
  refine r_cS4I dX1_settleRounded_42 mm_X3_most st_X3_most ml_X1_107 (c_X3_most _ _ _ _ _) (by decide) (Nat.le_of_ble_eq_true rfl) ?_
  refine r_iastN dX1_settleRounded_45 rfl hi ?_
  exact r_vretE dX1_settleRounded_46 rfl (rfl)
def mx1 (x : Int32) : Int32 := if x < 1 then 1 else x
theorem c_X1_settleRoot (i : Nat) (f dv : Int32) (h : Hp) (hi : i < 10) : Rn 3 MX1_settleRoot [.ref 1, .int (nI i), .int f, .int dv] h (EV (pI (pI h 8 i (fLeastR (h.1 5 i) (h.1 7 i) f (mx1 dv))) 9 i (fMostR (h.1 5 i) (h.1 7 i) f (mx1 dv)))) := by
  refine rn_of mm_X1_settleRoot (le_b rfl) rfl ?_
  refine r_iload3 dX1_settleRoot_0 ?_
  refine r_iconst_1 dX1_settleRoot_1 ?_
  refine r_mmax dX1_settleRoot_2 ml_X1_109 (by decide) (Nat.le_of_ble_eq_true rfl) ?_
  refine r_istore4 dX1_settleRoot_5 rfl (by decide) ?_
  refine r_aload0 dX1_settleRoot_7 ?_
  refine r_getR dX1_settleRoot_8 fl_X1_30 rfl rfl ?_
  refine r_iload1 dX1_settleRoot_11 ?_
  refine r_aload0 dX1_settleRoot_12 ?_
  refine r_getR dX1_settleRoot_13 fl_X1_21 rfl rfl ?_
  refine r_iload1 dX1_settleRoot_16 ?_
  refine r_ialdN dX1_settleRoot_17 rfl hi ?_
  refine r_aload0 dX1_settleRoot_18 ?_
  refine r_getR dX1_settleRoot_19 fl_X1_27 rfl rfl ?_
  refine r_iload1 dX1_settleRoot_22 ?_
  refine r_ialdN dX1_settleRoot_23 rfl hi ?_
  refine r_iload2 dX1_settleRoot_24 ?_
  refine r_iload4 dX1_settleRoot_25 ?_
  refine r_cS4I dX1_settleRoot_27 mm_X3_leastOfRoot st_X3_leastOfRoot ml_X1_114 (c_X3_leastOfRoot _ _ _ _ _) (by decide) (Nat.le_of_ble_eq_true rfl) ?_
  refine r_iastN dX1_settleRoot_30 rfl hi ?_
  refine r_aload0 dX1_settleRoot_31 ?_
  refine r_getR dX1_settleRoot_32 fl_X1_33 rfl rfl ?_
  refine r_iload1 dX1_settleRoot_35 ?_
  refine r_aload0 dX1_settleRoot_36 ?_
  refine r_getR dX1_settleRoot_37 fl_X1_21 rfl rfl ?_
  refine r_iload1 dX1_settleRoot_40 ?_
  refine r_ialdN dX1_settleRoot_41 rfl hi ?_
  refine r_aload0 dX1_settleRoot_42 ?_
  refine r_getR dX1_settleRoot_43 fl_X1_27 rfl rfl ?_
  refine r_iload1 dX1_settleRoot_46 ?_
  refine r_ialdN dX1_settleRoot_47 rfl hi ?_
  rw [pI_ne _ _ _ (by decide), pI_ne _ _ _ (by decide)]
  refine r_iload2 dX1_settleRoot_48 ?_
  refine r_iload4 dX1_settleRoot_49 ?_
  refine r_cS4I dX1_settleRoot_51 mm_X3_mostOfRoot st_X3_mostOfRoot ml_X1_117 (c_X3_mostOfRoot _ _ _ _ _) (by decide) (Nat.le_of_ble_eq_true rfl) ?_
  refine r_iastN dX1_settleRoot_54 rfl hi ?_
  exact r_vretE dX1_settleRoot_55 rfl (rfl)
/-- the claims, k of them: kinds K, marks M (where there is one), figures behind E -/
def CLM (h : Hp) (k : Nat) (Kd Mk Bh : Nat → Nat) : Prop := h.1 1 9 = nI k ∧ k ≤ 10 ∧ ∀ i, i < k → h.1 3 i = nI (Kd i) ∧ Kd i ≤ 8 ∧ h.1 6 i = nI (Bh i) ∧ Bh i ≤ 2 ∧ (4 ≤ Kd i → h.1 4 i = nI (Mk i) ∧ Mk i < 7)
/-- the ends of the figure of claim i -/
def stl (h : Hp) (Kd Bh : Nat → Nat) (n : Int32) (i : Nat) : Int32 × Int32 :=
  if Kd i = 0 then (fLeast (h.1 5 i) (h.1 7 i) (cSC (Bh i)) n, fMost (h.1 5 i) (h.1 7 i) (cSC (Bh i)) n)
  else if Kd i = 1 then (fLeastR (h.1 5 i) (h.1 7 i) (cSC (Bh i)) (mx1 (n * (n - 1))), fMostR (h.1 5 i) (h.1 7 i) (cSC (Bh i)) (mx1 (n * (n - 1))))
  else if Kd i = 2 then (fLeastR (h.1 5 i) (h.1 7 i) (cSC (Bh i)) (mx1 (n * n)), fMostR (h.1 5 i) (h.1 7 i) (cSC (Bh i)) (mx1 (n * n)))
  else if Kd i = 3 then (fLeast (h.1 5 i) (h.1 7 i) (cSC (Bh i)) 2, fMost (h.1 5 i) (h.1 7 i) (cSC (Bh i)) 2)
  else if Kd i = 4 then (h.1 5 i, h.1 5 i)
  else if Kd i = 5 then (fLeast (h.1 5 i) (h.1 7 i) 100 n, fMost (h.1 5 i) (h.1 7 i) 100 n)
  else (h.1 4 i, h.1 4 i)
def sH (h : Hp) (k : Nat) (F : Nat → Int32 × Int32) : Hp := pA (pA h 8 (fun j => if j < k then (F j).1 else h.1 8 j)) 9 (fun j => if j < k then (F j).2 else h.1 9 j)
theorem sH_ne (h : Hp) (k : Nat) (F : Nat → Int32 × Int32) {q : Nat} (j : Nat) (h8 : q ≠ 8) (h9 : q ≠ 9) : (sH h k F).1 q j = h.1 q j := by
  unfold sH
  rw [pA_g, if_neg h9, pA_g, if_neg h8]
theorem sH_s (h : Hp) (k : Nat) (F : Nat → Int32 × Int32) (a b : Int32) (e : F k = (a, b)) : pI (pI (sH h k F) 8 k a) 9 k b = sH h (k + 1) F := by
  refine hp_ext (fun q j => ?_) (fun q j => rfl)
  unfold sH
  simp only [pI_g, pA_g]
  by_cases e9 : q = 9
  · subst e9
    by_cases ej : j = k
    · subst ej; simp [e]
    · by_cases e2 : j < k
      · simp [ej, e2, show j < k + 1 by omega]
      · simp [ej, e2, show ¬ j < k + 1 by omega]
  · by_cases e8 : q = 8
    · subst e8
      by_cases ej : j = k
      · subst ej; simp [e]
      · by_cases e2 : j < k
        · simp [ej, e2, show j < k + 1 by omega]
        · simp [ej, e2, show ¬ j < k + 1 by omega]
    · simp [e8, e9]
theorem sH_0 (h : Hp) (F : Nat → Int32 × Int32) : sH h 0 F = h := by
  refine hp_ext (fun q j => ?_) (fun q j => rfl)
  unfold sH
  simp only [pA_g]
  by_cases e9 : q = 9
  · subst e9; simp
  · by_cases e8 : q = 8
    · subst e8; simp
    · simp [e8, e9]
theorem r_ildSCN {d : Nat} {Y : MY} {K : KQT} {pc nx : Nat} {L : List (Option Value)} {S : List Value} {h : Hp} {j : Nat} (hd : Ins Y.2.1 pc (.iaload) 1 nx) (hj : j < 3) (k : Aw d Y K nx L (.int (cSC j) :: S) h) : Aw d Y K pc L (.int (nI j) :: .ref 63 :: S) h := by
  refine r_ildSC hd (vp_in_nI hj (by decide)) ?_
  rw [nI_clamp (by omega)]
  exact k
theorem c_X1_settle (k : Nat) (Kd Mk Bh : Nat → Nat) (n : Int32) (h : Hp) (hC : CLM h k Kd Mk Bh) : Rn 4 MX1_settle [.ref 1, .int n] h (EV (sH h k (stl h Kd Bh n))) := by
  obtain ⟨hs, hk, hcl⟩ := hC
  refine rn_of mm_X1_settle (le_b rfl) rfl ?_
  refine r_iconst_0 dX1_settle_0 ?_
  refine r_istore2 dX1_settle_1 rfl (by decide) ?_
  have key : ∀ m i, i + m = k → Aw 4 MX1_settle (Kp (EV (sH h k (stl h Kd Bh n)))) 2 [some (.ref 1), some (.int n), some (.int (nI i))] [] (sH h i (stl h Kd Bh n)) := by
    intro m
    induction m with
    | zero =>
      intro i hi
      have : i = k := by omega
      subst this
      refine r_iload2 dX1_settle_2 ?_
      refine r_aload0 dX1_settle_3 ?_
      refine r_getI dX1_settle_4 fl_X1_43 rfl rfl ?_
      refine r_icmpge (tgt := 180) dX1_settle_7 (by decide) (fun _ => ?_) (fun c9 => absurd (by rw [sH_ne _ _ _ _ (by decide) (by decide), hs]; exact Int32.le_refl _) c9)
      exact r_vretE dX1_settle_180 rfl (rfl)
    | succ m ih =>
      intro i hi
      obtain ⟨k1, k2, k3, k4, k5⟩ := hcl i (by omega)
      refine r_iload2 dX1_settle_2 ?_
      refine r_aload0 dX1_settle_3 ?_
      refine r_getI dX1_settle_4 fl_X1_43 rfl rfl ?_
      refine r_icmpge (tgt := 180) dX1_settle_7 (by decide) (fun c9 => absurd c9 (by rw [sH_ne _ _ _ _ (by decide) (by decide), hs]; exact nI_ge (by omega) (by omega))) (fun _ => ?_)
      refine r_aload0 dX1_settle_10 ?_
      refine r_getR dX1_settle_11 fl_X1_15 rfl rfl ?_
      refine r_iload2 dX1_settle_14 ?_
      refine r_ialdN dX1_settle_15 rfl (by omega) ?_
      rw [sH_ne _ _ _ _ (by decide) (by decide), k1]
      have ih := ih (i + 1) (by omega)
      have done : ∀ a b, stl h Kd Bh n i = (a, b) → Aw 4 MX1_settle (Kp (EV (sH h k (stl h Kd Bh n)))) 174 [some (.ref 1), some (.int n), some (.int (nI i))] [] (pI (pI (sH h i (stl h Kd Bh n)) 8 i a) 9 i b) := by
        intro a b e
        rw [sH_s h i _ a b e]
        refine r_iinc2_1 dX1_settle_174 rfl (by decide) ?_
        refine r_goto (tgt := 2) dX1_settle_177 (by decide) ?_
        rw [nI_1]
        exact ih
      have g5 : (sH h i (stl h Kd Bh n)).1 5 i = h.1 5 i := sH_ne _ _ _ _ (by decide) (by decide)
      have g7 : (sH h i (stl h Kd Bh n)).1 7 i = h.1 7 i := sH_ne _ _ _ _ (by decide) (by decide)
      have g6 : (sH h i (stl h Kd Bh n)).1 6 i = nI (Bh i) := (sH_ne _ _ _ _ (by decide) (by decide)).trans k3
      have g4 : (sH h i (stl h Kd Bh n)).1 4 i = h.1 4 i := sH_ne _ _ _ _ (by decide) (by decide)
      generalize hd : Kd i = d at k2 k5 ⊢
      have : d = 0 ∨ d = 1 ∨ d = 2 ∨ d = 3 ∨ d = 4 ∨ d = 5 ∨ 6 ≤ d := by omega
      rcases this with rfl | rfl | rfl | rfl | rfl | rfl | h6
      · refine r_tabIn (tgt := 56) dX1_settle_16 (by decide) (by decide) (by rfl) (by decide) ?_
        refine r_aload0 dX1_settle_56 ?_
        refine r_iload2 dX1_settle_57 ?_
        refine r_gs63 dX1_settle_58 sf_X1_88 ?_
        refine r_aload0 dX1_settle_61 ?_
        refine r_getR dX1_settle_62 fl_X1_24 rfl rfl ?_
        refine r_iload2 dX1_settle_65 ?_
        refine r_ialdN dX1_settle_66 rfl (by omega) ?_
        rw [g6]
        refine r_ildSCN dX1_settle_67 (by omega) ?_
        refine r_iload1 dX1_settle_68 ?_
        refine r_cV3V dX1_settle_69 mm_X1_settleRounded im_X1_settleRounded se_X1_settleRounded ml_X1_91 rfl rfl rfl (c_X1_settleRounded i _ _ _ (by omega)) (by decide) (Nat.le_of_ble_eq_true rfl) ?_
        refine r_goto (tgt := 174) dX1_settle_72 (by decide) ?_
        exact done _ _ (by rw [g5, g7, stl, if_pos hd])
      · refine r_tabIn (tgt := 75) dX1_settle_16 (by decide) (by decide) (by rfl) (by decide) ?_
        refine r_aload0 dX1_settle_75 ?_
        refine r_iload2 dX1_settle_76 ?_
        refine r_gs63 dX1_settle_77 sf_X1_88 ?_
        refine r_aload0 dX1_settle_80 ?_
        refine r_getR dX1_settle_81 fl_X1_24 rfl rfl ?_
        refine r_iload2 dX1_settle_84 ?_
        refine r_ialdN dX1_settle_85 rfl (by omega) ?_
        rw [g6]
        refine r_ildSCN dX1_settle_86 (by omega) ?_
        refine r_iload1 dX1_settle_87 ?_
        refine r_iload1 dX1_settle_88 ?_
        refine r_iconst_1 dX1_settle_89 ?_
        refine r_isub dX1_settle_90 ?_
        refine r_imul dX1_settle_91 ?_
        refine r_cV3V dX1_settle_92 mm_X1_settleRoot im_X1_settleRoot se_X1_settleRoot ml_X1_95 rfl rfl rfl (c_X1_settleRoot i _ _ _ (by omega)) (by decide) (Nat.le_of_ble_eq_true rfl) ?_
        refine r_goto (tgt := 174) dX1_settle_95 (by decide) ?_
        exact done _ _ (by rw [g5, g7, stl, if_neg (by omega), if_pos hd])
      · refine r_tabIn (tgt := 98) dX1_settle_16 (by decide) (by decide) (by rfl) (by decide) ?_
        refine r_aload0 dX1_settle_98 ?_
        refine r_iload2 dX1_settle_99 ?_
        refine r_gs63 dX1_settle_100 sf_X1_88 ?_
        refine r_aload0 dX1_settle_103 ?_
        refine r_getR dX1_settle_104 fl_X1_24 rfl rfl ?_
        refine r_iload2 dX1_settle_107 ?_
        refine r_ialdN dX1_settle_108 rfl (by omega) ?_
        rw [g6]
        refine r_ildSCN dX1_settle_109 (by omega) ?_
        refine r_iload1 dX1_settle_110 ?_
        refine r_iload1 dX1_settle_111 ?_
        refine r_imul dX1_settle_112 ?_
        refine r_cV3V dX1_settle_113 mm_X1_settleRoot im_X1_settleRoot se_X1_settleRoot ml_X1_95 rfl rfl rfl (c_X1_settleRoot i _ _ _ (by omega)) (by decide) (Nat.le_of_ble_eq_true rfl) ?_
        refine r_goto (tgt := 174) dX1_settle_116 (by decide) ?_
        exact done _ _ (by rw [g5, g7, stl, if_neg (by omega), if_neg (by omega), if_pos hd])
      · refine r_tabIn (tgt := 119) dX1_settle_16 (by decide) (by decide) (by rfl) (by decide) ?_
        refine r_aload0 dX1_settle_119 ?_
        refine r_iload2 dX1_settle_120 ?_
        refine r_gs63 dX1_settle_121 sf_X1_88 ?_
        refine r_aload0 dX1_settle_124 ?_
        refine r_getR dX1_settle_125 fl_X1_24 rfl rfl ?_
        refine r_iload2 dX1_settle_128 ?_
        refine r_ialdN dX1_settle_129 rfl (by omega) ?_
        rw [g6]
        refine r_ildSCN dX1_settle_130 (by omega) ?_
        refine r_iconst_2 dX1_settle_131 ?_
        refine r_cV3V dX1_settle_132 mm_X1_settleRounded im_X1_settleRounded se_X1_settleRounded ml_X1_91 rfl rfl rfl (c_X1_settleRounded i _ _ _ (by omega)) (by decide) (Nat.le_of_ble_eq_true rfl) ?_
        refine r_goto (tgt := 174) dX1_settle_135 (by decide) ?_
        exact done _ _ (by rw [g5, g7, stl, if_neg (by omega), if_neg (by omega), if_neg (by omega), if_pos hd])
      · refine r_tabIn (tgt := 149) dX1_settle_16 (by decide) (by decide) (by rfl) (by decide) ?_
        refine r_aload0 dX1_settle_149 ?_
        refine r_iload2 dX1_settle_150 ?_
        refine r_aload0 dX1_settle_151 ?_
        refine r_getR dX1_settle_152 fl_X1_21 rfl rfl ?_
        refine r_iload2 dX1_settle_155 ?_
        refine r_ialdN dX1_settle_156 rfl (by omega) ?_
        refine r_cV2V dX1_settle_157 mm_X1_settleOne im_X1_settleOne se_X1_settleOne ml_X1_98 rfl rfl rfl (c_X1_settleOne i _ _ (by omega)) (by decide) (Nat.le_of_ble_eq_true rfl) ?_
        refine r_goto (tgt := 174) dX1_settle_160 (by decide) ?_
        exact done _ _ (by rw [g5, stl, if_neg (by omega), if_neg (by omega), if_neg (by omega), if_neg (by omega), if_pos hd])
      · refine r_tabIn (tgt := 138) dX1_settle_16 (by decide) (by decide) (by rfl) (by decide) ?_
        refine r_aload0 dX1_settle_138 ?_
        refine r_iload2 dX1_settle_139 ?_
        refine r_bipush bv_100 dX1_settle_140 ?_
        refine r_iload1 dX1_settle_142 ?_
        refine r_cV3V dX1_settle_143 mm_X1_settleRounded im_X1_settleRounded se_X1_settleRounded ml_X1_91 rfl rfl rfl (c_X1_settleRounded i _ _ _ (by omega)) (by decide) (Nat.le_of_ble_eq_true rfl) ?_
        refine r_goto (tgt := 174) dX1_settle_146 (by decide) ?_
        exact done _ _ (by rw [g5, g7, stl, if_neg (by omega), if_neg (by omega), if_neg (by omega), if_neg (by omega), if_neg (by omega), if_pos hd])
      · refine r_tabOut (tgt := 163) dX1_settle_16 (by rw [nI_toInt (by omega)]; omega) (by decide) ?_
        refine r_aload0 dX1_settle_163 ?_
        refine r_iload2 dX1_settle_164 ?_
        refine r_aload0 dX1_settle_165 ?_
        refine r_getR dX1_settle_166 fl_X1_18 rfl rfl ?_
        refine r_iload2 dX1_settle_169 ?_
        refine r_ialdN dX1_settle_170 rfl (by omega) ?_
        refine r_cV2V dX1_settle_171 mm_X1_settleOne im_X1_settleOne se_X1_settleOne ml_X1_98 rfl rfl rfl (c_X1_settleOne i _ _ (by omega)) (by decide) (Nat.le_of_ble_eq_true rfl) ?_
        exact done _ _ (by rw [g4, stl, if_neg (by omega), if_neg (by omega), if_neg (by omega), if_neg (by omega), if_neg (by omega), if_neg (by omega)])
  have k0 := key k 0 (by omega)
  rw [sH_0] at k0
  exact k0
