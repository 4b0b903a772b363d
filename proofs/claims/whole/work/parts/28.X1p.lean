/-! class ClaimText, its reading: place 1; bytes 2, kinds 3, marks 4, numbers 5, behind 6, rules 7 -/
abbrev CT : Type := (Nat → Int32) × (Nat → Int32) × (Nat → Int32) × (Nat → Int32) × (Nat → Int32) × Nat
def cAt (c : CT) : Nat := c.2.2.2.2.2
def cK (c : CT) (i : Nat) (x : Int32) : CT := (upd c.1 i x, c.2.1, c.2.2.1, c.2.2.2.1, c.2.2.2.2.1, c.2.2.2.2.2)
def cM (c : CT) (i : Nat) (x : Int32) : CT := (c.1, upd c.2.1 i x, c.2.2.1, c.2.2.2.1, c.2.2.2.2.1, c.2.2.2.2.2)
def cN (c : CT) (i : Nat) (x : Int32) : CT := (c.1, c.2.1, upd c.2.2.1 i x, c.2.2.2.1, c.2.2.2.2.1, c.2.2.2.2.2)
def cB (c : CT) (i : Nat) (x : Int32) : CT := (c.1, c.2.1, c.2.2.1, upd c.2.2.2.1 i x, c.2.2.2.2.1, c.2.2.2.2.2)
def cR (c : CT) (i : Nat) (x : Int32) : CT := (c.1, c.2.1, c.2.2.1, c.2.2.2.1, upd c.2.2.2.2.1 i x, c.2.2.2.2.2)
def cA (c : CT) (a : Nat) : CT := (c.1, c.2.1, c.2.2.1, c.2.2.2.1, c.2.2.2.2.1, a)
def ctH (h : Hp) (c : CT) : Hp := (fun q j => if q = 3 then c.1 j else if q = 4 then c.2.1 j else if q = 5 then c.2.2.1 j else if q = 6 then c.2.2.2.1 j else if q = 7 then c.2.2.2.2.1 j else if q = 1 ∧ j = 11 then nI c.2.2.2.2.2 else h.1 q j, h.2)
theorem ctH_K (h : Hp) (c : CT) (i : Nat) (x : Int32) : pI (ctH h c) 3 i x = ctH h (cK c i x) := by
  refine hp_ext (fun q j => ?_) (fun q j => rfl)
  simp only [pI_g, ctH, cK, upd]
  by_cases e : q = 3
  · subst e
    by_cases e2 : j = i <;> simp [e2]
  · simp [e]
theorem ctH_M (h : Hp) (c : CT) (i : Nat) (x : Int32) : pI (ctH h c) 4 i x = ctH h (cM c i x) := by
  refine hp_ext (fun q j => ?_) (fun q j => rfl)
  simp only [pI_g, ctH, cM, upd]
  by_cases e : q = 4
  · subst e
    by_cases e2 : j = i <;> simp [e2]
  · simp [e]
theorem ctH_N (h : Hp) (c : CT) (i : Nat) (x : Int32) : pI (ctH h c) 5 i x = ctH h (cN c i x) := by
  refine hp_ext (fun q j => ?_) (fun q j => rfl)
  simp only [pI_g, ctH, cN, upd]
  by_cases e : q = 5
  · subst e
    by_cases e2 : j = i <;> simp [e2]
  · simp [e]
theorem ctH_B (h : Hp) (c : CT) (i : Nat) (x : Int32) : pI (ctH h c) 6 i x = ctH h (cB c i x) := by
  refine hp_ext (fun q j => ?_) (fun q j => rfl)
  simp only [pI_g, ctH, cB, upd]
  by_cases e : q = 6
  · subst e
    by_cases e2 : j = i <;> simp [e2]
  · simp [e]
theorem ctH_R (h : Hp) (c : CT) (i : Nat) (x : Int32) : pI (ctH h c) 7 i x = ctH h (cR c i x) := by
  refine hp_ext (fun q j => ?_) (fun q j => rfl)
  simp only [pI_g, ctH, cR, upd]
  by_cases e : q = 7
  · subst e
    by_cases e2 : j = i <;> simp [e2]
  · simp [e]
theorem ctH_A (h : Hp) (c : CT) (a : Nat) : pI (ctH h c) 1 11 (nI a) = ctH h (cA c a) := by
  refine hp_ext (fun q j => ?_) (fun q j => rfl)
  simp only [pI_g, ctH, cA]
  by_cases e : q = 1 ∧ j = 11
  · obtain ⟨rfl, rfl⟩ := e; simp
  · simp [e]
theorem ctH_at (h : Hp) (c : CT) : (ctH h c).1 1 11 = nI (cAt c) := by simp [ctH, cAt]
theorem ctH_len (h : Hp) (c : CT) : (ctH h c).1 1 8 = h.1 1 8 := by simp [ctH]
theorem ctH_byt (h : Hp) (c : CT) (j : Nat) : (ctH h c).1 2 j = h.1 2 j := by simp [ctH]
theorem ctH_num (h : Hp) (c : CT) (j : Nat) : (ctH h c).1 5 j = c.2.2.1 j := by simp [ctH]
theorem ctH_beh (h : Hp) (c : CT) (j : Nat) : (ctH h c).1 6 j = c.2.2.2.1 j := by simp [ctH]
def b2i (b : Bool) : Int32 := if b then 1 else 0
def fgN (bt : Nat → Nat) (n a : Nat) : Option Nat := if a < n ∧ 48 ≤ bt a ∧ bt a ≤ 57 then some (bt a - 48) else none
def o2i : Option Nat → Int32
  | none => -1
  | some d => nI d
def skF (bt : Nat → Nat) (n ch : Nat) (c : CT) : Bool × CT := if cAt c < n ∧ bt (cAt c) = ch then (true, cA c (cAt c + 1)) else (false, c)
def mkF (bt : Nat → Nat) (n i : Nat) (c : CT) : Bool × CT := match fgN bt n (cAt c) with
  | some d => if d < 7 then (true, cA (cM c i (nI d)) (cAt c + 1)) else (false, c)
  | none => (false, c)
def rf (bt : Nat → Nat) (n : Nat) : Nat → Nat → Int32 → Nat × Int32
  | 0, _, v => (0, v)
  | k + 1, a, v => match fgN bt n a with
    | none => (0, v)
    | some d => ((rf bt n k (a + 1) (10 * v + nI d)).1 + 1, (rf bt n k (a + 1) (10 * v + nI d)).2)
def rfC (bt : Nat → Nat) (n i most : Nat) (c : CT) : Nat × CT := ((rf bt n most (cAt c) (c.2.2.1 i)).1, cA (cN c i (rf bt n most (cAt c) (c.2.2.1 i)).2) (cAt c + (rf bt n most (cAt c) (c.2.2.1 i)).1))
def rnF (bt : Nat → Nat) (n i most : Nat) (c : CT) : Bool × CT := (decide (0 < (rfC bt n i most (cN c i 0)).1), (rfC bt n i most (cN c i 0)).2)
def rbF (bt : Nat → Nat) (n i : Nat) (c : CT) : Bool × CT := if (skF bt n 46 c).1 then (decide (0 < (rfC bt n i 2 (skF bt n 46 c).2).1), cB (rfC bt n i 2 (skF bt n 46 c).2).2 i (nI (rfC bt n i 2 (skF bt n 46 c).2).1)) else (true, (skF bt n 46 c).2)
def ruN (bt : Nat → Nat) (n j a : Nat) : Int32 := if a < n then iof j (nI (bt a)) else -1
def ruF (bt : Nat → Nat) (n i : Nat) (c : CT) : CT := if ruN bt n 1 (cAt c) < 0 then c else cA (cR c i (ruN bt n 1 (cAt c))) (cAt c + 1)
/-- the text: n bytes bt -/
def TX (h : Hp) (bt : Nat → Nat) (n : Nat) : Prop := h.1 1 8 = nI n ∧ n ≤ 100 ∧ ∀ j, j < n → h.1 2 j = nI (bt j) ∧ bt j < 256
theorem c_X1_figureHere {h : Hp} {bt : Nat → Nat} {n : Nat} (hT : TX h bt n) (c : CT) (hc : cAt c < 2 ^ 31) : Rn 0 MX1_figureHere [.ref 1] (ctH h c) (EI (o2i (fgN bt n (cAt c))) (ctH h c)) := by
  obtain ⟨hl, hn, hB⟩ := id hT
  refine rn_of mm_X1_figureHere (le_b rfl) rfl ?_
  refine r_aload0 dX1_figureHere_0 ?_
  refine r_getI dX1_figureHere_1 fl_X1_46 rfl rfl ?_
  refine r_aload0 dX1_figureHere_4 ?_
  refine r_getI dX1_figureHere_5 fl_X1_40 rfl rfl ?_
  rw [ctH_at, ctH_len, hl]
  by_cases h1 : cAt c < n
  · obtain ⟨b1, b2⟩ := hB _ h1
    refine r_icmpge (tgt := 54) dX1_figureHere_8 (by decide) (fun c9 => absurd c9 (nI_ge h1 (by omega))) (fun _ => ?_)
    refine r_aload0 dX1_figureHere_11 ?_
    refine r_getR dX1_figureHere_12 fl_X1_9 rfl rfl ?_
    refine r_aload0 dX1_figureHere_15 ?_
    refine r_getI dX1_figureHere_16 fl_X1_46 rfl rfl ?_
    rw [ctH_at]
    refine r_ialdN dX1_figureHere_19 rfl (by omega) ?_
    refine r_bipush bv_48 dX1_figureHere_20 ?_
    rw [ctH_byt, b1]
    by_cases h2 : 48 ≤ bt (cAt c)
    · refine r_icmplt (tgt := 54) dX1_figureHere_22 (by decide) (fun c9 => absurd c9 (nI_nlt (b := 48) h2 (by omega))) (fun _ => ?_)
      refine r_aload0 dX1_figureHere_25 ?_
      refine r_getR dX1_figureHere_26 fl_X1_9 rfl rfl ?_
      refine r_aload0 dX1_figureHere_29 ?_
      refine r_getI dX1_figureHere_30 fl_X1_46 rfl rfl ?_
      rw [ctH_at]
      refine r_ialdN dX1_figureHere_33 rfl (by omega) ?_
      refine r_bipush bv_57 dX1_figureHere_34 ?_
      rw [ctH_byt, b1]
      by_cases h3 : bt (cAt c) ≤ 57
      · refine r_icmpgt (tgt := 54) dX1_figureHere_36 (by decide) (fun c9 => absurd c9 (nI_nlt (a := 57) h3 (by omega))) (fun _ => ?_)
        refine r_aload0 dX1_figureHere_39 ?_
        refine r_getR dX1_figureHere_40 fl_X1_9 rfl rfl ?_
        refine r_aload0 dX1_figureHere_43 ?_
        refine r_getI dX1_figureHere_44 fl_X1_46 rfl rfl ?_
        rw [ctH_at]
        refine r_ialdN dX1_figureHere_47 rfl (by omega) ?_
        refine r_bipush bv_48 dX1_figureHere_48 ?_
        refine r_isub dX1_figureHere_50 ?_
        rw [ctH_byt, b1]
        have e : nI (bt (cAt c)) - 48 = nI (bt (cAt c) - 48) := pk_sub (b := 48) h2
        rw [e]
        refine r_goto (tgt := 55) dX1_figureHere_51 (by decide) ?_
        exact r_iretE dX1_figureHere_55 rfl (by rw [fgN, if_pos ⟨h1, h2, h3⟩]; rfl) (rfl)
      · refine r_icmpgt (tgt := 54) dX1_figureHere_36 (by decide) (fun _ => ?_) (fun c9 => absurd (nI_lt (a := 57) (by omega) (by omega)) c9)
        refine r_iconst_m1 dX1_figureHere_54 ?_
        exact r_iretE dX1_figureHere_55 rfl (by rw [fgN, if_neg (fun q => h3 q.2.2)]; rfl) (rfl)
    · refine r_icmplt (tgt := 54) dX1_figureHere_22 (by decide) (fun _ => ?_) (fun c9 => absurd (nI_lt (b := 48) (by omega) (by omega)) c9)
      refine r_iconst_m1 dX1_figureHere_54 ?_
      exact r_iretE dX1_figureHere_55 rfl (by rw [fgN, if_neg (fun q => h2 q.2.1)]; rfl) (rfl)
  · refine r_icmpge (tgt := 54) dX1_figureHere_8 (by decide) (fun _ => ?_) (fun c9 => absurd (nI_le (by omega) hc) c9)
    refine r_iconst_m1 dX1_figureHere_54 ?_
    exact r_iretE dX1_figureHere_55 rfl (by rw [fgN, if_neg (fun q => h1 q.1)]; rfl) (rfl)
theorem c_X1_skip {h : Hp} {bt : Nat → Nat} {n : Nat} (hT : TX h bt n) (ch : Nat) (c : CT) (hc : cAt c < 2 ^ 31) (hch : ch < 2 ^ 31) : Rn 0 MX1_skip [.ref 1, .int (nI ch)] (ctH h c) (EI (b2i (skF bt n ch c).1) (ctH h (skF bt n ch c).2)) := by
  obtain ⟨hl, hn, hB⟩ := id hT
  refine rn_of mm_X1_skip (le_b rfl) rfl ?_
  refine r_aload0 dX1_skip_0 ?_
  refine r_getI dX1_skip_1 fl_X1_46 rfl rfl ?_
  refine r_aload0 dX1_skip_4 ?_
  refine r_getI dX1_skip_5 fl_X1_40 rfl rfl ?_
  rw [ctH_at, ctH_len, hl]
  by_cases h1 : cAt c < n
  · obtain ⟨b1, b2⟩ := hB _ h1
    refine r_icmpge (tgt := 24) dX1_skip_8 (by decide) (fun c9 => absurd c9 (nI_ge h1 (by omega))) (fun _ => ?_)
    refine r_aload0 dX1_skip_11 ?_
    refine r_getR dX1_skip_12 fl_X1_9 rfl rfl ?_
    refine r_aload0 dX1_skip_15 ?_
    refine r_getI dX1_skip_16 fl_X1_46 rfl rfl ?_
    rw [ctH_at]
    refine r_ialdN dX1_skip_19 rfl (by omega) ?_
    refine r_iload1 dX1_skip_20 ?_
    rw [ctH_byt, b1]
    by_cases h2 : bt (cAt c) = ch
    · rw [skF, if_pos ⟨h1, h2⟩]
      refine r_icmpeq (tgt := 26) dX1_skip_21 (by decide) (fun _ => ?_) (fun c9 => absurd (by rw [h2]) c9)
      refine r_aload0 dX1_skip_26 ?_
      refine r_dup rfl dX1_skip_27 ?_
      refine r_getI dX1_skip_28 fl_X1_46 rfl rfl ?_
      refine r_iconst_1 dX1_skip_31 ?_
      refine r_iadd dX1_skip_32 ?_
      refine r_putI dX1_skip_33 fw_X1_46 rfl rfl ?_
      rw [ctH_at, nI_1, ctH_A]
      refine r_iconst_1 dX1_skip_36 ?_
      exact r_zretE dX1_skip_37 rfl (by decide) (rfl) (rfl)
    · rw [skF, if_neg (fun q => h2 q.2)]
      refine r_icmpeq (tgt := 26) dX1_skip_21 (by decide) (fun c9 => absurd c9 (fun q => h2 ((nI_eq (by omega) hch).mp q))) (fun _ => ?_)
      refine r_iconst_0 dX1_skip_24 ?_
      exact r_zretE dX1_skip_25 rfl (by decide) (rfl) (rfl)
  · rw [skF, if_neg (fun q => h1 q.1)]
    refine r_icmpge (tgt := 24) dX1_skip_8 (by decide) (fun _ => ?_) (fun c9 => absurd (nI_le (by omega) hc) c9)
    refine r_iconst_0 dX1_skip_24 ?_
    exact r_zretE dX1_skip_25 rfl (by decide) (rfl) (rfl)
theorem c_X1_readMark {h : Hp} {bt : Nat → Nat} {n : Nat} (hT : TX h bt n) (i : Nat) (c : CT) (hi : i < 10) (hc : cAt c < 2 ^ 30) : Rn 1 MX1_readMark [.ref 1, .int (nI i)] (ctH h c) (EI (b2i (mkF bt n i c).1) (ctH h (mkF bt n i c).2)) := by
  obtain ⟨hl, hn, hB⟩ := id hT
  refine rn_of mm_X1_readMark (le_b rfl) rfl ?_
  refine r_aload0 dX1_readMark_0 ?_
  refine r_cV0I dX1_readMark_1 mm_X1_figureHere im_X1_figureHere se_X1_figureHere ml_X1_78 rfl rfl rfl (c_X1_figureHere hT c (by omega)) (by decide) (Nat.le_of_ble_eq_true rfl) ?_
  refine r_istore2 dX1_readMark_4 rfl (by decide) ?_
  cases hf : fgN bt n (cAt c) with
  | none =>
    refine r_iload2 dX1_readMark_5 ?_
    refine r_iconst_m1 dX1_readMark_6 ?_
    refine r_icmpeq (tgt := 16) dX1_readMark_7 (by decide) (fun _ => ?_) (fun c9 => absurd (rfl) c9)
    refine r_iconst_0 dX1_readMark_16 ?_
    exact r_zretE dX1_readMark_17 rfl (by decide) (by rw [mkF, hf]; rfl) (by rw [mkF, hf])
  | some d =>
    have hd : d ≤ 9 := by
      unfold fgN at hf
      split at hf
      · rename_i q; have := Option.some.inj hf; omega
      · cases hf
    change Aw _ _ _ _ [some (.ref 1), some (.int (nI i)), some (.int (nI d))] _ _
    have hm1 : ¬ nI d = -1 := by
      intro q
      have := congrArg Int32.toInt q
      rw [nI_toInt (by omega)] at this
      have e : (-1 : Int32).toInt = -1 := by decide
      omega
    by_cases h2 : d < 7
    · refine r_iload2 dX1_readMark_5 ?_
      refine r_iconst_m1 dX1_readMark_6 ?_
      refine r_icmpeq (tgt := 16) dX1_readMark_7 (by decide) (fun c9 => absurd c9 (hm1)) (fun _ => ?_)
      refine r_iload2 dX1_readMark_10 ?_
      refine r_bipush bv_7 dX1_readMark_11 ?_
      refine r_icmplt (tgt := 18) dX1_readMark_13 (by decide) (fun _ => ?_) (fun c9 => absurd (nI_lt (b := 7) h2 (by decide)) c9)
      refine r_aload0 dX1_readMark_18 ?_
      refine r_getR dX1_readMark_19 fl_X1_18 rfl rfl ?_
      refine r_iload1 dX1_readMark_22 ?_
      refine r_iload2 dX1_readMark_23 ?_
      refine r_iastN dX1_readMark_24 rfl hi ?_
      refine r_aload0 dX1_readMark_25 ?_
      refine r_dup rfl dX1_readMark_26 ?_
      refine r_getI dX1_readMark_27 fl_X1_46 rfl rfl ?_
      rw [ctH_M, ctH_at]
      refine r_iconst_1 dX1_readMark_30 ?_
      refine r_iadd dX1_readMark_31 ?_
      refine r_putI dX1_readMark_32 fw_X1_46 rfl rfl ?_
      rw [nI_1, ctH_A]
      refine r_iconst_1 dX1_readMark_35 ?_
      exact r_zretE dX1_readMark_36 rfl (by decide) (by rw [mkF, hf]; simp [h2, b2i]) (by rw [mkF, hf]; simp only [h2, if_true]; rfl)
    · refine r_iload2 dX1_readMark_5 ?_
      refine r_iconst_m1 dX1_readMark_6 ?_
      refine r_icmpeq (tgt := 16) dX1_readMark_7 (by decide) (fun c9 => absurd c9 (hm1)) (fun _ => ?_)
      refine r_iload2 dX1_readMark_10 ?_
      refine r_bipush bv_7 dX1_readMark_11 ?_
      refine r_icmplt (tgt := 18) dX1_readMark_13 (by decide) (fun c9 => absurd c9 (nI_nlt (b := 7) (by omega) (by omega))) (fun _ => ?_)
      refine r_iconst_0 dX1_readMark_16 ?_
      exact r_zretE dX1_readMark_17 rfl (by decide) (by rw [mkF, hf]; simp [h2, b2i]) (by rw [mkF, hf]; simp only [h2, if_false])
