/-! ClaimText: the rest of its reading -/
theorem fgN_le {bt : Nat → Nat} {n a d : Nat} (hf : fgN bt n a = some d) : a < n ∧ d ≤ 9 := by
  unfold fgN at hf
  split at hf
  · rename_i q; have := Option.some.inj hf; omega
  · cases hf
theorem o2i_m1 {o : Option Nat} (h : ∀ d, o = some d → d ≤ 9) : o2i o = -1 ↔ o = none := by
  cases o with
  | none => simp [o2i]
  | some d =>
    have hd := h d rfl
    constructor
    · intro q
      have := congrArg Int32.toInt (show nI d = -1 from q)
      rw [nI_toInt (by omega)] at this
      have e : (-1 : Int32).toInt = -1 := by decide
      omega
    · intro q; cases q
theorem c_X1_readFigures {h : Hp} {bt : Nat → Nat} {n : Nat} (hT : TX h bt n) (i most : Nat) (c : CT) (hi : i < 10) (hm : most ≤ 10) (hc : cAt c < 2 ^ 29) : Rn 1 MX1_readFigures [.ref 1, .int (nI i), .int (nI most)] (ctH h c) (EI (nI (rfC bt n i most c).1) (ctH h (rfC bt n i most c).2)) := by
  obtain ⟨hl, hn, hB⟩ := id hT
  refine rn_of mm_X1_readFigures (le_b rfl) rfl ?_
  refine r_iconst_0 dX1_readFigures_0 ?_
  refine r_istore3 dX1_readFigures_1 rfl (by decide) ?_
  have key : ∀ k f (c' : CT), f + k = most → f ≤ 10 → cAt c' < 2 ^ 29 + f → (f + (rfC bt n i k c').1 = (rfC bt n i most c).1) → (rfC bt n i k c').2 = (rfC bt n i most c).2 → Aw 1 MX1_readFigures (Kp (EI (nI (rfC bt n i most c).1) (ctH h (rfC bt n i most c).2))) 2 [some (.ref 1), some (.int (nI i)), some (.int (nI most)), some (.int (nI f))] [] (ctH h c') := by
    intro k
    induction k with
    | zero =>
      intro f c' h1 h2 h3 h4 h5
      have : f = most := by omega
      subst this
      have e1 : f = (rfC bt n i f c).1 := h4
      have e2 : c' = (rfC bt n i f c).2 := by
        rw [← h5]
        unfold rfC
        simp only [rf, Nat.add_zero]
        unfold cA cN cAt
        simp only
        have : upd c'.2.2.1 i (c'.2.2.1 i) = c'.2.2.1 := by
          funext j
          unfold upd
          split
          · rename_i q; rw [q]
          · rfl
        rw [this]
      refine r_iload3 dX1_readFigures_2 ?_
      refine r_iload2 dX1_readFigures_3 ?_
      refine r_icmpge (tgt := 51) dX1_readFigures_4 (by decide) (fun _ => ?_) (fun c9 => absurd (Int32.le_refl _) c9)
      refine r_iload3 dX1_readFigures_51 ?_
      exact r_iretE dX1_readFigures_52 rfl (by rw [← e1]) (by rw [← e2])
    | succ k ih =>
      intro f c' h1 h2 h3 h4 h5
      refine r_iload3 dX1_readFigures_2 ?_
      refine r_iload2 dX1_readFigures_3 ?_
      refine r_icmpge (tgt := 51) dX1_readFigures_4 (by decide) (fun c9 => absurd c9 (nI_ge (by omega) (by omega))) (fun _ => ?_)
      refine r_aload0 dX1_readFigures_7 ?_
      refine r_cV0I dX1_readFigures_8 mm_X1_figureHere im_X1_figureHere se_X1_figureHere ml_X1_78 rfl rfl rfl (c_X1_figureHere hT c' (by omega)) (by decide) (Nat.le_of_ble_eq_true rfl) ?_
      refine r_iconst_m1 dX1_readFigures_11 ?_
      have hle := fun d hd => (fgN_le (bt := bt) (n := n) (a := cAt c') (d := d) hd).2
      cases hf : fgN bt n (cAt c') with
      | none =>
        have e1 : (rfC bt n i (k + 1) c').1 = 0 := by unfold rfC; simp only [rf, hf]
        have e2 : (rfC bt n i (k + 1) c').2 = c' := by
          unfold rfC
          simp only [rf, hf, Nat.add_zero]
          unfold cA cN cAt
          simp only
          have : upd c'.2.2.1 i (c'.2.2.1 i) = c'.2.2.1 := by
            funext j
            unfold upd
            split
            · rename_i q; rw [q]
            · rfl
          rw [this]
        refine r_icmpeq (tgt := 51) dX1_readFigures_12 (by decide) (fun _ => ?_) (fun c9 => absurd (rfl) c9)
        refine r_iload3 dX1_readFigures_51 ?_
        exact r_iretE dX1_readFigures_52 rfl (by rw [← h4, e1]; rfl) (by rw [← h5, e2])
      | some d =>
        have hd := fgN_le hf
        refine r_icmpeq (tgt := 51) dX1_readFigures_12 (by decide) (fun c9 => absurd c9 (fun q => by have := (o2i_m1 (o := some d) (fun x hx => by cases hx; exact hd.2)).mp q; cases this)) (fun _ => ?_)
        refine r_aload0 dX1_readFigures_15 ?_
        refine r_getR dX1_readFigures_16 fl_X1_21 rfl rfl ?_
        refine r_iload1 dX1_readFigures_19 ?_
        refine r_bipush bv_10 dX1_readFigures_20 ?_
        refine r_aload0 dX1_readFigures_22 ?_
        refine r_getR dX1_readFigures_23 fl_X1_21 rfl rfl ?_
        refine r_iload1 dX1_readFigures_26 ?_
        refine r_ialdN dX1_readFigures_27 rfl hi ?_
        refine r_imul dX1_readFigures_28 ?_
        refine r_aload0 dX1_readFigures_29 ?_
        refine r_cV0I dX1_readFigures_30 mm_X1_figureHere im_X1_figureHere se_X1_figureHere ml_X1_78 rfl rfl rfl (c_X1_figureHere hT c' (by omega)) (by decide) (Nat.le_of_ble_eq_true rfl) ?_
        rw [ctH_num, hf]
        change Aw _ _ _ _ _ (.int (nI d) :: _) _
        refine r_iadd dX1_readFigures_33 ?_
        refine r_iastN dX1_readFigures_34 rfl hi ?_
        rw [ctH_N]
        refine r_iinc3_1 dX1_readFigures_35 rfl (by decide) ?_
        refine r_aload0 dX1_readFigures_38 ?_
        refine r_dup rfl dX1_readFigures_39 ?_
        refine r_getI dX1_readFigures_40 fl_X1_46 rfl rfl ?_
        refine r_iconst_1 dX1_readFigures_43 ?_
        refine r_iadd dX1_readFigures_44 ?_
        rw [ctH_at, nI_1, nI_1]
        refine r_putI dX1_readFigures_45 fw_X1_46 rfl rfl ?_
        refine r_goto (tgt := 2) dX1_readFigures_48 (by decide) ?_
        rw [ctH_A]
        have ea : cAt (cN c' i (10 * c'.2.2.1 i + nI d)) = cAt c' := rfl
        rw [ea]
        have er : rfC bt n i (k + 1) c' = ((rfC bt n i k (cA (cN c' i (10 * c'.2.2.1 i + nI d)) (cAt c' + 1))).1 + 1, (rfC bt n i k (cA (cN c' i (10 * c'.2.2.1 i + nI d)) (cAt c' + 1))).2) := by
          have en : (cA (cN c' i (10 * c'.2.2.1 i + nI d)) (cAt c' + 1)).2.2.1 i = 10 * c'.2.2.1 i + nI d := by simp [cA, cN, upd]
          have ea2 : cAt (cA (cN c' i (10 * c'.2.2.1 i + nI d)) (cAt c' + 1)) = cAt c' + 1 := rfl
          unfold rfC
          rw [en, ea2]
          simp only [rf, hf]
          unfold cA cN
          simp only
          refine Prod.ext rfl ?_
          simp only
          have eu : ∀ x y : Int32, upd (upd c'.2.2.1 i x) i y = upd c'.2.2.1 i y := by
            intro x y
            funext j
            unfold upd
            split <;> rfl
          rw [eu]
          congr 1
          congr 1
          congr 1
          congr 1
          congr 1
          omega
        rw [er] at h4 h5
        exact ih (f + 1) _ (by omega) (by omega) (by show cAt c' + 1 < _; omega) (by simp only at h4; omega) h5
  exact key most 0 c (by omega) (by omega) (by omega) (by omega) rfl
theorem rfC_1 {bt : Nat → Nat} {n i most : Nat} {c : CT} : (rfC bt n i most c).1 ≤ most := by
  unfold rfC
  simp only
  generalize cAt c = a
  generalize c.2.2.1 i = v
  induction most generalizing a v with
  | zero => simp [rf]
  | succ k ih =>
    rw [rf]
    split
    · simp
    · rename_i d _
      simp only
      have := ih (a + 1) (10 * v + nI d)
      omega
theorem c_X1_readNumber {h : Hp} {bt : Nat → Nat} {n : Nat} (hT : TX h bt n) (i most : Nat) (c : CT) (hi : i < 10) (hm : most ≤ 10) (hc : cAt c < 2 ^ 29) : Rn 2 MX1_readNumber [.ref 1, .int (nI i), .int (nI most)] (ctH h c) (EI (b2i (rnF bt n i most c).1) (ctH h (rnF bt n i most c).2)) := by
  refine rn_of mm_X1_readNumber (le_b rfl) rfl ?_
  refine r_aload0 dX1_readNumber_0 ?_
  refine r_getR dX1_readNumber_1 fl_X1_21 rfl rfl ?_
  refine r_iload1 dX1_readNumber_4 ?_
  refine r_iconst_0 dX1_readNumber_5 ?_
  refine r_iastN dX1_readNumber_6 rfl hi ?_
  rw [ctH_N]
  refine r_aload0 dX1_readNumber_7 ?_
  refine r_iload1 dX1_readNumber_8 ?_
  refine r_iload2 dX1_readNumber_9 ?_
  refine r_cV2I dX1_readNumber_10 mm_X1_readFigures im_X1_readFigures se_X1_readFigures ml_X1_82 rfl rfl rfl (c_X1_readFigures hT i most (cN c i 0) hi hm hc) (by decide) (Nat.le_of_ble_eq_true rfl) ?_
  have hle := rfC_1 (bt := bt) (n := n) (i := i) (most := most) (c := cN c i 0)
  unfold rnF
  generalize rfC bt n i most (cN c i 0) = r at hle ⊢
  by_cases h0 : 0 < r.1
  · refine r_ifle (tgt := 20) dX1_readNumber_13 (by decide) (fun c9 => absurd c9 (nI_nle h0 (by omega))) (fun _ => ?_)
    refine r_iconst_1 dX1_readNumber_16 ?_
    refine r_goto (tgt := 21) dX1_readNumber_17 (by decide) ?_
    exact r_zretE dX1_readNumber_21 rfl (by decide) (by simp [b2i, h0]) (rfl)
  · refine r_ifle (tgt := 20) dX1_readNumber_13 (by decide) (fun _ => ?_) (fun c9 => absurd (by rw [show r.1 = 0 by omega]; decide) c9)
    refine r_iconst_0 dX1_readNumber_20 ?_
    exact r_zretE dX1_readNumber_21 rfl (by decide) (by simp [b2i, h0]) (rfl)
theorem c_X1_readBehind {h : Hp} {bt : Nat → Nat} {n : Nat} (hT : TX h bt n) (i : Nat) (c : CT) (hi : i < 10) (hc : cAt c < 2 ^ 28) : Rn 2 MX1_readBehind [.ref 1, .int (nI i)] (ctH h c) (EI (b2i (rbF bt n i c).1) (ctH h (rbF bt n i c).2)) := by
  refine rn_of mm_X1_readBehind (le_b rfl) rfl ?_
  refine r_aload0 dX1_readBehind_0 ?_
  refine r_bipush bv_46 dX1_readBehind_1 ?_
  refine r_cV1I dX1_readBehind_3 mm_X1_skip im_X1_skip se_X1_skip ml_X1_53 rfl rfl rfl (c_X1_skip hT 46 c (by omega) (by decide)) (by decide) (Nat.le_of_ble_eq_true rfl) ?_
  have ha : cAt (skF bt n 46 c).2 ≤ cAt c + 1 := by
    unfold skF
    split
    · exact Nat.le_refl _
    · exact Nat.le_succ _
  unfold rbF
  generalize skF bt n 46 c = s at ha ⊢
  cases hs : s.1 with
  | false =>
    refine r_ifne (tgt := 11) dX1_readBehind_6 (by decide) (fun c9 => absurd (rfl) c9) (fun _ => ?_)
    refine r_iconst_1 dX1_readBehind_9 ?_
    exact r_zretE dX1_readBehind_10 rfl (by decide) (by simp [b2i]) (by simp)
  | true =>
    refine r_ifne (tgt := 11) dX1_readBehind_6 (by decide) (fun _ => ?_) (fun c9 => absurd c9 (by decide))
    refine r_aload0 dX1_readBehind_11 ?_
    refine r_getR dX1_readBehind_12 fl_X1_24 rfl rfl ?_
    refine r_iload1 dX1_readBehind_15 ?_
    refine r_aload0 dX1_readBehind_16 ?_
    refine r_iload1 dX1_readBehind_17 ?_
    refine r_iconst_2 dX1_readBehind_18 ?_
    refine r_cV2I dX1_readBehind_19 mm_X1_readFigures im_X1_readFigures se_X1_readFigures ml_X1_82 rfl rfl rfl (c_X1_readFigures hT i 2 s.2 hi (by decide) (by omega)) (by decide) (Nat.le_of_ble_eq_true rfl) ?_
    have hle := rfC_1 (bt := bt) (n := n) (i := i) (most := 2) (c := s.2)
    generalize rfC bt n i 2 s.2 = r at hle ⊢
    refine r_iastN dX1_readBehind_22 rfl hi ?_
    refine r_aload0 dX1_readBehind_23 ?_
    refine r_getR dX1_readBehind_24 fl_X1_24 rfl rfl ?_
    refine r_iload1 dX1_readBehind_27 ?_
    refine r_ialdN dX1_readBehind_28 rfl hi ?_
    rw [ctH_B, ctH_beh]
    have e : (cB r.2 i (nI r.1)).2.2.2.1 i = nI r.1 := by simp [cB, upd]
    rw [e]
    by_cases h0 : 0 < r.1
    · refine r_ifle (tgt := 36) dX1_readBehind_29 (by decide) (fun c9 => absurd c9 (nI_nle h0 (by omega))) (fun _ => ?_)
      refine r_iconst_1 dX1_readBehind_32 ?_
      refine r_goto (tgt := 37) dX1_readBehind_33 (by decide) ?_
      exact r_zretE dX1_readBehind_37 rfl (by decide) (by simp [b2i, h0]) (by simp)
    · refine r_ifle (tgt := 36) dX1_readBehind_29 (by decide) (fun _ => ?_) (fun c9 => absurd (by rw [show r.1 = 0 by omega]; decide) c9)
      refine r_iconst_0 dX1_readBehind_36 ?_
      exact r_zretE dX1_readBehind_37 rfl (by decide) (by simp [b2i, h0]) (by simp)
theorem iof_lt : ∀ j, j < 2 → ∀ k, k < 256 → iof j (nI k) < 0 ∨ ∃ d, d < 9 ∧ iof j (nI k) = nI d := by decide +kernel
theorem chr_b {k : Nat} (h : k < 256) : chr32 (nI k) = nI k := by
  have e := pk_char (nI k)
  rw [pk_tn (by omega), Nat.mod_eq_of_lt (by omega)] at e
  exact e
theorem c_X1_readRule {h : Hp} {bt : Nat → Nat} {n : Nat} (hT : TX h bt n) (i : Nat) (c : CT) (hi : i < 10) (hc : cAt c < 2 ^ 30) : Rn 4 MX1_readRule [.ref 1, .int (nI i)] (ctH h c) (EI 1 (ctH h (ruF bt n i c))) := by
  obtain ⟨hl, hn, hB⟩ := id hT
  refine rn_of mm_X1_readRule (le_b rfl) rfl ?_
  have tail : ∀ x, x = ruN bt n 1 (cAt c) → Aw 4 MX1_readRule (Kp (EI 1 (ctH h (ruF bt n i c)))) 30 [some (.ref 1), some (.int (nI i)), none] [.int x] (ctH h c) := by
    intro x hx
    unfold ruF
    rw [← hx]
    by_cases h0 : x < 0
    · rw [if_pos h0]
      refine r_istore2 dX1_readRule_30 rfl (by decide) ?_
      refine r_iload2 dX1_readRule_31 ?_
      refine r_iflt (tgt := 52) dX1_readRule_32 (by decide) (fun _ => ?_) (fun c9 => absurd (h0) c9)
      refine r_iconst_1 dX1_readRule_52 ?_
      exact r_zretE dX1_readRule_53 rfl (by decide) (rfl) (rfl)
    · rw [if_neg h0]
      refine r_istore2 dX1_readRule_30 rfl (by decide) ?_
      refine r_iload2 dX1_readRule_31 ?_
      refine r_iflt (tgt := 52) dX1_readRule_32 (by decide) (fun c9 => absurd c9 (h0)) (fun _ => ?_)
      refine r_aload0 dX1_readRule_35 ?_
      refine r_getR dX1_readRule_36 fl_X1_27 rfl rfl ?_
      refine r_iload1 dX1_readRule_39 ?_
      refine r_iload2 dX1_readRule_40 ?_
      refine r_iastN dX1_readRule_41 rfl hi ?_
      refine r_aload0 dX1_readRule_42 ?_
      refine r_dup rfl dX1_readRule_43 ?_
      refine r_getI dX1_readRule_44 fl_X1_46 rfl rfl ?_
      rw [ctH_R, ctH_at]
      have ea : cAt (cR c i x) = cAt c := rfl
      rw [ea]
      refine r_iconst_1 dX1_readRule_47 ?_
      refine r_iadd dX1_readRule_48 ?_
      refine r_putI dX1_readRule_49 fw_X1_46 rfl rfl ?_
      rw [nI_1, ctH_A]
      refine r_iconst_1 dX1_readRule_52 ?_
      exact r_zretE dX1_readRule_53 rfl (by decide) (rfl) (rfl)
  refine r_aload0 dX1_readRule_0 ?_
  refine r_getI dX1_readRule_1 fl_X1_46 rfl rfl ?_
  refine r_aload0 dX1_readRule_4 ?_
  refine r_getI dX1_readRule_5 fl_X1_40 rfl rfl ?_
  rw [ctH_at, ctH_len, hl]
  by_cases h1 : cAt c < n
  · obtain ⟨b1, b2⟩ := hB _ h1
    refine r_icmpge (tgt := 29) dX1_readRule_8 (by decide) (fun c9 => absurd c9 (nI_ge h1 (by omega))) (fun _ => ?_)
    refine r_ldc65 rfl dX1_readRule_11 ?_
    refine r_aload0 dX1_readRule_13 ?_
    refine r_getR dX1_readRule_14 fl_X1_9 rfl rfl ?_
    refine r_aload0 dX1_readRule_17 ?_
    refine r_getI dX1_readRule_18 fl_X1_46 rfl rfl ?_
    rw [ctH_at]
    refine r_ialdN dX1_readRule_21 rfl (by omega) ?_
    refine r_i2c dX1_readRule_22 ?_
    rw [ctH_byt, b1, chr_b b2]
    refine r_cT1I dX1_readRule_23 mm_J0_indexOf_0f7a4 im_J0_indexOf_0f7a4 se_J0_indexOf_0f7a4 ml_X1_59 (by decide) rfl (c_J0_indexOf 1 (nI (bt (cAt c))) _ (by decide) (nI_pos (by omega)) (nI_nlt (a := 255) (by omega) (by omega))) (by decide) (Nat.le_of_ble_eq_true rfl) ?_
    refine r_goto (tgt := 30) dX1_readRule_26 (by decide) ?_
    exact tail _ (by rw [ruN, if_pos h1])
  · refine r_icmpge (tgt := 29) dX1_readRule_8 (by decide) (fun _ => ?_) (fun c9 => absurd (nI_le (by omega) (by omega)) c9)
    refine r_iconst_m1 dX1_readRule_29 ?_
    exact tail _ (by rw [ruN, if_neg h1])
/-- one reading behind another -/
def andF (x : Bool × CT) (f : CT → Bool × CT) : Bool × CT := if x.1 then f x.2 else (false, x.2)
def c0F (c : CT) (i : Nat) (k : Int32) : CT := cR (cB (cN (cM (cK (cA c (cAt c + 1)) i k) i (-1)) i (-1)) i 0) i 0
def rcF (bt : Nat → Nat) (n i : Nat) (c : CT) : Bool × CT :=
  if ruN bt n 0 (cAt c) < 0 then (false, c)
  else if ruN bt n 0 (cAt c) = 4 then andF (andF (mkF bt n i (c0F c i (ruN bt n 0 (cAt c)))) (skF bt n 61)) (rnF bt n i 2)
  else if ruN bt n 0 (cAt c) = 5 then andF (andF (andF (andF (mkF bt n i (c0F c i (ruN bt n 0 (cAt c)))) (skF bt n 61)) (rnF bt n i 3)) (skF bt n 37)) (fun x => (true, ruF bt n i x))
  else if 6 ≤ ruN bt n 0 (cAt c) then andF (skF bt n 61 (c0F c i (ruN bt n 0 (cAt c)))) (mkF bt n i)
  else andF (andF (andF (skF bt n 61 (c0F c i (ruN bt n 0 (cAt c)))) (rnF bt n i 2)) (rbF bt n i)) (fun x => (true, ruF bt n i x))
theorem skF_at {bt : Nat → Nat} {n ch : Nat} {c : CT} : cAt (skF bt n ch c).2 ≤ cAt c + 1 := by
  unfold skF
  split
  · exact Nat.le_refl _
  · exact Nat.le_succ _
theorem mkF_at {bt : Nat → Nat} {n i : Nat} {c : CT} : cAt (mkF bt n i c).2 ≤ cAt c + 1 := by
  unfold mkF
  split
  · split
    · exact Nat.le_refl _
    · exact Nat.le_succ _
  · exact Nat.le_succ _
theorem rnF_at {bt : Nat → Nat} {n i most : Nat} {c : CT} : cAt (rnF bt n i most c).2 ≤ cAt c + most := by
  have h := rfC_1 (bt := bt) (n := n) (i := i) (most := most) (c := cN c i 0)
  have e : cAt (rnF bt n i most c).2 = cAt c + (rfC bt n i most (cN c i 0)).1 := rfl
  omega
theorem rbF_at {bt : Nat → Nat} {n i : Nat} {c : CT} : cAt (rbF bt n i c).2 ≤ cAt c + 3 := by
  have h0 := skF_at (bt := bt) (n := n) (ch := 46) (c := c)
  have h := rfC_1 (bt := bt) (n := n) (i := i) (most := 2) (c := (skF bt n 46 c).2)
  unfold rbF
  split
  · have e : cAt (cB (rfC bt n i 2 (skF bt n 46 c).2).2 i (nI (rfC bt n i 2 (skF bt n 46 c).2).1)) = cAt (skF bt n 46 c).2 + (rfC bt n i 2 (skF bt n 46 c).2).1 := rfl
    simp only
    omega
  · simp only
    omega
theorem ruF_at {bt : Nat → Nat} {n i : Nat} {c : CT} : cAt (ruF bt n i c) ≤ cAt c + 1 := by
  unfold ruF
  split
  · exact Nat.le_succ _
  · exact Nat.le_refl _
theorem ruN_d (bt : Nat → Nat) (n j a : Nat) (hj : j < 2) (hb : a < n → bt a < 256) : ruN bt n j a < 0 ∨ ∃ d, d < 9 ∧ ruN bt n j a = nI d := by
  unfold ruN
  by_cases h : a < n
  · rw [if_pos h]; exact iof_lt j hj _ (hb h)
  · rw [if_neg h]; exact Or.inl (by decide)
set_option maxHeartbeats 1000000 in
theorem c_X1_readClaim {h : Hp} {bt : Nat → Nat} {n : Nat} (hT : TX h bt n) (i : Nat) (c : CT) (hi : i < 10) (hc : cAt c < 2 ^ 27) : Rn 5 MX1_readClaim [.ref 1, .int (nI i)] (ctH h c) (EI (b2i (rcF bt n i c).1) (ctH h (rcF bt n i c).2)) := by
  obtain ⟨hl, hn, hB⟩ := id hT
  refine rn_of mm_X1_readClaim (le_b rfl) rfl ?_
  have hd := ruN_d bt n 0 (cAt c) (by decide) (fun q => (hB _ q).2)
  have tail : ∀ x, x = ruN bt n 0 (cAt c) → Aw 5 MX1_readClaim (Kp (EI (b2i (rcF bt n i c).1) (ctH h (rcF bt n i c).2))) 30 [some (.ref 1), some (.int (nI i)), none] [.int x] (ctH h c) := by
    intro x hx
    unfold rcF
    rw [← hx] at hd ⊢
    by_cases h0 : x < 0
    · rw [if_pos h0]
      refine r_istore2 dX1_readClaim_30 rfl (by decide) ?_
      refine r_iload2 dX1_readClaim_31 ?_
      refine r_ifge (tgt := 37) dX1_readClaim_32 (by decide) (fun c9 => absurd c9 (by intro q; exact absurd h0 (Int32.not_lt.mpr q))) (fun _ => ?_)
      refine r_iconst_0 dX1_readClaim_35 ?_
      exact r_zretE dX1_readClaim_36 rfl (by decide) (rfl) (rfl)
    · rw [if_neg h0]
      obtain ⟨d, hd9, hd⟩ := hd.resolve_left h0
      refine r_istore2 dX1_readClaim_30 rfl (by decide) ?_
      refine r_iload2 dX1_readClaim_31 ?_
      refine r_ifge (tgt := 37) dX1_readClaim_32 (by decide) (fun _ => ?_) (fun c9 => absurd (Int32.not_lt.mp h0) c9)
      refine r_aload0 dX1_readClaim_37 ?_
      refine r_dup rfl dX1_readClaim_38 ?_
      refine r_getI dX1_readClaim_39 fl_X1_46 rfl rfl ?_
      refine r_iconst_1 dX1_readClaim_42 ?_
      refine r_iadd dX1_readClaim_43 ?_
      rw [ctH_at, nI_1]
      refine r_putI dX1_readClaim_44 fw_X1_46 rfl rfl ?_
      refine r_aload0 dX1_readClaim_47 ?_
      refine r_getR dX1_readClaim_48 fl_X1_15 rfl rfl ?_
      refine r_iload1 dX1_readClaim_51 ?_
      refine r_iload2 dX1_readClaim_52 ?_
      refine r_iastN dX1_readClaim_53 rfl hi ?_
      refine r_aload0 dX1_readClaim_54 ?_
      refine r_getR dX1_readClaim_55 fl_X1_18 rfl rfl ?_
      refine r_iload1 dX1_readClaim_58 ?_
      refine r_iconst_m1 dX1_readClaim_59 ?_
      refine r_iastN dX1_readClaim_60 rfl hi ?_
      refine r_aload0 dX1_readClaim_61 ?_
      refine r_getR dX1_readClaim_62 fl_X1_21 rfl rfl ?_
      refine r_iload1 dX1_readClaim_65 ?_
      refine r_iconst_m1 dX1_readClaim_66 ?_
      refine r_iastN dX1_readClaim_67 rfl hi ?_
      refine r_aload0 dX1_readClaim_68 ?_
      refine r_getR dX1_readClaim_69 fl_X1_24 rfl rfl ?_
      refine r_iload1 dX1_readClaim_72 ?_
      refine r_iconst_0 dX1_readClaim_73 ?_
      refine r_iastN dX1_readClaim_74 rfl hi ?_
      refine r_aload0 dX1_readClaim_75 ?_
      refine r_getR dX1_readClaim_76 fl_X1_27 rfl rfl ?_
      refine r_iload1 dX1_readClaim_79 ?_
      refine r_iconst_0 dX1_readClaim_80 ?_
      refine r_iastN dX1_readClaim_81 rfl hi ?_
      rw [ctH_A, ctH_K, ctH_M, ctH_N, ctH_B, ctH_R]
      change Aw _ _ _ _ _ _ (ctH h (c0F c i x))
      have hca : cAt (c0F c i x) = cAt c + 1 := rfl
      generalize c0F c i x = c1 at hca ⊢
      subst hd
      have cases9 : d = 4 ∨ d = 5 ∨ 6 ≤ d ∨ d < 4 := by omega
      rcases cases9 with rfl | rfl | h6 | h4
      · rw [if_pos (by decide)]
        have a1 := mkF_at (bt := bt) (n := n) (i := i) (c := c1)
        refine r_iload2 dX1_readClaim_82 ?_
        refine r_tabIn (tgt := 116) dX1_readClaim_83 (by decide) (by decide) (by rfl) (by decide) ?_
        refine r_aload0 dX1_readClaim_116 ?_
        refine r_iload1 dX1_readClaim_117 ?_
        refine r_cV1I dX1_readClaim_118 mm_X1_readMark im_X1_readMark se_X1_readMark ml_X1_65 rfl rfl rfl (c_X1_readMark hT i c1 hi (by omega)) (by decide) (Nat.le_of_ble_eq_true rfl) ?_
        generalize mkF bt n i c1 = s1 at a1 ⊢
        cases hs : s1.1 with
        | false => refine r_ifeq (tgt := 146) dX1_readClaim_121 (by decide) (fun _ => ?_) (fun c9 => absurd (rfl) c9)
                   refine r_iconst_0 dX1_readClaim_146 ?_
                   exact r_zretE dX1_readClaim_147 rfl (by decide) (by simp [andF, hs, b2i]) (by simp [andF, hs])
        | true =>
          have a2 := skF_at (bt := bt) (n := n) (ch := 61) (c := s1.2)
          refine r_ifeq (tgt := 146) dX1_readClaim_121 (by decide) (fun c9 => absurd c9 (by decide)) (fun _ => ?_)
          refine r_aload0 dX1_readClaim_124 ?_
          refine r_bipush bv_61 dX1_readClaim_125 ?_
          refine r_cV1I dX1_readClaim_127 mm_X1_skip im_X1_skip se_X1_skip ml_X1_53 rfl rfl rfl (c_X1_skip hT 61 s1.2 (by omega) (by decide)) (by decide) (Nat.le_of_ble_eq_true rfl) ?_
          generalize hs2 : skF bt n 61 s1.2 = s2 at a2 ⊢
          cases hs' : s2.1 with
          | false => refine r_ifeq (tgt := 146) dX1_readClaim_130 (by decide) (fun _ => ?_) (fun c9 => absurd (rfl) c9)
                     refine r_iconst_0 dX1_readClaim_146 ?_
                     exact r_zretE dX1_readClaim_147 rfl (by decide) (by simp [andF, hs, hs2, hs', b2i]) (by simp [andF, hs, hs2, hs'])
          | true =>
            refine r_ifeq (tgt := 146) dX1_readClaim_130 (by decide) (fun c9 => absurd c9 (by decide)) (fun _ => ?_)
            refine r_aload0 dX1_readClaim_133 ?_
            refine r_iload1 dX1_readClaim_134 ?_
            refine r_iconst_2 dX1_readClaim_135 ?_
            refine r_cV2I dX1_readClaim_136 mm_X1_readNumber im_X1_readNumber se_X1_readNumber ml_X1_68 rfl rfl rfl (c_X1_readNumber hT i 2 s2.2 hi (by decide) (by omega)) (by decide) (Nat.le_of_ble_eq_true rfl) ?_
            generalize hs3 : rnF bt n i 2 s2.2 = s3
            cases hs'' : s3.1 with
            | false => refine r_ifeq (tgt := 146) dX1_readClaim_139 (by decide) (fun _ => ?_) (fun c9 => absurd (rfl) c9)
                       refine r_iconst_0 dX1_readClaim_146 ?_
                       exact r_zretE dX1_readClaim_147 rfl (by decide) (by simp [andF, hs, hs2, hs', hs3, hs'', b2i]) (by simp [andF, hs, hs2, hs', hs3])
            | true => refine r_ifeq (tgt := 146) dX1_readClaim_139 (by decide) (fun c9 => absurd c9 (by decide)) (fun _ => ?_)
                      refine r_iconst_1 dX1_readClaim_142 ?_
                      refine r_goto (tgt := 147) dX1_readClaim_143 (by decide) ?_
                      exact r_zretE dX1_readClaim_147 rfl (by decide) (by simp [andF, hs, hs2, hs', hs3, hs'', b2i]) (by simp [andF, hs, hs2, hs', hs3])
      · rw [if_neg (by decide), if_pos (by decide)]
        have a1 := mkF_at (bt := bt) (n := n) (i := i) (c := c1)
        refine r_iload2 dX1_readClaim_82 ?_
        refine r_tabIn (tgt := 148) dX1_readClaim_83 (by decide) (by decide) (by rfl) (by decide) ?_
        refine r_aload0 dX1_readClaim_148 ?_
        refine r_iload1 dX1_readClaim_149 ?_
        refine r_cV1I dX1_readClaim_150 mm_X1_readMark im_X1_readMark se_X1_readMark ml_X1_65 rfl rfl rfl (c_X1_readMark hT i c1 hi (by omega)) (by decide) (Nat.le_of_ble_eq_true rfl) ?_
        generalize mkF bt n i c1 = s1 at a1 ⊢
        cases hs : s1.1 with
        | false => refine r_ifeq (tgt := 195) dX1_readClaim_153 (by decide) (fun _ => ?_) (fun c9 => absurd (rfl) c9)
                   refine r_iconst_0 dX1_readClaim_195 ?_
                   exact r_zretE dX1_readClaim_196 rfl (by decide) (by simp [andF, hs, b2i]) (by simp [andF, hs])
        | true =>
          have a2 := skF_at (bt := bt) (n := n) (ch := 61) (c := s1.2)
          refine r_ifeq (tgt := 195) dX1_readClaim_153 (by decide) (fun c9 => absurd c9 (by decide)) (fun _ => ?_)
          refine r_aload0 dX1_readClaim_156 ?_
          refine r_bipush bv_61 dX1_readClaim_157 ?_
          refine r_cV1I dX1_readClaim_159 mm_X1_skip im_X1_skip se_X1_skip ml_X1_53 rfl rfl rfl (c_X1_skip hT 61 s1.2 (by omega) (by decide)) (by decide) (Nat.le_of_ble_eq_true rfl) ?_
          generalize hs2 : skF bt n 61 s1.2 = s2 at a2 ⊢
          cases hs' : s2.1 with
          | false => refine r_ifeq (tgt := 195) dX1_readClaim_162 (by decide) (fun _ => ?_) (fun c9 => absurd (rfl) c9)
                     refine r_iconst_0 dX1_readClaim_195 ?_
                     exact r_zretE dX1_readClaim_196 rfl (by decide) (by simp [andF, hs, hs2, hs', b2i]) (by simp [andF, hs, hs2, hs'])
          | true =>
            have a3 := rnF_at (bt := bt) (n := n) (i := i) (most := 3) (c := s2.2)
            refine r_ifeq (tgt := 195) dX1_readClaim_162 (by decide) (fun c9 => absurd c9 (by decide)) (fun _ => ?_)
            refine r_aload0 dX1_readClaim_165 ?_
            refine r_iload1 dX1_readClaim_166 ?_
            refine r_iconst_3 dX1_readClaim_167 ?_
            refine r_cV2I dX1_readClaim_168 mm_X1_readNumber im_X1_readNumber se_X1_readNumber ml_X1_68 rfl rfl rfl (c_X1_readNumber hT i 3 s2.2 hi (by decide) (by omega)) (by decide) (Nat.le_of_ble_eq_true rfl) ?_
            generalize hs3 : rnF bt n i 3 s2.2 = s3 at a3 ⊢
            cases hs'' : s3.1 with
            | false => refine r_ifeq (tgt := 195) dX1_readClaim_171 (by decide) (fun _ => ?_) (fun c9 => absurd (rfl) c9)
                       refine r_iconst_0 dX1_readClaim_195 ?_
                       exact r_zretE dX1_readClaim_196 rfl (by decide) (by simp [andF, hs, hs2, hs', hs3, hs'', b2i]) (by simp [andF, hs, hs2, hs', hs3, hs''])
            | true =>
              have a4 := skF_at (bt := bt) (n := n) (ch := 37) (c := s3.2)
              refine r_ifeq (tgt := 195) dX1_readClaim_171 (by decide) (fun c9 => absurd c9 (by decide)) (fun _ => ?_)
              refine r_aload0 dX1_readClaim_174 ?_
              refine r_bipush bv_37 dX1_readClaim_175 ?_
              refine r_cV1I dX1_readClaim_177 mm_X1_skip im_X1_skip se_X1_skip ml_X1_53 rfl rfl rfl (c_X1_skip hT 37 s3.2 (by omega) (by decide)) (by decide) (Nat.le_of_ble_eq_true rfl) ?_
              generalize hs4 : skF bt n 37 s3.2 = s4 at a4 ⊢
              cases hs5 : s4.1 with
              | false => refine r_ifeq (tgt := 195) dX1_readClaim_180 (by decide) (fun _ => ?_) (fun c9 => absurd (rfl) c9)
                         refine r_iconst_0 dX1_readClaim_195 ?_
                         exact r_zretE dX1_readClaim_196 rfl (by decide) (by simp [andF, hs, hs2, hs', hs3, hs'', hs4, hs5, b2i]) (by simp [andF, hs, hs2, hs', hs3, hs'', hs4, hs5])
              | true => refine r_ifeq (tgt := 195) dX1_readClaim_180 (by decide) (fun c9 => absurd c9 (by decide)) (fun _ => ?_)
                        refine r_aload0 dX1_readClaim_183 ?_
                        refine r_iload1 dX1_readClaim_184 ?_
                        refine r_cV1I dX1_readClaim_185 mm_X1_readRule im_X1_readRule se_X1_readRule ml_X1_72 rfl rfl rfl (c_X1_readRule hT i s4.2 hi (by omega)) (by decide) (Nat.le_of_ble_eq_true rfl) ?_
                        refine r_ifeq (tgt := 195) dX1_readClaim_188 (by decide) (fun c9 => absurd c9 (by decide)) (fun _ => ?_)
                        refine r_iconst_1 dX1_readClaim_191 ?_
                        refine r_goto (tgt := 196) dX1_readClaim_192 (by decide) ?_
                        exact r_zretE dX1_readClaim_196 rfl (by decide) (by simp [andF, hs, hs2, hs', hs3, hs'', hs4, hs5, b2i]) (by simp [andF, hs, hs2, hs', hs3, hs'', hs4, hs5])
      · have e4 : ¬ nI d = 4 := fun q => by have := (nI_eq (a := d) (b := 4) (by omega) (by decide)).mp q; omega
        have e5 : ¬ nI d = 5 := fun q => by have := (nI_eq (a := d) (b := 5) (by omega) (by decide)).mp q; omega
        have e6 : (6 : Int32) ≤ nI d := nI_le (a := 6) h6 (by omega)
        rw [if_neg e4, if_neg e5, if_pos e6]
        have rest : Aw 5 MX1_readClaim (Kp (EI (b2i (andF (skF bt n 61 c1) (mkF bt n i)).1) (ctH h (andF (skF bt n 61 c1) (mkF bt n i)).2))) 197 [some (.ref 1), some (.int (nI i)), some (.int (nI d))] [] (ctH h c1) := by
          have a2 := skF_at (bt := bt) (n := n) (ch := 61) (c := c1)
          refine r_aload0 dX1_readClaim_197 ?_
          refine r_bipush bv_61 dX1_readClaim_198 ?_
          refine r_cV1I dX1_readClaim_200 mm_X1_skip im_X1_skip se_X1_skip ml_X1_53 rfl rfl rfl (c_X1_skip hT 61 c1 (by omega) (by decide)) (by decide) (Nat.le_of_ble_eq_true rfl) ?_
          generalize hs2 : skF bt n 61 c1 = s2 at a2 ⊢
          cases hs' : s2.1 with
          | false => refine r_ifeq (tgt := 218) dX1_readClaim_203 (by decide) (fun _ => ?_) (fun c9 => absurd (rfl) c9)
                     refine r_iconst_0 dX1_readClaim_218 ?_
                     exact r_zretE dX1_readClaim_219 rfl (by decide) (by simp [andF, hs', b2i]) (by simp [andF, hs'])
          | true =>
            refine r_ifeq (tgt := 218) dX1_readClaim_203 (by decide) (fun c9 => absurd c9 (by decide)) (fun _ => ?_)
            refine r_aload0 dX1_readClaim_206 ?_
            refine r_iload1 dX1_readClaim_207 ?_
            refine r_cV1I dX1_readClaim_208 mm_X1_readMark im_X1_readMark se_X1_readMark ml_X1_65 rfl rfl rfl (c_X1_readMark hT i s2.2 hi (by omega)) (by decide) (Nat.le_of_ble_eq_true rfl) ?_
            generalize hs3 : mkF bt n i s2.2 = s3
            cases hs'' : s3.1 with
            | false => refine r_ifeq (tgt := 218) dX1_readClaim_211 (by decide) (fun _ => ?_) (fun c9 => absurd (rfl) c9)
                       refine r_iconst_0 dX1_readClaim_218 ?_
                       exact r_zretE dX1_readClaim_219 rfl (by decide) (by simp [andF, hs', hs3, hs'', b2i]) (by simp [andF, hs', hs3])
            | true => refine r_ifeq (tgt := 218) dX1_readClaim_211 (by decide) (fun c9 => absurd c9 (by decide)) (fun _ => ?_)
                      refine r_iconst_1 dX1_readClaim_214 ?_
                      refine r_goto (tgt := 219) dX1_readClaim_215 (by decide) ?_
                      exact r_zretE dX1_readClaim_219 rfl (by decide) (by simp [andF, hs', hs3, hs'', b2i]) (by simp [andF, hs', hs3])
        have : d = 6 ∨ d = 7 ∨ d = 8 := by omega
        rcases this with rfl | rfl | rfl
        · refine r_iload2 dX1_readClaim_82 ?_
          refine r_tabIn (tgt := 197) dX1_readClaim_83 (by decide) (by decide) (by rfl) (by decide) ?_
          exact rest
        · refine r_iload2 dX1_readClaim_82 ?_
          refine r_tabIn (tgt := 197) dX1_readClaim_83 (by decide) (by decide) (by rfl) (by decide) ?_
          exact rest
        · refine r_iload2 dX1_readClaim_82 ?_
          refine r_tabIn (tgt := 197) dX1_readClaim_83 (by decide) (by decide) (by rfl) (by decide) ?_
          exact rest
      · have e4 : ¬ nI d = 4 := fun q => by have := (nI_eq (a := d) (b := 4) (by omega) (by decide)).mp q; omega
        have e5 : ¬ nI d = 5 := fun q => by have := (nI_eq (a := d) (b := 5) (by omega) (by decide)).mp q; omega
        have e6 : ¬ (6 : Int32) ≤ nI d := nI_ge (b := 6) (by omega) (by decide)
        rw [if_neg e4, if_neg e5, if_neg e6]
        have a2 := skF_at (bt := bt) (n := n) (ch := 61) (c := c1)
        refine r_iload2 dX1_readClaim_82 ?_
        refine r_tabOut (tgt := 220) dX1_readClaim_83 (by rw [nI_toInt (by omega)]; omega) (by decide) ?_
        refine r_aload0 dX1_readClaim_220 ?_
        refine r_bipush bv_61 dX1_readClaim_221 ?_
        refine r_cV1I dX1_readClaim_223 mm_X1_skip im_X1_skip se_X1_skip ml_X1_53 rfl rfl rfl (c_X1_skip hT 61 c1 (by omega) (by decide)) (by decide) (Nat.le_of_ble_eq_true rfl) ?_
        generalize hs2 : skF bt n 61 c1 = s2 at a2 ⊢
        cases hs' : s2.1 with
        | false => refine r_ifeq (tgt := 258) dX1_readClaim_226 (by decide) (fun _ => ?_) (fun c9 => absurd (rfl) c9)
                   refine r_iconst_0 dX1_readClaim_258 ?_
                   exact r_zretE dX1_readClaim_259 rfl (by decide) (by simp [andF, hs', b2i]) (by simp [andF, hs'])
        | true =>
          have a3 := rnF_at (bt := bt) (n := n) (i := i) (most := 2) (c := s2.2)
          refine r_ifeq (tgt := 258) dX1_readClaim_226 (by decide) (fun c9 => absurd c9 (by decide)) (fun _ => ?_)
          refine r_aload0 dX1_readClaim_229 ?_
          refine r_iload1 dX1_readClaim_230 ?_
          refine r_iconst_2 dX1_readClaim_231 ?_
          refine r_cV2I dX1_readClaim_232 mm_X1_readNumber im_X1_readNumber se_X1_readNumber ml_X1_68 rfl rfl rfl (c_X1_readNumber hT i 2 s2.2 hi (by decide) (by omega)) (by decide) (Nat.le_of_ble_eq_true rfl) ?_
          generalize hs3 : rnF bt n i 2 s2.2 = s3 at a3 ⊢
          cases hs'' : s3.1 with
          | false => refine r_ifeq (tgt := 258) dX1_readClaim_235 (by decide) (fun _ => ?_) (fun c9 => absurd (rfl) c9)
                     refine r_iconst_0 dX1_readClaim_258 ?_
                     exact r_zretE dX1_readClaim_259 rfl (by decide) (by simp [andF, hs', hs3, hs'', b2i]) (by simp [andF, hs', hs3, hs''])
          | true =>
            have a4 := rbF_at (bt := bt) (n := n) (i := i) (c := s3.2)
            refine r_ifeq (tgt := 258) dX1_readClaim_235 (by decide) (fun c9 => absurd c9 (by decide)) (fun _ => ?_)
            refine r_aload0 dX1_readClaim_238 ?_
            refine r_iload1 dX1_readClaim_239 ?_
            refine r_cV1I dX1_readClaim_240 mm_X1_readBehind im_X1_readBehind se_X1_readBehind ml_X1_75 rfl rfl rfl (c_X1_readBehind hT i s3.2 hi (by omega)) (by decide) (Nat.le_of_ble_eq_true rfl) ?_
            generalize hs4 : rbF bt n i s3.2 = s4 at a4 ⊢
            cases hs5 : s4.1 with
            | false => refine r_ifeq (tgt := 258) dX1_readClaim_243 (by decide) (fun _ => ?_) (fun c9 => absurd (rfl) c9)
                       refine r_iconst_0 dX1_readClaim_258 ?_
                       exact r_zretE dX1_readClaim_259 rfl (by decide) (by simp [andF, hs', hs3, hs'', hs4, hs5, b2i]) (by simp [andF, hs', hs3, hs'', hs4, hs5])
            | true => refine r_ifeq (tgt := 258) dX1_readClaim_243 (by decide) (fun c9 => absurd c9 (by decide)) (fun _ => ?_)
                      refine r_aload0 dX1_readClaim_246 ?_
                      refine r_iload1 dX1_readClaim_247 ?_
                      refine r_cV1I dX1_readClaim_248 mm_X1_readRule im_X1_readRule se_X1_readRule ml_X1_72 rfl rfl rfl (c_X1_readRule hT i s4.2 hi (by omega)) (by decide) (Nat.le_of_ble_eq_true rfl) ?_
                      refine r_ifeq (tgt := 258) dX1_readClaim_251 (by decide) (fun c9 => absurd c9 (by decide)) (fun _ => ?_)
                      refine r_iconst_1 dX1_readClaim_254 ?_
                      refine r_goto (tgt := 259) dX1_readClaim_255 (by decide) ?_
                      exact r_zretE dX1_readClaim_259 rfl (by decide) (by simp [andF, hs', hs3, hs'', hs4, hs5, b2i]) (by simp [andF, hs', hs3, hs'', hs4, hs5])
  refine r_aload0 dX1_readClaim_0 ?_
  refine r_getI dX1_readClaim_1 fl_X1_46 rfl rfl ?_
  refine r_aload0 dX1_readClaim_4 ?_
  refine r_getI dX1_readClaim_5 fl_X1_40 rfl rfl ?_
  rw [ctH_at, ctH_len, hl]
  by_cases h1 : cAt c < n
  · obtain ⟨b1, b2⟩ := hB _ h1
    refine r_icmpge (tgt := 29) dX1_readClaim_8 (by decide) (fun c9 => absurd c9 (nI_ge h1 (by omega))) (fun _ => ?_)
    refine r_ldc64 rfl dX1_readClaim_11 ?_
    refine r_aload0 dX1_readClaim_13 ?_
    refine r_getR dX1_readClaim_14 fl_X1_9 rfl rfl ?_
    refine r_aload0 dX1_readClaim_17 ?_
    refine r_getI dX1_readClaim_18 fl_X1_46 rfl rfl ?_
    rw [ctH_at]
    refine r_ialdN dX1_readClaim_21 rfl (by omega) ?_
    refine r_i2c dX1_readClaim_22 ?_
    rw [ctH_byt, b1, chr_b b2]
    refine r_cT1I dX1_readClaim_23 mm_J0_indexOf_0f7a4 im_J0_indexOf_0f7a4 se_J0_indexOf_0f7a4 ml_X1_59 (by decide) rfl (c_J0_indexOf 0 (nI (bt (cAt c))) _ (by decide) (nI_pos (by omega)) (nI_nlt (a := 255) (by omega) (by omega))) (by decide) (Nat.le_of_ble_eq_true rfl) ?_
    refine r_goto (tgt := 30) dX1_readClaim_26 (by decide) ?_
    exact tail _ (by rw [ruN, if_pos h1])
  · refine r_icmpge (tgt := 29) dX1_readClaim_8 (by decide) (fun _ => ?_) (fun c9 => absurd (nI_le (by omega) (by omega)) c9)
    refine r_iconst_m1 dX1_readClaim_29 ?_
    exact tail _ (by rw [ruN, if_neg h1])
