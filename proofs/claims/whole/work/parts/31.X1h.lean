/-! ClaimText.figureOf, heldBy over a row -/
/-- a row of n marks: counts C, in the Row's cells -/
def RW (h : Hp) (C : Nat → Nat) (n : Nat) : Prop := h.1 10 1 = nI n ∧ 1 ≤ n ∧ n ≤ 63 ∧ (∀ j, j < 7 → h.1 11 j = nI (C j)) ∧ ∀ j, j ≤ 7 → sg C j ≤ n
/-- the figure of the row that decides claim i -/
def figV (h : Hp) (Kd Mk : Nat → Nat) (C : Nat → Nat) (n i : Nat) : Int32 :=
  if Kd i = 0 then h.1 10 2
  else if Kd i = 1 ∨ Kd i = 2 then h.1 10 1 * h.1 10 3 - h.1 10 2 * h.1 10 2
  else if Kd i = 3 then nI (mid2 C n 7)
  else if Kd i = 4 then h.1 11 (Mk i)
  else if Kd i = 5 then nI (frm C (Mk i))
  else if Kd i = 6 then h.1 10 4
  else if Kd i = 7 then h.1 10 5
  else h.1 10 6
theorem c_X1_figureOf (k : Nat) (Kd Mk Bh C : Nat → Nat) (n i : Nat) (h : Hp) (hC : CLM h k Kd Mk Bh) (hR : RW h C n) (hi : i < k) : Rn 2 MX1_figureOf [.ref 1, .ref 10, .int (nI i)] h (EI (figV h Kd Mk C n i) h) := by
  obtain ⟨hs, hk, hcl⟩ := hC
  obtain ⟨r1, r2, r3, r4, r5⟩ := hR
  obtain ⟨k1, k2, k3, k4, k5⟩ := hcl i hi
  refine rn_of mm_X1_figureOf (le_b rfl) rfl ?_
  refine r_aload0 dX1_figureOf_0 ?_
  refine r_getR dX1_figureOf_1 fl_X1_15 rfl rfl ?_
  refine r_iload2 dX1_figureOf_4 ?_
  refine r_ialdN dX1_figureOf_5 rfl (by omega) ?_
  rw [k1]
  unfold figV
  generalize Kd i = d at k2 k5 ⊢
  have : d = 0 ∨ d = 1 ∨ d = 2 ∨ d = 3 ∨ d = 4 ∨ d = 5 ∨ d = 6 ∨ d = 7 ∨ d = 8 := by omega
  rcases this with rfl | rfl | rfl | rfl | rfl | rfl | rfl | rfl | rfl
  · refine r_tabIn (tgt := 52) dX1_figureOf_6 (by decide) (by decide) (by rfl) (by decide) ?_
    refine r_aload1 dX1_figureOf_52 ?_
    refine r_getI dX1_figureOf_53 fl_X1_124 rfl rfl ?_
    exact r_iretE dX1_figureOf_56 rfl (rfl) (rfl)
  · refine r_tabIn (tgt := 57) dX1_figureOf_6 (by decide) (by decide) (by rfl) (by decide) ?_
    refine r_aload1 dX1_figureOf_57 ?_
    refine r_cV0I dX1_figureOf_58 mm_X4_unevenness im_X4_unevenness se_X4_unevenness ml_X1_129 rfl rfl rfl (c_X4_unevenness h) (by decide) (Nat.le_of_ble_eq_true rfl) ?_
    exact r_iretE dX1_figureOf_61 rfl (rfl) (rfl)
  · refine r_tabIn (tgt := 57) dX1_figureOf_6 (by decide) (by decide) (by rfl) (by decide) ?_
    refine r_aload1 dX1_figureOf_57 ?_
    refine r_cV0I dX1_figureOf_58 mm_X4_unevenness im_X4_unevenness se_X4_unevenness ml_X1_129 rfl rfl rfl (c_X4_unevenness h) (by decide) (Nat.le_of_ble_eq_true rfl) ?_
    exact r_iretE dX1_figureOf_61 rfl (rfl) (rfl)
  · refine r_tabIn (tgt := 62) dX1_figureOf_6 (by decide) (by decide) (by rfl) (by decide) ?_
    refine r_aload1 dX1_figureOf_62 ?_
    refine r_cV0I dX1_figureOf_63 mm_X4_middleTwice im_X4_middleTwice se_X4_middleTwice ml_X1_132 rfl rfl rfl (c_X4_middleTwice n C h r2 (by omega) r1 r4 (fun j hj => by have := r5 j hj; omega)) (by decide) (Nat.le_of_ble_eq_true rfl) ?_
    exact r_iretE dX1_figureOf_66 rfl (rfl) (rfl)
  · obtain ⟨m1, m2⟩ := k5 (by decide)
    refine r_tabIn (tgt := 67) dX1_figureOf_6 (by decide) (by decide) (by rfl) (by decide) ?_
    refine r_aload1 dX1_figureOf_67 ?_
    refine r_aload0 dX1_figureOf_68 ?_
    refine r_getR dX1_figureOf_69 fl_X1_18 rfl rfl ?_
    refine r_iload2 dX1_figureOf_72 ?_
    refine r_ialdN dX1_figureOf_73 rfl (by omega) ?_
    rw [m1]
    refine r_cV1I dX1_figureOf_74 mm_X4_howMany im_X4_howMany se_X4_howMany ml_X1_135 rfl rfl rfl (c_X4_howMany (Mk i) h m2) (by decide) (Nat.le_of_ble_eq_true rfl) ?_
    exact r_iretE dX1_figureOf_77 rfl (rfl) (rfl)
  · obtain ⟨m1, m2⟩ := k5 (by decide)
    refine r_tabIn (tgt := 78) dX1_figureOf_6 (by decide) (by decide) (by rfl) (by decide) ?_
    refine r_aload1 dX1_figureOf_78 ?_
    refine r_aload0 dX1_figureOf_79 ?_
    refine r_getR dX1_figureOf_80 fl_X1_18 rfl rfl ?_
    refine r_iload2 dX1_figureOf_83 ?_
    refine r_ialdN dX1_figureOf_84 rfl (by omega) ?_
    rw [m1]
    refine r_cV1I dX1_figureOf_85 mm_X4_howManyFrom im_X4_howManyFrom se_X4_howManyFrom ml_X1_138 rfl rfl rfl (c_X4_howManyFrom (Mk i) C h m2 r4) (by decide) (Nat.le_of_ble_eq_true rfl) ?_
    exact r_iretE dX1_figureOf_88 rfl (rfl) (rfl)
  · refine r_tabIn (tgt := 89) dX1_figureOf_6 (by decide) (by decide) (by rfl) (by decide) ?_
    refine r_aload1 dX1_figureOf_89 ?_
    refine r_getI dX1_figureOf_90 fl_X1_141 rfl rfl ?_
    exact r_iretE dX1_figureOf_93 rfl (rfl) (rfl)
  · refine r_tabIn (tgt := 94) dX1_figureOf_6 (by decide) (by decide) (by rfl) (by decide) ?_
    refine r_aload1 dX1_figureOf_94 ?_
    refine r_getI dX1_figureOf_95 fl_X1_143 rfl rfl ?_
    exact r_iretE dX1_figureOf_98 rfl (rfl) (rfl)
  · refine r_tabOut (tgt := 99) dX1_figureOf_6 (by decide) (by decide) ?_
    refine r_aload1 dX1_figureOf_99 ?_
    refine r_getI dX1_figureOf_100 fl_X1_146 rfl rfl ?_
    exact r_iretE dX1_figureOf_103 rfl (rfl) (rfl)
/-- which claims hold, as bits -/
def hldF (h : Hp) (Kd Mk C : Nat → Nat) (n : Nat) (i : Nat) (b : Int32) : Int32 := if figV h Kd Mk C n i < h.1 8 i then b else if h.1 9 i < figV h Kd Mk C n i then b else b ||| (1 <<< (nI i &&& 31))
def hld (h : Hp) (Kd Mk C : Nat → Nat) (n k : Nat) : Int32 := lp (hldF h Kd Mk C n) 0 k 0
theorem c_X1_heldBy (k : Nat) (Kd Mk Bh C : Nat → Nat) (n : Nat) (h : Hp) (hC : CLM h k Kd Mk Bh) (hR : RW h C n) : Rn 3 MX1_heldBy [.ref 1, .ref 10] h (EI (hld h Kd Mk C n k) h) := by
  have hs := hC.1
  have hk := hC.2.1
  refine rn_of mm_X1_heldBy (le_b rfl) rfl ?_
  refine r_iconst_0 dX1_heldBy_0 ?_
  refine r_istore2 dX1_heldBy_1 rfl (by decide) ?_
  refine r_iconst_0 dX1_heldBy_2 ?_
  refine r_istore3 dX1_heldBy_3 rfl (by decide) ?_
  have key : ∀ m i (b : Int32) (x4 : Option Value), i + m = k → lp (hldF h Kd Mk C n) i m b = hld h Kd Mk C n k → Aw 3 MX1_heldBy (Kp (EI (hld h Kd Mk C n k) h)) 4 [some (.ref 1), some (.ref 10), some (.int b), some (.int (nI i)), x4] [] h := by
    intro m
    induction m with
    | zero =>
      intro i b x4 hi he
      have : i = k := by omega
      subst this
      refine r_iload3 dX1_heldBy_4 ?_
      refine r_aload0 dX1_heldBy_5 ?_
      refine r_getI dX1_heldBy_6 fl_X1_43 rfl rfl ?_
      refine r_icmpge (tgt := 54) dX1_heldBy_9 (by decide) (fun _ => ?_) (fun c9 => absurd (by rw [hs]; exact Int32.le_refl _) c9)
      refine r_iload2 dX1_heldBy_54 ?_
      exact r_iretE dX1_heldBy_55 rfl (he) (rfl)
    | succ m ih =>
      intro i b x4 hi he
      rw [lp_s] at he
      refine r_iload3 dX1_heldBy_4 ?_
      refine r_aload0 dX1_heldBy_5 ?_
      refine r_getI dX1_heldBy_6 fl_X1_43 rfl rfl ?_
      refine r_icmpge (tgt := 54) dX1_heldBy_9 (by decide) (fun c9 => absurd c9 (by rw [hs]; exact nI_ge (by omega) (by omega))) (fun _ => ?_)
      refine r_aload0 dX1_heldBy_12 ?_
      refine r_aload1 dX1_heldBy_13 ?_
      refine r_iload3 dX1_heldBy_14 ?_
      refine r_cV2I dX1_heldBy_15 mm_X1_figureOf im_X1_figureOf se_X1_figureOf ml_X1_120 rfl rfl rfl (c_X1_figureOf k Kd Mk Bh C n i h hC hR (by omega)) (by decide) (Nat.le_of_ble_eq_true rfl) ?_
      refine r_istore4 dX1_heldBy_18 rfl (by decide) ?_
      refine r_iload4 dX1_heldBy_20 ?_
      refine r_aload0 dX1_heldBy_22 ?_
      refine r_getR dX1_heldBy_23 fl_X1_30 rfl rfl ?_
      refine r_iload3 dX1_heldBy_26 ?_
      refine r_ialdN dX1_heldBy_27 rfl (by omega) ?_
      unfold hldF at he ih
      refine r_icmplt (tgt := 48) dX1_heldBy_28 (by decide) (fun c => ?_) (fun c => ?_)
      · rw [if_pos c] at he
        refine r_iinc3_1 dX1_heldBy_48 rfl (by decide) ?_
        refine r_goto (tgt := 4) dX1_heldBy_51 (by decide) ?_
        rw [nI_1]
        exact ih (i + 1) _ _ (by omega) he
      · rw [if_neg c] at he
        refine r_iload4 dX1_heldBy_31 ?_
        refine r_aload0 dX1_heldBy_33 ?_
        refine r_getR dX1_heldBy_34 fl_X1_33 rfl rfl ?_
        refine r_iload3 dX1_heldBy_37 ?_
        refine r_ialdN dX1_heldBy_38 rfl (by omega) ?_
        refine r_icmpgt (tgt := 48) dX1_heldBy_39 (by decide) (fun c2 => ?_) (fun c2 => ?_)
        · rw [if_pos c2] at he
          refine r_iinc3_1 dX1_heldBy_48 rfl (by decide) ?_
          refine r_goto (tgt := 4) dX1_heldBy_51 (by decide) ?_
          rw [nI_1]
          exact ih (i + 1) _ _ (by omega) he
        · rw [if_neg c2] at he
          refine r_iload2 dX1_heldBy_42 ?_
          refine r_iconst_1 dX1_heldBy_43 ?_
          refine r_iload3 dX1_heldBy_44 ?_
          refine r_ishl dX1_heldBy_45 ?_
          refine r_ior dX1_heldBy_46 ?_
          refine r_istore2 dX1_heldBy_47 rfl (by decide) ?_
          refine r_iinc3_1 dX1_heldBy_48 rfl (by decide) ?_
          refine r_goto (tgt := 4) dX1_heldBy_51 (by decide) ?_
          rw [nI_1]
          exact ih (i + 1) _ _ (by omega) he
  exact key k 0 0 none (by omega) rfl
