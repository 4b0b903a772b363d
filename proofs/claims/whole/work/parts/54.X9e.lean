/-! the reference: rounded, shares -/
def rdN (X Y : Nat) (r : Int32) : Nat := if r = 2 then X / Y else if Y < 2 * (X % Y) then X / Y + 1 else if 2 * (X % Y) = Y then (if r = 0 then X / Y + 1 else if X / Y % 2 = 1 then X / Y + 1 else X / Y) else X / Y
theorem c_X9_rounded (X Y : Nat) (r : Int32) (h : Hp) (hX : X < 2 ^ 60) (h0 : 0 < Y) (hY : Y < 2 ^ 60) : Rn 0 MX9_rounded [.long (lN X), .long (lN Y), .int r] h (EL (lN (rdN X Y r)) h) := by
  have hm : X % Y < Y := Nat.mod_lt _ h0
  have hd : X / Y ≤ X := Nat.div_le_self ..
  have hne : ¬ lN Y = 0 := fun e => by have := (pk_lEQ (a := Y) (b := 0) (by omega) (by omega)).mp e; omega
  refine rn_of mm_X9_rounded (le_b rfl) rfl ?_
  unfold rdN
  refine r_lload0 dX9_rounded_0 ?_
  refine r_lload2 dX9_rounded_1 ?_
  refine r_ldiv hne dX9_rounded_2 ?_
  rw [pk_lDiv (by omega) h0 (by omega)]
  refine r_lstore5 dX9_rounded_3 rfl (by decide) ?_
  refine r_ldc2 ct_X9_82 dX9_rounded_5 ?_
  refine r_lload0 dX9_rounded_8 ?_
  refine r_lload2 dX9_rounded_9 ?_
  refine r_lrem hne dX9_rounded_10 ?_
  rw [show rem64 (lN X) (lN Y) = lN (X % Y) from pk_lRem (by omega) h0 (by omega)]
  refine r_lmul dX9_rounded_11 ?_
  rw [show (2 : Int64) * lN (X % Y) = lN (2 * (X % Y)) from lN_mul 2 _]
  refine r_lstore7 dX9_rounded_12 rfl (by decide) ?_
  by_cases c : r = 2
  · rw [if_pos c]
    refine r_iload4 dX9_rounded_14 ?_
    refine r_iconst_2 dX9_rounded_16 ?_
    refine r_icmpeq (tgt := 54) dX9_rounded_17 (by decide) (fun _ => ?_) (fun c9 => absurd (c) c9)
    refine r_iconst_0 dX9_rounded_54 ?_
    refine r_istore9 dX9_rounded_55 rfl (by decide) ?_
    refine r_iload9 dX9_rounded_57 ?_
    refine r_ifeq (tgt := 69) dX9_rounded_59 (by decide) (fun _ => ?_) (fun c9 => absurd (rfl) c9)
    refine r_lload5 dX9_rounded_69 ?_
    exact r_lretE dX9_rounded_71 rfl (rfl) (rfl)
  · rw [if_neg c]
    by_cases c2 : Y < 2 * (X % Y)
    · rw [if_pos c2]
      refine r_iload4 dX9_rounded_14 ?_
      refine r_iconst_2 dX9_rounded_16 ?_
      refine r_icmpeq (tgt := 54) dX9_rounded_17 (by decide) (fun c9 => absurd c9 (c)) (fun _ => ?_)
      refine r_lload7 dX9_rounded_20 ?_
      refine r_lload2 dX9_rounded_22 ?_
      refine r_lgt (tgt := 50) dX9_rounded_23 dX9_rounded_24 (by decide) (fun _ => ?_) (fun c9 => absurd ((pk_lLT (by omega) (by omega)).mpr c2) c9)
      refine r_iconst_1 dX9_rounded_50 ?_
      refine r_goto (tgt := 55) dX9_rounded_51 (by decide) ?_
      refine r_istore9 dX9_rounded_55 rfl (by decide) ?_
      refine r_iload9 dX9_rounded_57 ?_
      refine r_ifeq (tgt := 69) dX9_rounded_59 (by decide) (fun c9 => absurd c9 (by decide)) (fun _ => ?_)
      refine r_lload5 dX9_rounded_62 ?_
      refine r_lconst_1 dX9_rounded_64 ?_
      refine r_ladd dX9_rounded_65 ?_
      rw [lN_1]
      refine r_goto (tgt := 71) dX9_rounded_66 (by decide) ?_
      exact r_lretE dX9_rounded_71 rfl (rfl) (rfl)
    · rw [if_neg c2]
      have n2 : ¬ lN Y < lN (2 * (X % Y)) := fun q => c2 ((pk_lLT (by omega) (by omega)).mp q)
      by_cases c3 : 2 * (X % Y) = Y
      · rw [if_pos c3]
        have e3 : lN (2 * (X % Y)) = lN Y := by rw [c3]
        by_cases c4 : r = 0
        · rw [if_pos c4]
          refine r_iload4 dX9_rounded_14 ?_
          refine r_iconst_2 dX9_rounded_16 ?_
          refine r_icmpeq (tgt := 54) dX9_rounded_17 (by decide) (fun c9 => absurd c9 (c)) (fun _ => ?_)
          refine r_lload7 dX9_rounded_20 ?_
          refine r_lload2 dX9_rounded_22 ?_
          refine r_lgt (tgt := 50) dX9_rounded_23 dX9_rounded_24 (by decide) (fun c9 => absurd c9 (n2)) (fun _ => ?_)
          refine r_lload7 dX9_rounded_27 ?_
          refine r_lload2 dX9_rounded_29 ?_
          refine r_lne (tgt := 54) dX9_rounded_30 dX9_rounded_31 (by decide) (fun c9 => absurd (e3) c9) (fun _ => ?_)
          refine r_iload4 dX9_rounded_34 ?_
          refine r_ifeq (tgt := 50) dX9_rounded_36 (by decide) (fun _ => ?_) (fun c9 => absurd (c4) c9)
          refine r_iconst_1 dX9_rounded_50 ?_
          refine r_goto (tgt := 55) dX9_rounded_51 (by decide) ?_
          refine r_istore9 dX9_rounded_55 rfl (by decide) ?_
          refine r_iload9 dX9_rounded_57 ?_
          refine r_ifeq (tgt := 69) dX9_rounded_59 (by decide) (fun c9 => absurd c9 (by decide)) (fun _ => ?_)
          refine r_lload5 dX9_rounded_62 ?_
          refine r_lconst_1 dX9_rounded_64 ?_
          refine r_ladd dX9_rounded_65 ?_
          rw [lN_1]
          refine r_goto (tgt := 71) dX9_rounded_66 (by decide) ?_
          exact r_lretE dX9_rounded_71 rfl (rfl) (rfl)
        · rw [if_neg c4]
          refine r_iload4 dX9_rounded_14 ?_
          refine r_iconst_2 dX9_rounded_16 ?_
          refine r_icmpeq (tgt := 54) dX9_rounded_17 (by decide) (fun c9 => absurd c9 (c)) (fun _ => ?_)
          refine r_lload7 dX9_rounded_20 ?_
          refine r_lload2 dX9_rounded_22 ?_
          refine r_lgt (tgt := 50) dX9_rounded_23 dX9_rounded_24 (by decide) (fun c9 => absurd c9 (n2)) (fun _ => ?_)
          refine r_lload7 dX9_rounded_27 ?_
          refine r_lload2 dX9_rounded_29 ?_
          refine r_lne (tgt := 54) dX9_rounded_30 dX9_rounded_31 (by decide) (fun c9 => absurd (e3) c9) (fun _ => ?_)
          refine r_iload4 dX9_rounded_34 ?_
          refine r_ifeq (tgt := 50) dX9_rounded_36 (by decide) (fun c9 => absurd c9 (c4)) (fun _ => ?_)
          refine r_lload5 dX9_rounded_39 ?_
          refine r_ldc2 ct_X9_82 dX9_rounded_41 ?_
          refine r_lrem (by decide) dX9_rounded_44 ?_
          rw [show rem64 (lN (X / Y)) 2 = lN (X / Y % 2) from pk_lRem (b := 2) (by omega) (by decide) (by decide)]
          by_cases c5 : X / Y % 2 = 1
          · rw [if_pos c5, c5]
            refine r_lconst_1 dX9_rounded_45 ?_
            refine r_lne (tgt := 54) dX9_rounded_46 dX9_rounded_47 (by decide) (fun c9 => absurd (rfl) c9) (fun _ => ?_)
            refine r_iconst_1 dX9_rounded_50 ?_
            refine r_goto (tgt := 55) dX9_rounded_51 (by decide) ?_
            refine r_istore9 dX9_rounded_55 rfl (by decide) ?_
            refine r_iload9 dX9_rounded_57 ?_
            refine r_ifeq (tgt := 69) dX9_rounded_59 (by decide) (fun c9 => absurd c9 (by decide)) (fun _ => ?_)
            refine r_lload5 dX9_rounded_62 ?_
            refine r_lconst_1 dX9_rounded_64 ?_
            refine r_ladd dX9_rounded_65 ?_
            rw [lN_1]
            refine r_goto (tgt := 71) dX9_rounded_66 (by decide) ?_
            exact r_lretE dX9_rounded_71 rfl (rfl) (rfl)
          · rw [if_neg c5, show X / Y % 2 = 0 by omega]
            refine r_lconst_1 dX9_rounded_45 ?_
            refine r_lne (tgt := 54) dX9_rounded_46 dX9_rounded_47 (by decide) (fun _ => ?_) (fun c9 => absurd c9 (by decide))
            refine r_iconst_0 dX9_rounded_54 ?_
            refine r_istore9 dX9_rounded_55 rfl (by decide) ?_
            refine r_iload9 dX9_rounded_57 ?_
            refine r_ifeq (tgt := 69) dX9_rounded_59 (by decide) (fun _ => ?_) (fun c9 => absurd (rfl) c9)
            refine r_lload5 dX9_rounded_69 ?_
            exact r_lretE dX9_rounded_71 rfl (rfl) (rfl)
      · rw [if_neg c3]
        refine r_iload4 dX9_rounded_14 ?_
        refine r_iconst_2 dX9_rounded_16 ?_
        refine r_icmpeq (tgt := 54) dX9_rounded_17 (by decide) (fun c9 => absurd c9 (c)) (fun _ => ?_)
        refine r_lload7 dX9_rounded_20 ?_
        refine r_lload2 dX9_rounded_22 ?_
        refine r_lgt (tgt := 50) dX9_rounded_23 dX9_rounded_24 (by decide) (fun c9 => absurd c9 (n2)) (fun _ => ?_)
        refine r_lload7 dX9_rounded_27 ?_
        refine r_lload2 dX9_rounded_29 ?_
        refine r_lne (tgt := 54) dX9_rounded_30 dX9_rounded_31 (by decide) (fun _ => ?_) (fun c9 => absurd c9 (fun q => c3 ((pk_lEQ (by omega) (by omega)).mp q)))
        refine r_iconst_0 dX9_rounded_54 ?_
        refine r_istore9 dX9_rounded_55 rfl (by decide) ?_
        refine r_iload9 dX9_rounded_57 ?_
        refine r_ifeq (tgt := 69) dX9_rounded_59 (by decide) (fun _ => ?_) (fun c9 => absurd (rfl) c9)
        refine r_lload5 dX9_rounded_69 ?_
        exact r_lretE dX9_rounded_71 rfl (rfl) (rfl)
theorem fW_s (a : Nat → Int32) (lo hi : Int32) (n : Nat) : fWithin a lo hi (n + 1) = if fWithin a lo hi n = 0 then 0 else if a n < lo ∨ hi < a n then 0 else 1 := by
  by_cases c : ∀ j, j < n → ¬ a j < lo ∧ a j ≤ hi
  · have e : fWithin a lo hi n = 1 := if_pos c
    rw [e, if_neg (show ¬ (1 : Int32) = 0 by decide)]
    by_cases d : a n < lo ∨ hi < a n
    · rw [if_pos d]
      refine if_neg ?_
      intro q
      have := q n (by omega)
      rcases d with d | d
      · exact this.1 d
      · exact Int32.not_lt.mpr this.2 d
    · rw [if_neg d]
      refine if_pos ?_
      intro j hj
      by_cases e : j = n
      · subst e
        exact ⟨fun q => d (Or.inl q), Int32.not_lt.mp (fun q => d (Or.inr q))⟩
      · exact c j (by omega)
  · have e : fWithin a lo hi n = 0 := if_neg c
    rw [e, if_pos rfl]
    refine if_neg ?_
    intro q
    exact c (fun j hj => q j (by omega))
theorem fW_01 (a : Nat → Int32) (lo hi : Int32) (n : Nat) : fWithin a lo hi n = 0 ∨ fWithin a lo hi n = 1 := by
  unfold fWithin
  split
  · exact Or.inr rfl
  · exact Or.inl rfl
theorem c_X9_areHundredths (j : Nat) (h : Hp) (hj : j < 4) (hS : MS4 h) : Rn 1 MX9_areHundredths [.ref 31, .int (nI j)] h (EI (fWithin (fun i => h.1 34 (60 * j + i)) 0 100 (mz h j)) h) := by
  obtain ⟨z1, z2⟩ := hS j hj
  refine rn_of mm_X9_areHundredths (le_b rfl) rfl ?_
  refine r_iconst_1 dX9_areHundredths_0 ?_
  refine r_istore2 dX9_areHundredths_1 rfl (by decide) ?_
  refine r_iconst_0 dX9_areHundredths_2 ?_
  refine r_istore3 dX9_areHundredths_3 rfl (by decide) ?_
  have key : ∀ r i, i + r = mz h j → Aw 1 MX9_areHundredths (Kp (EI (fWithin (fun i => h.1 34 (60 * j + i)) 0 100 (mz h j)) h)) 4 [some (.ref 31), some (.int (nI j)), some (.int (fWithin (fun i => h.1 34 (60 * j + i)) 0 100 i)), some (.int (nI i))] [] h := by
    intro r
    induction r with
    | zero =>
      intro i hi
      have : i = mz h j := by omega
      subst this
      refine r_iload3 dX9_areHundredths_4 ?_
      refine r_aload0 dX9_areHundredths_5 ?_
      refine r_getR dX9_areHundredths_6 fl_X9_13 rfl rfl ?_
      refine r_iload1 dX9_areHundredths_9 ?_
      refine r_ialdN dX9_areHundredths_10 rfl hj ?_
      refine r_icmpge (tgt := 47) dX9_areHundredths_11 (by decide) (fun _ => ?_) (fun c9 => absurd (by rw [z1]; exact Int32.le_refl _) c9)
      refine r_iload2 dX9_areHundredths_47 ?_
      exact r_zretE dX9_areHundredths_48 rfl (fW_01 _ _ _ _) rfl rfl
    | succ r ih =>
      intro i hi
      have ih := ih (i + 1) (by omega)
      rw [fW_s] at ih
      by_cases c : fWithin (fun i => h.1 34 (60 * j + i)) 0 100 i = 0
      · rw [if_pos c] at ih
        refine r_iload3 dX9_areHundredths_4 ?_
        refine r_aload0 dX9_areHundredths_5 ?_
        refine r_getR dX9_areHundredths_6 fl_X9_13 rfl rfl ?_
        refine r_iload1 dX9_areHundredths_9 ?_
        refine r_ialdN dX9_areHundredths_10 rfl hj ?_
        refine r_icmpge (tgt := 47) dX9_areHundredths_11 (by decide) (fun c9 => absurd c9 (by rw [z1]; exact nI_ge (by omega) (by omega))) (fun _ => ?_)
        refine r_iload2 dX9_areHundredths_14 ?_
        refine r_ifeq (tgt := 39) dX9_areHundredths_15 (by decide) (fun _ => ?_) (fun c9 => absurd (c) c9)
        refine r_iconst_0 dX9_areHundredths_39 ?_
        refine r_istore2 dX9_areHundredths_40 rfl (by decide) ?_
        refine r_iinc3_1 dX9_areHundredths_41 rfl (by decide) ?_
        refine r_goto (tgt := 4) dX9_areHundredths_44 (by decide) ?_
        rw [nI_1]
        exact ih
      · rw [if_neg c] at ih
        by_cases d : h.1 34 (60 * j + i) < 0 ∨ 100 < h.1 34 (60 * j + i)
        · rw [if_pos d] at ih
          refine r_iload3 dX9_areHundredths_4 ?_
          refine r_aload0 dX9_areHundredths_5 ?_
          refine r_getR dX9_areHundredths_6 fl_X9_13 rfl rfl ?_
          refine r_iload1 dX9_areHundredths_9 ?_
          refine r_ialdN dX9_areHundredths_10 rfl hj ?_
          refine r_icmpge (tgt := 47) dX9_areHundredths_11 (by decide) (fun c9 => absurd c9 (by rw [z1]; exact nI_ge (by omega) (by omega))) (fun _ => ?_)
          refine r_iload2 dX9_areHundredths_14 ?_
          refine r_ifeq (tgt := 39) dX9_areHundredths_15 (by decide) (fun c9 => absurd c9 (c)) (fun _ => ?_)
          refine r_aload0 dX9_areHundredths_18 ?_
          refine r_iload1 dX9_areHundredths_19 ?_
          refine r_iload3 dX9_areHundredths_20 ?_
          refine r_cV2I dX9_areHundredths_21 mm_X9_item im_X9_item se_X9_item ml_X9_242 rfl rfl rfl (c_X9_item j i h hj (by omega)) (by decide) (Nat.le_of_ble_eq_true rfl) ?_
          refine r_i2l dX9_areHundredths_24 ?_
          refine r_lconst_0 dX9_areHundredths_25 ?_
          refine r_ldc2 ct_X9_160 dX9_areHundredths_26 ?_
          refine r_cS3I dX9_areHundredths_29 mm_X9_in st_X9_in ml_X9_74 (c_inI_n (lo := 0) (hi := 100) h (by decide) (by decide) d) (by decide) (Nat.le_of_ble_eq_true rfl) ?_
          refine r_ifeq (tgt := 39) dX9_areHundredths_32 (by decide) (fun _ => ?_) (fun c9 => absurd (rfl) c9)
          refine r_iconst_0 dX9_areHundredths_39 ?_
          refine r_istore2 dX9_areHundredths_40 rfl (by decide) ?_
          refine r_iinc3_1 dX9_areHundredths_41 rfl (by decide) ?_
          refine r_goto (tgt := 4) dX9_areHundredths_44 (by decide) ?_
          rw [nI_1]
          exact ih
        · rw [if_neg d] at ih
          refine r_iload3 dX9_areHundredths_4 ?_
          refine r_aload0 dX9_areHundredths_5 ?_
          refine r_getR dX9_areHundredths_6 fl_X9_13 rfl rfl ?_
          refine r_iload1 dX9_areHundredths_9 ?_
          refine r_ialdN dX9_areHundredths_10 rfl hj ?_
          refine r_icmpge (tgt := 47) dX9_areHundredths_11 (by decide) (fun c9 => absurd c9 (by rw [z1]; exact nI_ge (by omega) (by omega))) (fun _ => ?_)
          refine r_iload2 dX9_areHundredths_14 ?_
          refine r_ifeq (tgt := 39) dX9_areHundredths_15 (by decide) (fun c9 => absurd c9 (c)) (fun _ => ?_)
          refine r_aload0 dX9_areHundredths_18 ?_
          refine r_iload1 dX9_areHundredths_19 ?_
          refine r_iload3 dX9_areHundredths_20 ?_
          refine r_cV2I dX9_areHundredths_21 mm_X9_item im_X9_item se_X9_item ml_X9_242 rfl rfl rfl (c_X9_item j i h hj (by omega)) (by decide) (Nat.le_of_ble_eq_true rfl) ?_
          refine r_i2l dX9_areHundredths_24 ?_
          refine r_lconst_0 dX9_areHundredths_25 ?_
          refine r_ldc2 ct_X9_160 dX9_areHundredths_26 ?_
          refine r_cS3I dX9_areHundredths_29 mm_X9_in st_X9_in ml_X9_74 (c_inI_y (lo := 0) (hi := 100) h (by decide) (by decide) (fun q => d (Or.inl q)) (fun q => d (Or.inr q))) (by decide) (Nat.le_of_ble_eq_true rfl) ?_
          refine r_ifeq (tgt := 39) dX9_areHundredths_32 (by decide) (fun c9 => absurd c9 (by decide)) (fun _ => ?_)
          refine r_iconst_1 dX9_areHundredths_35 ?_
          refine r_goto (tgt := 40) dX9_areHundredths_36 (by decide) ?_
          refine r_istore2 dX9_areHundredths_40 rfl (by decide) ?_
          refine r_iinc3_1 dX9_areHundredths_41 rfl (by decide) ?_
          refine r_goto (tgt := 4) dX9_areHundredths_44 (by decide) ?_
          rw [nI_1]
          exact ih
  have k0 := key (mz h j) 0 (by omega)
  have e0 : fWithin (fun i => h.1 34 (60 * j + i)) 0 100 0 = 1 := if_pos (fun j hj => by omega)
  rw [e0] at k0
  exact k0
theorem c_X9_noShares_null (j : Nat) (h : Hp) (hj : j < 4) (hl : h.1 32 j < 0) : Rn 2 MX9_noShares [.ref 31, .int (nI j)] h (EI (-11) (pI h 31 4 1)) := by
  refine rn_of mm_X9_noShares (le_b rfl) rfl ?_
  refine r_aload0 dX9_noShares_0 ?_
  refine r_getR dX9_noShares_1 fl_X9_7 rfl rfl ?_
  refine r_iload1 dX9_noShares_4 ?_
  refine r_ialdN dX9_noShares_5 rfl hj ?_
  refine r_ifge (tgt := 15) dX9_noShares_6 (by decide) (fun c9 => absurd c9 (fun q => absurd hl (Int32.not_lt.mpr q))) (fun _ => ?_)
  refine r_aload0 dX9_noShares_9 ?_
  refine r_iconst_1 dX9_noShares_10 ?_
  refine r_cV1I dX9_noShares_11 mm_X9_met im_X9_met se_X9_met ml_X9_84 rfl rfl rfl (c_X9_met 1 h) (by decide) (Nat.le_of_ble_eq_true rfl) ?_
  exact r_iretE dX9_noShares_14 rfl (rfl) (rfl)
theorem c_X9_noShares_y (j : Nat) (h : Hp) (hj : j < 4) (hS : MS4 h) (hl : ¬ h.1 32 j < 0) (hw : fWithin (fun i => h.1 34 (60 * j + i)) 0 100 (mz h j) = 1) : Rn 2 MX9_noShares [.ref 31, .int (nI j)] h (EI 0 h) := by
  have r := c_X9_areHundredths j h hj hS
  rw [hw] at r
  refine rn_of mm_X9_noShares (le_b rfl) rfl ?_
  refine r_aload0 dX9_noShares_0 ?_
  refine r_getR dX9_noShares_1 fl_X9_7 rfl rfl ?_
  refine r_iload1 dX9_noShares_4 ?_
  refine r_ialdN dX9_noShares_5 rfl hj ?_
  refine r_ifge (tgt := 15) dX9_noShares_6 (by decide) (fun _ => ?_) (fun c9 => absurd (Int32.not_lt.mp hl) c9)
  refine r_aload0 dX9_noShares_15 ?_
  refine r_iload1 dX9_noShares_16 ?_
  refine r_cV1I dX9_noShares_17 mm_X9_areHundredths im_X9_areHundredths se_X9_areHundredths ml_X9_245 rfl rfl rfl (r) (by decide) (Nat.le_of_ble_eq_true rfl) ?_
  refine r_ifeq (tgt := 27) dX9_noShares_20 (by decide) (fun c9 => absurd c9 (by decide)) (fun _ => ?_)
  refine r_iconst_0 dX9_noShares_23 ?_
  refine r_goto (tgt := 29) dX9_noShares_24 (by decide) ?_
  exact r_iretE dX9_noShares_29 rfl (rfl) (rfl)
theorem c_X9_noShares_n (j : Nat) (h : Hp) (hj : j < 4) (hS : MS4 h) (hl : ¬ h.1 32 j < 0) (hw : fWithin (fun i => h.1 34 (60 * j + i)) 0 100 (mz h j) = 0) : Rn 2 MX9_noShares [.ref 31, .int (nI j)] h (EI (-3) h) := by
  have r := c_X9_areHundredths j h hj hS
  rw [hw] at r
  refine rn_of mm_X9_noShares (le_b rfl) rfl ?_
  refine r_aload0 dX9_noShares_0 ?_
  refine r_getR dX9_noShares_1 fl_X9_7 rfl rfl ?_
  refine r_iload1 dX9_noShares_4 ?_
  refine r_ialdN dX9_noShares_5 rfl hj ?_
  refine r_ifge (tgt := 15) dX9_noShares_6 (by decide) (fun _ => ?_) (fun c9 => absurd (Int32.not_lt.mp hl) c9)
  refine r_aload0 dX9_noShares_15 ?_
  refine r_iload1 dX9_noShares_16 ?_
  refine r_cV1I dX9_noShares_17 mm_X9_areHundredths im_X9_areHundredths se_X9_areHundredths ml_X9_245 rfl rfl rfl (r) (by decide) (Nat.le_of_ble_eq_true rfl) ?_
  refine r_ifeq (tgt := 27) dX9_noShares_20 (by decide) (fun _ => ?_) (fun c9 => absurd (rfl) c9)
  refine r_bipush bv_m3 dX9_noShares_27 ?_
  exact r_iretE dX9_noShares_29 rfl (rfl) (rfl)
/-- how far it goes while p -/
def upF (p : Nat → Bool) : Nat → Nat → Nat
  | 0, i => i
  | f + 1, i => if p i = true then upF p f (i + 1) else i
theorem upF_le (p : Nat → Bool) : ∀ f i, upF p f i ≤ i + f ∧ i ≤ upF p f i := by
  intro f
  induction f with
  | zero => intro i; exact ⟨Nat.le_refl _, Nat.le_refl _⟩
  | succ f ih =>
    intro i
    rw [upF]
    split
    · have := ih (i + 1); omega
    · omega
def csF (r : Int32) (T v : Nat) : Nat := upF (fun c => decide (rdN (100 * c) T r < v)) (T + 1) 0
def csG (r : Int32) (T v : Nat) : Nat := upF (fun c => decide (rdN (100 * c) T r = v)) (T + 1 - csF r T v) (csF r T v)
abbrev CS : Type := Int32 × Int32 × Int32
def csS (a : Nat → Int32) (r : Int32) (T i : Nat) (s : CS) : CS := (s.1 + nI (csF r T (a i).toNatClampNeg), s.2.1 + (nI (csG r T (a i).toNatClampNeg) - 1), if s.2.2 = 0 then 0 else if csF r T (a i).toNatClampNeg < csG r T (a i).toNatClampNeg then 1 else 0)
def csE (T : Nat) (s : CS) : Int32 := if s.2.2 = 0 then 0 else if nI T < s.1 then 0 else if s.2.1 < nI T then 0 else 1
def csR (a : Nat → Int32) (r : Int32) (T n : Nat) : Int32 := csE T (lp (csS a r T) 0 n (0, 0, 1))
theorem rdN_lt (X Y : Nat) (r : Int32) : rdN X Y r ≤ X + 1 := by
  have hd : X / Y ≤ X := Nat.div_le_self ..
  unfold rdN
  repeat (first | omega | split)
theorem fW_at {a : Nat → Int32} {lo hi : Int32} {n i : Nat} (h : fWithin a lo hi n = 1) (hn : i < n) : ¬ a i < lo ∧ a i ≤ hi := by
  unfold fWithin at h
  by_cases c : ∀ j, j < n → ¬ a j < lo ∧ a j ≤ hi
  · exact c i hn
  · rw [if_neg c] at h; exact absurd h (by decide)
theorem c_X9_canShare (j T : Nat) (r : Int32) (h : Hp) (hj : j < 4) (hS : MS4 h) (hT : 1 ≤ T) (hT2 : T ≤ 300) (hw : fWithin (fun i => h.1 34 (60 * j + i)) 0 100 (mz h j) = 1) : Rn 1 MX9_canShare [.ref 31, .int (nI j), .int r, .int (nI T)] h (EI (csR (fun i => h.1 34 (60 * j + i)) r T (mz h j)) h) := by
  obtain ⟨z1, z2⟩ := hS j hj
  refine rn_of mm_X9_canShare (le_b rfl) rfl ?_
  refine r_iconst_0 dX9_canShare_0 ?_
  refine r_istore4 dX9_canShare_1 rfl (by decide) ?_
  refine r_iconst_0 dX9_canShare_3 ?_
  refine r_istore5 dX9_canShare_4 rfl (by decide) ?_
  refine r_iconst_1 dX9_canShare_6 ?_
  refine r_istore6 dX9_canShare_7 rfl (by decide) ?_
  refine r_iconst_0 dX9_canShare_9 ?_
  refine r_istore7 dX9_canShare_10 rfl (by decide) ?_
  refine lpA (csS (fun i => h.1 34 (60 * j + i)) r T) (fun i s => ∀ x8 x9, Aw 1 MX9_canShare (Kp (EI (csR (fun i => h.1 34 (60 * j + i)) r T (mz h j)) h)) 12 [some (.ref 31), some (.int (nI j)), some (.int r), some (.int (nI T)), some (.int s.1), some (.int s.2.1), some (.int s.2.2), some (.int (nI i)), x8, x9] [] h) (mz h j) ?_ (0, 0, 1) ?_ _ _
  · intro i s hi k x8 x9
    have hat := fW_at hw hi
    obtain ⟨v, hv, ev⟩ := nI_of2 (M := 100) (n := 100) (by decide) hat.1 hat.2
    have ev : h.1 34 (60 * j + i) = nI v := ev
    have ecl : (h.1 34 (60 * j + i)).toNatClampNeg = v := by rw [ev, nI_clamp (by omega)]
    unfold csS at k
    dsimp only at k
    rw [ecl] at k
    have rit := c_X9_item j i h hj (by omega)
    rw [ev] at rit
    have hun : ∀ c : Nat, c ≤ T → (100 : Int64) * (nI c).toInt64 = lN (100 * c) := fun c hc => by
      rw [nI_l (by omega)]; exact lN_mul 100 c
    refine r_iload7 dX9_canShare_12 ?_
    refine r_aload0 dX9_canShare_14 ?_
    refine r_getR dX9_canShare_15 fl_X9_13 rfl rfl ?_
    refine r_iload1 dX9_canShare_18 ?_
    refine r_ialdN dX9_canShare_19 rfl hj ?_
    refine r_icmpge (tgt := 145) dX9_canShare_20 (by decide) (fun c9 => absurd c9 (by rw [z1]; exact nI_ge hi (by omega))) (fun _ => ?_)
    refine r_iconst_0 dX9_canShare_23 ?_
    refine r_istore8 dX9_canShare_24 rfl (by decide) ?_
    have tail : Aw 1 MX9_canShare (Kp (EI (csR (fun i => h.1 34 (60 * j + i)) r T (mz h j)) h)) 104 [some (.ref 31), some (.int (nI j)), some (.int r), some (.int (nI T)), some (.int s.1), some (.int s.2.1), some (.int s.2.2), some (.int (nI i)), some (.int (nI (csF r T v))), some (.int (nI (csG r T v)))] [] h := by
      have hle := upF_le (fun c => decide (rdN (100 * c) T r < v)) (T + 1) 0
      have hle2 := upF_le (fun c => decide (rdN (100 * c) T r = v)) (T + 1 - csF r T v) (csF r T v)
      have g1 : csF r T v ≤ T + 1 := by unfold csF; omega
      have g2 : csG r T v ≤ T + 1 := by unfold csG; omega
      by_cases c : s.2.2 = 0
      · rw [if_pos c] at k
        refine r_iload6 dX9_canShare_104 ?_
        refine r_ifeq (tgt := 120) dX9_canShare_106 (by decide) (fun _ => ?_) (fun c9 => absurd (c) c9)
        refine r_iconst_0 dX9_canShare_120 ?_
        refine r_istore6 dX9_canShare_121 rfl (by decide) ?_
        refine r_iload4 dX9_canShare_123 ?_
        refine r_iload8 dX9_canShare_125 ?_
        refine r_iadd dX9_canShare_127 ?_
        refine r_istore4 dX9_canShare_128 rfl (by decide) ?_
        refine r_iload5 dX9_canShare_130 ?_
        refine r_iload9 dX9_canShare_132 ?_
        refine r_iconst_1 dX9_canShare_134 ?_
        refine r_isub dX9_canShare_135 ?_
        refine r_iadd dX9_canShare_136 ?_
        refine r_istore5 dX9_canShare_137 rfl (by decide) ?_
        refine r_iinc7_1 dX9_canShare_139 rfl (by decide) ?_
        refine r_goto (tgt := 12) dX9_canShare_142 (by decide) ?_
        rw [nI_1]
        exact k _ _
      · rw [if_neg c] at k
        by_cases d : csF r T v < csG r T v
        · rw [if_pos d] at k
          refine r_iload6 dX9_canShare_104 ?_
          refine r_ifeq (tgt := 120) dX9_canShare_106 (by decide) (fun c9 => absurd c9 (c)) (fun _ => ?_)
          refine r_iload9 dX9_canShare_109 ?_
          refine r_iload8 dX9_canShare_111 ?_
          refine r_icmple (tgt := 120) dX9_canShare_113 (by decide) (fun c9 => absurd c9 (nI_ge d (by omega))) (fun _ => ?_)
          refine r_iconst_1 dX9_canShare_116 ?_
          refine r_goto (tgt := 121) dX9_canShare_117 (by decide) ?_
          refine r_istore6 dX9_canShare_121 rfl (by decide) ?_
          refine r_iload4 dX9_canShare_123 ?_
          refine r_iload8 dX9_canShare_125 ?_
          refine r_iadd dX9_canShare_127 ?_
          refine r_istore4 dX9_canShare_128 rfl (by decide) ?_
          refine r_iload5 dX9_canShare_130 ?_
          refine r_iload9 dX9_canShare_132 ?_
          refine r_iconst_1 dX9_canShare_134 ?_
          refine r_isub dX9_canShare_135 ?_
          refine r_iadd dX9_canShare_136 ?_
          refine r_istore5 dX9_canShare_137 rfl (by decide) ?_
          refine r_iinc7_1 dX9_canShare_139 rfl (by decide) ?_
          refine r_goto (tgt := 12) dX9_canShare_142 (by decide) ?_
          rw [nI_1]
          exact k _ _
        · rw [if_neg d] at k
          refine r_iload6 dX9_canShare_104 ?_
          refine r_ifeq (tgt := 120) dX9_canShare_106 (by decide) (fun c9 => absurd c9 (c)) (fun _ => ?_)
          refine r_iload9 dX9_canShare_109 ?_
          refine r_iload8 dX9_canShare_111 ?_
          refine r_icmple (tgt := 120) dX9_canShare_113 (by decide) (fun _ => ?_) (fun c9 => absurd (nI_le (by omega) (by omega)) c9)
          refine r_iconst_0 dX9_canShare_120 ?_
          refine r_istore6 dX9_canShare_121 rfl (by decide) ?_
          refine r_iload4 dX9_canShare_123 ?_
          refine r_iload8 dX9_canShare_125 ?_
          refine r_iadd dX9_canShare_127 ?_
          refine r_istore4 dX9_canShare_128 rfl (by decide) ?_
          refine r_iload5 dX9_canShare_130 ?_
          refine r_iload9 dX9_canShare_132 ?_
          refine r_iconst_1 dX9_canShare_134 ?_
          refine r_isub dX9_canShare_135 ?_
          refine r_iadd dX9_canShare_136 ?_
          refine r_istore5 dX9_canShare_137 rfl (by decide) ?_
          refine r_iinc7_1 dX9_canShare_139 rfl (by decide) ?_
          refine r_goto (tgt := 12) dX9_canShare_142 (by decide) ?_
          rw [nI_1]
          exact k _ _
    have second : ∀ f c, c + f = T + 1 → upF (fun c => decide (rdN (100 * c) T r = v)) f c = csG r T v → Aw 1 MX9_canShare (Kp (EI (csR (fun i => h.1 34 (60 * j + i)) r T (mz h j)) h)) 67 [some (.ref 31), some (.int (nI j)), some (.int r), some (.int (nI T)), some (.int s.1), some (.int s.2.1), some (.int s.2.2), some (.int (nI i)), some (.int (nI (csF r T v))), some (.int (nI c))] [] h := by
      intro f
      induction f with
      | zero =>
        intro c hc he
        have he : c = csG r T v := he
        refine r_iload9 dX9_canShare_67 ?_
        refine r_iload3 dX9_canShare_69 ?_
        refine r_icmpgt (tgt := 104) dX9_canShare_70 (by decide) (fun _ => ?_) (fun c9 => absurd (nI_lt (by omega) (by omega)) c9)
        rw [he]
        exact tail
      | succ f ih =>
        intro c hc he
        have hb := rdN_lt (100 * c) T r
        refine r_iload9 dX9_canShare_67 ?_
        refine r_iload3 dX9_canShare_69 ?_
        refine r_icmpgt (tgt := 104) dX9_canShare_70 (by decide) (fun c9 => absurd c9 (nI_nlt (by omega) (by omega))) (fun _ => ?_)
        refine r_ldc2 ct_X9_160 dX9_canShare_73 ?_
        refine r_iload9 dX9_canShare_76 ?_
        refine r_i2l dX9_canShare_78 ?_
        refine r_lmul dX9_canShare_79 ?_
        refine r_iload3 dX9_canShare_80 ?_
        refine r_i2l dX9_canShare_81 ?_
        rw [hun c (by omega), nI_l (n := T) (by omega)]
        refine r_iload2 dX9_canShare_82 ?_
        refine r_cS3L dX9_canShare_83 mm_X9_rounded st_X9_rounded ml_X9_166 (c_X9_rounded (100 * c) T r h (by omega) (by omega) (by omega)) (by decide) (Nat.le_of_ble_eq_true rfl) ?_
        refine r_aload0 dX9_canShare_86 ?_
        refine r_iload1 dX9_canShare_87 ?_
        refine r_iload7 dX9_canShare_88 ?_
        refine r_cV2I dX9_canShare_90 mm_X9_item im_X9_item se_X9_item ml_X9_242 rfl rfl rfl (rit) (by decide) (Nat.le_of_ble_eq_true rfl) ?_
        refine r_i2l dX9_canShare_93 ?_
        rw [nI_l (n := v) (by omega)]
        rw [upF] at he
        by_cases d : rdN (100 * c) T r = v
        · rw [if_pos (decide_eq_true d)] at he
          refine r_lne (tgt := 104) dX9_canShare_94 dX9_canShare_95 (by decide) (fun c9 => absurd (by rw [d]) c9) (fun _ => ?_)
          refine r_iinc9_1 dX9_canShare_98 rfl (by decide) ?_
          refine r_goto (tgt := 67) dX9_canShare_101 (by decide) ?_
          rw [nI_1]
          exact ih (c + 1) (by omega) he
        · rw [if_neg (by simp [d])] at he
          refine r_lne (tgt := 104) dX9_canShare_94 dX9_canShare_95 (by decide) (fun _ => ?_) (fun c9 => absurd c9 (fun q => d ((pk_lEQ (by omega) (by omega)).mp q)))
          rw [he]
          exact tail
    have first : ∀ f c, c + f = T + 1 → upF (fun c => decide (rdN (100 * c) T r < v)) f c = csF r T v → Aw 1 MX9_canShare (Kp (EI (csR (fun i => h.1 34 (60 * j + i)) r T (mz h j)) h)) 26 [some (.ref 31), some (.int (nI j)), some (.int r), some (.int (nI T)), some (.int s.1), some (.int s.2.1), some (.int s.2.2), some (.int (nI i)), some (.int (nI c)), x9] [] h := by
      intro f
      induction f with
      | zero =>
        intro c hc he
        have he : c = csF r T v := he
        refine r_iload8 dX9_canShare_26 ?_
        refine r_iload3 dX9_canShare_28 ?_
        refine r_icmpgt (tgt := 63) dX9_canShare_29 (by decide) (fun _ => ?_) (fun c9 => absurd (nI_lt (by omega) (by omega)) c9)
        refine r_iload8 dX9_canShare_63 ?_
        refine r_istore9 dX9_canShare_65 rfl (by decide) ?_
        rw [he]
        exact second (T + 1 - csF r T v) (csF r T v) (by omega) rfl
      | succ f ih =>
        intro c hc he
        have hb := rdN_lt (100 * c) T r
        refine r_iload8 dX9_canShare_26 ?_
        refine r_iload3 dX9_canShare_28 ?_
        refine r_icmpgt (tgt := 63) dX9_canShare_29 (by decide) (fun c9 => absurd c9 (nI_nlt (by omega) (by omega))) (fun _ => ?_)
        refine r_ldc2 ct_X9_160 dX9_canShare_32 ?_
        refine r_iload8 dX9_canShare_35 ?_
        refine r_i2l dX9_canShare_37 ?_
        refine r_lmul dX9_canShare_38 ?_
        refine r_iload3 dX9_canShare_39 ?_
        refine r_i2l dX9_canShare_40 ?_
        rw [hun c (by omega), nI_l (n := T) (by omega)]
        refine r_iload2 dX9_canShare_41 ?_
        refine r_cS3L dX9_canShare_42 mm_X9_rounded st_X9_rounded ml_X9_166 (c_X9_rounded (100 * c) T r h (by omega) (by omega) (by omega)) (by decide) (Nat.le_of_ble_eq_true rfl) ?_
        refine r_aload0 dX9_canShare_45 ?_
        refine r_iload1 dX9_canShare_46 ?_
        refine r_iload7 dX9_canShare_47 ?_
        refine r_cV2I dX9_canShare_49 mm_X9_item im_X9_item se_X9_item ml_X9_242 rfl rfl rfl (rit) (by decide) (Nat.le_of_ble_eq_true rfl) ?_
        refine r_i2l dX9_canShare_52 ?_
        rw [nI_l (n := v) (by omega)]
        rw [upF] at he
        by_cases d : rdN (100 * c) T r < v
        · rw [if_pos (decide_eq_true d)] at he
          refine r_lge (tgt := 63) dX9_canShare_53 dX9_canShare_54 (by decide) (fun c9 => absurd c9 (fun q => by have := (pk_lLE (by omega) (by omega)).mp q; omega)) (fun _ => ?_)
          refine r_iinc8_1 dX9_canShare_57 rfl (by decide) ?_
          refine r_goto (tgt := 26) dX9_canShare_60 (by decide) ?_
          rw [nI_1]
          exact ih (c + 1) (by omega) he
        · rw [if_neg (by simp [d])] at he
          refine r_lge (tgt := 63) dX9_canShare_53 dX9_canShare_54 (by decide) (fun _ => ?_) (fun c9 => absurd ((pk_lLE (by omega) (by omega)).mpr (by omega)) c9)
          refine r_iload8 dX9_canShare_63 ?_
          refine r_istore9 dX9_canShare_65 rfl (by decide) ?_
          rw [he]
          exact second (T + 1 - csF r T v) (csF r T v) (by omega) rfl
    exact first (T + 1) 0 (by omega) rfl
  · intro x8 x9
    have q : csE T (lp (csS (fun i => h.1 34 (60 * j + i)) r T) 0 (mz h j) (0, 0, 1)) = csR (fun i => h.1 34 (60 * j + i)) r T (mz h j) := rfl
    rw [← q]
    generalize lp (csS (fun i => h.1 34 (60 * j + i)) r T) 0 (mz h j) (0, 0, 1) = s
    unfold csE
    refine r_iload7 dX9_canShare_12 ?_
    refine r_aload0 dX9_canShare_14 ?_
    refine r_getR dX9_canShare_15 fl_X9_13 rfl rfl ?_
    refine r_iload1 dX9_canShare_18 ?_
    refine r_ialdN dX9_canShare_19 rfl hj ?_
    refine r_icmpge (tgt := 145) dX9_canShare_20 (by decide) (fun _ => ?_) (fun c9 => absurd (by rw [z1]; exact Int32.le_refl _) c9)
    by_cases c : s.2.2 = 0
    · rw [if_pos c]
      refine r_iload6 dX9_canShare_145 ?_
      refine r_ifeq (tgt := 166) dX9_canShare_147 (by decide) (fun _ => ?_) (fun c9 => absurd (c) c9)
      refine r_iconst_0 dX9_canShare_166 ?_
      exact r_zretE dX9_canShare_167 rfl (by decide) (rfl) (rfl)
    · rw [if_neg c]
      by_cases d : nI T < s.1
      · rw [if_pos d]
        refine r_iload6 dX9_canShare_145 ?_
        refine r_ifeq (tgt := 166) dX9_canShare_147 (by decide) (fun c9 => absurd c9 (c)) (fun _ => ?_)
        refine r_iload4 dX9_canShare_150 ?_
        refine r_iload3 dX9_canShare_152 ?_
        refine r_icmpgt (tgt := 166) dX9_canShare_153 (by decide) (fun _ => ?_) (fun c9 => absurd (d) c9)
        refine r_iconst_0 dX9_canShare_166 ?_
        exact r_zretE dX9_canShare_167 rfl (by decide) (rfl) (rfl)
      · rw [if_neg d]
        by_cases e : s.2.1 < nI T
        · rw [if_pos e]
          refine r_iload6 dX9_canShare_145 ?_
          refine r_ifeq (tgt := 166) dX9_canShare_147 (by decide) (fun c9 => absurd c9 (c)) (fun _ => ?_)
          refine r_iload4 dX9_canShare_150 ?_
          refine r_iload3 dX9_canShare_152 ?_
          refine r_icmpgt (tgt := 166) dX9_canShare_153 (by decide) (fun c9 => absurd c9 (d)) (fun _ => ?_)
          refine r_iload3 dX9_canShare_156 ?_
          refine r_iload5 dX9_canShare_157 ?_
          refine r_icmpgt (tgt := 166) dX9_canShare_159 (by decide) (fun _ => ?_) (fun c9 => absurd (e) c9)
          refine r_iconst_0 dX9_canShare_166 ?_
          exact r_zretE dX9_canShare_167 rfl (by decide) (rfl) (rfl)
        · rw [if_neg e]
          refine r_iload6 dX9_canShare_145 ?_
          refine r_ifeq (tgt := 166) dX9_canShare_147 (by decide) (fun c9 => absurd c9 (c)) (fun _ => ?_)
          refine r_iload4 dX9_canShare_150 ?_
          refine r_iload3 dX9_canShare_152 ?_
          refine r_icmpgt (tgt := 166) dX9_canShare_153 (by decide) (fun c9 => absurd c9 (d)) (fun _ => ?_)
          refine r_iload3 dX9_canShare_156 ?_
          refine r_iload5 dX9_canShare_157 ?_
          refine r_icmpgt (tgt := 166) dX9_canShare_159 (by decide) (fun c9 => absurd c9 (e)) (fun _ => ?_)
          refine r_iconst_1 dX9_canShare_162 ?_
          refine r_goto (tgt := 167) dX9_canShare_163 (by decide) ?_
          exact r_zretE dX9_canShare_167 rfl (by decide) (rfl) (rfl)
theorem c_X9_shares_bad (s r w : Int32) (h : Hp) (hb : ¬ okS s ∨ ¬ okRu r ∨ w < 0 ∨ 1 < w) : Rn 2 MX9_shares [.ref 31, .int s, .int r, .int w] h (EI (-2) h) := by
  refine rn_of mm_X9_shares (le_b rfl) rfl ?_
  by_cases c : okS s
  · by_cases c2 : okRu r
    · refine r_iload1 dX9_shares_0 ?_
      refine r_cS1I dX9_shares_1 mm_X9_isSheet st_X9_isSheet ml_X9_78 (c_mS_y h c) (by decide) (Nat.le_of_ble_eq_true rfl) ?_
      refine r_ifeq (tgt := 24) dX9_shares_4 (by decide) (fun c9 => absurd c9 (by decide)) (fun _ => ?_)
      refine r_iload2 dX9_shares_7 ?_
      refine r_cS1I dX9_shares_8 mm_X9_isRule st_X9_isRule ml_X9_248 (c_mR_y h c2) (by decide) (Nat.le_of_ble_eq_true rfl) ?_
      refine r_ifeq (tgt := 24) dX9_shares_11 (by decide) (fun c9 => absurd c9 (by decide)) (fun _ => ?_)
      refine r_iload3 dX9_shares_14 ?_
      refine r_i2l dX9_shares_15 ?_
      refine r_lconst_0 dX9_shares_16 ?_
      refine r_lconst_1 dX9_shares_17 ?_
      refine r_cS3I dX9_shares_18 mm_X9_in st_X9_in ml_X9_74 (c_inI_n (lo := 0) (hi := 1) h (by decide) (by decide) ((hb.resolve_left (fun q => q c)).resolve_left (fun q => q c2))) (by decide) (Nat.le_of_ble_eq_true rfl) ?_
      refine r_ifne (tgt := 27) dX9_shares_21 (by decide) (fun c9 => absurd (rfl) c9) (fun _ => ?_)
      refine r_bipush bv_m2 dX9_shares_24 ?_
      exact r_iretE dX9_shares_26 rfl (rfl) (rfl)
    · refine r_iload1 dX9_shares_0 ?_
      refine r_cS1I dX9_shares_1 mm_X9_isSheet st_X9_isSheet ml_X9_78 (c_mS_y h c) (by decide) (Nat.le_of_ble_eq_true rfl) ?_
      refine r_ifeq (tgt := 24) dX9_shares_4 (by decide) (fun c9 => absurd c9 (by decide)) (fun _ => ?_)
      refine r_iload2 dX9_shares_7 ?_
      refine r_cS1I dX9_shares_8 mm_X9_isRule st_X9_isRule ml_X9_248 (c_mR_n h c2) (by decide) (Nat.le_of_ble_eq_true rfl) ?_
      refine r_ifeq (tgt := 24) dX9_shares_11 (by decide) (fun _ => ?_) (fun c9 => absurd (rfl) c9)
      refine r_bipush bv_m2 dX9_shares_24 ?_
      exact r_iretE dX9_shares_26 rfl (rfl) (rfl)
  · refine r_iload1 dX9_shares_0 ?_
    refine r_cS1I dX9_shares_1 mm_X9_isSheet st_X9_isSheet ml_X9_78 (c_mS_n h c) (by decide) (Nat.le_of_ble_eq_true rfl) ?_
    refine r_ifeq (tgt := 24) dX9_shares_4 (by decide) (fun _ => ?_) (fun c9 => absurd (rfl) c9)
    refine r_bipush bv_m2 dX9_shares_24 ?_
    exact r_iretE dX9_shares_26 rfl (rfl) (rfl)
theorem c_X9_shares_no (j : Nat) (r w v : Int32) (h h1 : Hp) (hj : j < 4) (hr : okRu r) (w1 : ¬ w < 0) (w2 : ¬ 1 < w) (hv : ¬ v = 0) (hR : Rn 2 MX9_noShares [.ref 31, .int (nI j)] h (EI v h1)) : Rn 3 MX9_shares [.ref 31, .int (nI j), .int r, .int w] h (EI v h1) := by
  refine rn_of mm_X9_shares (le_b rfl) rfl ?_
  refine r_iload1 dX9_shares_0 ?_
  refine r_cS1I dX9_shares_1 mm_X9_isSheet st_X9_isSheet ml_X9_78 (c_mS_y h (okj hj)) (by decide) (Nat.le_of_ble_eq_true rfl) ?_
  refine r_ifeq (tgt := 24) dX9_shares_4 (by decide) (fun c9 => absurd c9 (by decide)) (fun _ => ?_)
  refine r_iload2 dX9_shares_7 ?_
  refine r_cS1I dX9_shares_8 mm_X9_isRule st_X9_isRule ml_X9_248 (c_mR_y h hr) (by decide) (Nat.le_of_ble_eq_true rfl) ?_
  refine r_ifeq (tgt := 24) dX9_shares_11 (by decide) (fun c9 => absurd c9 (by decide)) (fun _ => ?_)
  refine r_iload3 dX9_shares_14 ?_
  refine r_i2l dX9_shares_15 ?_
  refine r_lconst_0 dX9_shares_16 ?_
  refine r_lconst_1 dX9_shares_17 ?_
  refine r_cS3I dX9_shares_18 mm_X9_in st_X9_in ml_X9_74 (c_inI_y (lo := 0) (hi := 1) h (by decide) (by decide) w1 w2) (by decide) (Nat.le_of_ble_eq_true rfl) ?_
  refine r_ifne (tgt := 27) dX9_shares_21 (by decide) (fun _ => ?_) (fun c9 => absurd c9 (by decide))
  refine r_aload0 dX9_shares_27 ?_
  refine r_iload1 dX9_shares_28 ?_
  refine r_cV1I dX9_shares_29 mm_X9_noShares im_X9_noShares se_X9_noShares ml_X9_251 rfl rfl rfl (hR) (by decide) (Nat.le_of_ble_eq_true rfl) ?_
  refine r_istore4 dX9_shares_32 rfl (by decide) ?_
  refine r_iload4 dX9_shares_34 ?_
  refine r_ifeq (tgt := 42) dX9_shares_36 (by decide) (fun c9 => absurd c9 (hv)) (fun _ => ?_)
  refine r_iload4 dX9_shares_39 ?_
  exact r_iretE dX9_shares_41 rfl (rfl) (rfl)
def shD (c : Nat → Int32) : Nat → Int32 → Int32 → Int32 × Int32
  | 0, s, l => (s, l)
  | T + 1, s, l => shD c T (if c (T + 1) = 0 then s else s + 1) (if c (T + 1) = 0 then l else nI (T + 1))
theorem c_X9_shares (j : Nat) (r w : Int32) (h : Hp) (hj : j < 4) (hS : MS4 h) (hr : okRu r) (w1 : ¬ w < 0) (w2 : ¬ 1 < w) (hl : ¬ h.1 32 j < 0) (hw : fWithin (fun i => h.1 34 (60 * j + i)) 0 100 (mz h j) = 1) : Rn 3 MX9_shares [.ref 31, .int (nI j), .int r, .int w] h (EI (if w = 0 then (shD (fun T => csR (fun i => h.1 34 (60 * j + i)) r T (mz h j)) 300 0 (-1)).1 else (shD (fun T => csR (fun i => h.1 34 (60 * j + i)) r T (mz h j)) 300 0 (-1)).2) h) := by
  refine rn_of mm_X9_shares (le_b rfl) rfl ?_
  refine r_iload1 dX9_shares_0 ?_
  refine r_cS1I dX9_shares_1 mm_X9_isSheet st_X9_isSheet ml_X9_78 (c_mS_y h (okj hj)) (by decide) (Nat.le_of_ble_eq_true rfl) ?_
  refine r_ifeq (tgt := 24) dX9_shares_4 (by decide) (fun c9 => absurd c9 (by decide)) (fun _ => ?_)
  refine r_iload2 dX9_shares_7 ?_
  refine r_cS1I dX9_shares_8 mm_X9_isRule st_X9_isRule ml_X9_248 (c_mR_y h hr) (by decide) (Nat.le_of_ble_eq_true rfl) ?_
  refine r_ifeq (tgt := 24) dX9_shares_11 (by decide) (fun c9 => absurd c9 (by decide)) (fun _ => ?_)
  refine r_iload3 dX9_shares_14 ?_
  refine r_i2l dX9_shares_15 ?_
  refine r_lconst_0 dX9_shares_16 ?_
  refine r_lconst_1 dX9_shares_17 ?_
  refine r_cS3I dX9_shares_18 mm_X9_in st_X9_in ml_X9_74 (c_inI_y (lo := 0) (hi := 1) h (by decide) (by decide) w1 w2) (by decide) (Nat.le_of_ble_eq_true rfl) ?_
  refine r_ifne (tgt := 27) dX9_shares_21 (by decide) (fun _ => ?_) (fun c9 => absurd c9 (by decide))
  refine r_aload0 dX9_shares_27 ?_
  refine r_iload1 dX9_shares_28 ?_
  refine r_cV1I dX9_shares_29 mm_X9_noShares im_X9_noShares se_X9_noShares ml_X9_251 rfl rfl rfl (c_X9_noShares_y j h hj hS hl hw) (by decide) (Nat.le_of_ble_eq_true rfl) ?_
  refine r_istore4 dX9_shares_32 rfl (by decide) ?_
  refine r_iload4 dX9_shares_34 ?_
  refine r_ifeq (tgt := 42) dX9_shares_36 (by decide) (fun _ => ?_) (fun c9 => absurd (rfl) c9)
  refine r_iconst_0 dX9_shares_42 ?_
  refine r_istore5 dX9_shares_43 rfl (by decide) ?_
  refine r_iconst_m1 dX9_shares_45 ?_
  refine r_istore6 dX9_shares_46 rfl (by decide) ?_
  refine r_sipush sv_300 dX9_shares_48 ?_
  refine r_istore7 dX9_shares_51 rfl (by decide) ?_
  generalize hc : (fun T => csR (fun i => h.1 34 (60 * j + i)) r T (mz h j)) = c
  have key : ∀ T s l x8, T ≤ 300 → shD c T s l = shD c 300 0 (-1) → Aw 3 MX9_shares (Kp (EI (if w = 0 then (shD c 300 0 (-1)).1 else (shD c 300 0 (-1)).2) h)) 53 [some (.ref 31), some (.int (nI j)), some (.int r), some (.int w), some (.int 0), some (.int s), some (.int l), some (.int (nI T)), x8] [] h := by
    intro T
    induction T with
    | zero =>
      intro s l x8 hT he
      rw [← he, shD]
      dsimp only
      by_cases d : w = 0
      · rw [if_pos d]
        refine r_iload7 dX9_shares_53 ?_
        refine r_ifle (tgt := 103) dX9_shares_55 (by decide) (fun _ => ?_) (fun c9 => absurd (by decide) c9)
        refine r_iload3 dX9_shares_103 ?_
        refine r_ifne (tgt := 112) dX9_shares_104 (by decide) (fun c9 => absurd (d) c9) (fun _ => ?_)
        refine r_iload5 dX9_shares_107 ?_
        refine r_goto (tgt := 114) dX9_shares_109 (by decide) ?_
        exact r_iretE dX9_shares_114 rfl (rfl) (rfl)
      · rw [if_neg d]
        refine r_iload7 dX9_shares_53 ?_
        refine r_ifle (tgt := 103) dX9_shares_55 (by decide) (fun _ => ?_) (fun c9 => absurd (by decide) c9)
        refine r_iload3 dX9_shares_103 ?_
        refine r_ifne (tgt := 112) dX9_shares_104 (by decide) (fun _ => ?_) (fun c9 => absurd c9 (d))
        refine r_iload6 dX9_shares_112 ?_
        exact r_iretE dX9_shares_114 rfl (rfl) (rfl)
    | succ T ih =>
      intro s l x8 hT he
      rw [shD] at he
      have rc := c_X9_canShare j (T + 1) r h hj hS (by omega) hT hw
      have ec : csR (fun i => h.1 34 (60 * j + i)) r (T + 1) (mz h j) = c (T + 1) := by rw [← hc]
      rw [ec] at rc
      by_cases d : c (T + 1) = 0
      · rw [if_pos d, if_pos d] at he
        rw [d] at rc
        refine r_iload7 dX9_shares_53 ?_
        refine r_ifle (tgt := 103) dX9_shares_55 (by decide) (fun c9 => absurd c9 (nI_nle (by omega) (by omega))) (fun _ => ?_)
        refine r_aload0 dX9_shares_58 ?_
        refine r_iload1 dX9_shares_59 ?_
        refine r_iload2 dX9_shares_60 ?_
        refine r_iload7 dX9_shares_61 ?_
        refine r_cV3I dX9_shares_63 mm_X9_canShare im_X9_canShare se_X9_canShare ml_X9_254 rfl rfl rfl (rc) (by decide) (Nat.le_of_ble_eq_true rfl) ?_
        refine r_istore8 dX9_shares_66 rfl (by decide) ?_
        refine r_iload5 dX9_shares_68 ?_
        refine r_iload8 dX9_shares_70 ?_
        refine r_ifeq (tgt := 79) dX9_shares_72 (by decide) (fun _ => ?_) (fun c9 => absurd (rfl) c9)
        refine r_iconst_0 dX9_shares_79 ?_
        refine r_iadd dX9_shares_80 ?_
        refine r_istore5 dX9_shares_81 rfl (by decide) ?_
        refine r_iload8 dX9_shares_83 ?_
        refine r_ifeq (tgt := 93) dX9_shares_85 (by decide) (fun _ => ?_) (fun c9 => absurd (rfl) c9)
        refine r_iload6 dX9_shares_93 ?_
        refine r_istore6 dX9_shares_95 rfl (by decide) ?_
        refine r_iinc7_m1 dX9_shares_97 rfl (by decide) ?_
        refine r_goto (tgt := 53) dX9_shares_100 (by decide) ?_
        rw [pk_m1, i32_add0]
        exact ih s l _ (by omega) he
      · rw [if_neg d, if_neg d] at he
        refine r_iload7 dX9_shares_53 ?_
        refine r_ifle (tgt := 103) dX9_shares_55 (by decide) (fun c9 => absurd c9 (nI_nle (by omega) (by omega))) (fun _ => ?_)
        refine r_aload0 dX9_shares_58 ?_
        refine r_iload1 dX9_shares_59 ?_
        refine r_iload2 dX9_shares_60 ?_
        refine r_iload7 dX9_shares_61 ?_
        refine r_cV3I dX9_shares_63 mm_X9_canShare im_X9_canShare se_X9_canShare ml_X9_254 rfl rfl rfl (rc) (by decide) (Nat.le_of_ble_eq_true rfl) ?_
        refine r_istore8 dX9_shares_66 rfl (by decide) ?_
        refine r_iload5 dX9_shares_68 ?_
        refine r_iload8 dX9_shares_70 ?_
        refine r_ifeq (tgt := 79) dX9_shares_72 (by decide) (fun c9 => absurd c9 (d)) (fun _ => ?_)
        refine r_iconst_1 dX9_shares_75 ?_
        refine r_goto (tgt := 80) dX9_shares_76 (by decide) ?_
        refine r_iadd dX9_shares_80 ?_
        refine r_istore5 dX9_shares_81 rfl (by decide) ?_
        refine r_iload8 dX9_shares_83 ?_
        refine r_ifeq (tgt := 93) dX9_shares_85 (by decide) (fun c9 => absurd c9 (d)) (fun _ => ?_)
        refine r_iload7 dX9_shares_88 ?_
        refine r_goto (tgt := 95) dX9_shares_90 (by decide) ?_
        refine r_istore6 dX9_shares_95 rfl (by decide) ?_
        refine r_iinc7_m1 dX9_shares_97 rfl (by decide) ?_
        refine r_goto (tgt := 53) dX9_shares_100 (by decide) ?_
        rw [pk_m1]
        exact ih _ _ _ (by omega) he
  exact key 300 0 (-1) none (Nat.le_refl _) rfl
theorem c_X9_share_bad (s r w : Int32) (h : Hp) (hb : ¬ okS s ∨ ¬ okRu r ∨ w < 1 ∨ 300 < w) : Rn 2 MX9_share [.ref 31, .int s, .int r, .int w] h (EI (-2) h) := by
  refine rn_of mm_X9_share (le_b rfl) rfl ?_
  by_cases c : okS s
  · by_cases c2 : okRu r
    · refine r_iload1 dX9_share_0 ?_
      refine r_cS1I dX9_share_1 mm_X9_isSheet st_X9_isSheet ml_X9_78 (c_mS_y h c) (by decide) (Nat.le_of_ble_eq_true rfl) ?_
      refine r_ifeq (tgt := 26) dX9_share_4 (by decide) (fun c9 => absurd c9 (by decide)) (fun _ => ?_)
      refine r_iload2 dX9_share_7 ?_
      refine r_cS1I dX9_share_8 mm_X9_isRule st_X9_isRule ml_X9_248 (c_mR_y h c2) (by decide) (Nat.le_of_ble_eq_true rfl) ?_
      refine r_ifeq (tgt := 26) dX9_share_11 (by decide) (fun c9 => absurd c9 (by decide)) (fun _ => ?_)
      refine r_iload3 dX9_share_14 ?_
      refine r_i2l dX9_share_15 ?_
      refine r_lconst_1 dX9_share_16 ?_
      refine r_ldc2 ct_X9_258 dX9_share_17 ?_
      refine r_cS3I dX9_share_20 mm_X9_in st_X9_in ml_X9_74 (c_inI_n (lo := 1) (hi := 300) h (by decide) (by decide) ((hb.resolve_left (fun q => q c)).resolve_left (fun q => q c2))) (by decide) (Nat.le_of_ble_eq_true rfl) ?_
      refine r_ifne (tgt := 29) dX9_share_23 (by decide) (fun c9 => absurd (rfl) c9) (fun _ => ?_)
      refine r_bipush bv_m2 dX9_share_26 ?_
      exact r_iretE dX9_share_28 rfl (rfl) (rfl)
    · refine r_iload1 dX9_share_0 ?_
      refine r_cS1I dX9_share_1 mm_X9_isSheet st_X9_isSheet ml_X9_78 (c_mS_y h c) (by decide) (Nat.le_of_ble_eq_true rfl) ?_
      refine r_ifeq (tgt := 26) dX9_share_4 (by decide) (fun c9 => absurd c9 (by decide)) (fun _ => ?_)
      refine r_iload2 dX9_share_7 ?_
      refine r_cS1I dX9_share_8 mm_X9_isRule st_X9_isRule ml_X9_248 (c_mR_n h c2) (by decide) (Nat.le_of_ble_eq_true rfl) ?_
      refine r_ifeq (tgt := 26) dX9_share_11 (by decide) (fun _ => ?_) (fun c9 => absurd (rfl) c9)
      refine r_bipush bv_m2 dX9_share_26 ?_
      exact r_iretE dX9_share_28 rfl (rfl) (rfl)
  · refine r_iload1 dX9_share_0 ?_
    refine r_cS1I dX9_share_1 mm_X9_isSheet st_X9_isSheet ml_X9_78 (c_mS_n h c) (by decide) (Nat.le_of_ble_eq_true rfl) ?_
    refine r_ifeq (tgt := 26) dX9_share_4 (by decide) (fun _ => ?_) (fun c9 => absurd (rfl) c9)
    refine r_bipush bv_m2 dX9_share_26 ?_
    exact r_iretE dX9_share_28 rfl (rfl) (rfl)
theorem c_X9_share_no (j : Nat) (r w v : Int32) (h h1 : Hp) (hj : j < 4) (hr : okRu r) (w1 : ¬ w < 1) (w2 : ¬ 300 < w) (hv : ¬ v = 0) (hR : Rn 2 MX9_noShares [.ref 31, .int (nI j)] h (EI v h1)) : Rn 3 MX9_share [.ref 31, .int (nI j), .int r, .int w] h (EI v h1) := by
  refine rn_of mm_X9_share (le_b rfl) rfl ?_
  refine r_iload1 dX9_share_0 ?_
  refine r_cS1I dX9_share_1 mm_X9_isSheet st_X9_isSheet ml_X9_78 (c_mS_y h (okj hj)) (by decide) (Nat.le_of_ble_eq_true rfl) ?_
  refine r_ifeq (tgt := 26) dX9_share_4 (by decide) (fun c9 => absurd c9 (by decide)) (fun _ => ?_)
  refine r_iload2 dX9_share_7 ?_
  refine r_cS1I dX9_share_8 mm_X9_isRule st_X9_isRule ml_X9_248 (c_mR_y h hr) (by decide) (Nat.le_of_ble_eq_true rfl) ?_
  refine r_ifeq (tgt := 26) dX9_share_11 (by decide) (fun c9 => absurd c9 (by decide)) (fun _ => ?_)
  refine r_iload3 dX9_share_14 ?_
  refine r_i2l dX9_share_15 ?_
  refine r_lconst_1 dX9_share_16 ?_
  refine r_ldc2 ct_X9_258 dX9_share_17 ?_
  refine r_cS3I dX9_share_20 mm_X9_in st_X9_in ml_X9_74 (c_inI_y (lo := 1) (hi := 300) h (by decide) (by decide) w1 w2) (by decide) (Nat.le_of_ble_eq_true rfl) ?_
  refine r_ifne (tgt := 29) dX9_share_23 (by decide) (fun _ => ?_) (fun c9 => absurd c9 (by decide))
  refine r_aload0 dX9_share_29 ?_
  refine r_iload1 dX9_share_30 ?_
  refine r_cV1I dX9_share_31 mm_X9_noShares im_X9_noShares se_X9_noShares ml_X9_251 rfl rfl rfl (hR) (by decide) (Nat.le_of_ble_eq_true rfl) ?_
  refine r_istore4 dX9_share_34 rfl (by decide) ?_
  refine r_iload4 dX9_share_36 ?_
  refine r_ifeq (tgt := 46) dX9_share_38 (by decide) (fun c9 => absurd c9 (hv)) (fun _ => ?_)
  refine r_iload4 dX9_share_41 ?_
  refine r_goto (tgt := 61) dX9_share_43 (by decide) ?_
  exact r_iretE dX9_share_61 rfl (rfl) (rfl)
theorem csR_01 (a : Nat → Int32) (r : Int32) (T n : Nat) : csR a r T n = 0 ∨ csR a r T n = 1 := by
  unfold csR csE
  repeat (first | exact Or.inl rfl | exact Or.inr rfl | split)
theorem c_X9_share (j T : Nat) (r : Int32) (h : Hp) (hj : j < 4) (hS : MS4 h) (hr : okRu r) (w1 : 1 ≤ T) (w2 : T ≤ 300) (hl : ¬ h.1 32 j < 0) (hw : fWithin (fun i => h.1 34 (60 * j + i)) 0 100 (mz h j) = 1) : Rn 3 MX9_share [.ref 31, .int (nI j), .int r, .int (nI T)] h (EI (csR (fun i => h.1 34 (60 * j + i)) r T (mz h j)) h) := by
  have rc := c_X9_canShare j T r h hj hS w1 w2 hw
  refine rn_of mm_X9_share (le_b rfl) rfl ?_
  refine r_iload1 dX9_share_0 ?_
  refine r_cS1I dX9_share_1 mm_X9_isSheet st_X9_isSheet ml_X9_78 (c_mS_y h (okj hj)) (by decide) (Nat.le_of_ble_eq_true rfl) ?_
  refine r_ifeq (tgt := 26) dX9_share_4 (by decide) (fun c9 => absurd c9 (by decide)) (fun _ => ?_)
  refine r_iload2 dX9_share_7 ?_
  refine r_cS1I dX9_share_8 mm_X9_isRule st_X9_isRule ml_X9_248 (c_mR_y h hr) (by decide) (Nat.le_of_ble_eq_true rfl) ?_
  refine r_ifeq (tgt := 26) dX9_share_11 (by decide) (fun c9 => absurd c9 (by decide)) (fun _ => ?_)
  refine r_iload3 dX9_share_14 ?_
  refine r_i2l dX9_share_15 ?_
  refine r_lconst_1 dX9_share_16 ?_
  refine r_ldc2 ct_X9_258 dX9_share_17 ?_
  refine r_cS3I dX9_share_20 mm_X9_in st_X9_in ml_X9_74 (c_inI_y (lo := 1) (hi := 300) h (by decide) (by decide) (nI_nlt (b := 1) w1 (by omega)) (nI_nlt (a := 300) w2 (by decide))) (by decide) (Nat.le_of_ble_eq_true rfl) ?_
  refine r_ifne (tgt := 29) dX9_share_23 (by decide) (fun _ => ?_) (fun c9 => absurd c9 (by decide))
  refine r_aload0 dX9_share_29 ?_
  refine r_iload1 dX9_share_30 ?_
  refine r_cV1I dX9_share_31 mm_X9_noShares im_X9_noShares se_X9_noShares ml_X9_251 rfl rfl rfl (c_X9_noShares_y j h hj hS hl hw) (by decide) (Nat.le_of_ble_eq_true rfl) ?_
  refine r_istore4 dX9_share_34 rfl (by decide) ?_
  refine r_iload4 dX9_share_36 ?_
  refine r_ifeq (tgt := 46) dX9_share_38 (by decide) (fun _ => ?_) (fun c9 => absurd (rfl) c9)
  rcases csR_01 (fun i => h.1 34 (60 * j + i)) r T (mz h j) with e | e
  · rw [e] at rc ⊢
    refine r_aload0 dX9_share_46 ?_
    refine r_iload1 dX9_share_47 ?_
    refine r_iload2 dX9_share_48 ?_
    refine r_iload3 dX9_share_49 ?_
    refine r_cV3I dX9_share_50 mm_X9_canShare im_X9_canShare se_X9_canShare ml_X9_254 rfl rfl rfl (rc) (by decide) (Nat.le_of_ble_eq_true rfl) ?_
    refine r_ifeq (tgt := 60) dX9_share_53 (by decide) (fun _ => ?_) (fun c9 => absurd (rfl) c9)
    refine r_iconst_0 dX9_share_60 ?_
    exact r_iretE dX9_share_61 rfl (rfl) (rfl)
  · rw [e] at rc ⊢
    refine r_aload0 dX9_share_46 ?_
    refine r_iload1 dX9_share_47 ?_
    refine r_iload2 dX9_share_48 ?_
    refine r_iload3 dX9_share_49 ?_
    refine r_cV3I dX9_share_50 mm_X9_canShare im_X9_canShare se_X9_canShare ml_X9_254 rfl rfl rfl (rc) (by decide) (Nat.le_of_ble_eq_true rfl) ?_
    refine r_ifeq (tgt := 60) dX9_share_53 (by decide) (fun c9 => absurd c9 (by decide)) (fun _ => ?_)
    refine r_iconst_1 dX9_share_56 ?_
    refine r_goto (tgt := 61) dX9_share_57 (by decide) ?_
    exact r_iretE dX9_share_61 rfl (rfl) (rfl)
