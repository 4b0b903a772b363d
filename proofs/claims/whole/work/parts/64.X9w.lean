/-! the reference: canBe, isFaulty, put, rows, can, ranked, ways, bound -/
theorem c_X9_canBe (k : Nat) (h : Hp) (hk : k < 5005) : Rn 2 MX9_canBe [.ref 31, .int (nI k)] h (EI (b2i (cbe (h.1 44 k) (mBel h))) h) := by
  refine rn_of mm_X9_canBe (le_b rfl) rfl ?_
  unfold cbe
  by_cases e : h.1 44 k &&& mBel h = mBel h
  · refine r_aload0 dX9_canBe_0 ?_
    refine r_getR dX9_canBe_1 fl_X9_53 rfl rfl ?_
    refine r_iload1 dX9_canBe_4 ?_
    refine r_ialdN dX9_canBe_5 rfl hk ?_
    refine r_aload0 dX9_canBe_6 ?_
    refine r_cV0I dX9_canBe_7 mm_X9_believed im_X9_believed se_X9_believed ml_X9_195 rfl rfl rfl (c_X9_believed h) (by decide) (Nat.le_of_ble_eq_true rfl) ?_
    refine r_iand dX9_canBe_10 ?_
    refine r_aload0 dX9_canBe_11 ?_
    refine r_cV0I dX9_canBe_12 mm_X9_believed im_X9_believed se_X9_believed ml_X9_195 rfl rfl rfl (c_X9_believed h) (by decide) (Nat.le_of_ble_eq_true rfl) ?_
    refine r_icmpne (tgt := 22) dX9_canBe_15 (by decide) (fun c9 => absurd (e) c9) (fun _ => ?_)
    refine r_iconst_1 dX9_canBe_18 ?_
    refine r_goto (tgt := 23) dX9_canBe_19 (by decide) ?_
    exact r_zretE dX9_canBe_23 rfl (by decide) (by rw [decide_eq_true e]; rfl) (rfl)
  · refine r_aload0 dX9_canBe_0 ?_
    refine r_getR dX9_canBe_1 fl_X9_53 rfl rfl ?_
    refine r_iload1 dX9_canBe_4 ?_
    refine r_ialdN dX9_canBe_5 rfl hk ?_
    refine r_aload0 dX9_canBe_6 ?_
    refine r_cV0I dX9_canBe_7 mm_X9_believed im_X9_believed se_X9_believed ml_X9_195 rfl rfl rfl (c_X9_believed h) (by decide) (Nat.le_of_ble_eq_true rfl) ?_
    refine r_iand dX9_canBe_10 ?_
    refine r_aload0 dX9_canBe_11 ?_
    refine r_cV0I dX9_canBe_12 mm_X9_believed im_X9_believed se_X9_believed ml_X9_195 rfl rfl rfl (c_X9_believed h) (by decide) (Nat.le_of_ble_eq_true rfl) ?_
    refine r_icmpne (tgt := 22) dX9_canBe_15 (by decide) (fun _ => ?_) (fun c9 => absurd c9 (e))
    refine r_iconst_0 dX9_canBe_22 ?_
    exact r_zretE dX9_canBe_23 rfl (by decide) (by rw [decide_eq_false e]; rfl) (rfl)
theorem c_X9_isFaulty_n {h h1 h2 : Hp} (r : Rn 4 MX9_reads [.ref 31] h (EI (-1) h1)) (f : Rn 3 MX9_findRows [.ref 31] h1 (EV h2)) : Rn 5 MX9_isFaulty [.ref 31] h (EI 0 h2) := by
  refine rn_of mm_X9_isFaulty (le_b rfl) rfl ?_
  refine r_aload0 dX9_isFaulty_0 ?_
  refine r_cV0I dX9_isFaulty_1 mm_X9_reads im_X9_reads se_X9_reads ml_X9_147 rfl rfl rfl (r) (by decide) (Nat.le_of_ble_eq_true rfl) ?_
  refine r_iconst_m1 dX9_isFaulty_4 ?_
  refine r_icmpeq (tgt := 12) dX9_isFaulty_5 (by decide) (fun _ => ?_) (fun c9 => absurd (rfl) c9)
  refine r_iconst_0 dX9_isFaulty_12 ?_
  refine r_istore1 dX9_isFaulty_13 rfl (by decide) ?_
  refine r_iload1 dX9_isFaulty_14 ?_
  refine r_ifne (tgt := 22) dX9_isFaulty_15 (by decide) (fun c9 => absurd (rfl) c9) (fun _ => ?_)
  refine r_aload0 dX9_isFaulty_18 ?_
  refine r_cV0V dX9_isFaulty_19 mm_X9_findRows im_X9_findRows se_X9_findRows ml_X9_198 rfl rfl rfl (f) (by decide) (Nat.le_of_ble_eq_true rfl) ?_
  refine r_iload1 dX9_isFaulty_22 ?_
  exact r_zretE dX9_isFaulty_23 rfl (by decide) (rfl) (rfl)
theorem c_X9_isFaulty_y {v : Int32} {h h1 : Hp} (r : Rn 4 MX9_reads [.ref 31] h (EI v h1)) (hv : ¬ v = -1) : Rn 5 MX9_isFaulty [.ref 31] h (EI 1 h1) := by
  refine rn_of mm_X9_isFaulty (le_b rfl) rfl ?_
  refine r_aload0 dX9_isFaulty_0 ?_
  refine r_cV0I dX9_isFaulty_1 mm_X9_reads im_X9_reads se_X9_reads ml_X9_147 rfl rfl rfl (r) (by decide) (Nat.le_of_ble_eq_true rfl) ?_
  refine r_iconst_m1 dX9_isFaulty_4 ?_
  refine r_icmpeq (tgt := 12) dX9_isFaulty_5 (by decide) (fun c9 => absurd c9 (hv)) (fun _ => ?_)
  refine r_iconst_1 dX9_isFaulty_8 ?_
  refine r_goto (tgt := 13) dX9_isFaulty_9 (by decide) ?_
  refine r_istore1 dX9_isFaulty_13 rfl (by decide) ?_
  refine r_iload1 dX9_isFaulty_14 ?_
  refine r_ifne (tgt := 22) dX9_isFaulty_15 (by decide) (fun _ => ?_) (fun c9 => absurd c9 (by decide))
  refine r_iload1 dX9_isFaulty_22 ?_
  exact r_zretE dX9_isFaulty_23 rfl (by decide) (rfl) (rfl)
theorem c_X9_rows {h h2 : Hp} (f : Rn 3 MX9_findRows [.ref 31] (pI h 31 10 0) (EV h2)) : Rn 4 MX9_rows [.ref 31] h (EI (h2.1 31 20) h2) := by
  refine rn_of mm_X9_rows (le_b rfl) rfl ?_
  refine r_aload0 dX9_rows_0 ?_
  refine r_iconst_0 dX9_rows_1 ?_
  refine r_putI dX9_rows_2 fw_X9_120 rfl rfl ?_
  refine r_aload0 dX9_rows_5 ?_
  refine r_cV0V dX9_rows_6 mm_X9_findRows im_X9_findRows se_X9_findRows ml_X9_198 rfl rfl rfl (f) (by decide) (Nat.le_of_ble_eq_true rfl) ?_
  refine r_aload0 dX9_rows_9 ?_
  refine r_getI dX9_rows_10 fl_X9_183 rfl rfl ?_
  exact r_iretE dX9_rows_13 rfl (rfl) (rfl)
theorem c_X9_canNow_n {h h1 : Hp} (r : Rn 5 MX9_isFaulty [.ref 31] h (EI 1 h1)) : Rn 6 MX9_canNow [.ref 31] h (EI (-3) h1) := by
  refine rn_of mm_X9_canNow (le_b rfl) rfl ?_
  refine r_aload0 dX9_canNow_0 ?_
  refine r_cV0I dX9_canNow_1 mm_X9_isFaulty im_X9_isFaulty se_X9_isFaulty ml_X9_207 rfl rfl rfl (r) (by decide) (Nat.le_of_ble_eq_true rfl) ?_
  refine r_ifeq (tgt := 10) dX9_canNow_4 (by decide) (fun c9 => absurd c9 (by decide)) (fun _ => ?_)
  refine r_bipush bv_m3 dX9_canNow_7 ?_
  exact r_iretE dX9_canNow_9 rfl (rfl) (rfl)
theorem c_X9_canNow {h h1 : Hp} (m : Nat) (r : Rn 5 MX9_isFaulty [.ref 31] h (EI 0 h1)) (hm : h1.1 31 20 = nI m) (hm2 : m ≤ 5005) : Rn 6 MX9_canNow [.ref 31] h (EI (fHM (h1.1 44) (mBel h1) m) h1) := by
  refine rn_of mm_X9_canNow (le_b rfl) rfl ?_
  refine r_aload0 dX9_canNow_0 ?_
  refine r_cV0I dX9_canNow_1 mm_X9_isFaulty im_X9_isFaulty se_X9_isFaulty ml_X9_207 rfl rfl rfl (r) (by decide) (Nat.le_of_ble_eq_true rfl) ?_
  refine r_ifeq (tgt := 10) dX9_canNow_4 (by decide) (fun _ => ?_) (fun c9 => absurd (rfl) c9)
  refine r_iconst_0 dX9_canNow_10 ?_
  refine r_istore1 dX9_canNow_11 rfl (by decide) ?_
  refine r_iconst_0 dX9_canNow_12 ?_
  refine r_istore2 dX9_canNow_13 rfl (by decide) ?_
  refine lpA (hmF (h1.1 44) (mBel h1)) (fun k a => Aw 6 MX9_canNow (Kp (EI (fHM (h1.1 44) (mBel h1) m) h1)) 14 [some (.ref 31), some (.int a), some (.int (nI k))] [] h1) m ?_ 0 ?_
  · intro k a hk kk
    have rc := c_X9_canBe k h1 (by omega)
    unfold hmF at kk
    by_cases e : cbe (h1.1 44 k) (mBel h1) = true
    · rw [if_pos e] at kk
      rw [e] at rc
      refine r_iload2 dX9_canNow_14 ?_
      refine r_aload0 dX9_canNow_15 ?_
      refine r_getI dX9_canNow_16 fl_X9_183 rfl rfl ?_
      refine r_icmpge (tgt := 44) dX9_canNow_19 (by decide) (fun c9 => absurd c9 (by rw [hm]; exact nI_ge hk (by omega))) (fun _ => ?_)
      refine r_iload1 dX9_canNow_22 ?_
      refine r_aload0 dX9_canNow_23 ?_
      refine r_iload2 dX9_canNow_24 ?_
      refine r_cV1I dX9_canNow_25 mm_X9_canBe im_X9_canBe se_X9_canBe ml_X9_210 rfl rfl rfl (rc) (by decide) (Nat.le_of_ble_eq_true rfl) ?_
      refine r_ifeq (tgt := 35) dX9_canNow_28 (by decide) (fun c9 => absurd c9 ((by decide : ¬ (1 : Int32) = 0))) (fun _ => ?_)
      refine r_iconst_1 dX9_canNow_31 ?_
      refine r_goto (tgt := 36) dX9_canNow_32 (by decide) ?_
      refine r_iadd dX9_canNow_36 ?_
      refine r_istore1 dX9_canNow_37 rfl (by decide) ?_
      refine r_iinc2_1 dX9_canNow_38 rfl (by decide) ?_
      refine r_goto (tgt := 14) dX9_canNow_41 (by decide) ?_
      rw [nI_1]
      exact kk
    · rw [if_neg e] at kk
      rw [show cbe (h1.1 44 k) (mBel h1) = false from Bool.eq_false_iff.mpr e] at rc
      refine r_iload2 dX9_canNow_14 ?_
      refine r_aload0 dX9_canNow_15 ?_
      refine r_getI dX9_canNow_16 fl_X9_183 rfl rfl ?_
      refine r_icmpge (tgt := 44) dX9_canNow_19 (by decide) (fun c9 => absurd c9 (by rw [hm]; exact nI_ge hk (by omega))) (fun _ => ?_)
      refine r_iload1 dX9_canNow_22 ?_
      refine r_aload0 dX9_canNow_23 ?_
      refine r_iload2 dX9_canNow_24 ?_
      refine r_cV1I dX9_canNow_25 mm_X9_canBe im_X9_canBe se_X9_canBe ml_X9_210 rfl rfl rfl (rc) (by decide) (Nat.le_of_ble_eq_true rfl) ?_
      refine r_ifeq (tgt := 35) dX9_canNow_28 (by decide) (fun _ => ?_) (fun c9 => absurd (rfl) c9)
      refine r_iconst_0 dX9_canNow_35 ?_
      refine r_iadd dX9_canNow_36 ?_
      refine r_istore1 dX9_canNow_37 rfl (by decide) ?_
      refine r_iinc2_1 dX9_canNow_38 rfl (by decide) ?_
      refine r_goto (tgt := 14) dX9_canNow_41 (by decide) ?_
      rw [nI_1, i32_add0]
      exact kk
  · refine r_iload2 dX9_canNow_14 ?_
    refine r_aload0 dX9_canNow_15 ?_
    refine r_getI dX9_canNow_16 fl_X9_183 rfl rfl ?_
    refine r_icmpge (tgt := 44) dX9_canNow_19 (by decide) (fun _ => ?_) (fun c9 => absurd (by rw [hm]; exact Int32.le_refl _) c9)
    refine r_iload1 dX9_canNow_44 ?_
    exact r_iretE dX9_canNow_45 rfl (rfl) (rfl)
theorem c_X9_can {v : Int32} {h h1 : Hp} (r : Rn 6 MX9_canNow [.ref 31] h (EI v h1)) : Rn 7 MX9_can [.ref 31] h (EI v h1) := by
  refine rn_of mm_X9_can (le_b rfl) rfl ?_
  refine r_aload0 dX9_can_0 ?_
  refine r_cV0I dX9_can_1 mm_X9_canNow im_X9_canNow se_X9_canNow ml_X9_213 rfl rfl rfl (r) (by decide) (Nat.le_of_ble_eq_true rfl) ?_
  exact r_iretE dX9_can_4 rfl (rfl) (rfl)
def mrk (H Nb : Nat → Int32) (b : Int32) : Nat → Nat → Int32 → Int32
  | 0, _, _ => -1
  | f + 1, k, l => if cbe (H k) b then (if l = 0 then Nb k else mrk H Nb b f (k + 1) (l + -1)) else mrk H Nb b f (k + 1) l
theorem c_X9_ranked_bad (i : Int32) (h : Hp) (hi : i < 0) : Rn 0 MX9_ranked [.ref 31, .int i] h (EI (-2) h) := by
  refine rn_of mm_X9_ranked (le_b rfl) rfl ?_
  refine r_iload1 dX9_ranked_0 ?_
  refine r_ifge (tgt := 7) dX9_ranked_1 (by decide) (fun c9 => absurd c9 (fun q => absurd hi (Int32.not_lt.mpr q))) (fun _ => ?_)
  refine r_bipush bv_m2 dX9_ranked_4 ?_
  exact r_iretE dX9_ranked_6 rfl (rfl) (rfl)
theorem c_X9_ranked_n {h h1 : Hp} (i : Int32) (hi : ¬ i < 0) (r : Rn 5 MX9_isFaulty [.ref 31] h (EI 1 h1)) : Rn 6 MX9_ranked [.ref 31, .int i] h (EI (-3) h1) := by
  refine rn_of mm_X9_ranked (le_b rfl) rfl ?_
  refine r_iload1 dX9_ranked_0 ?_
  refine r_ifge (tgt := 7) dX9_ranked_1 (by decide) (fun _ => ?_) (fun c9 => absurd (Int32.not_lt.mp hi) c9)
  refine r_aload0 dX9_ranked_7 ?_
  refine r_cV0I dX9_ranked_8 mm_X9_isFaulty im_X9_isFaulty se_X9_isFaulty ml_X9_207 rfl rfl rfl (r) (by decide) (Nat.le_of_ble_eq_true rfl) ?_
  refine r_ifeq (tgt := 17) dX9_ranked_11 (by decide) (fun c9 => absurd c9 (by decide)) (fun _ => ?_)
  refine r_bipush bv_m3 dX9_ranked_14 ?_
  exact r_iretE dX9_ranked_16 rfl (rfl) (rfl)
theorem c_X9_ranked {h h1 : Hp} (m : Nat) (i : Int32) (hi : ¬ i < 0) (r : Rn 5 MX9_isFaulty [.ref 31] h (EI 0 h1)) (hm : h1.1 31 20 = nI m) (hm2 : m ≤ 5005) : Rn 6 MX9_ranked [.ref 31, .int i] h (EI (mrk (h1.1 44) (h1.1 43) (mBel h1) m 0 i) h1) := by
  refine rn_of mm_X9_ranked (le_b rfl) rfl ?_
  refine r_iload1 dX9_ranked_0 ?_
  refine r_ifge (tgt := 7) dX9_ranked_1 (by decide) (fun _ => ?_) (fun c9 => absurd (Int32.not_lt.mp hi) c9)
  refine r_aload0 dX9_ranked_7 ?_
  refine r_cV0I dX9_ranked_8 mm_X9_isFaulty im_X9_isFaulty se_X9_isFaulty ml_X9_207 rfl rfl rfl (r) (by decide) (Nat.le_of_ble_eq_true rfl) ?_
  refine r_ifeq (tgt := 17) dX9_ranked_11 (by decide) (fun _ => ?_) (fun c9 => absurd (rfl) c9)
  refine r_iload1 dX9_ranked_17 ?_
  refine r_istore2 dX9_ranked_18 rfl (by decide) ?_
  refine r_iconst_0 dX9_ranked_19 ?_
  refine r_istore3 dX9_ranked_20 rfl (by decide) ?_
  generalize hQ : mrk (h1.1 44) (h1.1 43) (mBel h1) m 0 i = Q
  have key : ∀ f k l, k + f = m → mrk (h1.1 44) (h1.1 43) (mBel h1) f k l = Q → Aw 6 MX9_ranked (Kp (EI Q h1)) 21 [some (.ref 31), some (.int i), some (.int l), some (.int (nI k))] [] h1 := by
    intro f
    induction f with
    | zero =>
      intro k l hk he
      have he : -1 = Q := he
      have : k = m := by omega
      subst this
      refine r_iload3 dX9_ranked_21 ?_
      refine r_aload0 dX9_ranked_22 ?_
      refine r_getI dX9_ranked_23 fl_X9_183 rfl rfl ?_
      refine r_icmpge (tgt := 57) dX9_ranked_26 (by decide) (fun _ => ?_) (fun c9 => absurd (by rw [hm]; exact Int32.le_refl _) c9)
      refine r_iconst_m1 dX9_ranked_57 ?_
      exact r_iretE dX9_ranked_58 rfl (he) (rfl)
    | succ f ih =>
      intro k l hk he
      have rc := c_X9_canBe k h1 (by omega)
      rw [mrk] at he
      by_cases e : cbe (h1.1 44 k) (mBel h1) = true
      · rw [if_pos e] at he
        rw [e] at rc
        by_cases z : l = 0
        · rw [if_pos z] at he
          refine r_iload3 dX9_ranked_21 ?_
          refine r_aload0 dX9_ranked_22 ?_
          refine r_getI dX9_ranked_23 fl_X9_183 rfl rfl ?_
          refine r_icmpge (tgt := 57) dX9_ranked_26 (by decide) (fun c9 => absurd c9 (by rw [hm]; exact nI_ge (by omega) (by omega))) (fun _ => ?_)
          refine r_aload0 dX9_ranked_29 ?_
          refine r_iload3 dX9_ranked_30 ?_
          refine r_cV1I dX9_ranked_31 mm_X9_canBe im_X9_canBe se_X9_canBe ml_X9_210 rfl rfl rfl (rc) (by decide) (Nat.le_of_ble_eq_true rfl) ?_
          refine r_ifeq (tgt := 51) dX9_ranked_34 (by decide) (fun c9 => absurd c9 ((by decide : ¬ (1 : Int32) = 0))) (fun _ => ?_)
          refine r_iload2 dX9_ranked_37 ?_
          refine r_ifne (tgt := 48) dX9_ranked_38 (by decide) (fun c9 => absurd (z) c9) (fun _ => ?_)
          refine r_aload0 dX9_ranked_41 ?_
          refine r_getR dX9_ranked_42 fl_X9_50 rfl rfl ?_
          refine r_iload3 dX9_ranked_45 ?_
          refine r_ialdN dX9_ranked_46 rfl (by omega) ?_
          exact r_iretE dX9_ranked_47 rfl (he) (rfl)
        · rw [if_neg z] at he
          refine r_iload3 dX9_ranked_21 ?_
          refine r_aload0 dX9_ranked_22 ?_
          refine r_getI dX9_ranked_23 fl_X9_183 rfl rfl ?_
          refine r_icmpge (tgt := 57) dX9_ranked_26 (by decide) (fun c9 => absurd c9 (by rw [hm]; exact nI_ge (by omega) (by omega))) (fun _ => ?_)
          refine r_aload0 dX9_ranked_29 ?_
          refine r_iload3 dX9_ranked_30 ?_
          refine r_cV1I dX9_ranked_31 mm_X9_canBe im_X9_canBe se_X9_canBe ml_X9_210 rfl rfl rfl (rc) (by decide) (Nat.le_of_ble_eq_true rfl) ?_
          refine r_ifeq (tgt := 51) dX9_ranked_34 (by decide) (fun c9 => absurd c9 ((by decide : ¬ (1 : Int32) = 0))) (fun _ => ?_)
          refine r_iload2 dX9_ranked_37 ?_
          refine r_ifne (tgt := 48) dX9_ranked_38 (by decide) (fun _ => ?_) (fun c9 => absurd c9 (z))
          refine r_iinc2_m1 dX9_ranked_48 rfl (by decide) ?_
          refine r_iinc3_1 dX9_ranked_51 rfl (by decide) ?_
          refine r_goto (tgt := 21) dX9_ranked_54 (by decide) ?_
          rw [nI_1]
          exact ih (k + 1) _ (by omega) he
      · rw [if_neg e] at he
        rw [show cbe (h1.1 44 k) (mBel h1) = false from Bool.eq_false_iff.mpr e] at rc
        refine r_iload3 dX9_ranked_21 ?_
        refine r_aload0 dX9_ranked_22 ?_
        refine r_getI dX9_ranked_23 fl_X9_183 rfl rfl ?_
        refine r_icmpge (tgt := 57) dX9_ranked_26 (by decide) (fun c9 => absurd c9 (by rw [hm]; exact nI_ge (by omega) (by omega))) (fun _ => ?_)
        refine r_aload0 dX9_ranked_29 ?_
        refine r_iload3 dX9_ranked_30 ?_
        refine r_cV1I dX9_ranked_31 mm_X9_canBe im_X9_canBe se_X9_canBe ml_X9_210 rfl rfl rfl (rc) (by decide) (Nat.le_of_ble_eq_true rfl) ?_
        refine r_ifeq (tgt := 51) dX9_ranked_34 (by decide) (fun _ => ?_) (fun c9 => absurd (rfl) c9)
        refine r_iinc3_1 dX9_ranked_51 rfl (by decide) ?_
        refine r_goto (tgt := 21) dX9_ranked_54 (by decide) ?_
        rw [nI_1]
        exact ih (k + 1) _ (by omega) he
  exact key m 0 i (by omega) hQ
theorem fac_eq : ∀ v, v < 10 → lp (fun k (p : Int64) => p * (nI k).toInt64) 2 (v - 1) 1 = (cFA v).toInt64 := by decide +kernel
theorem c_X9_factorial (v : Nat) (h : Hp) (hv : v < 10) : Rn 0 MX9_factorial [.int (nI v)] h (EL (cFA v).toInt64 h) := by
  refine rn_of mm_X9_factorial (le_b rfl) rfl ?_
  rw [← fac_eq v hv]
  refine r_lconst_1 dX9_factorial_0 ?_
  refine r_lstore1 dX9_factorial_1 rfl (by decide) ?_
  refine r_iconst_2 dX9_factorial_2 ?_
  refine r_istore3 dX9_factorial_3 rfl (by decide) ?_
  have key : ∀ f k p, k + f = max 2 (v + 1) → 2 ≤ k → lp (fun k (p : Int64) => p * (nI k).toInt64) k f p = lp (fun k (p : Int64) => p * (nI k).toInt64) 2 (v - 1) 1 → Aw 0 MX9_factorial (Kp (EL (lp (fun k (p : Int64) => p * (nI k).toInt64) 2 (v - 1) 1) h)) 4 [some (.int (nI v)), some (.long p), none, some (.int (nI k))] [] h := by
    intro f
    induction f with
    | zero =>
      intro k p hk h2 he
      have he : p = _ := he
      refine r_iload3 dX9_factorial_4 ?_
      refine r_iload0 dX9_factorial_5 ?_
      refine r_icmpgt (tgt := 20) dX9_factorial_6 (by decide) (fun _ => ?_) (fun c9 => absurd (nI_lt (by omega) (by omega)) c9)
      refine r_lload1 dX9_factorial_20 ?_
      exact r_lretE dX9_factorial_21 rfl (he) (rfl)
    | succ f ih =>
      intro k p hk h2 he
      rw [lp_s] at he
      refine r_iload3 dX9_factorial_4 ?_
      refine r_iload0 dX9_factorial_5 ?_
      refine r_icmpgt (tgt := 20) dX9_factorial_6 (by decide) (fun c9 => absurd c9 (nI_nlt (by omega) (by omega))) (fun _ => ?_)
      refine r_lload1 dX9_factorial_9 ?_
      refine r_iload3 dX9_factorial_10 ?_
      refine r_i2l dX9_factorial_11 ?_
      refine r_lmul dX9_factorial_12 ?_
      refine r_lstore1 dX9_factorial_13 rfl (by decide) ?_
      refine r_iinc3_1 dX9_factorial_14 rfl (by decide) ?_
      refine r_goto (tgt := 4) dX9_factorial_17 (by decide) ?_
      rw [nI_1]
      exact ih (k + 1) _ (by omega) (by omega) he
  exact key (v - 1) 2 1 (by omega) (Nat.le_refl _) rfl
theorem cFA64_ne : ∀ j, j < 10 → ¬ (cFA j).toInt64 = 0 := by decide
def mOO (N n : Nat) : Int64 := lp (fun j v => v / (cFA (dgt N j)).toInt64) 0 7 (cFA n).toInt64
def mOr (H : Nat → Int32) (Nf : Nat → Nat) (b : Int32) (n m : Nat) : Int64 := lp (fun k s => if cbe (H k) b then s + mOO (Nf k) n else s) 0 m 0
theorem c_X9_ways_n {h h1 : Hp} (r : Rn 5 MX9_isFaulty [.ref 31] h (EI 1 h1)) : Rn 6 MX9_ways [.ref 31] h (EL (rfL (-3)) h1) := by
  refine rn_of mm_X9_ways (le_b rfl) rfl ?_
  refine r_aload0 dX9_ways_0 ?_
  refine r_cV0I dX9_ways_1 mm_X9_isFaulty im_X9_isFaulty se_X9_isFaulty ml_X9_207 rfl rfl rfl (r) (by decide) (Nat.le_of_ble_eq_true rfl) ?_
  refine r_ifeq (tgt := 13) dX9_ways_4 (by decide) (fun c9 => absurd c9 (by decide)) (fun _ => ?_)
  refine r_bipush bv_m3 dX9_ways_7 ?_
  refine r_cS1L dX9_ways_9 mm_X9_no st_X9_no ml_X9_216 (c_X9_no _ h1) (by decide) (Nat.le_of_ble_eq_true rfl) ?_
  exact r_lretE dX9_ways_12 rfl (rfl) (rfl)
theorem c_X9_ways {h h1 : Hp} (m n : Nat) (Nf : Nat → Nat) (r : Rn 5 MX9_isFaulty [.ref 31] h (EI 0 h1)) (hm : h1.1 31 20 = nI m) (hm2 : m ≤ 5005) (h5 : h1.1 31 5 = nI n) (hn : n ≤ 9) (hN : ∀ k, k < m → h1.1 43 k = nI (Nf k) ∧ Nf k < 10000000) : Rn 6 MX9_ways [.ref 31] h (EL (mOr (h1.1 44) Nf (mBel h1) n m) h1) := by
  refine rn_of mm_X9_ways (le_b rfl) rfl ?_
  refine r_aload0 dX9_ways_0 ?_
  refine r_cV0I dX9_ways_1 mm_X9_isFaulty im_X9_isFaulty se_X9_isFaulty ml_X9_207 rfl rfl rfl (r) (by decide) (Nat.le_of_ble_eq_true rfl) ?_
  refine r_ifeq (tgt := 13) dX9_ways_4 (by decide) (fun _ => ?_) (fun c9 => absurd (rfl) c9)
  refine r_lconst_0 dX9_ways_13 ?_
  refine r_lstore1 dX9_ways_14 rfl (by decide) ?_
  refine r_iconst_0 dX9_ways_15 ?_
  refine r_istore3 dX9_ways_16 rfl (by decide) ?_
  refine lpA (fun k s => if cbe (h1.1 44 k) (mBel h1) then s + mOO (Nf k) n else s) (fun k s => ∀ x4 x6, Aw 6 MX9_ways (Kp (EL (mOr (h1.1 44) Nf (mBel h1) n m) h1)) 17 [some (.ref 31), some (.long s), none, some (.int (nI k)), x4, none, x6] [] h1) m ?_ 0 ?_ _ _
  · intro k s hk kk x4 x6
    have rc := c_X9_canBe k h1 (by omega)
    obtain ⟨n1, n2⟩ := hN k hk
    by_cases e : cbe (h1.1 44 k) (mBel h1) = true
    · rw [if_pos e] at kk
      rw [e] at rc
      refine r_iload3 dX9_ways_17 ?_
      refine r_aload0 dX9_ways_18 ?_
      refine r_getI dX9_ways_19 fl_X9_183 rfl rfl ?_
      refine r_icmpge (tgt := 88) dX9_ways_22 (by decide) (fun c9 => absurd c9 (by rw [hm]; exact nI_ge hk (by omega))) (fun _ => ?_)
      refine r_aload0 dX9_ways_25 ?_
      refine r_iload3 dX9_ways_26 ?_
      refine r_cV1I dX9_ways_27 mm_X9_canBe im_X9_canBe se_X9_canBe ml_X9_210 rfl rfl rfl (rc) (by decide) (Nat.le_of_ble_eq_true rfl) ?_
      refine r_ifeq (tgt := 82) dX9_ways_30 (by decide) (fun c9 => absurd c9 ((by decide : ¬ (1 : Int32) = 0))) (fun _ => ?_)
      refine r_aload0 dX9_ways_33 ?_
      refine r_getI dX9_ways_34 fl_X9_22 rfl rfl ?_
      rw [h5]
      refine r_cS1L dX9_ways_37 mm_X9_factorial st_X9_factorial ml_X9_219 (c_X9_factorial n h1 (by omega)) (by decide) (Nat.le_of_ble_eq_true rfl) ?_
      refine r_lstore4 dX9_ways_40 rfl (by decide) ?_
      refine r_iconst_0 dX9_ways_42 ?_
      refine r_istore6 dX9_ways_43 rfl (by decide) ?_
      refine lpA (fun j v => v / (cFA (dgt (Nf k) j)).toInt64) (fun j v => Aw 6 MX9_ways (Kp (EL (mOr (h1.1 44) Nf (mBel h1) n m) h1)) 45 [some (.ref 31), some (.long s), none, some (.int (nI k)), some (.long v), none, some (.int (nI j))] [] h1) 7 ?_ (cFA n).toInt64 ?_
      · intro j v hj k2
        have hd := dgt_lt (Nf k) j
        refine r_iload6 dX9_ways_45 ?_
        refine r_bipush bv_7 dX9_ways_47 ?_
        refine r_icmpge (tgt := 77) dX9_ways_49 (by decide) (fun c9 => absurd c9 (nI_ge (b := 7) hj (by decide))) (fun _ => ?_)
        refine r_lload4 dX9_ways_52 ?_
        refine r_aload0 dX9_ways_54 ?_
        refine r_getR dX9_ways_55 fl_X9_50 rfl rfl ?_
        refine r_iload3 dX9_ways_58 ?_
        refine r_ialdN dX9_ways_59 rfl (by omega) ?_
        rw [n1]
        refine r_iload6 dX9_ways_60 ?_
        refine r_cS2I dX9_ways_62 mm_X9_part st_X9_part ml_X9_180 (c_X9_part (Nf k) j h1 (by omega) hj) (by decide) (Nat.le_of_ble_eq_true rfl) ?_
        refine r_cS1L dX9_ways_65 mm_X9_factorial st_X9_factorial ml_X9_219 (c_X9_factorial _ h1 hd) (by decide) (Nat.le_of_ble_eq_true rfl) ?_
        refine r_ldiv (cFA64_ne _ hd) dX9_ways_68 ?_
        refine r_lstore4 dX9_ways_69 rfl (by decide) ?_
        refine r_iinc6_1 dX9_ways_71 rfl (by decide) ?_
        refine r_goto (tgt := 45) dX9_ways_74 (by decide) ?_
        rw [nI_1]
        exact k2
      · refine r_iload6 dX9_ways_45 ?_
        refine r_bipush bv_7 dX9_ways_47 ?_
        refine r_icmpge (tgt := 77) dX9_ways_49 (by decide) (fun _ => ?_) (fun c9 => absurd (by decide) c9)
        refine r_lload1 dX9_ways_77 ?_
        refine r_lload4 dX9_ways_78 ?_
        refine r_ladd dX9_ways_80 ?_
        refine r_lstore1 dX9_ways_81 rfl (by decide) ?_
        refine r_iinc3_1 dX9_ways_82 rfl (by decide) ?_
        refine r_goto (tgt := 17) dX9_ways_85 (by decide) ?_
        rw [nI_1]
        exact kk _ _
    · rw [if_neg e] at kk
      rw [show cbe (h1.1 44 k) (mBel h1) = false from Bool.eq_false_iff.mpr e] at rc
      refine r_iload3 dX9_ways_17 ?_
      refine r_aload0 dX9_ways_18 ?_
      refine r_getI dX9_ways_19 fl_X9_183 rfl rfl ?_
      refine r_icmpge (tgt := 88) dX9_ways_22 (by decide) (fun c9 => absurd c9 (by rw [hm]; exact nI_ge hk (by omega))) (fun _ => ?_)
      refine r_aload0 dX9_ways_25 ?_
      refine r_iload3 dX9_ways_26 ?_
      refine r_cV1I dX9_ways_27 mm_X9_canBe im_X9_canBe se_X9_canBe ml_X9_210 rfl rfl rfl (rc) (by decide) (Nat.le_of_ble_eq_true rfl) ?_
      refine r_ifeq (tgt := 82) dX9_ways_30 (by decide) (fun _ => ?_) (fun c9 => absurd (rfl) c9)
      refine r_iinc3_1 dX9_ways_82 rfl (by decide) ?_
      refine r_goto (tgt := 17) dX9_ways_85 (by decide) ?_
      rw [nI_1]
      exact kk _ _
  · intro x4 x6
    refine r_iload3 dX9_ways_17 ?_
    refine r_aload0 dX9_ways_18 ?_
    refine r_getI dX9_ways_19 fl_X9_183 rfl rfl ?_
    refine r_icmpge (tgt := 88) dX9_ways_22 (by decide) (fun _ => ?_) (fun c9 => absurd (by rw [hm]; exact Int32.le_refl _) c9)
    refine r_lload1 dX9_ways_88 ?_
    exact r_lretE dX9_ways_89 rfl (rfl) (rfl)
theorem c_X9_toldOf (N : Nat) (o : Option Nat) (h : Hp) (hN : N < 2 ^ 31) (ho : ∀ j, o = some j → j < 7) : Rn 1 MX9_toldOf [.int (nI N), .int (o2i o)] h (EI (thr N o) h) := by
  refine rn_of mm_X9_toldOf (le_b rfl) rfl ?_
  cases o with
  | none =>
    refine r_iconst_0 dX9_toldOf_0 ?_
    refine r_istore2 dX9_toldOf_1 rfl (by decide) ?_
    refine r_iconst_0 dX9_toldOf_2 ?_
    refine r_istore3 dX9_toldOf_3 rfl (by decide) ?_
    have key : ∀ f k, k + f = 7 → Aw 1 MX9_toldOf (Kp (EI (thr N none) h)) 4 [some (.int (nI N)), some (.int (-1)), some (.int (nI (sg (fun j => j * dgt N j) k))), some (.int (nI k))] [] h := by
      intro f
      induction f with
      | zero =>
        intro k hk
        have : k = 7 := by omega
        subst this
        refine r_iload3 dX9_toldOf_4 ?_
        refine r_bipush bv_7 dX9_toldOf_5 ?_
        refine r_icmpge (tgt := 48) dX9_toldOf_7 (by decide) (fun _ => ?_) (fun c9 => absurd (by decide) c9)
        refine r_iload2 dX9_toldOf_48 ?_
        exact r_iretE dX9_toldOf_49 rfl (rfl) (rfl)
      | succ f ih =>
        intro k hk
        refine r_iload3 dX9_toldOf_4 ?_
        refine r_bipush bv_7 dX9_toldOf_5 ?_
        refine r_icmpge (tgt := 48) dX9_toldOf_7 (by decide) (fun c9 => absurd c9 (nI_ge (b := 7) (by omega) (by decide))) (fun _ => ?_)
        refine r_iload2 dX9_toldOf_10 ?_
        refine r_iload1 dX9_toldOf_11 ?_
        refine r_iconst_m1 dX9_toldOf_12 ?_
        refine r_icmpne (tgt := 26) dX9_toldOf_13 (by decide) (fun c9 => absurd (rfl) c9) (fun _ => ?_)
        refine r_iload3 dX9_toldOf_16 ?_
        refine r_iload0 dX9_toldOf_17 ?_
        refine r_iload3 dX9_toldOf_18 ?_
        refine r_cS2I dX9_toldOf_19 mm_X9_part st_X9_part ml_X9_180 (c_X9_part N k h hN (by omega)) (by decide) (Nat.le_of_ble_eq_true rfl) ?_
        refine r_imul dX9_toldOf_22 ?_
        refine r_goto (tgt := 40) dX9_toldOf_23 (by decide) ?_
        refine r_iadd dX9_toldOf_40 ?_
        rw [pk_mul, nI_add]
        refine r_istore2 dX9_toldOf_41 rfl (by decide) ?_
        refine r_iinc3_1 dX9_toldOf_42 rfl (by decide) ?_
        refine r_goto (tgt := 4) dX9_toldOf_45 (by decide) ?_
        rw [nI_1]
        exact ih (k + 1) (by omega)
    exact key 7 0 rfl
  | some d =>
    have hd := ho d rfl
    have hn1 : ¬ nI d = -1 := nI_nm1 (by omega)
    refine r_iconst_0 dX9_toldOf_0 ?_
    refine r_istore2 dX9_toldOf_1 rfl (by decide) ?_
    refine r_iconst_0 dX9_toldOf_2 ?_
    refine r_istore3 dX9_toldOf_3 rfl (by decide) ?_
    have key : ∀ f k, k + f = 7 → Aw 1 MX9_toldOf (Kp (EI (thr N (some d)) h)) 4 [some (.int (nI N)), some (.int (nI d)), some (.int (if d < k then nI (dgt N d) else 0)), some (.int (nI k))] [] h := by
      intro f
      induction f with
      | zero =>
        intro k hk
        have : k = 7 := by omega
        subst this
        rw [if_pos hd]
        refine r_iload3 dX9_toldOf_4 ?_
        refine r_bipush bv_7 dX9_toldOf_5 ?_
        refine r_icmpge (tgt := 48) dX9_toldOf_7 (by decide) (fun _ => ?_) (fun c9 => absurd (by decide) c9)
        refine r_iload2 dX9_toldOf_48 ?_
        exact r_iretE dX9_toldOf_49 rfl (rfl) (rfl)
      | succ f ih =>
        intro k hk
        have ih := ih (k + 1) (by omega)
        by_cases z : d = k
        · subst z
          rw [if_pos (by omega)] at ih
          rw [if_neg (by omega)]
          refine r_iload3 dX9_toldOf_4 ?_
          refine r_bipush bv_7 dX9_toldOf_5 ?_
          refine r_icmpge (tgt := 48) dX9_toldOf_7 (by decide) (fun c9 => absurd c9 (nI_ge (b := 7) (by omega) (by decide))) (fun _ => ?_)
          refine r_iload2 dX9_toldOf_10 ?_
          refine r_iload1 dX9_toldOf_11 ?_
          refine r_iconst_m1 dX9_toldOf_12 ?_
          refine r_icmpne (tgt := 26) dX9_toldOf_13 (by decide) (fun _ => ?_) (fun c9 => absurd c9 (hn1))
          refine r_iload1 dX9_toldOf_26 ?_
          refine r_iload3 dX9_toldOf_27 ?_
          refine r_icmpne (tgt := 39) dX9_toldOf_28 (by decide) (fun c9 => absurd (rfl) c9) (fun _ => ?_)
          refine r_iload0 dX9_toldOf_31 ?_
          refine r_iload3 dX9_toldOf_32 ?_
          refine r_cS2I dX9_toldOf_33 mm_X9_part st_X9_part ml_X9_180 (c_X9_part N d h hN (by omega)) (by decide) (Nat.le_of_ble_eq_true rfl) ?_
          refine r_goto (tgt := 40) dX9_toldOf_36 (by decide) ?_
          refine r_iadd dX9_toldOf_40 ?_
          rw [Int32.zero_add]
          refine r_istore2 dX9_toldOf_41 rfl (by decide) ?_
          refine r_iinc3_1 dX9_toldOf_42 rfl (by decide) ?_
          refine r_goto (tgt := 4) dX9_toldOf_45 (by decide) ?_
          rw [nI_1]
          exact ih
        · have e : (if d < k + 1 then nI (dgt N d) else 0) = if d < k then nI (dgt N d) else 0 := by
            by_cases q : d < k
            · rw [if_pos q, if_pos (by omega)]
            · rw [if_neg q, if_neg (by omega)]
          rw [e] at ih
          refine r_iload3 dX9_toldOf_4 ?_
          refine r_bipush bv_7 dX9_toldOf_5 ?_
          refine r_icmpge (tgt := 48) dX9_toldOf_7 (by decide) (fun c9 => absurd c9 (nI_ge (b := 7) (by omega) (by decide))) (fun _ => ?_)
          refine r_iload2 dX9_toldOf_10 ?_
          refine r_iload1 dX9_toldOf_11 ?_
          refine r_iconst_m1 dX9_toldOf_12 ?_
          refine r_icmpne (tgt := 26) dX9_toldOf_13 (by decide) (fun _ => ?_) (fun c9 => absurd c9 (hn1))
          refine r_iload1 dX9_toldOf_26 ?_
          refine r_iload3 dX9_toldOf_27 ?_
          refine r_icmpne (tgt := 39) dX9_toldOf_28 (by decide) (fun _ => ?_) (fun c9 => absurd c9 (fun q => z ((nI_eq (by omega) (by omega)).mp q)))
          refine r_iconst_0 dX9_toldOf_39 ?_
          refine r_iadd dX9_toldOf_40 ?_
          refine r_istore2 dX9_toldOf_41 rfl (by decide) ?_
          refine r_iinc3_1 dX9_toldOf_42 rfl (by decide) ?_
          refine r_goto (tgt := 4) dX9_toldOf_45 (by decide) ?_
          rw [i32_add0, nI_1]
          exact ih
    exact key 7 0 rfl
