/-! the reference: lay, get, copy, set, type, wipe, figures -/
theorem c_X9_lay_bad (s f i v : Int32) (h : Hp) (hb : ¬ okS s ∨ ¬ okF f) : Rn 2 MX9_lay [.ref 31, .int s, .int f, .int i, .int v] h (EI (-2) h) := by
  refine rn_of mm_X9_lay (le_b rfl) rfl ?_
  by_cases c : okS s
  · have c2 : ¬ okF f := hb.resolve_left (fun q => q c)
    refine r_iload1 dX9_lay_0 ?_
    refine r_cS1I dX9_lay_1 mm_X9_isSheet st_X9_isSheet ml_X9_78 (c_mS_y h c) (by decide) (Nat.le_of_ble_eq_true rfl) ?_
    refine r_ifeq (tgt := 19) dX9_lay_4 (by decide) (fun c9 => absurd c9 (by decide)) (fun _ => ?_)
    refine r_iload2 dX9_lay_7 ?_
    refine r_i2l dX9_lay_8 ?_
    refine r_lconst_0 dX9_lay_9 ?_
    refine r_ldc2 ct_X9_82 dX9_lay_10 ?_
    refine r_cS3I dX9_lay_13 mm_X9_in st_X9_in ml_X9_74 (c_mF_n h c2) (by decide) (Nat.le_of_ble_eq_true rfl) ?_
    refine r_ifne (tgt := 22) dX9_lay_16 (by decide) (fun c9 => absurd (rfl) c9) (fun _ => ?_)
    refine r_bipush bv_m2 dX9_lay_19 ?_
    exact r_iretE dX9_lay_21 rfl (rfl) (rfl)
  · refine r_iload1 dX9_lay_0 ?_
    refine r_cS1I dX9_lay_1 mm_X9_isSheet st_X9_isSheet ml_X9_78 (c_mS_n h c) (by decide) (Nat.le_of_ble_eq_true rfl) ?_
    refine r_ifeq (tgt := 19) dX9_lay_4 (by decide) (fun _ => ?_) (fun c9 => absurd (rfl) c9)
    refine r_bipush bv_m2 dX9_lay_19 ?_
    exact r_iretE dX9_lay_21 rfl (rfl) (rfl)
theorem mtr_ne {h : Hp} {j : Nat} {f i : Int32} (hm : ¬ mtr h j f i = 0) : ¬ (-10 - mtr h j f i) = 0 := by
  unfold mtr at hm ⊢
  split
  · decide
  · split
    · split
      · decide
      · split
        · rename_i a b c d; exact absurd (by rw [if_neg a, if_pos b, if_neg c, if_pos d]) hm
        · decide
    · decide
theorem mtr_in {h : Hp} {j : Nat} {f i : Int32} (hS : MS4 h) (hj : j < 4) (hm : mtr h j f i = 0) : ∃ x, x < mz h j ∧ i = nI x ∧ ¬ h.1 32 j < 0 ∧ h.1 32 j = f := by
  unfold mtr at hm
  by_cases c1 : h.1 32 j < 0
  · rw [if_pos c1] at hm; exact absurd hm (by decide)
  · rw [if_neg c1] at hm
    by_cases c2 : h.1 32 j = f
    · rw [if_pos c2] at hm
      by_cases c3 : i < 0
      · rw [if_pos c3] at hm; exact absurd hm (by decide)
      · rw [if_neg c3] at hm
        by_cases c4 : i < h.1 33 j
        · obtain ⟨x, hx, rfl⟩ := nI_of c3
          obtain ⟨z1, z2⟩ := hS j hj
          rw [z1] at c4
          exact ⟨x, (nI_ltI hx (by omega)).mp c4, rfl, c1, c2⟩
        · rw [if_neg c4] at hm; exact absurd hm (by decide)
    · rw [if_neg c2] at hm; exact absurd hm (by decide)
theorem c_X9_lay (j : Nat) (f i v : Int32) (h : Hp) (hj : j < 4) (hf : okF f) (hS : MS4 h) : Rn 2 MX9_lay [.ref 31, .int (nI j), .int f, .int i, .int v] h (if mtr h j f i = 0 then EI 1 (pI h 34 (60 * j + i.toNatClampNeg) (cutF f v)) else EI (-10 - mtr h j f i) (pI h 31 4 (mtr h j f i))) := by
  have rl := c_X9_lacks j f i h hj hS
  refine rn_of mm_X9_lay (le_b rfl) rfl ?_
  by_cases c : mtr h j f i = 0
  · rw [if_pos c] at rl ⊢
    obtain ⟨x, hx, rfl, -⟩ := mtr_in hS hj c
    have := (hS j hj).2
    refine r_iload1 dX9_lay_0 ?_
    refine r_cS1I dX9_lay_1 mm_X9_isSheet st_X9_isSheet ml_X9_78 (c_mS_y h (okj hj)) (by decide) (Nat.le_of_ble_eq_true rfl) ?_
    refine r_ifeq (tgt := 19) dX9_lay_4 (by decide) (fun c9 => absurd c9 (by decide)) (fun _ => ?_)
    refine r_iload2 dX9_lay_7 ?_
    refine r_i2l dX9_lay_8 ?_
    refine r_lconst_0 dX9_lay_9 ?_
    refine r_ldc2 ct_X9_82 dX9_lay_10 ?_
    refine r_cS3I dX9_lay_13 mm_X9_in st_X9_in ml_X9_74 (c_mF_y h hf) (by decide) (Nat.le_of_ble_eq_true rfl) ?_
    refine r_ifne (tgt := 22) dX9_lay_16 (by decide) (fun _ => ?_) (fun c9 => absurd c9 (by decide))
    refine r_aload0 dX9_lay_22 ?_
    refine r_iload1 dX9_lay_23 ?_
    refine r_iload2 dX9_lay_24 ?_
    refine r_iload3 dX9_lay_25 ?_
    refine r_cV3I dX9_lay_26 mm_X9_lacks im_X9_lacks se_X9_lacks ml_X9_88 rfl rfl rfl (rl) (by decide) (Nat.le_of_ble_eq_true rfl) ?_
    refine r_istore5 dX9_lay_29 rfl (by decide) ?_
    refine r_iload5 dX9_lay_31 ?_
    refine r_ifeq (tgt := 39) dX9_lay_33 (by decide) (fun _ => ?_) (fun c9 => absurd (rfl) c9)
    refine r_aload0 dX9_lay_39 ?_
    refine r_getR dX9_lay_40 fl_X9_16 rfl rfl ?_
    refine r_bipush bv_60 dX9_lay_43 ?_
    refine r_iload1 dX9_lay_45 ?_
    refine r_imul dX9_lay_46 ?_
    refine r_iload3 dX9_lay_47 ?_
    refine r_iadd dX9_lay_48 ?_
    rw [m60, nI_clamp (by omega)]
    refine r_iload2 dX9_lay_49 ?_
    refine r_iload4 dX9_lay_50 ?_
    refine r_cS2I dX9_lay_52 mm_X9_cut st_X9_cut ml_X9_92 (c_X9_cut f v h) (by decide) (Nat.le_of_ble_eq_true rfl) ?_
    refine r_iastN dX9_lay_55 rfl (by omega) ?_
    refine r_iconst_1 dX9_lay_56 ?_
    exact r_iretE dX9_lay_57 rfl (rfl) (rfl)
  · rw [if_neg c] at rl ⊢
    refine r_iload1 dX9_lay_0 ?_
    refine r_cS1I dX9_lay_1 mm_X9_isSheet st_X9_isSheet ml_X9_78 (c_mS_y h (okj hj)) (by decide) (Nat.le_of_ble_eq_true rfl) ?_
    refine r_ifeq (tgt := 19) dX9_lay_4 (by decide) (fun c9 => absurd c9 (by decide)) (fun _ => ?_)
    refine r_iload2 dX9_lay_7 ?_
    refine r_i2l dX9_lay_8 ?_
    refine r_lconst_0 dX9_lay_9 ?_
    refine r_ldc2 ct_X9_82 dX9_lay_10 ?_
    refine r_cS3I dX9_lay_13 mm_X9_in st_X9_in ml_X9_74 (c_mF_y h hf) (by decide) (Nat.le_of_ble_eq_true rfl) ?_
    refine r_ifne (tgt := 22) dX9_lay_16 (by decide) (fun _ => ?_) (fun c9 => absurd c9 (by decide))
    refine r_aload0 dX9_lay_22 ?_
    refine r_iload1 dX9_lay_23 ?_
    refine r_iload2 dX9_lay_24 ?_
    refine r_iload3 dX9_lay_25 ?_
    refine r_cV3I dX9_lay_26 mm_X9_lacks im_X9_lacks se_X9_lacks ml_X9_88 rfl rfl rfl (rl) (by decide) (Nat.le_of_ble_eq_true rfl) ?_
    refine r_istore5 dX9_lay_29 rfl (by decide) ?_
    refine r_iload5 dX9_lay_31 ?_
    refine r_ifeq (tgt := 39) dX9_lay_33 (by decide) (fun c9 => absurd c9 (mtr_ne c)) (fun _ => ?_)
    refine r_iload5 dX9_lay_36 ?_
    exact r_iretE dX9_lay_38 rfl (rfl) (rfl)
theorem c_X9_get_bad (s f i : Int32) (h : Hp) (hb : ¬ okS s ∨ ¬ okF f) : Rn 2 MX9_get [.ref 31, .int s, .int f, .int i] h (EI (-2147483648) h) := by
  refine rn_of mm_X9_get (le_b rfl) rfl ?_
  by_cases c : okS s
  · have c2 : ¬ okF f := hb.resolve_left (fun q => q c)
    refine r_iload1 dX9_get_0 ?_
    refine r_cS1I dX9_get_1 mm_X9_isSheet st_X9_isSheet ml_X9_78 (c_mS_y h c) (by decide) (Nat.le_of_ble_eq_true rfl) ?_
    refine r_ifeq (tgt := 29) dX9_get_4 (by decide) (fun c9 => absurd c9 (by decide)) (fun _ => ?_)
    refine r_iload2 dX9_get_7 ?_
    refine r_i2l dX9_get_8 ?_
    refine r_lconst_0 dX9_get_9 ?_
    refine r_ldc2 ct_X9_82 dX9_get_10 ?_
    refine r_cS3I dX9_get_13 mm_X9_in st_X9_in ml_X9_74 (c_mF_n h c2) (by decide) (Nat.le_of_ble_eq_true rfl) ?_
    refine r_ifeq (tgt := 29) dX9_get_16 (by decide) (fun _ => ?_) (fun c9 => absurd (rfl) c9)
    refine r_ldc ct_X9_96 dX9_get_29 ?_
    exact r_iretE dX9_get_31 rfl (rfl) (rfl)
  · refine r_iload1 dX9_get_0 ?_
    refine r_cS1I dX9_get_1 mm_X9_isSheet st_X9_isSheet ml_X9_78 (c_mS_n h c) (by decide) (Nat.le_of_ble_eq_true rfl) ?_
    refine r_ifeq (tgt := 29) dX9_get_4 (by decide) (fun _ => ?_) (fun c9 => absurd (rfl) c9)
    refine r_ldc ct_X9_96 dX9_get_29 ?_
    exact r_iretE dX9_get_31 rfl (rfl) (rfl)
theorem c_X9_get (j : Nat) (f i : Int32) (h : Hp) (hj : j < 4) (hf : okF f) (hS : MS4 h) : Rn 2 MX9_get [.ref 31, .int (nI j), .int f, .int i] h (if mtr h j f i = 0 then EI (h.1 34 (60 * j + i.toNatClampNeg)) h else EI (-2147483648) (pI h 31 4 (mtr h j f i))) := by
  have rl := c_X9_lacks j f i h hj hS
  refine rn_of mm_X9_get (le_b rfl) rfl ?_
  by_cases c : mtr h j f i = 0
  · rw [if_pos c] at rl ⊢
    obtain ⟨x, hx, rfl, -⟩ := mtr_in hS hj c
    have := (hS j hj).2
    refine r_iload1 dX9_get_0 ?_
    refine r_cS1I dX9_get_1 mm_X9_isSheet st_X9_isSheet ml_X9_78 (c_mS_y h (okj hj)) (by decide) (Nat.le_of_ble_eq_true rfl) ?_
    refine r_ifeq (tgt := 29) dX9_get_4 (by decide) (fun c9 => absurd c9 (by decide)) (fun _ => ?_)
    refine r_iload2 dX9_get_7 ?_
    refine r_i2l dX9_get_8 ?_
    refine r_lconst_0 dX9_get_9 ?_
    refine r_ldc2 ct_X9_82 dX9_get_10 ?_
    refine r_cS3I dX9_get_13 mm_X9_in st_X9_in ml_X9_74 (c_mF_y h hf) (by decide) (Nat.le_of_ble_eq_true rfl) ?_
    refine r_ifeq (tgt := 29) dX9_get_16 (by decide) (fun c9 => absurd c9 (by decide)) (fun _ => ?_)
    refine r_aload0 dX9_get_19 ?_
    refine r_iload1 dX9_get_20 ?_
    refine r_iload2 dX9_get_21 ?_
    refine r_iload3 dX9_get_22 ?_
    refine r_cV3I dX9_get_23 mm_X9_lacks im_X9_lacks se_X9_lacks ml_X9_88 rfl rfl rfl (rl) (by decide) (Nat.le_of_ble_eq_true rfl) ?_
    refine r_ifeq (tgt := 32) dX9_get_26 (by decide) (fun _ => ?_) (fun c9 => absurd (rfl) c9)
    refine r_aload0 dX9_get_32 ?_
    refine r_getR dX9_get_33 fl_X9_16 rfl rfl ?_
    refine r_bipush bv_60 dX9_get_36 ?_
    refine r_iload1 dX9_get_38 ?_
    refine r_imul dX9_get_39 ?_
    refine r_iload3 dX9_get_40 ?_
    refine r_iadd dX9_get_41 ?_
    rw [m60, nI_clamp (by omega)]
    refine r_ialdN dX9_get_42 rfl (by omega) ?_
    exact r_iretE dX9_get_43 rfl (rfl) (rfl)
  · rw [if_neg c] at rl ⊢
    refine r_iload1 dX9_get_0 ?_
    refine r_cS1I dX9_get_1 mm_X9_isSheet st_X9_isSheet ml_X9_78 (c_mS_y h (okj hj)) (by decide) (Nat.le_of_ble_eq_true rfl) ?_
    refine r_ifeq (tgt := 29) dX9_get_4 (by decide) (fun c9 => absurd c9 (by decide)) (fun _ => ?_)
    refine r_iload2 dX9_get_7 ?_
    refine r_i2l dX9_get_8 ?_
    refine r_lconst_0 dX9_get_9 ?_
    refine r_ldc2 ct_X9_82 dX9_get_10 ?_
    refine r_cS3I dX9_get_13 mm_X9_in st_X9_in ml_X9_74 (c_mF_y h hf) (by decide) (Nat.le_of_ble_eq_true rfl) ?_
    refine r_ifeq (tgt := 29) dX9_get_16 (by decide) (fun c9 => absurd c9 (by decide)) (fun _ => ?_)
    refine r_aload0 dX9_get_19 ?_
    refine r_iload1 dX9_get_20 ?_
    refine r_iload2 dX9_get_21 ?_
    refine r_iload3 dX9_get_22 ?_
    refine r_cV3I dX9_get_23 mm_X9_lacks im_X9_lacks se_X9_lacks ml_X9_88 rfl rfl rfl (rl) (by decide) (Nat.le_of_ble_eq_true rfl) ?_
    refine r_ifeq (tgt := 32) dX9_get_26 (by decide) (fun c9 => absurd c9 (mtr_ne c)) (fun _ => ?_)
    refine r_ldc ct_X9_96 dX9_get_29 ?_
    exact r_iretE dX9_get_31 rfl (rfl) (rfl)
theorem c_X9_copy_bad (s i t k n : Int32) (h : Hp) (hb : ¬ okS s ∨ ¬ okS t) : Rn 2 MX9_copy [.ref 31, .int s, .int i, .int t, .int k, .int n] h (EI (-2) h) := by
  refine rn_of mm_X9_copy (le_b rfl) rfl ?_
  by_cases c : okS s
  · have c2 : ¬ okS t := hb.resolve_left (fun q => q c)
    refine r_iload1 dX9_copy_0 ?_
    refine r_cS1I dX9_copy_1 mm_X9_isSheet st_X9_isSheet ml_X9_78 (c_mS_y h c) (by decide) (Nat.le_of_ble_eq_true rfl) ?_
    refine r_ifeq (tgt := 14) dX9_copy_4 (by decide) (fun c9 => absurd c9 (by decide)) (fun _ => ?_)
    refine r_iload3 dX9_copy_7 ?_
    refine r_cS1I dX9_copy_8 mm_X9_isSheet st_X9_isSheet ml_X9_78 (c_mS_n h c2) (by decide) (Nat.le_of_ble_eq_true rfl) ?_
    refine r_ifne (tgt := 17) dX9_copy_11 (by decide) (fun c9 => absurd (rfl) c9) (fun _ => ?_)
    refine r_bipush bv_m2 dX9_copy_14 ?_
    exact r_iretE dX9_copy_16 rfl (rfl) (rfl)
  · refine r_iload1 dX9_copy_0 ?_
    refine r_cS1I dX9_copy_1 mm_X9_isSheet st_X9_isSheet ml_X9_78 (c_mS_n h c) (by decide) (Nat.le_of_ble_eq_true rfl) ?_
    refine r_ifeq (tgt := 14) dX9_copy_4 (by decide) (fun _ => ?_) (fun c9 => absurd (rfl) c9)
    refine r_bipush bv_m2 dX9_copy_14 ?_
    exact r_iretE dX9_copy_16 rfl (rfl) (rfl)
theorem c_X9_copy_null (a b : Nat) (i k n : Int32) (h : Hp) (ha : a < 4) (hb : b < 4) (hl : h.1 32 a < 0 ∨ h.1 32 b < 0) : Rn 2 MX9_copy [.ref 31, .int (nI a), .int i, .int (nI b), .int k, .int n] h (EI (-11) (pI h 31 4 1)) := by
  refine rn_of mm_X9_copy (le_b rfl) rfl ?_
  by_cases c : h.1 32 a < 0
  · refine r_iload1 dX9_copy_0 ?_
    refine r_cS1I dX9_copy_1 mm_X9_isSheet st_X9_isSheet ml_X9_78 (c_mS_y h (okj ha)) (by decide) (Nat.le_of_ble_eq_true rfl) ?_
    refine r_ifeq (tgt := 14) dX9_copy_4 (by decide) (fun c9 => absurd c9 (by decide)) (fun _ => ?_)
    refine r_iload3 dX9_copy_7 ?_
    refine r_cS1I dX9_copy_8 mm_X9_isSheet st_X9_isSheet ml_X9_78 (c_mS_y h (okj hb)) (by decide) (Nat.le_of_ble_eq_true rfl) ?_
    refine r_ifne (tgt := 17) dX9_copy_11 (by decide) (fun _ => ?_) (fun c9 => absurd c9 (by decide))
    refine r_aload0 dX9_copy_17 ?_
    refine r_getR dX9_copy_18 fl_X9_7 rfl rfl ?_
    refine r_iload1 dX9_copy_21 ?_
    refine r_ialdN dX9_copy_22 rfl ha ?_
    refine r_iflt (tgt := 35) dX9_copy_23 (by decide) (fun _ => ?_) (fun c9 => absurd (c) c9)
    refine r_aload0 dX9_copy_35 ?_
    refine r_iconst_1 dX9_copy_36 ?_
    refine r_cV1I dX9_copy_37 mm_X9_met im_X9_met se_X9_met ml_X9_84 rfl rfl rfl (c_X9_met 1 h) (by decide) (Nat.le_of_ble_eq_true rfl) ?_
    exact r_iretE dX9_copy_40 rfl (rfl) (rfl)
  · refine r_iload1 dX9_copy_0 ?_
    refine r_cS1I dX9_copy_1 mm_X9_isSheet st_X9_isSheet ml_X9_78 (c_mS_y h (okj ha)) (by decide) (Nat.le_of_ble_eq_true rfl) ?_
    refine r_ifeq (tgt := 14) dX9_copy_4 (by decide) (fun c9 => absurd c9 (by decide)) (fun _ => ?_)
    refine r_iload3 dX9_copy_7 ?_
    refine r_cS1I dX9_copy_8 mm_X9_isSheet st_X9_isSheet ml_X9_78 (c_mS_y h (okj hb)) (by decide) (Nat.le_of_ble_eq_true rfl) ?_
    refine r_ifne (tgt := 17) dX9_copy_11 (by decide) (fun _ => ?_) (fun c9 => absurd c9 (by decide))
    refine r_aload0 dX9_copy_17 ?_
    refine r_getR dX9_copy_18 fl_X9_7 rfl rfl ?_
    refine r_iload1 dX9_copy_21 ?_
    refine r_ialdN dX9_copy_22 rfl ha ?_
    refine r_iflt (tgt := 35) dX9_copy_23 (by decide) (fun c9 => absurd c9 (c)) (fun _ => ?_)
    refine r_aload0 dX9_copy_26 ?_
    refine r_getR dX9_copy_27 fl_X9_7 rfl rfl ?_
    refine r_iload3 dX9_copy_30 ?_
    refine r_ialdN dX9_copy_31 rfl hb ?_
    refine r_ifge (tgt := 41) dX9_copy_32 (by decide) (fun c9 => absurd c9 (fun q => absurd (hl.resolve_left c) (Int32.not_lt.mpr q))) (fun _ => ?_)
    refine r_aload0 dX9_copy_35 ?_
    refine r_iconst_1 dX9_copy_36 ?_
    refine r_cV1I dX9_copy_37 mm_X9_met im_X9_met se_X9_met ml_X9_84 rfl rfl rfl (c_X9_met 1 h) (by decide) (Nat.le_of_ble_eq_true rfl) ?_
    exact r_iretE dX9_copy_40 rfl (rfl) (rfl)
theorem c_X9_copy_store (a b : Nat) (i k n : Int32) (h : Hp) (ha : a < 4) (hb : b < 4) (h1 : ¬ h.1 32 a < 0) (h2 : ¬ h.1 32 b < 0) (hs : ¬ h.1 32 a = h.1 32 b) : Rn 2 MX9_copy [.ref 31, .int (nI a), .int i, .int (nI b), .int k, .int n] h (EI (-14) (pI h 31 4 4)) := by
  refine rn_of mm_X9_copy (le_b rfl) rfl ?_
  refine r_iload1 dX9_copy_0 ?_
  refine r_cS1I dX9_copy_1 mm_X9_isSheet st_X9_isSheet ml_X9_78 (c_mS_y h (okj ha)) (by decide) (Nat.le_of_ble_eq_true rfl) ?_
  refine r_ifeq (tgt := 14) dX9_copy_4 (by decide) (fun c9 => absurd c9 (by decide)) (fun _ => ?_)
  refine r_iload3 dX9_copy_7 ?_
  refine r_cS1I dX9_copy_8 mm_X9_isSheet st_X9_isSheet ml_X9_78 (c_mS_y h (okj hb)) (by decide) (Nat.le_of_ble_eq_true rfl) ?_
  refine r_ifne (tgt := 17) dX9_copy_11 (by decide) (fun _ => ?_) (fun c9 => absurd c9 (by decide))
  refine r_aload0 dX9_copy_17 ?_
  refine r_getR dX9_copy_18 fl_X9_7 rfl rfl ?_
  refine r_iload1 dX9_copy_21 ?_
  refine r_ialdN dX9_copy_22 rfl ha ?_
  refine r_iflt (tgt := 35) dX9_copy_23 (by decide) (fun c9 => absurd c9 (h1)) (fun _ => ?_)
  refine r_aload0 dX9_copy_26 ?_
  refine r_getR dX9_copy_27 fl_X9_7 rfl rfl ?_
  refine r_iload3 dX9_copy_30 ?_
  refine r_ialdN dX9_copy_31 rfl hb ?_
  refine r_ifge (tgt := 41) dX9_copy_32 (by decide) (fun _ => ?_) (fun c9 => absurd (Int32.not_lt.mp h2) c9)
  refine r_aload0 dX9_copy_41 ?_
  refine r_getR dX9_copy_42 fl_X9_7 rfl rfl ?_
  refine r_iload1 dX9_copy_45 ?_
  refine r_ialdN dX9_copy_46 rfl ha ?_
  refine r_aload0 dX9_copy_47 ?_
  refine r_getR dX9_copy_48 fl_X9_7 rfl rfl ?_
  refine r_iload3 dX9_copy_51 ?_
  refine r_ialdN dX9_copy_52 rfl hb ?_
  refine r_icmpeq (tgt := 62) dX9_copy_53 (by decide) (fun c9 => absurd c9 (hs)) (fun _ => ?_)
  refine r_aload0 dX9_copy_56 ?_
  refine r_iconst_4 dX9_copy_57 ?_
  refine r_cV1I dX9_copy_58 mm_X9_met im_X9_met se_X9_met ml_X9_84 rfl rfl rfl (c_X9_met 4 h) (by decide) (Nat.le_of_ble_eq_true rfl) ?_
  exact r_iretE dX9_copy_61 rfl (rfl) (rfl)
/-- a stretch that there is -/
def okStr (h : Hp) (a : Nat) (i n : Int32) : Prop := ¬ h.1 33 a < i ∧ ¬ i.toInt64 + n.toInt64 > (h.1 33 a).toInt64
theorem c_X9_copy_index (a b : Nat) (i k n : Int32) (h : Hp) (ha : a < 4) (hb : b < 4) (h1 : ¬ h.1 32 a < 0) (h2 : ¬ h.1 32 b < 0) (hs : h.1 32 a = h.1 32 b) (hx : i < 0 ∨ k < 0 ∨ n < 0 ∨ (h.1 33 a).toInt64 < i.toInt64 + n.toInt64 ∨ (h.1 33 b).toInt64 < k.toInt64 + n.toInt64) : Rn 2 MX9_copy [.ref 31, .int (nI a), .int i, .int (nI b), .int k, .int n] h (EI (-12) (pI h 31 4 2)) := by
  refine rn_of mm_X9_copy (le_b rfl) rfl ?_
  refine r_iload1 dX9_copy_0 ?_
  refine r_cS1I dX9_copy_1 mm_X9_isSheet st_X9_isSheet ml_X9_78 (c_mS_y h (okj ha)) (by decide) (Nat.le_of_ble_eq_true rfl) ?_
  refine r_ifeq (tgt := 14) dX9_copy_4 (by decide) (fun c9 => absurd c9 (by decide)) (fun _ => ?_)
  refine r_iload3 dX9_copy_7 ?_
  refine r_cS1I dX9_copy_8 mm_X9_isSheet st_X9_isSheet ml_X9_78 (c_mS_y h (okj hb)) (by decide) (Nat.le_of_ble_eq_true rfl) ?_
  refine r_ifne (tgt := 17) dX9_copy_11 (by decide) (fun _ => ?_) (fun c9 => absurd c9 (by decide))
  refine r_aload0 dX9_copy_17 ?_
  refine r_getR dX9_copy_18 fl_X9_7 rfl rfl ?_
  refine r_iload1 dX9_copy_21 ?_
  refine r_ialdN dX9_copy_22 rfl ha ?_
  refine r_iflt (tgt := 35) dX9_copy_23 (by decide) (fun c9 => absurd c9 (h1)) (fun _ => ?_)
  refine r_aload0 dX9_copy_26 ?_
  refine r_getR dX9_copy_27 fl_X9_7 rfl rfl ?_
  refine r_iload3 dX9_copy_30 ?_
  refine r_ialdN dX9_copy_31 rfl hb ?_
  refine r_ifge (tgt := 41) dX9_copy_32 (by decide) (fun _ => ?_) (fun c9 => absurd (Int32.not_lt.mp h2) c9)
  refine r_aload0 dX9_copy_41 ?_
  refine r_getR dX9_copy_42 fl_X9_7 rfl rfl ?_
  refine r_iload1 dX9_copy_45 ?_
  refine r_ialdN dX9_copy_46 rfl ha ?_
  refine r_aload0 dX9_copy_47 ?_
  refine r_getR dX9_copy_48 fl_X9_7 rfl rfl ?_
  refine r_iload3 dX9_copy_51 ?_
  refine r_ialdN dX9_copy_52 rfl hb ?_
  refine r_icmpeq (tgt := 62) dX9_copy_53 (by decide) (fun _ => ?_) (fun c9 => absurd (hs) c9)
  by_cases c1 : i < 0
  · refine r_iload2 dX9_copy_62 ?_
    refine r_iflt (tgt := 111) dX9_copy_63 (by decide) (fun _ => ?_) (fun c9 => absurd (c1) c9)
    refine r_aload0 dX9_copy_111 ?_
    refine r_iconst_2 dX9_copy_112 ?_
    refine r_cV1I dX9_copy_113 mm_X9_met im_X9_met se_X9_met ml_X9_84 rfl rfl rfl (c_X9_met 2 h) (by decide) (Nat.le_of_ble_eq_true rfl) ?_
    exact r_iretE dX9_copy_116 rfl (rfl) (rfl)
  · by_cases c2 : k < 0
    · refine r_iload2 dX9_copy_62 ?_
      refine r_iflt (tgt := 111) dX9_copy_63 (by decide) (fun c9 => absurd c9 (c1)) (fun _ => ?_)
      refine r_iload4 dX9_copy_66 ?_
      refine r_iflt (tgt := 111) dX9_copy_68 (by decide) (fun _ => ?_) (fun c9 => absurd (c2) c9)
      refine r_aload0 dX9_copy_111 ?_
      refine r_iconst_2 dX9_copy_112 ?_
      refine r_cV1I dX9_copy_113 mm_X9_met im_X9_met se_X9_met ml_X9_84 rfl rfl rfl (c_X9_met 2 h) (by decide) (Nat.le_of_ble_eq_true rfl) ?_
      exact r_iretE dX9_copy_116 rfl (rfl) (rfl)
    · by_cases c3 : n < 0
      · refine r_iload2 dX9_copy_62 ?_
        refine r_iflt (tgt := 111) dX9_copy_63 (by decide) (fun c9 => absurd c9 (c1)) (fun _ => ?_)
        refine r_iload4 dX9_copy_66 ?_
        refine r_iflt (tgt := 111) dX9_copy_68 (by decide) (fun c9 => absurd c9 (c2)) (fun _ => ?_)
        refine r_iload5 dX9_copy_71 ?_
        refine r_iflt (tgt := 111) dX9_copy_73 (by decide) (fun _ => ?_) (fun c9 => absurd (c3) c9)
        refine r_aload0 dX9_copy_111 ?_
        refine r_iconst_2 dX9_copy_112 ?_
        refine r_cV1I dX9_copy_113 mm_X9_met im_X9_met se_X9_met ml_X9_84 rfl rfl rfl (c_X9_met 2 h) (by decide) (Nat.le_of_ble_eq_true rfl) ?_
        exact r_iretE dX9_copy_116 rfl (rfl) (rfl)
      · by_cases c4 : (h.1 33 a).toInt64 < i.toInt64 + n.toInt64
        · refine r_iload2 dX9_copy_62 ?_
          refine r_iflt (tgt := 111) dX9_copy_63 (by decide) (fun c9 => absurd c9 (c1)) (fun _ => ?_)
          refine r_iload4 dX9_copy_66 ?_
          refine r_iflt (tgt := 111) dX9_copy_68 (by decide) (fun c9 => absurd c9 (c2)) (fun _ => ?_)
          refine r_iload5 dX9_copy_71 ?_
          refine r_iflt (tgt := 111) dX9_copy_73 (by decide) (fun c9 => absurd c9 (c3)) (fun _ => ?_)
          refine r_iload2 dX9_copy_76 ?_
          refine r_i2l dX9_copy_77 ?_
          refine r_iload5 dX9_copy_78 ?_
          refine r_i2l dX9_copy_80 ?_
          refine r_ladd dX9_copy_81 ?_
          refine r_aload0 dX9_copy_82 ?_
          refine r_getR dX9_copy_83 fl_X9_13 rfl rfl ?_
          refine r_iload1 dX9_copy_86 ?_
          refine r_ialdN dX9_copy_87 rfl ha ?_
          refine r_i2l dX9_copy_88 ?_
          refine r_lgt (tgt := 111) dX9_copy_89 dX9_copy_90 (by decide) (fun _ => ?_) (fun c9 => absurd (c4) c9)
          refine r_aload0 dX9_copy_111 ?_
          refine r_iconst_2 dX9_copy_112 ?_
          refine r_cV1I dX9_copy_113 mm_X9_met im_X9_met se_X9_met ml_X9_84 rfl rfl rfl (c_X9_met 2 h) (by decide) (Nat.le_of_ble_eq_true rfl) ?_
          exact r_iretE dX9_copy_116 rfl (rfl) (rfl)
        · have c5 := (((hx.resolve_left c1).resolve_left c2).resolve_left c3).resolve_left c4
          refine r_iload2 dX9_copy_62 ?_
          refine r_iflt (tgt := 111) dX9_copy_63 (by decide) (fun c9 => absurd c9 (c1)) (fun _ => ?_)
          refine r_iload4 dX9_copy_66 ?_
          refine r_iflt (tgt := 111) dX9_copy_68 (by decide) (fun c9 => absurd c9 (c2)) (fun _ => ?_)
          refine r_iload5 dX9_copy_71 ?_
          refine r_iflt (tgt := 111) dX9_copy_73 (by decide) (fun c9 => absurd c9 (c3)) (fun _ => ?_)
          refine r_iload2 dX9_copy_76 ?_
          refine r_i2l dX9_copy_77 ?_
          refine r_iload5 dX9_copy_78 ?_
          refine r_i2l dX9_copy_80 ?_
          refine r_ladd dX9_copy_81 ?_
          refine r_aload0 dX9_copy_82 ?_
          refine r_getR dX9_copy_83 fl_X9_13 rfl rfl ?_
          refine r_iload1 dX9_copy_86 ?_
          refine r_ialdN dX9_copy_87 rfl ha ?_
          refine r_i2l dX9_copy_88 ?_
          refine r_lgt (tgt := 111) dX9_copy_89 dX9_copy_90 (by decide) (fun c9 => absurd c9 (c4)) (fun _ => ?_)
          refine r_iload4 dX9_copy_93 ?_
          refine r_i2l dX9_copy_95 ?_
          refine r_iload5 dX9_copy_96 ?_
          refine r_i2l dX9_copy_98 ?_
          refine r_ladd dX9_copy_99 ?_
          refine r_aload0 dX9_copy_100 ?_
          refine r_getR dX9_copy_101 fl_X9_13 rfl rfl ?_
          refine r_iload3 dX9_copy_104 ?_
          refine r_ialdN dX9_copy_105 rfl hb ?_
          refine r_i2l dX9_copy_106 ?_
          refine r_lle (tgt := 117) dX9_copy_107 dX9_copy_108 (by decide) (fun c9 => absurd c9 (Int64.not_le.mpr c5)) (fun _ => ?_)
          refine r_aload0 dX9_copy_111 ?_
          refine r_iconst_2 dX9_copy_112 ?_
          refine r_cV1I dX9_copy_113 mm_X9_met im_X9_met se_X9_met ml_X9_84 rfl rfl rfl (c_X9_met 2 h) (by decide) (Nat.le_of_ble_eq_true rfl) ?_
          exact r_iretE dX9_copy_116 rfl (rfl) (rfl)
def mvH (h : Hp) (a i k : Nat) : Hp := pA h 35 (fun x => if x < k then h.1 34 (60 * a + i + x) else h.1 35 x)
def mcH (h : Hp) (a i b j n k : Nat) : Hp := pA (mvH h a i n) 34 (fun x => if 60 * b + j ≤ x ∧ x < 60 * b + j + k then h.1 34 (60 * a + i + (x - (60 * b + j))) else h.1 34 x)
theorem c_X9_copy (a b i j n : Nat) (h : Hp) (ha : a < 4) (hb : b < 4) (h1 : ¬ h.1 32 a < 0) (h2 : ¬ h.1 32 b < 0) (hs : h.1 32 a = h.1 32 b) (hS : MS4 h) (hi : i + n ≤ mz h a) (hj : j + n ≤ mz h b) : Rn 2 MX9_copy [.ref 31, .int (nI a), .int (nI i), .int (nI b), .int (nI j), .int (nI n)] h (EI 1 (mcH h a i b j n n)) := by
  obtain ⟨z1, z2⟩ := hS a ha
  obtain ⟨y1, y2⟩ := hS b hb
  refine rn_of mm_X9_copy (le_b rfl) rfl ?_
  have l1 : ¬ (h.1 33 a).toInt64 < (nI i).toInt64 + (nI n).toInt64 := by
    rw [z1, nI_l (by omega), nI_l (by omega), nI_l (by omega), lN_add]
    exact fun q => by have := (lN_lt (by omega) (by omega)).mp q; omega
  have l2 : (nI j).toInt64 + (nI n).toInt64 ≤ (h.1 33 b).toInt64 := by
    rw [y1, nI_l (by omega), nI_l (by omega), nI_l (by omega), lN_add]
    exact (lN_le (by omega) (by omega)).mpr hj
  refine r_iload1 dX9_copy_0 ?_
  refine r_cS1I dX9_copy_1 mm_X9_isSheet st_X9_isSheet ml_X9_78 (c_mS_y h (okj ha)) (by decide) (Nat.le_of_ble_eq_true rfl) ?_
  refine r_ifeq (tgt := 14) dX9_copy_4 (by decide) (fun c9 => absurd c9 (by decide)) (fun _ => ?_)
  refine r_iload3 dX9_copy_7 ?_
  refine r_cS1I dX9_copy_8 mm_X9_isSheet st_X9_isSheet ml_X9_78 (c_mS_y h (okj hb)) (by decide) (Nat.le_of_ble_eq_true rfl) ?_
  refine r_ifne (tgt := 17) dX9_copy_11 (by decide) (fun _ => ?_) (fun c9 => absurd c9 (by decide))
  refine r_aload0 dX9_copy_17 ?_
  refine r_getR dX9_copy_18 fl_X9_7 rfl rfl ?_
  refine r_iload1 dX9_copy_21 ?_
  refine r_ialdN dX9_copy_22 rfl ha ?_
  refine r_iflt (tgt := 35) dX9_copy_23 (by decide) (fun c9 => absurd c9 (h1)) (fun _ => ?_)
  refine r_aload0 dX9_copy_26 ?_
  refine r_getR dX9_copy_27 fl_X9_7 rfl rfl ?_
  refine r_iload3 dX9_copy_30 ?_
  refine r_ialdN dX9_copy_31 rfl hb ?_
  refine r_ifge (tgt := 41) dX9_copy_32 (by decide) (fun _ => ?_) (fun c9 => absurd (Int32.not_lt.mp h2) c9)
  refine r_aload0 dX9_copy_41 ?_
  refine r_getR dX9_copy_42 fl_X9_7 rfl rfl ?_
  refine r_iload1 dX9_copy_45 ?_
  refine r_ialdN dX9_copy_46 rfl ha ?_
  refine r_aload0 dX9_copy_47 ?_
  refine r_getR dX9_copy_48 fl_X9_7 rfl rfl ?_
  refine r_iload3 dX9_copy_51 ?_
  refine r_ialdN dX9_copy_52 rfl hb ?_
  refine r_icmpeq (tgt := 62) dX9_copy_53 (by decide) (fun _ => ?_) (fun c9 => absurd (hs) c9)
  refine r_iload2 dX9_copy_62 ?_
  refine r_iflt (tgt := 111) dX9_copy_63 (by decide) (fun c9 => absurd c9 (nI_pos (by omega))) (fun _ => ?_)
  refine r_iload4 dX9_copy_66 ?_
  refine r_iflt (tgt := 111) dX9_copy_68 (by decide) (fun c9 => absurd c9 (nI_pos (by omega))) (fun _ => ?_)
  refine r_iload5 dX9_copy_71 ?_
  refine r_iflt (tgt := 111) dX9_copy_73 (by decide) (fun c9 => absurd c9 (nI_pos (by omega))) (fun _ => ?_)
  refine r_iload2 dX9_copy_76 ?_
  refine r_i2l dX9_copy_77 ?_
  refine r_iload5 dX9_copy_78 ?_
  refine r_i2l dX9_copy_80 ?_
  refine r_ladd dX9_copy_81 ?_
  refine r_aload0 dX9_copy_82 ?_
  refine r_getR dX9_copy_83 fl_X9_13 rfl rfl ?_
  refine r_iload1 dX9_copy_86 ?_
  refine r_ialdN dX9_copy_87 rfl ha ?_
  refine r_i2l dX9_copy_88 ?_
  refine r_lgt (tgt := 111) dX9_copy_89 dX9_copy_90 (by decide) (fun c9 => absurd c9 (l1)) (fun _ => ?_)
  refine r_iload4 dX9_copy_93 ?_
  refine r_i2l dX9_copy_95 ?_
  refine r_iload5 dX9_copy_96 ?_
  refine r_i2l dX9_copy_98 ?_
  refine r_ladd dX9_copy_99 ?_
  refine r_aload0 dX9_copy_100 ?_
  refine r_getR dX9_copy_101 fl_X9_13 rfl rfl ?_
  refine r_iload3 dX9_copy_104 ?_
  refine r_ialdN dX9_copy_105 rfl hb ?_
  refine r_i2l dX9_copy_106 ?_
  refine r_lle (tgt := 117) dX9_copy_107 dX9_copy_108 (by decide) (fun _ => ?_) (fun c9 => absurd (l2) c9)
  refine r_iconst_0 dX9_copy_117 ?_
  refine r_istore6 dX9_copy_118 rfl (by decide) ?_
  have second : ∀ r x, x + r = n → Aw 2 MX9_copy (Kp (EI 1 (mcH h a i b j n n))) 157 [some (.ref 31), some (.int (nI a)), some (.int (nI i)), some (.int (nI b)), some (.int (nI j)), some (.int (nI n)), some (.int (nI x))] [] (mcH h a i b j n x) := by
    intro r
    induction r with
    | zero =>
      intro x hx
      have : x = n := by omega
      subst this
      refine r_iload6 dX9_copy_157 ?_
      refine r_iload5 dX9_copy_159 ?_
      refine r_icmpge (tgt := 192) dX9_copy_161 (by decide) (fun _ => ?_) (fun c9 => absurd (Int32.le_refl _) c9)
      refine r_iconst_1 dX9_copy_192 ?_
      exact r_iretE dX9_copy_193 rfl (rfl) (rfl)
    | succ r ih =>
      intro x hx
      refine r_iload6 dX9_copy_157 ?_
      refine r_iload5 dX9_copy_159 ?_
      refine r_icmpge (tgt := 192) dX9_copy_161 (by decide) (fun c9 => absurd c9 (nI_ge (by omega) (by omega))) (fun _ => ?_)
      refine r_aload0 dX9_copy_164 ?_
      refine r_getR dX9_copy_165 fl_X9_16 rfl rfl ?_
      refine r_bipush bv_60 dX9_copy_168 ?_
      refine r_iload3 dX9_copy_170 ?_
      refine r_imul dX9_copy_171 ?_
      refine r_iload4 dX9_copy_172 ?_
      refine r_iadd dX9_copy_174 ?_
      rw [m60]
      refine r_iload6 dX9_copy_175 ?_
      refine r_iadd dX9_copy_177 ?_
      rw [nI_add]
      refine r_aload0 dX9_copy_178 ?_
      refine r_getR dX9_copy_179 fl_X9_19 rfl rfl ?_
      refine r_iload6 dX9_copy_182 ?_
      refine r_ialdN dX9_copy_184 rfl (by omega) ?_
      have e1 : (mcH h a i b j n x).1 35 x = h.1 34 (60 * a + i + x) := by
        unfold mcH mvH
        rw [pA_g, if_neg (by decide), pA_g, if_pos rfl, if_pos (by omega)]
      rw [e1]
      refine r_iastN dX9_copy_185 rfl (by omega) ?_
      refine r_iinc6_1 dX9_copy_186 rfl (by decide) ?_
      refine r_goto (tgt := 157) dX9_copy_189 (by decide) ?_
      have e : pI (mcH h a i b j n x) 34 (60 * b + j + x) (h.1 34 (60 * a + i + x)) = mcH h a i b j n (x + 1) := by
        unfold mcH
        rw [pI_pA]
        congr 1
        funext y
        unfold upd
        by_cases c : y = 60 * b + j + x
        · subst c
          rw [if_pos rfl, if_pos (by omega), show 60 * b + j + x - (60 * b + j) = x by omega]
        · rw [if_neg c]
          dsimp only
          by_cases d : 60 * b + j ≤ y ∧ y < 60 * b + j + x
          · rw [if_pos d, if_pos (by omega)]
          · rw [if_neg d, if_neg (by omega)]
      rw [e, nI_1]
      exact ih (x + 1) (by omega)
  have first : ∀ r x, x + r = n → Aw 2 MX9_copy (Kp (EI 1 (mcH h a i b j n n))) 120 [some (.ref 31), some (.int (nI a)), some (.int (nI i)), some (.int (nI b)), some (.int (nI j)), some (.int (nI n)), some (.int (nI x))] [] (mvH h a i x) := by
    intro r
    induction r with
    | zero =>
      intro x hx
      have : x = n := by omega
      subst this
      refine r_iload6 dX9_copy_120 ?_
      refine r_iload5 dX9_copy_122 ?_
      refine r_icmpge (tgt := 154) dX9_copy_124 (by decide) (fun _ => ?_) (fun c9 => absurd (Int32.le_refl _) c9)
      refine r_iconst_0 dX9_copy_154 ?_
      refine r_istore6 dX9_copy_155 rfl (by decide) ?_
      have s0 := second x 0 (by omega)
      have e : mcH h a i b j x 0 = mvH h a i x := by
        unfold mcH
        refine hp_ext (fun q y => ?_) (fun q y => rfl)
        rw [pA_g]
        by_cases c : q = 34
        · subst c
          rw [if_pos rfl, if_neg (by omega), mvH, pA_g, if_neg (by decide)]
        · rw [if_neg c]
      rw [e] at s0
      exact s0
    | succ r ih =>
      intro x hx
      refine r_iload6 dX9_copy_120 ?_
      refine r_iload5 dX9_copy_122 ?_
      refine r_icmpge (tgt := 154) dX9_copy_124 (by decide) (fun c9 => absurd c9 (nI_ge (by omega) (by omega))) (fun _ => ?_)
      refine r_aload0 dX9_copy_127 ?_
      refine r_getR dX9_copy_128 fl_X9_19 rfl rfl ?_
      refine r_iload6 dX9_copy_131 ?_
      refine r_aload0 dX9_copy_133 ?_
      refine r_getR dX9_copy_134 fl_X9_16 rfl rfl ?_
      refine r_bipush bv_60 dX9_copy_137 ?_
      refine r_iload1 dX9_copy_139 ?_
      refine r_imul dX9_copy_140 ?_
      refine r_iload2 dX9_copy_141 ?_
      refine r_iadd dX9_copy_142 ?_
      rw [m60]
      refine r_iload6 dX9_copy_143 ?_
      refine r_iadd dX9_copy_145 ?_
      rw [nI_add]
      refine r_ialdN dX9_copy_146 rfl (by omega) ?_
      refine r_iastN dX9_copy_147 rfl (by omega) ?_
      refine r_iinc6_1 dX9_copy_148 rfl (by decide) ?_
      refine r_goto (tgt := 120) dX9_copy_151 (by decide) ?_
      have e1 : (mvH h a i x).1 34 (60 * a + i + x) = h.1 34 (60 * a + i + x) := by
        unfold mvH
        rw [pA_g, if_neg (by decide)]
      have e : pI (mvH h a i x) 35 x (h.1 34 (60 * a + i + x)) = mvH h a i (x + 1) := by
        unfold mvH
        rw [pI_pA]
        congr 1
        funext y
        unfold upd
        by_cases c : y = x
        · subst c
          rw [if_pos rfl, if_pos (by omega)]
        · rw [if_neg c]
          dsimp only
          by_cases d : y < x
          · rw [if_pos d, if_pos (by omega)]
          · rw [if_neg d, if_neg (by omega)]
      rw [e1, e, nI_1]
      exact ih (x + 1) (by omega)
  have f0 := first n 0 (by omega)
  have e : mvH h a i 0 = h := by
    unfold mvH
    refine hp_ext (fun q y => ?_) (fun q y => rfl)
    rw [pA_g]
    by_cases c : q = 35
    · subst c; rw [if_pos rfl, if_neg (by omega)]
    · rw [if_neg c]
  rw [e] at f0
  exact f0
theorem c_X9_set0 (v : Int32) (h : Hp) (h1 : ¬ v < 1) (h2 : ¬ 9 < v) : Rn 1 MX9_set [.ref 31, .int 0, .int v] h (EI (h.1 31 5) (pI h 31 5 v)) := by
  refine rn_of mm_X9_set (le_b rfl) rfl ?_
  refine r_iload1 dX9_set_0 ?_
  refine r_i2l dX9_set_1 ?_
  refine r_lconst_0 dX9_set_2 ?_
  refine r_lconst_1 dX9_set_3 ?_
  refine r_cS3I dX9_set_4 mm_X9_in st_X9_in ml_X9_74 (c_inI_y (lo := 0) (hi := 1) h (by decide) (by decide) (by decide) (by decide)) (by decide) (Nat.le_of_ble_eq_true rfl) ?_
  refine r_ifeq (tgt := 40) dX9_set_7 (by decide) (fun c9 => absurd c9 (by decide)) (fun _ => ?_)
  refine r_iload2 dX9_set_10 ?_
  refine r_i2l dX9_set_11 ?_
  refine r_iload1 dX9_set_12 ?_
  refine r_ifne (tgt := 20) dX9_set_13 (by decide) (fun c9 => absurd (rfl) c9) (fun _ => ?_)
  refine r_lconst_1 dX9_set_16 ?_
  refine r_goto (tgt := 21) dX9_set_17 (by decide) ?_
  refine r_iload1 dX9_set_21 ?_
  refine r_ifne (tgt := 31) dX9_set_22 (by decide) (fun c9 => absurd (rfl) c9) (fun _ => ?_)
  refine r_ldc2 ct_X9_97 dX9_set_25 ?_
  refine r_goto (tgt := 34) dX9_set_28 (by decide) ?_
  refine r_cS3I dX9_set_34 mm_X9_in st_X9_in ml_X9_74 (c_inI_y (lo := 1) (hi := 9) h (by decide) (by decide) h1 h2) (by decide) (Nat.le_of_ble_eq_true rfl) ?_
  refine r_ifne (tgt := 43) dX9_set_37 (by decide) (fun _ => ?_) (fun c9 => absurd c9 (by decide))
  refine r_iload1 dX9_set_43 ?_
  refine r_ifne (tgt := 54) dX9_set_44 (by decide) (fun c9 => absurd (rfl) c9) (fun _ => ?_)
  refine r_aload0 dX9_set_47 ?_
  refine r_getI dX9_set_48 fl_X9_22 rfl rfl ?_
  refine r_goto (tgt := 58) dX9_set_51 (by decide) ?_
  refine r_istore3 dX9_set_58 rfl (by decide) ?_
  refine r_iload1 dX9_set_59 ?_
  refine r_ifne (tgt := 71) dX9_set_60 (by decide) (fun c9 => absurd (rfl) c9) (fun _ => ?_)
  refine r_aload0 dX9_set_63 ?_
  refine r_iload2 dX9_set_64 ?_
  refine r_putI dX9_set_65 fw_X9_22 rfl rfl ?_
  refine r_goto (tgt := 76) dX9_set_68 (by decide) ?_
  refine r_iload3 dX9_set_76 ?_
  exact r_iretE dX9_set_77 rfl (rfl) (rfl)
theorem c_X9_set1 (v : Int32) (h : Hp) (h1 : ¬ v < 0) (h2 : ¬ 6 < v) : Rn 1 MX9_set [.ref 31, .int 1, .int v] h (EI (h.1 31 6) (pI h 31 6 v)) := by
  refine rn_of mm_X9_set (le_b rfl) rfl ?_
  refine r_iload1 dX9_set_0 ?_
  refine r_i2l dX9_set_1 ?_
  refine r_lconst_0 dX9_set_2 ?_
  refine r_lconst_1 dX9_set_3 ?_
  refine r_cS3I dX9_set_4 mm_X9_in st_X9_in ml_X9_74 (c_inI_y (lo := 0) (hi := 1) h (by decide) (by decide) (by decide) (by decide)) (by decide) (Nat.le_of_ble_eq_true rfl) ?_
  refine r_ifeq (tgt := 40) dX9_set_7 (by decide) (fun c9 => absurd c9 (by decide)) (fun _ => ?_)
  refine r_iload2 dX9_set_10 ?_
  refine r_i2l dX9_set_11 ?_
  refine r_iload1 dX9_set_12 ?_
  refine r_ifne (tgt := 20) dX9_set_13 (by decide) (fun _ => ?_) (fun c9 => absurd c9 (by decide))
  refine r_lconst_0 dX9_set_20 ?_
  refine r_iload1 dX9_set_21 ?_
  refine r_ifne (tgt := 31) dX9_set_22 (by decide) (fun _ => ?_) (fun c9 => absurd c9 (by decide))
  refine r_ldc2 ct_X9_99 dX9_set_31 ?_
  refine r_cS3I dX9_set_34 mm_X9_in st_X9_in ml_X9_74 (c_inI_y (lo := 0) (hi := 6) h (by decide) (by decide) h1 h2) (by decide) (Nat.le_of_ble_eq_true rfl) ?_
  refine r_ifne (tgt := 43) dX9_set_37 (by decide) (fun _ => ?_) (fun c9 => absurd c9 (by decide))
  refine r_iload1 dX9_set_43 ?_
  refine r_ifne (tgt := 54) dX9_set_44 (by decide) (fun _ => ?_) (fun c9 => absurd c9 (by decide))
  refine r_aload0 dX9_set_54 ?_
  refine r_getI dX9_set_55 fl_X9_26 rfl rfl ?_
  refine r_istore3 dX9_set_58 rfl (by decide) ?_
  refine r_iload1 dX9_set_59 ?_
  refine r_ifne (tgt := 71) dX9_set_60 (by decide) (fun _ => ?_) (fun c9 => absurd c9 (by decide))
  refine r_aload0 dX9_set_71 ?_
  refine r_iload2 dX9_set_72 ?_
  refine r_putI dX9_set_73 fw_X9_26 rfl rfl ?_
  refine r_iload3 dX9_set_76 ?_
  exact r_iretE dX9_set_77 rfl (rfl) (rfl)
theorem c_X9_set_bad (w v : Int32) (h : Hp) (hb : (w < 0 ∨ 1 < w) ∨ (w = 0 ∧ (v < 1 ∨ 9 < v)) ∨ (w = 1 ∧ (v < 0 ∨ 6 < v))) : Rn 1 MX9_set [.ref 31, .int w, .int v] h (EI (-2) h) := by
  refine rn_of mm_X9_set (le_b rfl) rfl ?_
  rcases hb with q | ⟨rfl, q⟩ | ⟨rfl, q⟩
  · refine r_iload1 dX9_set_0 ?_
    refine r_i2l dX9_set_1 ?_
    refine r_lconst_0 dX9_set_2 ?_
    refine r_lconst_1 dX9_set_3 ?_
    refine r_cS3I dX9_set_4 mm_X9_in st_X9_in ml_X9_74 (c_inI_n (lo := 0) (hi := 1) h (by decide) (by decide) q) (by decide) (Nat.le_of_ble_eq_true rfl) ?_
    refine r_ifeq (tgt := 40) dX9_set_7 (by decide) (fun _ => ?_) (fun c9 => absurd (rfl) c9)
    refine r_bipush bv_m2 dX9_set_40 ?_
    exact r_iretE dX9_set_42 rfl (rfl) (rfl)
  · refine r_iload1 dX9_set_0 ?_
    refine r_i2l dX9_set_1 ?_
    refine r_lconst_0 dX9_set_2 ?_
    refine r_lconst_1 dX9_set_3 ?_
    refine r_cS3I dX9_set_4 mm_X9_in st_X9_in ml_X9_74 (c_inI_y (lo := 0) (hi := 1) h (by decide) (by decide) (by decide) (by decide)) (by decide) (Nat.le_of_ble_eq_true rfl) ?_
    refine r_ifeq (tgt := 40) dX9_set_7 (by decide) (fun c9 => absurd c9 (by decide)) (fun _ => ?_)
    refine r_iload2 dX9_set_10 ?_
    refine r_i2l dX9_set_11 ?_
    refine r_iload1 dX9_set_12 ?_
    refine r_ifne (tgt := 20) dX9_set_13 (by decide) (fun c9 => absurd (rfl) c9) (fun _ => ?_)
    refine r_lconst_1 dX9_set_16 ?_
    refine r_goto (tgt := 21) dX9_set_17 (by decide) ?_
    refine r_iload1 dX9_set_21 ?_
    refine r_ifne (tgt := 31) dX9_set_22 (by decide) (fun c9 => absurd (rfl) c9) (fun _ => ?_)
    refine r_ldc2 ct_X9_97 dX9_set_25 ?_
    refine r_goto (tgt := 34) dX9_set_28 (by decide) ?_
    refine r_cS3I dX9_set_34 mm_X9_in st_X9_in ml_X9_74 (c_inI_n (lo := 1) (hi := 9) h (by decide) (by decide) q) (by decide) (Nat.le_of_ble_eq_true rfl) ?_
    refine r_ifne (tgt := 43) dX9_set_37 (by decide) (fun c9 => absurd (rfl) c9) (fun _ => ?_)
    refine r_bipush bv_m2 dX9_set_40 ?_
    exact r_iretE dX9_set_42 rfl (rfl) (rfl)
  · refine r_iload1 dX9_set_0 ?_
    refine r_i2l dX9_set_1 ?_
    refine r_lconst_0 dX9_set_2 ?_
    refine r_lconst_1 dX9_set_3 ?_
    refine r_cS3I dX9_set_4 mm_X9_in st_X9_in ml_X9_74 (c_inI_y (lo := 0) (hi := 1) h (by decide) (by decide) (by decide) (by decide)) (by decide) (Nat.le_of_ble_eq_true rfl) ?_
    refine r_ifeq (tgt := 40) dX9_set_7 (by decide) (fun c9 => absurd c9 (by decide)) (fun _ => ?_)
    refine r_iload2 dX9_set_10 ?_
    refine r_i2l dX9_set_11 ?_
    refine r_iload1 dX9_set_12 ?_
    refine r_ifne (tgt := 20) dX9_set_13 (by decide) (fun _ => ?_) (fun c9 => absurd c9 (by decide))
    refine r_lconst_0 dX9_set_20 ?_
    refine r_iload1 dX9_set_21 ?_
    refine r_ifne (tgt := 31) dX9_set_22 (by decide) (fun _ => ?_) (fun c9 => absurd c9 (by decide))
    refine r_ldc2 ct_X9_99 dX9_set_31 ?_
    refine r_cS3I dX9_set_34 mm_X9_in st_X9_in ml_X9_74 (c_inI_n (lo := 0) (hi := 6) h (by decide) (by decide) q) (by decide) (Nat.le_of_ble_eq_true rfl) ?_
    refine r_ifne (tgt := 43) dX9_set_37 (by decide) (fun c9 => absurd (rfl) c9) (fun _ => ?_)
    refine r_bipush bv_m2 dX9_set_40 ?_
    exact r_iretE dX9_set_42 rfl (rfl) (rfl)
theorem c_X9_type_bad (b : Int32) (h : Hp) (hb : b < 0 ∨ 255 < b) : Rn 1 MX9_type [.ref 31, .int b] h (EI (-2) h) := by
  refine rn_of mm_X9_type (le_b rfl) rfl ?_
  refine r_iload1 dX9_type_0 ?_
  refine r_i2l dX9_type_1 ?_
  refine r_lconst_0 dX9_type_2 ?_
  refine r_ldc2 ct_X9_101 dX9_type_3 ?_
  refine r_cS3I dX9_type_6 mm_X9_in st_X9_in ml_X9_74 (c_inI_n (lo := 0) (hi := 255) h (by decide) (by decide) hb) (by decide) (Nat.le_of_ble_eq_true rfl) ?_
  refine r_ifne (tgt := 15) dX9_type_9 (by decide) (fun c9 => absurd (rfl) c9) (fun _ => ?_)
  refine r_bipush bv_m2 dX9_type_12 ?_
  exact r_iretE dX9_type_14 rfl (rfl) (rfl)
theorem c_X9_type_full (b : Nat) (h : Hp) (hb : b ≤ 255) (hl : h.1 31 8 = nI 100) : Rn 1 MX9_type [.ref 31, .int (nI b)] h (EI (-4) h) := by
  refine rn_of mm_X9_type (le_b rfl) rfl ?_
  refine r_iload1 dX9_type_0 ?_
  refine r_i2l dX9_type_1 ?_
  refine r_lconst_0 dX9_type_2 ?_
  refine r_ldc2 ct_X9_101 dX9_type_3 ?_
  refine r_cS3I dX9_type_6 mm_X9_in st_X9_in ml_X9_74 (c_inI_y (lo := 0) (hi := 255) h (by decide) (by decide) (nI_pos (by omega)) (nI_nlt (a := 255) hb (by decide))) (by decide) (Nat.le_of_ble_eq_true rfl) ?_
  refine r_ifne (tgt := 15) dX9_type_9 (by decide) (fun _ => ?_) (fun c9 => absurd c9 (by decide))
  refine r_aload0 dX9_type_15 ?_
  refine r_getI dX9_type_16 fl_X9_103 rfl rfl ?_
  refine r_bipush bv_100 dX9_type_19 ?_
  refine r_icmpne (tgt := 27) dX9_type_21 (by decide) (fun c9 => absurd (hl) c9) (fun _ => ?_)
  refine r_bipush bv_m4 dX9_type_24 ?_
  exact r_iretE dX9_type_26 rfl (rfl) (rfl)
def mtyH (h : Hp) (n b : Nat) : Hp := pI (pI (pI h 36 n (nI b)) 31 8 (nI (n + 1))) 31 16 0
theorem c_X9_type (b n : Nat) (h : Hp) (hb : b ≤ 255) (hn : n < 100) (hl : h.1 31 8 = nI n) : Rn 1 MX9_type [.ref 31, .int (nI b)] h (EI (nI (n + 1)) (mtyH h n b)) := by
  refine rn_of mm_X9_type (le_b rfl) rfl ?_
  refine r_iload1 dX9_type_0 ?_
  refine r_i2l dX9_type_1 ?_
  refine r_lconst_0 dX9_type_2 ?_
  refine r_ldc2 ct_X9_101 dX9_type_3 ?_
  refine r_cS3I dX9_type_6 mm_X9_in st_X9_in ml_X9_74 (c_inI_y (lo := 0) (hi := 255) h (by decide) (by decide) (nI_pos (by omega)) (nI_nlt (a := 255) hb (by decide))) (by decide) (Nat.le_of_ble_eq_true rfl) ?_
  refine r_ifne (tgt := 15) dX9_type_9 (by decide) (fun _ => ?_) (fun c9 => absurd c9 (by decide))
  refine r_aload0 dX9_type_15 ?_
  refine r_getI dX9_type_16 fl_X9_103 rfl rfl ?_
  refine r_bipush bv_100 dX9_type_19 ?_
  refine r_icmpne (tgt := 27) dX9_type_21 (by decide) (fun _ => ?_) (fun c9 => absurd c9 (by rw [hl]; exact fun q => by have := (nI_eq (a := n) (b := 100) (by omega) (by decide)).mp q; omega))
  refine r_aload0 dX9_type_27 ?_
  refine r_getR dX9_type_28 fl_X9_29 rfl rfl ?_
  refine r_aload0 dX9_type_31 ?_
  refine r_getI dX9_type_32 fl_X9_103 rfl rfl ?_
  rw [hl]
  refine r_iload1 dX9_type_35 ?_
  refine r_iastN dX9_type_36 rfl hn ?_
  refine r_aload0 dX9_type_37 ?_
  refine r_dup rfl dX9_type_38 ?_
  refine r_getI dX9_type_39 fl_X9_103 rfl rfl ?_
  rw [pI_ne _ _ _ (by decide), hl]
  refine r_iconst_1 dX9_type_42 ?_
  refine r_iadd dX9_type_43 ?_
  refine r_putI dX9_type_44 fw_X9_103 rfl rfl ?_
  rw [nI_1]
  refine r_aload0 dX9_type_47 ?_
  refine r_iconst_0 dX9_type_48 ?_
  refine r_putI dX9_type_49 fw_X9_106 rfl rfl ?_
  refine r_aload0 dX9_type_52 ?_
  refine r_getI dX9_type_53 fl_X9_103 rfl rfl ?_
  exact r_iretE dX9_type_56 rfl (by simp [pI_g]) (rfl)
theorem c_X9_wipe (h : Hp) : Rn 0 MX9_wipe [.ref 31] h (EI (h.1 31 8) (pI (pI h 31 8 0) 31 16 0)) := by
  refine rn_of mm_X9_wipe (le_b rfl) rfl ?_
  refine r_aload0 dX9_wipe_0 ?_
  refine r_getI dX9_wipe_1 fl_X9_103 rfl rfl ?_
  refine r_istore1 dX9_wipe_4 rfl (by decide) ?_
  refine r_aload0 dX9_wipe_5 ?_
  refine r_iconst_0 dX9_wipe_6 ?_
  refine r_putI dX9_wipe_7 fw_X9_103 rfl rfl ?_
  refine r_aload0 dX9_wipe_10 ?_
  refine r_iconst_0 dX9_wipe_11 ?_
  refine r_putI dX9_wipe_12 fw_X9_106 rfl rfl ?_
  refine r_iload1 dX9_wipe_15 ?_
  exact r_iretE dX9_wipe_16 rfl (rfl) (rfl)
def amt (v : Int32) : Int64 := if 0 ≤ v then v.toInt64 else -v.toInt64
theorem c_X9_amount (v : Int32) (h : Hp) : Rn 0 MX9_amount [.int v] h (EL (amt v) h) := by
  refine rn_of mm_X9_amount (le_b rfl) rfl ?_
  unfold amt
  refine r_iload0 dX9_amount_0 ?_
  refine r_ifge (tgt := 10) dX9_amount_1 (by decide) (fun c => ?_) (fun c => ?_)
  · refine r_iload0 dX9_amount_10 ?_
    refine r_i2l dX9_amount_11 ?_
    exact r_lretE dX9_amount_12 rfl (by rw [if_pos c]) (rfl)
  · refine r_iload0 dX9_amount_4 ?_
    refine r_i2l dX9_amount_5 ?_
    refine r_lneg dX9_amount_6 ?_
    refine r_goto (tgt := 12) dX9_amount_7 (by decide) ?_
    exact r_lretE dX9_amount_12 rfl (by rw [if_neg c]) (rfl)
theorem i32_add0 (x : Int32) : x + 0 = x := Int32.add_zero x
def mLa (f : Int32) (a : Nat → Int32) (n : Nat) : Int32 := lp (fun i c => if rem64 (amt (a i)) 10 = f.toInt64 then c + 1 else c) 0 n 0
theorem c_X9_lastsOf (j : Nat) (f : Int32) (h : Hp) (hj : j < 4) (hS : MS4 h) : Rn 1 MX9_lastsOf [.ref 31, .int (nI j), .int f] h (EI (mLa f (fun i => h.1 34 (60 * j + i)) (mz h j)) h) := by
  obtain ⟨z1, z2⟩ := hS j hj
  refine rn_of mm_X9_lastsOf (le_b rfl) rfl ?_
  refine r_iconst_0 dX9_lastsOf_0 ?_
  refine r_istore3 dX9_lastsOf_1 rfl (by decide) ?_
  refine r_iconst_0 dX9_lastsOf_2 ?_
  refine r_istore4 dX9_lastsOf_3 rfl (by decide) ?_
  refine lpA (fun i c => if rem64 (amt (h.1 34 (60 * j + i))) 10 = f.toInt64 then c + 1 else c) (fun i c => Aw 1 MX9_lastsOf (Kp (EI (mLa f (fun i => h.1 34 (60 * j + i)) (mz h j)) h)) 5 [some (.ref 31), some (.int (nI j)), some (.int f), some (.int c), some (.int (nI i))] [] h) (mz h j) ?_ 0 ?_
  · intro i c hi k
    refine r_iload4 dX9_lastsOf_5 ?_
    refine r_aload0 dX9_lastsOf_7 ?_
    refine r_getR dX9_lastsOf_8 fl_X9_13 rfl rfl ?_
    refine r_iload1 dX9_lastsOf_11 ?_
    refine r_ialdN dX9_lastsOf_12 rfl hj ?_
    refine r_icmpge (tgt := 50) dX9_lastsOf_13 (by decide) (fun c9 => absurd c9 (by rw [z1]; exact nI_ge hi (by omega))) (fun _ => ?_)
    refine r_iload3 dX9_lastsOf_16 ?_
    refine r_aload0 dX9_lastsOf_17 ?_
    refine r_iload1 dX9_lastsOf_18 ?_
    refine r_iload4 dX9_lastsOf_19 ?_
    refine r_cV2I dX9_lastsOf_21 mm_X9_item im_X9_item se_X9_item ml_X9_242 rfl rfl rfl (c_X9_item j i h hj (by omega)) (by decide) (Nat.le_of_ble_eq_true rfl) ?_
    refine r_cS1L dX9_lastsOf_24 mm_X9_amount st_X9_amount ml_X9_260 (c_X9_amount _ h) (by decide) (Nat.le_of_ble_eq_true rfl) ?_
    refine r_ldc2 ct_X9_158 dX9_lastsOf_27 ?_
    refine r_lrem (by decide) dX9_lastsOf_30 ?_
    refine r_iload2 dX9_lastsOf_31 ?_
    refine r_i2l dX9_lastsOf_32 ?_
    refine r_lne (tgt := 41) dX9_lastsOf_33 dX9_lastsOf_34 (by decide) (fun c1 => ?_) (fun c1 => ?_)
    · rw [if_neg c1] at k
      refine r_iconst_0 dX9_lastsOf_41 ?_
      refine r_iadd dX9_lastsOf_42 ?_
      refine r_istore3 dX9_lastsOf_43 rfl (by decide) ?_
      refine r_iinc4_1 dX9_lastsOf_44 rfl (by decide) ?_
      refine r_goto (tgt := 5) dX9_lastsOf_47 (by decide) ?_
      rw [nI_1, i32_add0]
      exact k
    · rw [if_pos c1] at k
      refine r_iconst_1 dX9_lastsOf_37 ?_
      refine r_goto (tgt := 42) dX9_lastsOf_38 (by decide) ?_
      refine r_iadd dX9_lastsOf_42 ?_
      refine r_istore3 dX9_lastsOf_43 rfl (by decide) ?_
      refine r_iinc4_1 dX9_lastsOf_44 rfl (by decide) ?_
      refine r_goto (tgt := 5) dX9_lastsOf_47 (by decide) ?_
      rw [nI_1]
      exact k
  · refine r_iload4 dX9_lastsOf_5 ?_
    refine r_aload0 dX9_lastsOf_7 ?_
    refine r_getR dX9_lastsOf_8 fl_X9_13 rfl rfl ?_
    refine r_iload1 dX9_lastsOf_11 ?_
    refine r_ialdN dX9_lastsOf_12 rfl hj ?_
    refine r_icmpge (tgt := 50) dX9_lastsOf_13 (by decide) (fun _ => ?_) (fun c9 => absurd (by rw [z1]; exact Int32.le_refl _) c9)
    refine r_iload3 dX9_lastsOf_50 ?_
    exact r_iretE dX9_lastsOf_51 rfl (rfl) (rfl)
def fN : Nat → Nat → Nat
  | 0, a => a
  | k + 1, a => if 9 < a then fN k (a / 10) else a
theorem c_X9_firstOf (v : Int32) (a : Nat) (h : Hp) (ha : amt v = lN a) (hb : a < 10 ^ 10) : Rn 1 MX9_firstOf [.int v] h (EI (nI (fN 9 a)) h) := by
  refine rn_of mm_X9_firstOf (le_b rfl) rfl ?_
  refine r_iload0 dX9_firstOf_0 ?_
  refine r_cS1L dX9_firstOf_1 mm_X9_amount st_X9_amount ml_X9_260 (c_X9_amount v h) (by decide) (Nat.le_of_ble_eq_true rfl) ?_
  refine r_lstore1 dX9_firstOf_4 rfl (by decide) ?_
  rw [ha]
  have key : ∀ k b, b < 10 ^ (k + 1) → k ≤ 9 → fN k b = fN 9 a → Aw 1 MX9_firstOf (Kp (EI (nI (fN 9 a)) h)) 5 [some (.int v), some (.long (lN b)), none] [] h := by
    intro k
    induction k with
    | zero =>
      intro b hb _ he
      have hb : b < 10 := hb
      have he : b = fN 9 a := he
      refine r_lload1 dX9_firstOf_5 ?_
      refine r_ldc2 ct_X9_97 dX9_firstOf_6 ?_
      refine r_lle (tgt := 22) dX9_firstOf_9 dX9_firstOf_10 (by decide) (fun _ => ?_) (fun c9 => absurd ((pk_lLE (a := b) (b := 9) (by omega) (by decide)).mpr (by omega)) c9)
      refine r_lload1 dX9_firstOf_22 ?_
      refine r_l2i dX9_firstOf_23 ?_
      rw [lN_i, he]
      exact r_iretE dX9_firstOf_24 rfl (rfl) (rfl)
    | succ k ih =>
      intro b hb hk he
      have hp : 10 ^ (k + 1 + 1) = 10 ^ (k + 1) * 10 := Nat.pow_succ ..
      have hp2 : 10 ^ (k + 1) ≤ 10 ^ 10 := Nat.pow_le_pow_right (by decide) (by omega)
      have hb63 : b < 2 ^ 63 := by omega
      rw [fN] at he
      by_cases c : 9 < b
      · rw [if_pos c] at he
        refine r_lload1 dX9_firstOf_5 ?_
        refine r_ldc2 ct_X9_97 dX9_firstOf_6 ?_
        refine r_lle (tgt := 22) dX9_firstOf_9 dX9_firstOf_10 (by decide) (fun c9 => absurd c9 (fun q => by have := (pk_lLE (a := b) (b := 9) hb63 (by decide)).mp q; omega)) (fun _ => ?_)
        refine r_lload1 dX9_firstOf_13 ?_
        refine r_ldc2 ct_X9_158 dX9_firstOf_14 ?_
        refine r_ldiv (by decide) dX9_firstOf_17 ?_
        have e : lN b / 10 = lN (b / 10) := pk_lDiv (b := 10) hb63 (by decide) (by decide)
        rw [e]
        refine r_lstore1 dX9_firstOf_18 rfl (by decide) ?_
        refine r_goto (tgt := 5) dX9_firstOf_19 (by decide) ?_
        exact ih (b / 10) (by omega) (by omega) he
      · rw [if_neg c] at he
        refine r_lload1 dX9_firstOf_5 ?_
        refine r_ldc2 ct_X9_97 dX9_firstOf_6 ?_
        refine r_lle (tgt := 22) dX9_firstOf_9 dX9_firstOf_10 (by decide) (fun _ => ?_) (fun c9 => absurd ((pk_lLE (a := b) (b := 9) hb63 (by decide)).mpr (by omega)) c9)
        refine r_lload1 dX9_firstOf_22 ?_
        refine r_l2i dX9_firstOf_23 ?_
        rw [lN_i, he]
        exact r_iretE dX9_firstOf_24 rfl (rfl) (rfl)
  exact key 9 a hb (Nat.le_refl 9) rfl
