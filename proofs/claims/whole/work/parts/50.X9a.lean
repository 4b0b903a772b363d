/-! the reference, ToldFiguresModel: place 31; forms 32, sizes 33, items 34, moved 35 -/
theorem fa_lt (a b : Int32) : a < b ↔ a.toInt < b.toInt := Int32.lt_iff_toInt_lt
theorem fa_le (a b : Int32) : a ≤ b ↔ a.toInt ≤ b.toInt := Int32.le_iff_toInt_le
theorem fa_eq (a b : Int32) : a = b ↔ a.toInt = b.toInt := Int32.toInt_inj.symm
theorem fa_lt64 (a b : Int64) : a < b ↔ a.toInt < b.toInt := Int64.lt_iff_toInt_lt
theorem fa_le64 (a b : Int64) : a ≤ b ↔ a.toInt ≤ b.toInt := Int64.le_iff_toInt_le
theorem fa_eq64 (a b : Int64) : a = b ↔ a.toInt = b.toInt := Int64.toInt_inj.symm
theorem fa_wide_lt (a b : Int32) : a.toInt64 < b.toInt64 ↔ a < b := by rw [fa_lt64, fa_lt, Int32.toInt_toInt64, Int32.toInt_toInt64]
theorem fa_wide_le (a b : Int32) : a.toInt64 ≤ b.toInt64 ↔ a ≤ b := by rw [fa_le64, fa_le, Int32.toInt_toInt64, Int32.toInt_toInt64]
theorem fa_wide_eq (a b : Int32) : a.toInt64 = b.toInt64 ↔ a = b := by rw [fa_eq64, fa_eq, Int32.toInt_toInt64, Int32.toInt_toInt64]
theorem c_in_y {v l u : Int64} (h : Hp) (h1 : ¬ v < l) (h2 : ¬ u < v) : Rn 0 MX9_in [.long v, .long l, .long u] h (EI 1 h) := by
  refine rn_of mm_X9_in (le_b rfl) rfl ?_
  refine r_lload0 dX9_in_0 ?_
  refine r_lload2 dX9_in_1 ?_
  refine r_llt (tgt := 17) dX9_in_2 dX9_in_3 (by decide) (fun c9 => absurd c9 (h1)) (fun _ => ?_)
  refine r_lload0 dX9_in_6 ?_
  refine r_lload4 dX9_in_7 ?_
  refine r_lgt (tgt := 17) dX9_in_9 dX9_in_10 (by decide) (fun c9 => absurd c9 (h2)) (fun _ => ?_)
  refine r_iconst_1 dX9_in_13 ?_
  refine r_goto (tgt := 18) dX9_in_14 (by decide) ?_
  exact r_zretE dX9_in_18 rfl (by decide) (rfl) (rfl)
theorem c_in_n {v l u : Int64} (h : Hp) (hb : v < l ∨ u < v) : Rn 0 MX9_in [.long v, .long l, .long u] h (EI 0 h) := by
  refine rn_of mm_X9_in (le_b rfl) rfl ?_
  by_cases c : v < l
  · refine r_lload0 dX9_in_0 ?_
    refine r_lload2 dX9_in_1 ?_
    refine r_llt (tgt := 17) dX9_in_2 dX9_in_3 (by decide) (fun _ => ?_) (fun c9 => absurd (c) c9)
    refine r_iconst_0 dX9_in_17 ?_
    exact r_zretE dX9_in_18 rfl (by decide) (rfl) (rfl)
  · refine r_lload0 dX9_in_0 ?_
    refine r_lload2 dX9_in_1 ?_
    refine r_llt (tgt := 17) dX9_in_2 dX9_in_3 (by decide) (fun c9 => absurd c9 (c)) (fun _ => ?_)
    refine r_lload0 dX9_in_6 ?_
    refine r_lload4 dX9_in_7 ?_
    refine r_lgt (tgt := 17) dX9_in_9 dX9_in_10 (by decide) (fun _ => ?_) (fun c9 => absurd (hb.resolve_left c) c9)
    refine r_iconst_0 dX9_in_17 ?_
    exact r_zretE dX9_in_18 rfl (by decide) (rfl) (rfl)
theorem c_inI_y {v lo hi : Int32} {l u : Int64} (h : Hp) (el : lo.toInt64 = l) (eu : hi.toInt64 = u) (h1 : ¬ v < lo) (h2 : ¬ hi < v) : Rn 0 MX9_in [.long v.toInt64, .long l, .long u] h (EI 1 h) := by
  subst el; subst eu
  exact c_in_y h (fun q => h1 ((fa_wide_lt _ _).mp q)) (fun q => h2 ((fa_wide_lt _ _).mp q))
theorem c_inI_n {v lo hi : Int32} {l u : Int64} (h : Hp) (el : lo.toInt64 = l) (eu : hi.toInt64 = u) (hb : v < lo ∨ hi < v) : Rn 0 MX9_in [.long v.toInt64, .long l, .long u] h (EI 0 h) := by
  subst el; subst eu
  exact c_in_n h (hb.imp (fa_wide_lt _ _).mpr (fa_wide_lt _ _).mpr)
theorem lt34 (s : Int32) : 3 < s ↔ 4 ≤ s := by
  rw [fa_lt, fa_le]
  have e1 : (3 : Int32).toInt = 3 := by decide
  have e2 : (4 : Int32).toInt = 4 := by decide
  omega
theorem lt23 (s : Int32) : 2 < s ↔ 3 ≤ s := by
  rw [fa_lt, fa_le]
  have e1 : (2 : Int32).toInt = 2 := by decide
  have e2 : (3 : Int32).toInt = 3 := by decide
  omega
theorem c_mS_y {s : Int32} (h : Hp) (hs : okS s) : Rn 1 MX9_isSheet [.int s] h (EI 1 h) := by
  refine rn_of mm_X9_isSheet (le_b rfl) rfl ?_
  refine r_iload0 dX9_isSheet_0 ?_
  refine r_i2l dX9_isSheet_1 ?_
  refine r_lconst_0 dX9_isSheet_2 ?_
  refine r_ldc2 ct_X9_72 dX9_isSheet_3 ?_
  refine r_cS3I dX9_isSheet_6 mm_X9_in st_X9_in ml_X9_74 (c_inI_y (lo := 0) (hi := 3) h (by decide) (by decide) hs.1 (fun q => hs.2 ((lt34 s).mp q))) (by decide) (Nat.le_of_ble_eq_true rfl) ?_
  exact r_zretE dX9_isSheet_9 rfl (by decide) (rfl) (rfl)
theorem c_mS_n {s : Int32} (h : Hp) (hs : ¬ okS s) : Rn 1 MX9_isSheet [.int s] h (EI 0 h) := by
  have hb : s < 0 ∨ 3 < s := by
    by_cases c : s < 0
    · exact Or.inl c
    · exact Or.inr ((lt34 s).mpr (Decidable.byContradiction fun q => hs ⟨c, q⟩))
  refine rn_of mm_X9_isSheet (le_b rfl) rfl ?_
  refine r_iload0 dX9_isSheet_0 ?_
  refine r_i2l dX9_isSheet_1 ?_
  refine r_lconst_0 dX9_isSheet_2 ?_
  refine r_ldc2 ct_X9_72 dX9_isSheet_3 ?_
  refine r_cS3I dX9_isSheet_6 mm_X9_in st_X9_in ml_X9_74 (c_inI_n (lo := 0) (hi := 3) h (by decide) (by decide) hb) (by decide) (Nat.le_of_ble_eq_true rfl) ?_
  exact r_zretE dX9_isSheet_9 rfl (by decide) (rfl) (rfl)
theorem c_mF_y {s : Int32} (h : Hp) (hs : okF s) : Rn 0 MX9_in [.long s.toInt64, .long 0, .long 2] h (EI 1 h) := c_inI_y (lo := 0) (hi := 2) h (by decide) (by decide) hs.1 (fun q => hs.2 ((lt23 s).mp q))
theorem c_mF_n {s : Int32} (h : Hp) (hs : ¬ okF s) : Rn 0 MX9_in [.long s.toInt64, .long 0, .long 2] h (EI 0 h) := by
  refine c_inI_n (lo := 0) (hi := 2) h (by decide) (by decide) ?_
  by_cases c : s < 0
  · exact Or.inl c
  · exact Or.inr ((lt23 s).mpr (Decidable.byContradiction fun q => hs ⟨c, q⟩))
theorem c_mR_y {s : Int32} (h : Hp) (hs : okRu s) : Rn 1 MX9_isRule [.int s] h (EI 1 h) := by
  refine rn_of mm_X9_isRule (le_b rfl) rfl ?_
  refine r_iload0 dX9_isRule_0 ?_
  refine r_i2l dX9_isRule_1 ?_
  refine r_lconst_0 dX9_isRule_2 ?_
  refine r_ldc2 ct_X9_82 dX9_isRule_3 ?_
  refine r_cS3I dX9_isRule_6 mm_X9_in st_X9_in ml_X9_74 (c_inI_y (lo := 0) (hi := 2) h (by decide) (by decide) hs.1 hs.2) (by decide) (Nat.le_of_ble_eq_true rfl) ?_
  exact r_zretE dX9_isRule_9 rfl (by decide) (rfl) (rfl)
theorem c_mR_n {s : Int32} (h : Hp) (hs : ¬ okRu s) : Rn 1 MX9_isRule [.int s] h (EI 0 h) := by
  have hb : s < 0 ∨ 2 < s := by
    by_cases c : s < 0
    · exact Or.inl c
    · exact Or.inr (Decidable.byContradiction fun q => hs ⟨c, q⟩)
  refine rn_of mm_X9_isRule (le_b rfl) rfl ?_
  refine r_iload0 dX9_isRule_0 ?_
  refine r_i2l dX9_isRule_1 ?_
  refine r_lconst_0 dX9_isRule_2 ?_
  refine r_ldc2 ct_X9_82 dX9_isRule_3 ?_
  refine r_cS3I dX9_isRule_6 mm_X9_in st_X9_in ml_X9_74 (c_inI_n (lo := 0) (hi := 2) h (by decide) (by decide) hb) (by decide) (Nat.le_of_ble_eq_true rfl) ?_
  exact r_zretE dX9_isRule_9 rfl (by decide) (rfl) (rfl)
theorem c_X9_no (x : Int32) (h : Hp) : Rn 0 MX9_no [.int x] h (EL (rfL x) h) := by
  refine rn_of mm_X9_no (le_b rfl) rfl ?_
  refine r_ldc2 ct_X9_67 dX9_no_0 ?_
  refine r_iload0 dX9_no_3 ?_
  refine r_i2l dX9_no_4 ?_
  refine r_lsub dX9_no_5 ?_
  exact r_lretE dX9_no_6 rfl (rfl) (rfl)
theorem c_X9_met (k : Int32) (h : Hp) : Rn 0 MX9_met [.ref 31, .int k] h (EI (-10 - k) (pI h 31 4 k)) := by
  refine rn_of mm_X9_met (le_b rfl) rfl ?_
  refine r_aload0 dX9_met_0 ?_
  refine r_iload1 dX9_met_1 ?_
  refine r_putI dX9_met_2 fw_X9_69 rfl rfl ?_
  refine r_bipush bv_m10 dX9_met_5 ?_
  refine r_iload1 dX9_met_7 ?_
  refine r_isub dX9_met_8 ?_
  exact r_iretE dX9_met_9 rfl (rfl) (rfl)
/-- the reference's sheets are as they must be -/
def mz (h : Hp) (j : Nat) : Nat := (h.1 33 j).toNatClampNeg
def MS4 (h : Hp) : Prop := ∀ j, j < 4 → h.1 33 j = nI (mz h j) ∧ mz h j ≤ 60
theorem m60 (j i : Nat) : (60 : Int32) * nI j + nI i = nI (60 * j + i) := by
  rw [show (60 : Int32) = nI 60 from rfl, pk_mul, nI_add]
theorem c_X9_item (j i : Nat) (h : Hp) (hj : j < 4) (hi : i < 60) : Rn 0 MX9_item [.ref 31, .int (nI j), .int (nI i)] h (EI (h.1 34 (60 * j + i)) h) := by
  refine rn_of mm_X9_item (le_b rfl) rfl ?_
  refine r_aload0 dX9_item_0 ?_
  refine r_getR dX9_item_1 fl_X9_16 rfl rfl ?_
  refine r_bipush bv_60 dX9_item_4 ?_
  refine r_iload1 dX9_item_6 ?_
  refine r_imul dX9_item_7 ?_
  refine r_iload2 dX9_item_8 ?_
  refine r_iadd dX9_item_9 ?_
  rw [m60]
  refine r_ialdN dX9_item_10 rfl (by omega) ?_
  exact r_iretE dX9_item_11 rfl (rfl) (rfl)
theorem c_X9_cut (f v : Int32) (h : Hp) : Rn 0 MX9_cut [.int f, .int v] h (EI (cutF f v) h) := by
  refine rn_of mm_X9_cut (le_b rfl) rfl ?_
  unfold cutF
  refine r_iload0 dX9_cut_0 ?_
  refine r_ifne (tgt := 9) dX9_cut_1 (by decide) (fun c => ?_) (fun c => ?_)
  · rw [if_neg c]
    refine r_iload0 dX9_cut_9 ?_
    refine r_iconst_1 dX9_cut_10 ?_
    refine r_icmpne (tgt := 19) dX9_cut_11 (by decide) (fun c2 => ?_) (fun c2 => ?_)
    · refine r_iload1 dX9_cut_19 ?_
      exact r_iretE dX9_cut_20 rfl (by rw [if_neg c2]) (rfl)
    · refine r_iload1 dX9_cut_14 ?_
      refine r_i2s dX9_cut_15 ?_
      refine r_goto (tgt := 20) dX9_cut_16 (by decide) ?_
      exact r_iretE dX9_cut_20 rfl (by rw [if_pos c2]) (rfl)
  · refine r_iload1 dX9_cut_4 ?_
    refine r_i2b dX9_cut_5 ?_
    refine r_goto (tgt := 20) dX9_cut_6 (by decide) ?_
    exact r_iretE dX9_cut_20 rfl (by rw [if_pos c]) (rfl)
theorem c_X9_sheet_bad (s f n : Int32) (h : Hp) (hb : ¬ okS s ∨ ¬ okF f ∨ 60 < n) : Rn 2 MX9_sheet [.ref 31, .int s, .int f, .int n] h (EI (-2) h) := by
  refine rn_of mm_X9_sheet (le_b rfl) rfl ?_
  by_cases c : okS s
  · by_cases c2 : okF f
    · have c3 : 60 < n := (hb.resolve_left (fun q => q c)).resolve_left (fun q => q c2)
      refine r_iload1 dX9_sheet_0 ?_
      refine r_cS1I dX9_sheet_1 mm_X9_isSheet st_X9_isSheet ml_X9_78 (c_mS_y h c) (by decide) (Nat.le_of_ble_eq_true rfl) ?_
      refine r_ifeq (tgt := 25) dX9_sheet_4 (by decide) (fun c9 => absurd c9 (by decide)) (fun _ => ?_)
      refine r_iload2 dX9_sheet_7 ?_
      refine r_i2l dX9_sheet_8 ?_
      refine r_lconst_0 dX9_sheet_9 ?_
      refine r_ldc2 ct_X9_82 dX9_sheet_10 ?_
      refine r_cS3I dX9_sheet_13 mm_X9_in st_X9_in ml_X9_74 (c_mF_y h c2) (by decide) (Nat.le_of_ble_eq_true rfl) ?_
      refine r_ifeq (tgt := 25) dX9_sheet_16 (by decide) (fun c9 => absurd c9 (by decide)) (fun _ => ?_)
      refine r_iload3 dX9_sheet_19 ?_
      refine r_bipush bv_60 dX9_sheet_20 ?_
      refine r_icmple (tgt := 28) dX9_sheet_22 (by decide) (fun c9 => absurd c9 (Int32.not_le.mpr c3)) (fun _ => ?_)
      refine r_bipush bv_m2 dX9_sheet_25 ?_
      exact r_iretE dX9_sheet_27 rfl (rfl) (rfl)
    · refine r_iload1 dX9_sheet_0 ?_
      refine r_cS1I dX9_sheet_1 mm_X9_isSheet st_X9_isSheet ml_X9_78 (c_mS_y h c) (by decide) (Nat.le_of_ble_eq_true rfl) ?_
      refine r_ifeq (tgt := 25) dX9_sheet_4 (by decide) (fun c9 => absurd c9 (by decide)) (fun _ => ?_)
      refine r_iload2 dX9_sheet_7 ?_
      refine r_i2l dX9_sheet_8 ?_
      refine r_lconst_0 dX9_sheet_9 ?_
      refine r_ldc2 ct_X9_82 dX9_sheet_10 ?_
      refine r_cS3I dX9_sheet_13 mm_X9_in st_X9_in ml_X9_74 (c_mF_n h c2) (by decide) (Nat.le_of_ble_eq_true rfl) ?_
      refine r_ifeq (tgt := 25) dX9_sheet_16 (by decide) (fun _ => ?_) (fun c9 => absurd (rfl) c9)
      refine r_bipush bv_m2 dX9_sheet_25 ?_
      exact r_iretE dX9_sheet_27 rfl (rfl) (rfl)
  · refine r_iload1 dX9_sheet_0 ?_
    refine r_cS1I dX9_sheet_1 mm_X9_isSheet st_X9_isSheet ml_X9_78 (c_mS_n h c) (by decide) (Nat.le_of_ble_eq_true rfl) ?_
    refine r_ifeq (tgt := 25) dX9_sheet_4 (by decide) (fun _ => ?_) (fun c9 => absurd (rfl) c9)
    refine r_bipush bv_m2 dX9_sheet_25 ?_
    exact r_iretE dX9_sheet_27 rfl (rfl) (rfl)
theorem c_X9_sheet_size (s f n : Int32) (h : Hp) (hs : okS s) (hf : okF f) (hn : n < 0) : Rn 2 MX9_sheet [.ref 31, .int s, .int f, .int n] h (EI (-15) (pI h 31 4 5)) := by
  refine rn_of mm_X9_sheet (le_b rfl) rfl ?_
  refine r_iload1 dX9_sheet_0 ?_
  refine r_cS1I dX9_sheet_1 mm_X9_isSheet st_X9_isSheet ml_X9_78 (c_mS_y h hs) (by decide) (Nat.le_of_ble_eq_true rfl) ?_
  refine r_ifeq (tgt := 25) dX9_sheet_4 (by decide) (fun c9 => absurd c9 (by decide)) (fun _ => ?_)
  refine r_iload2 dX9_sheet_7 ?_
  refine r_i2l dX9_sheet_8 ?_
  refine r_lconst_0 dX9_sheet_9 ?_
  refine r_ldc2 ct_X9_82 dX9_sheet_10 ?_
  refine r_cS3I dX9_sheet_13 mm_X9_in st_X9_in ml_X9_74 (c_mF_y h hf) (by decide) (Nat.le_of_ble_eq_true rfl) ?_
  refine r_ifeq (tgt := 25) dX9_sheet_16 (by decide) (fun c9 => absurd c9 (by decide)) (fun _ => ?_)
  refine r_iload3 dX9_sheet_19 ?_
  refine r_bipush bv_60 dX9_sheet_20 ?_
  refine r_icmple (tgt := 28) dX9_sheet_22 (by decide) (fun _ => ?_) (fun c9 => absurd (Int32.le_of_lt (Int32.lt_trans hn (by decide))) c9)
  refine r_iload3 dX9_sheet_28 ?_
  refine r_ifge (tgt := 38) dX9_sheet_29 (by decide) (fun c9 => absurd c9 (fun q => absurd hn (Int32.not_lt.mpr q))) (fun _ => ?_)
  refine r_aload0 dX9_sheet_32 ?_
  refine r_iconst_5 dX9_sheet_33 ?_
  refine r_cV1I dX9_sheet_34 mm_X9_met im_X9_met se_X9_met ml_X9_84 rfl rfl rfl (c_X9_met 5 h) (by decide) (Nat.le_of_ble_eq_true rfl) ?_
  exact r_iretE dX9_sheet_37 rfl (rfl) (rfl)
def mshH (h : Hp) (j : Nat) (f : Int32) (n k : Nat) : Hp := pA (pI (pI h 32 j f) 33 j (nI n)) 34 (fun x => if 60 * j ≤ x ∧ x < 60 * j + k then 0 else h.1 34 x)
theorem c_X9_sheet (j n : Nat) (f : Int32) (h : Hp) (hj : j < 4) (hf : okF f) (hn : n ≤ 60) : Rn 2 MX9_sheet [.ref 31, .int (nI j), .int f, .int (nI n)] h (EI (nI n) (mshH h j f n n)) := by
  refine rn_of mm_X9_sheet (le_b rfl) rfl ?_
  refine r_iload1 dX9_sheet_0 ?_
  refine r_cS1I dX9_sheet_1 mm_X9_isSheet st_X9_isSheet ml_X9_78 (c_mS_y h (okj hj)) (by decide) (Nat.le_of_ble_eq_true rfl) ?_
  refine r_ifeq (tgt := 25) dX9_sheet_4 (by decide) (fun c9 => absurd c9 (by decide)) (fun _ => ?_)
  refine r_iload2 dX9_sheet_7 ?_
  refine r_i2l dX9_sheet_8 ?_
  refine r_lconst_0 dX9_sheet_9 ?_
  refine r_ldc2 ct_X9_82 dX9_sheet_10 ?_
  refine r_cS3I dX9_sheet_13 mm_X9_in st_X9_in ml_X9_74 (c_mF_y h hf) (by decide) (Nat.le_of_ble_eq_true rfl) ?_
  refine r_ifeq (tgt := 25) dX9_sheet_16 (by decide) (fun c9 => absurd c9 (by decide)) (fun _ => ?_)
  refine r_iload3 dX9_sheet_19 ?_
  refine r_bipush bv_60 dX9_sheet_20 ?_
  refine r_icmple (tgt := 28) dX9_sheet_22 (by decide) (fun _ => ?_) (fun c9 => absurd (nI_le (b := 60) hn (by decide)) c9)
  refine r_iload3 dX9_sheet_28 ?_
  refine r_ifge (tgt := 38) dX9_sheet_29 (by decide) (fun _ => ?_) (fun c9 => absurd (nI_pos' (by omega)) c9)
  refine r_aload0 dX9_sheet_38 ?_
  refine r_getR dX9_sheet_39 fl_X9_7 rfl rfl ?_
  refine r_iload1 dX9_sheet_42 ?_
  refine r_iload2 dX9_sheet_43 ?_
  refine r_iastN dX9_sheet_44 rfl hj ?_
  refine r_aload0 dX9_sheet_45 ?_
  refine r_getR dX9_sheet_46 fl_X9_13 rfl rfl ?_
  refine r_iload1 dX9_sheet_49 ?_
  refine r_iload3 dX9_sheet_50 ?_
  refine r_iastN dX9_sheet_51 rfl hj ?_
  refine r_iconst_0 dX9_sheet_52 ?_
  refine r_istore4 dX9_sheet_53 rfl (by decide) ?_
  have key : ∀ r i, i + r = n → Aw 2 MX9_sheet (Kp (EI (nI n) (mshH h j f n n))) 55 [some (.ref 31), some (.int (nI j)), some (.int f), some (.int (nI n)), some (.int (nI i))] [] (mshH h j f n i) := by
    intro r
    induction r with
    | zero =>
      intro i hi
      have : i = n := by omega
      subst this
      refine r_iload4 dX9_sheet_55 ?_
      refine r_iload3 dX9_sheet_57 ?_
      refine r_icmpge (tgt := 80) dX9_sheet_58 (by decide) (fun _ => ?_) (fun c9 => absurd (Int32.le_refl _) c9)
      refine r_iload3 dX9_sheet_80 ?_
      exact r_iretE dX9_sheet_81 rfl (rfl) (rfl)
    | succ r ih =>
      intro i hi
      refine r_iload4 dX9_sheet_55 ?_
      refine r_iload3 dX9_sheet_57 ?_
      refine r_icmpge (tgt := 80) dX9_sheet_58 (by decide) (fun c9 => absurd c9 (nI_ge (by omega) (by omega))) (fun _ => ?_)
      refine r_aload0 dX9_sheet_61 ?_
      refine r_getR dX9_sheet_62 fl_X9_16 rfl rfl ?_
      refine r_bipush bv_60 dX9_sheet_65 ?_
      refine r_iload1 dX9_sheet_67 ?_
      refine r_imul dX9_sheet_68 ?_
      refine r_iload4 dX9_sheet_69 ?_
      refine r_iadd dX9_sheet_71 ?_
      rw [m60]
      refine r_iconst_0 dX9_sheet_72 ?_
      refine r_iastN dX9_sheet_73 rfl (by omega) ?_
      refine r_iinc4_1 dX9_sheet_74 rfl (by decide) ?_
      refine r_goto (tgt := 55) dX9_sheet_77 (by decide) ?_
      have e : pI (mshH h j f n i) 34 (60 * j + i) 0 = mshH h j f n (i + 1) := by
        unfold mshH
        rw [pI_pA]
        congr 1
        funext x
        unfold upd
        by_cases a : x = 60 * j + i
        · subst a; simp
        · by_cases b : 60 * j ≤ x ∧ x < 60 * j + i
          · simp [a, b]; omega
          · have : ¬ (60 * j ≤ x ∧ x < 60 * j + (i + 1)) := by omega
            simp [a, b, this]
      rw [e, nI_1]
      exact ih (i + 1) (by omega)
  have k0 := key n 0 (by omega)
  have e : mshH h j f n 0 = pI (pI h 32 j f) 33 j (nI n) := by
    unfold mshH
    refine hp_ext (fun q x => ?_) (fun q x => rfl)
    rw [pA_g]
    by_cases e : q = 34
    · subst e
      rw [if_pos rfl, if_neg (by omega)]
      simp [pI_g]
    · rw [if_neg e]
  rw [e] at k0
  exact k0
theorem c_X9_lose_bad (s : Int32) (h : Hp) (hb : ¬ okS s) : Rn 2 MX9_lose [.ref 31, .int s] h (EI (-2) h) := by
  refine rn_of mm_X9_lose (le_b rfl) rfl ?_
  refine r_iload1 dX9_lose_0 ?_
  refine r_cS1I dX9_lose_1 mm_X9_isSheet st_X9_isSheet ml_X9_78 (c_mS_n h hb) (by decide) (Nat.le_of_ble_eq_true rfl) ?_
  refine r_ifne (tgt := 10) dX9_lose_4 (by decide) (fun c9 => absurd (rfl) c9) (fun _ => ?_)
  refine r_bipush bv_m2 dX9_lose_7 ?_
  exact r_iretE dX9_lose_9 rfl (rfl) (rfl)
theorem c_X9_lose_null (j : Nat) (h : Hp) (hj : j < 4) (hl : h.1 32 j < 0) : Rn 2 MX9_lose [.ref 31, .int (nI j)] h (EI (-11) (pI h 31 4 1)) := by
  refine rn_of mm_X9_lose (le_b rfl) rfl ?_
  refine r_iload1 dX9_lose_0 ?_
  refine r_cS1I dX9_lose_1 mm_X9_isSheet st_X9_isSheet ml_X9_78 (c_mS_y h (okj hj)) (by decide) (Nat.le_of_ble_eq_true rfl) ?_
  refine r_ifne (tgt := 10) dX9_lose_4 (by decide) (fun _ => ?_) (fun c9 => absurd c9 (by decide))
  refine r_aload0 dX9_lose_10 ?_
  refine r_getR dX9_lose_11 fl_X9_7 rfl rfl ?_
  refine r_iload1 dX9_lose_14 ?_
  refine r_ialdN dX9_lose_15 rfl hj ?_
  refine r_ifge (tgt := 25) dX9_lose_16 (by decide) (fun c9 => absurd c9 (fun q => absurd hl (Int32.not_lt.mpr q))) (fun _ => ?_)
  refine r_aload0 dX9_lose_19 ?_
  refine r_iconst_1 dX9_lose_20 ?_
  refine r_cV1I dX9_lose_21 mm_X9_met im_X9_met se_X9_met ml_X9_84 rfl rfl rfl (c_X9_met 1 h) (by decide) (Nat.le_of_ble_eq_true rfl) ?_
  exact r_iretE dX9_lose_24 rfl (rfl) (rfl)
theorem c_X9_lose (j : Nat) (h : Hp) (hj : j < 4) (hl : ¬ h.1 32 j < 0) : Rn 2 MX9_lose [.ref 31, .int (nI j)] h (EI (h.1 33 j) (pI h 32 j (-1))) := by
  refine rn_of mm_X9_lose (le_b rfl) rfl ?_
  refine r_iload1 dX9_lose_0 ?_
  refine r_cS1I dX9_lose_1 mm_X9_isSheet st_X9_isSheet ml_X9_78 (c_mS_y h (okj hj)) (by decide) (Nat.le_of_ble_eq_true rfl) ?_
  refine r_ifne (tgt := 10) dX9_lose_4 (by decide) (fun _ => ?_) (fun c9 => absurd c9 (by decide))
  refine r_aload0 dX9_lose_10 ?_
  refine r_getR dX9_lose_11 fl_X9_7 rfl rfl ?_
  refine r_iload1 dX9_lose_14 ?_
  refine r_ialdN dX9_lose_15 rfl hj ?_
  refine r_ifge (tgt := 25) dX9_lose_16 (by decide) (fun _ => ?_) (fun c9 => absurd (Int32.not_lt.mp hl) c9)
  refine r_aload0 dX9_lose_25 ?_
  refine r_getR dX9_lose_26 fl_X9_7 rfl rfl ?_
  refine r_iload1 dX9_lose_29 ?_
  refine r_iconst_m1 dX9_lose_30 ?_
  refine r_iastN dX9_lose_31 rfl hj ?_
  refine r_aload0 dX9_lose_32 ?_
  refine r_getR dX9_lose_33 fl_X9_13 rfl rfl ?_
  refine r_iload1 dX9_lose_36 ?_
  refine r_ialdN dX9_lose_37 rfl hj ?_
  exact r_iretE dX9_lose_38 rfl (by simp [pI_g]) (rfl)
def mtr (h : Hp) (j : Nat) (f i : Int32) : Int32 := if h.1 32 j < 0 then 1 else if h.1 32 j = f then (if i < 0 then 2 else if i < h.1 33 j then 0 else 2) else 3
theorem c_X9_lacks (j : Nat) (f i : Int32) (h : Hp) (hj : j < 4) (hS : MS4 h) : Rn 1 MX9_lacks [.ref 31, .int (nI j), .int f, .int i] h (if mtr h j f i = 0 then EI 0 h else EI (-10 - mtr h j f i) (pI h 31 4 (mtr h j f i))) := by
  obtain ⟨z1, z2⟩ := hS j hj
  refine rn_of mm_X9_lacks (le_b rfl) rfl ?_
  unfold mtr
  by_cases c1 : h.1 32 j < 0
  · simp only [if_pos c1]
    rw [if_neg (by decide)]
    refine r_aload0 dX9_lacks_0 ?_
    refine r_getR dX9_lacks_1 fl_X9_7 rfl rfl ?_
    refine r_iload1 dX9_lacks_4 ?_
    refine r_ialdN dX9_lacks_5 rfl hj ?_
    refine r_ifge (tgt := 15) dX9_lacks_6 (by decide) (fun c9 => absurd c9 (fun q => absurd c1 (Int32.not_lt.mpr q))) (fun _ => ?_)
    refine r_aload0 dX9_lacks_9 ?_
    refine r_iconst_1 dX9_lacks_10 ?_
    refine r_cV1I dX9_lacks_11 mm_X9_met im_X9_met se_X9_met ml_X9_84 rfl rfl rfl (c_X9_met 1 h) (by decide) (Nat.le_of_ble_eq_true rfl) ?_
    exact r_iretE dX9_lacks_14 rfl (rfl) (rfl)
  · simp only [if_neg c1]
    by_cases c2 : h.1 32 j = f
    · simp only [if_pos c2]
      have e : nI (mz h j) - 1 = (nI (mz h j) - 1) := rfl
      have hup : ¬ i < 0 → ((nI (mz h j) - 1 < i) ↔ ¬ i < nI (mz h j)) := by
        intro h0
        obtain ⟨x, hx, rfl⟩ := nI_of h0
        by_cases hz : mz h j = 0
        · rw [hz]
          constructor
          · intro _; exact nI_nlt (Nat.zero_le x) hx
          · intro _; exact Int32.lt_of_lt_of_le (by decide : nI 0 - 1 < 0) (nI_pos' hx)
        · obtain ⟨y, hy⟩ : ∃ y, mz h j = y + 1 := ⟨mz h j - 1, by omega⟩
          rw [hy, nI_pred, nI_ltI (by omega) hx, nI_ltI hx (by omega)]
          omega
      refine r_aload0 dX9_lacks_0 ?_
      refine r_getR dX9_lacks_1 fl_X9_7 rfl rfl ?_
      refine r_iload1 dX9_lacks_4 ?_
      refine r_ialdN dX9_lacks_5 rfl hj ?_
      refine r_ifge (tgt := 15) dX9_lacks_6 (by decide) (fun _ => ?_) (fun c9 => absurd (Int32.not_lt.mp c1) c9)
      refine r_aload0 dX9_lacks_15 ?_
      refine r_getR dX9_lacks_16 fl_X9_7 rfl rfl ?_
      refine r_iload1 dX9_lacks_19 ?_
      refine r_ialdN dX9_lacks_20 rfl hj ?_
      refine r_iload2 dX9_lacks_21 ?_
      refine r_icmpeq (tgt := 31) dX9_lacks_22 (by decide) (fun _ => ?_) (fun c9 => absurd (c2) c9)
      refine r_iload3 dX9_lacks_31 ?_
      refine r_i2l dX9_lacks_32 ?_
      refine r_lconst_0 dX9_lacks_33 ?_
      refine r_aload0 dX9_lacks_34 ?_
      refine r_getR dX9_lacks_35 fl_X9_13 rfl rfl ?_
      refine r_iload1 dX9_lacks_38 ?_
      refine r_ialdN dX9_lacks_39 rfl hj ?_
      refine r_iconst_1 dX9_lacks_40 ?_
      refine r_isub dX9_lacks_41 ?_
      rw [z1]
      by_cases c3 : i < 0
      · simp only [if_pos c3]
        rw [if_neg (by decide)]
        refine r_i2l dX9_lacks_42 ?_
        refine r_cS3I dX9_lacks_43 mm_X9_in st_X9_in ml_X9_74 (c_inI_n (lo := 0) (hi := nI (mz h j) - 1) h (by decide) rfl (Or.inl c3)) (by decide) (Nat.le_of_ble_eq_true rfl) ?_
        refine r_ifeq (tgt := 53) dX9_lacks_46 (by decide) (fun _ => ?_) (fun c9 => absurd (rfl) c9)
        refine r_aload0 dX9_lacks_53 ?_
        refine r_iconst_2 dX9_lacks_54 ?_
        refine r_cV1I dX9_lacks_55 mm_X9_met im_X9_met se_X9_met ml_X9_84 rfl rfl rfl (c_X9_met 2 h) (by decide) (Nat.le_of_ble_eq_true rfl) ?_
        exact r_iretE dX9_lacks_58 rfl (rfl) (rfl)
      · simp only [if_neg c3]
        by_cases c4 : i < nI (mz h j)
        · simp only [if_pos c4]
          refine r_i2l dX9_lacks_42 ?_
          refine r_cS3I dX9_lacks_43 mm_X9_in st_X9_in ml_X9_74 (c_inI_y (lo := 0) (hi := nI (mz h j) - 1) h (by decide) rfl c3 (fun q => (hup c3).mp q c4)) (by decide) (Nat.le_of_ble_eq_true rfl) ?_
          refine r_ifeq (tgt := 53) dX9_lacks_46 (by decide) (fun c9 => absurd c9 (by decide)) (fun _ => ?_)
          refine r_iconst_0 dX9_lacks_49 ?_
          refine r_goto (tgt := 58) dX9_lacks_50 (by decide) ?_
          exact r_iretE dX9_lacks_58 rfl (rfl) (rfl)
        · simp only [if_neg c4]
          rw [if_neg (by decide)]
          refine r_i2l dX9_lacks_42 ?_
          refine r_cS3I dX9_lacks_43 mm_X9_in st_X9_in ml_X9_74 (c_inI_n (lo := 0) (hi := nI (mz h j) - 1) h (by decide) rfl (Or.inr ((hup c3).mpr c4))) (by decide) (Nat.le_of_ble_eq_true rfl) ?_
          refine r_ifeq (tgt := 53) dX9_lacks_46 (by decide) (fun _ => ?_) (fun c9 => absurd (rfl) c9)
          refine r_aload0 dX9_lacks_53 ?_
          refine r_iconst_2 dX9_lacks_54 ?_
          refine r_cV1I dX9_lacks_55 mm_X9_met im_X9_met se_X9_met ml_X9_84 rfl rfl rfl (c_X9_met 2 h) (by decide) (Nat.le_of_ble_eq_true rfl) ?_
          exact r_iretE dX9_lacks_58 rfl (rfl) (rfl)
    · simp only [if_neg c2]
      rw [if_neg (by decide)]
      refine r_aload0 dX9_lacks_0 ?_
      refine r_getR dX9_lacks_1 fl_X9_7 rfl rfl ?_
      refine r_iload1 dX9_lacks_4 ?_
      refine r_ialdN dX9_lacks_5 rfl hj ?_
      refine r_ifge (tgt := 15) dX9_lacks_6 (by decide) (fun _ => ?_) (fun c9 => absurd (Int32.not_lt.mp c1) c9)
      refine r_aload0 dX9_lacks_15 ?_
      refine r_getR dX9_lacks_16 fl_X9_7 rfl rfl ?_
      refine r_iload1 dX9_lacks_19 ?_
      refine r_ialdN dX9_lacks_20 rfl hj ?_
      refine r_iload2 dX9_lacks_21 ?_
      refine r_icmpeq (tgt := 31) dX9_lacks_22 (by decide) (fun c9 => absurd c9 (c2)) (fun _ => ?_)
      refine r_aload0 dX9_lacks_25 ?_
      refine r_iconst_3 dX9_lacks_26 ?_
      refine r_cV1I dX9_lacks_27 mm_X9_met im_X9_met se_X9_met ml_X9_84 rfl rfl rfl (c_X9_met 3 h) (by decide) (Nat.le_of_ble_eq_true rfl) ?_
      exact r_iretE dX9_lacks_30 rfl (rfl) (rfl)
