/-! the reference: figures and chances -/
def amN (v : Int32) : Nat := v.toInt.natAbs
theorem amN_lt (v : Int32) : amN v ≤ 2 ^ 31 := by
  have h1 := Int32.le_toInt v
  have h2 := Int32.toInt_lt v
  unfold amN
  omega
theorem amt_N (v : Int32) : amt v = lN (amN v) := by
  have h1 := Int32.le_toInt v
  have h2 := Int32.toInt_lt v
  have h3 := amN_lt v
  unfold amt
  apply Int64.toInt_inj.mp
  rw [pk_lT (by omega)]
  unfold amN
  split
  · rename_i c
    have c := (fa_le 0 v).mp c
    have e : (0 : Int32).toInt = 0 := by decide
    rw [Int32.toInt_toInt64]
    omega
  · rename_i c
    have c : ¬ (0 : Int32).toInt ≤ v.toInt := fun q => c ((fa_le 0 v).mpr q)
    have e : (0 : Int32).toInt = 0 := by decide
    rw [Int64.toInt_neg, Int32.toInt_toInt64]
    simp only [Int.bmod]
    split <;> omega
theorem t10 (x : Int32) : (x / 10).toInt = if 0 ≤ x.toInt then x.toInt / 10 else -((-x.toInt) / 10) := by
  have h1 := Int32.le_toInt x
  have h2 := Int32.toInt_lt x
  rw [Int32.toInt_div]
  have e : (10 : Int32).toInt = 10 := by decide
  rw [e]
  have q : x.toInt.tdiv 10 = if 0 ≤ x.toInt then x.toInt / 10 else -((-x.toInt) / 10) := by
    split
    · rename_i c
      exact Int.tdiv_eq_ediv_of_nonneg c
    · rename_i c
      have : x.toInt = -(-x.toInt) := by omega
      rw [this, Int.neg_tdiv, Int.tdiv_eq_ediv_of_nonneg (by omega)]
      simp
  rw [q]
  simp only [Int.bmod]
  split <;> omega
theorem abs_toInt (x : Int32) (h : -2147483648 < x.toInt) : (abs32 x).toInt = (x.toInt.natAbs : Int) := by
  have h2 := Int32.toInt_lt x
  have e : (0 : Int32).toInt = 0 := by decide
  unfold abs32
  split
  · rename_i c
    have c := (fa_le 0 x).mp c
    omega
  · rename_i c
    have c : ¬ (0 : Int32).toInt ≤ x.toInt := fun q => c ((fa_le 0 x).mpr q)
    rw [Int32.toInt_sub, e]
    simp only [Int.bmod]
    split <;> omega
theorem fEnd_toInt (v : Int32) : (fEnd v).toInt = ((amN v % 10 : Nat) : Int) := by
  have h1 := Int32.le_toInt v
  have h2 := Int32.toInt_lt v
  have q := t10 v
  have e : (10 : Int32).toInt = 10 := by decide
  have r : (rem32 v 10).toInt = if 0 ≤ v.toInt then v.toInt % 10 else -((-v.toInt) % 10) := by
    unfold rem32
    rw [Int32.toInt_sub, Int32.toInt_mul, q, e]
    simp only [Int.bmod]
    split <;> omega
  unfold fEnd amN
  rw [abs_toInt _ (by rw [r]; split <;> omega), r]
  split <;> omega
theorem fEnd_nI (v : Int32) : fEnd v = nI (amN v % 10) := by
  apply Int32.toInt_inj.mp
  rw [fEnd_toInt, nI_toInt (by omega)]
theorem end_iff (v f : Int32) : rem64 (amt v) 10 = f.toInt64 ↔ fEnd v = f := by
  have h3 := amN_lt v
  have e : rem64 (amt v) 10 = lN (amN v % 10) := by
    rw [amt_N]
    exact pk_lRem (b := 10) (by omega) (by decide) (by decide)
  rw [e, ← nI_l (n := amN v % 10) (by omega), fEnd_nI, fa_wide_eq]
theorem mLa_c (f : Int32) (a : Nat → Int32) (n : Nat) : mLa f a n = cntF fEnd f a n := by
  unfold mLa cntF
  apply lp_cong
  intro j b _ _
  by_cases c : fEnd (a j) = f
  · rw [if_pos c, if_pos ((end_iff _ _).mpr c)]
  · rw [if_neg c, if_neg (fun q => c ((end_iff _ _).mp q))]
theorem ff_abs (x : Int32) : amN (ffStep x) = if 9 < amN x then amN x / 10 else amN x := by
  have h1 := Int32.le_toInt x
  have h2 := Int32.toInt_lt x
  have q := t10 x
  have e : (10 : Int32).toInt = 10 := by decide
  have e2 : (-10 : Int32).toInt = -10 := by decide
  unfold ffStep amN
  by_cases c : x ≤ -10
  · rw [if_pos c, q]
    have c := (fa_le _ _).mp c
    split <;> split <;> omega
  · rw [if_neg c]
    have c : ¬ x.toInt ≤ (-10 : Int32).toInt := fun q => c ((fa_le _ _).mpr q)
    by_cases d : 10 ≤ x
    · rw [if_pos d, q]
      have d := (fa_le _ _).mp d
      rw [if_pos (by omega), if_pos (by omega)]
      obtain ⟨m, hm⟩ := Int.eq_ofNat_of_zero_le (show 0 ≤ x.toInt by omega)
      rw [hm]
      omega
    · rw [if_neg d]
      have d : ¬ (10 : Int32).toInt ≤ x.toInt := fun q => d ((fa_le _ _).mpr q)
      split <;> omega
theorem ff_lp : ∀ k i x, amN (lp (fun _ x => ffStep x) i k x) = fN k (amN x) := by
  intro k
  induction k with
  | zero => intro i x; rfl
  | succ k ih =>
    intro i x
    rw [lp_s, ih, ff_abs, fN]
    by_cases c : 9 < amN x
    · rw [if_pos c, if_pos c]
    · rw [if_neg c, if_neg c]
      cases k with
      | zero => rfl
      | succ k => rw [fN, if_neg c]
theorem fN_le : ∀ k a, a < 10 ^ (k + 1) → fN k a ≤ 9 := by
  intro k
  induction k with
  | zero => intro a h; rw [fN]; omega
  | succ k ih =>
    intro a h
    rw [fN]
    split
    · apply ih
      rw [Nat.pow_succ] at h
      omega
    · omega
theorem fFirst_nI (v : Int32) : nI (fN 9 (amN v)) = fFirst v := by
  have h3 := amN_lt v
  have h4 := fN_le 9 (amN v) (by omega)
  have h5 := ff_lp 9 1 v
  apply Int32.toInt_inj.mp
  unfold fFirst
  have h6 : (lp (fun _ x => ffStep x) 1 9 v).toInt.natAbs = fN 9 (amN v) := h5
  rw [nI_toInt (by omega), abs_toInt _ (by omega), h6]
theorem c_X9_first1 (v : Int32) (h : Hp) : Rn 1 MX9_firstOf [.int v] h (EI (fFirst v) h) := by
  have h3 := amN_lt v
  have r := c_X9_firstOf v (amN v) h (amt_N v) (by omega)
  rw [fFirst_nI] at r
  exact r
theorem c_X9_lasts (j : Nat) (f : Int32) (h : Hp) (hj : j < 4) (hS : MS4 h) : Rn 1 MX9_lastsOf [.ref 31, .int (nI j), .int f] h (EI (cntF fEnd f (fun i => h.1 34 (60 * j + i)) (mz h j)) h) := by
  have r := c_X9_lastsOf j f h hj hS
  rw [mLa_c] at r
  exact r
theorem c_X9_firstsOf (j : Nat) (f : Int32) (h : Hp) (hj : j < 4) (hS : MS4 h) : Rn 2 MX9_firstsOf [.ref 31, .int (nI j), .int f] h (EI (cntF fFirst f (fun i => h.1 34 (60 * j + i)) (mz h j)) h) := by
  obtain ⟨z1, z2⟩ := hS j hj
  refine rn_of mm_X9_firstsOf (le_b rfl) rfl ?_
  refine r_iconst_0 dX9_firstsOf_0 ?_
  refine r_istore3 dX9_firstsOf_1 rfl (by decide) ?_
  refine r_iconst_0 dX9_firstsOf_2 ?_
  refine r_istore4 dX9_firstsOf_3 rfl (by decide) ?_
  refine lpA (fun i c => if fFirst (h.1 34 (60 * j + i)) = f then c + 1 else c) (fun i c => Aw 2 MX9_firstsOf (Kp (EI (cntF fFirst f (fun i => h.1 34 (60 * j + i)) (mz h j)) h)) 5 [some (.ref 31), some (.int (nI j)), some (.int f), some (.int c), some (.int (nI i))] [] h) (mz h j) ?_ 0 ?_
  · intro i c hi k
    refine r_iload4 dX9_firstsOf_5 ?_
    refine r_aload0 dX9_firstsOf_7 ?_
    refine r_getR dX9_firstsOf_8 fl_X9_13 rfl rfl ?_
    refine r_iload1 dX9_firstsOf_11 ?_
    refine r_ialdN dX9_firstsOf_12 rfl hj ?_
    refine r_icmpge (tgt := 44) dX9_firstsOf_13 (by decide) (fun c9 => absurd c9 (by rw [z1]; exact nI_ge hi (by omega))) (fun _ => ?_)
    refine r_iload3 dX9_firstsOf_16 ?_
    refine r_aload0 dX9_firstsOf_17 ?_
    refine r_iload1 dX9_firstsOf_18 ?_
    refine r_iload4 dX9_firstsOf_19 ?_
    refine r_cV2I dX9_firstsOf_21 mm_X9_item im_X9_item se_X9_item ml_X9_242 rfl rfl rfl (c_X9_item j i h hj (by omega)) (by decide) (Nat.le_of_ble_eq_true rfl) ?_
    refine r_cS1I dX9_firstsOf_24 mm_X9_firstOf st_X9_firstOf ml_X9_273 (c_X9_first1 _ h) (by decide) (Nat.le_of_ble_eq_true rfl) ?_
    refine r_iload2 dX9_firstsOf_27 ?_
    refine r_icmpne (tgt := 35) dX9_firstsOf_28 (by decide) (fun c1 => ?_) (fun c1 => ?_)
    · rw [if_neg c1] at k
      refine r_iconst_0 dX9_firstsOf_35 ?_
      refine r_iadd dX9_firstsOf_36 ?_
      refine r_istore3 dX9_firstsOf_37 rfl (by decide) ?_
      refine r_iinc4_1 dX9_firstsOf_38 rfl (by decide) ?_
      refine r_goto (tgt := 5) dX9_firstsOf_41 (by decide) ?_
      rw [nI_1, i32_add0]
      exact k
    · rw [if_pos c1] at k
      refine r_iconst_1 dX9_firstsOf_31 ?_
      refine r_goto (tgt := 36) dX9_firstsOf_32 (by decide) ?_
      refine r_iadd dX9_firstsOf_36 ?_
      refine r_istore3 dX9_firstsOf_37 rfl (by decide) ?_
      refine r_iinc4_1 dX9_firstsOf_38 rfl (by decide) ?_
      refine r_goto (tgt := 5) dX9_firstsOf_41 (by decide) ?_
      rw [nI_1]
      exact k
  · refine r_iload4 dX9_firstsOf_5 ?_
    refine r_aload0 dX9_firstsOf_7 ?_
    refine r_getR dX9_firstsOf_8 fl_X9_13 rfl rfl ?_
    refine r_iload1 dX9_firstsOf_11 ?_
    refine r_ialdN dX9_firstsOf_12 rfl hj ?_
    refine r_icmpge (tgt := 44) dX9_firstsOf_13 (by decide) (fun _ => ?_) (fun c9 => absurd (by rw [z1]; exact Int32.le_refl _) c9)
    refine r_iload3 dX9_firstsOf_44 ?_
    exact r_iretE dX9_firstsOf_45 rfl (rfl) (rfl)
theorem c_X9_last_bad (s f : Int32) (h : Hp) (hb : ¬ okS s ∨ f < 0 ∨ 9 < f) : Rn 2 MX9_last [.ref 31, .int s, .int f] h (EI (-2) h) := by
  refine rn_of mm_X9_last (le_b rfl) rfl ?_
  by_cases c : okS s
  · refine r_iload1 dX9_last_0 ?_
    refine r_cS1I dX9_last_1 mm_X9_isSheet st_X9_isSheet ml_X9_78 (c_mS_y h c) (by decide) (Nat.le_of_ble_eq_true rfl) ?_
    refine r_ifeq (tgt := 19) dX9_last_4 (by decide) (fun c9 => absurd c9 (by decide)) (fun _ => ?_)
    refine r_iload2 dX9_last_7 ?_
    refine r_i2l dX9_last_8 ?_
    refine r_lconst_0 dX9_last_9 ?_
    refine r_ldc2 ct_X9_97 dX9_last_10 ?_
    refine r_cS3I dX9_last_13 mm_X9_in st_X9_in ml_X9_74 (c_inI_n (lo := 0) (hi := 9) h (by decide) (by decide) (hb.resolve_left (fun q => q c))) (by decide) (Nat.le_of_ble_eq_true rfl) ?_
    refine r_ifne (tgt := 22) dX9_last_16 (by decide) (fun c9 => absurd (rfl) c9) (fun _ => ?_)
    refine r_bipush bv_m2 dX9_last_19 ?_
    exact r_iretE dX9_last_21 rfl (rfl) (rfl)
  · refine r_iload1 dX9_last_0 ?_
    refine r_cS1I dX9_last_1 mm_X9_isSheet st_X9_isSheet ml_X9_78 (c_mS_n h c) (by decide) (Nat.le_of_ble_eq_true rfl) ?_
    refine r_ifeq (tgt := 19) dX9_last_4 (by decide) (fun _ => ?_) (fun c9 => absurd (rfl) c9)
    refine r_bipush bv_m2 dX9_last_19 ?_
    exact r_iretE dX9_last_21 rfl (rfl) (rfl)
theorem c_X9_last_null (j : Nat) (f : Int32) (h : Hp) (hj : j < 4) (h1 : ¬ f < 0) (h2 : ¬ 9 < f) (hl : h.1 32 j < 0) : Rn 2 MX9_last [.ref 31, .int (nI j), .int f] h (EI (-11) (pI h 31 4 1)) := by
  refine rn_of mm_X9_last (le_b rfl) rfl ?_
  refine r_iload1 dX9_last_0 ?_
  refine r_cS1I dX9_last_1 mm_X9_isSheet st_X9_isSheet ml_X9_78 (c_mS_y h (okj hj)) (by decide) (Nat.le_of_ble_eq_true rfl) ?_
  refine r_ifeq (tgt := 19) dX9_last_4 (by decide) (fun c9 => absurd c9 (by decide)) (fun _ => ?_)
  refine r_iload2 dX9_last_7 ?_
  refine r_i2l dX9_last_8 ?_
  refine r_lconst_0 dX9_last_9 ?_
  refine r_ldc2 ct_X9_97 dX9_last_10 ?_
  refine r_cS3I dX9_last_13 mm_X9_in st_X9_in ml_X9_74 (c_inI_y (lo := 0) (hi := 9) h (by decide) (by decide) h1 h2) (by decide) (Nat.le_of_ble_eq_true rfl) ?_
  refine r_ifne (tgt := 22) dX9_last_16 (by decide) (fun _ => ?_) (fun c9 => absurd c9 (by decide))
  refine r_aload0 dX9_last_22 ?_
  refine r_getR dX9_last_23 fl_X9_7 rfl rfl ?_
  refine r_iload1 dX9_last_26 ?_
  refine r_ialdN dX9_last_27 rfl hj ?_
  refine r_ifge (tgt := 39) dX9_last_28 (by decide) (fun c9 => absurd c9 (fun q => absurd hl (Int32.not_lt.mpr q))) (fun _ => ?_)
  refine r_aload0 dX9_last_31 ?_
  refine r_iconst_1 dX9_last_32 ?_
  refine r_cV1I dX9_last_33 mm_X9_met im_X9_met se_X9_met ml_X9_84 rfl rfl rfl (c_X9_met 1 h) (by decide) (Nat.le_of_ble_eq_true rfl) ?_
  refine r_goto (tgt := 45) dX9_last_36 (by decide) ?_
  exact r_iretE dX9_last_45 rfl (rfl) (rfl)
theorem c_X9_last (j : Nat) (f : Int32) (h : Hp) (hj : j < 4) (h1 : ¬ f < 0) (h2 : ¬ 9 < f) (hS : MS4 h) (hl : ¬ h.1 32 j < 0) : Rn 2 MX9_last [.ref 31, .int (nI j), .int f] h (EI (cntF fEnd f (fun i => h.1 34 (60 * j + i)) (mz h j)) h) := by
  refine rn_of mm_X9_last (le_b rfl) rfl ?_
  refine r_iload1 dX9_last_0 ?_
  refine r_cS1I dX9_last_1 mm_X9_isSheet st_X9_isSheet ml_X9_78 (c_mS_y h (okj hj)) (by decide) (Nat.le_of_ble_eq_true rfl) ?_
  refine r_ifeq (tgt := 19) dX9_last_4 (by decide) (fun c9 => absurd c9 (by decide)) (fun _ => ?_)
  refine r_iload2 dX9_last_7 ?_
  refine r_i2l dX9_last_8 ?_
  refine r_lconst_0 dX9_last_9 ?_
  refine r_ldc2 ct_X9_97 dX9_last_10 ?_
  refine r_cS3I dX9_last_13 mm_X9_in st_X9_in ml_X9_74 (c_inI_y (lo := 0) (hi := 9) h (by decide) (by decide) h1 h2) (by decide) (Nat.le_of_ble_eq_true rfl) ?_
  refine r_ifne (tgt := 22) dX9_last_16 (by decide) (fun _ => ?_) (fun c9 => absurd c9 (by decide))
  refine r_aload0 dX9_last_22 ?_
  refine r_getR dX9_last_23 fl_X9_7 rfl rfl ?_
  refine r_iload1 dX9_last_26 ?_
  refine r_ialdN dX9_last_27 rfl hj ?_
  refine r_ifge (tgt := 39) dX9_last_28 (by decide) (fun _ => ?_) (fun c9 => absurd (Int32.not_lt.mp hl) c9)
  refine r_aload0 dX9_last_39 ?_
  refine r_iload1 dX9_last_40 ?_
  refine r_iload2 dX9_last_41 ?_
  refine r_cV2I dX9_last_42 mm_X9_lastsOf im_X9_lastsOf se_X9_lastsOf ml_X9_263 rfl rfl rfl (c_X9_lasts j f h hj hS) (by decide) (Nat.le_of_ble_eq_true rfl) ?_
  exact r_iretE dX9_last_45 rfl (rfl) (rfl)
theorem c_X9_first_bad (s f : Int32) (h : Hp) (hb : ¬ okS s ∨ f < 1 ∨ 9 < f) : Rn 2 MX9_first [.ref 31, .int s, .int f] h (EI (-2) h) := by
  refine rn_of mm_X9_first (le_b rfl) rfl ?_
  by_cases c : okS s
  · refine r_iload1 dX9_first_0 ?_
    refine r_cS1I dX9_first_1 mm_X9_isSheet st_X9_isSheet ml_X9_78 (c_mS_y h c) (by decide) (Nat.le_of_ble_eq_true rfl) ?_
    refine r_ifeq (tgt := 19) dX9_first_4 (by decide) (fun c9 => absurd c9 (by decide)) (fun _ => ?_)
    refine r_iload2 dX9_first_7 ?_
    refine r_i2l dX9_first_8 ?_
    refine r_lconst_1 dX9_first_9 ?_
    refine r_ldc2 ct_X9_97 dX9_first_10 ?_
    refine r_cS3I dX9_first_13 mm_X9_in st_X9_in ml_X9_74 (c_inI_n (lo := 1) (hi := 9) h (by decide) (by decide) (hb.resolve_left (fun q => q c))) (by decide) (Nat.le_of_ble_eq_true rfl) ?_
    refine r_ifne (tgt := 22) dX9_first_16 (by decide) (fun c9 => absurd (rfl) c9) (fun _ => ?_)
    refine r_bipush bv_m2 dX9_first_19 ?_
    exact r_iretE dX9_first_21 rfl (rfl) (rfl)
  · refine r_iload1 dX9_first_0 ?_
    refine r_cS1I dX9_first_1 mm_X9_isSheet st_X9_isSheet ml_X9_78 (c_mS_n h c) (by decide) (Nat.le_of_ble_eq_true rfl) ?_
    refine r_ifeq (tgt := 19) dX9_first_4 (by decide) (fun _ => ?_) (fun c9 => absurd (rfl) c9)
    refine r_bipush bv_m2 dX9_first_19 ?_
    exact r_iretE dX9_first_21 rfl (rfl) (rfl)
theorem c_X9_first_null (j : Nat) (f : Int32) (h : Hp) (hj : j < 4) (h1 : ¬ f < 1) (h2 : ¬ 9 < f) (hl : h.1 32 j < 0) : Rn 2 MX9_first [.ref 31, .int (nI j), .int f] h (EI (-11) (pI h 31 4 1)) := by
  refine rn_of mm_X9_first (le_b rfl) rfl ?_
  refine r_iload1 dX9_first_0 ?_
  refine r_cS1I dX9_first_1 mm_X9_isSheet st_X9_isSheet ml_X9_78 (c_mS_y h (okj hj)) (by decide) (Nat.le_of_ble_eq_true rfl) ?_
  refine r_ifeq (tgt := 19) dX9_first_4 (by decide) (fun c9 => absurd c9 (by decide)) (fun _ => ?_)
  refine r_iload2 dX9_first_7 ?_
  refine r_i2l dX9_first_8 ?_
  refine r_lconst_1 dX9_first_9 ?_
  refine r_ldc2 ct_X9_97 dX9_first_10 ?_
  refine r_cS3I dX9_first_13 mm_X9_in st_X9_in ml_X9_74 (c_inI_y (lo := 1) (hi := 9) h (by decide) (by decide) h1 h2) (by decide) (Nat.le_of_ble_eq_true rfl) ?_
  refine r_ifne (tgt := 22) dX9_first_16 (by decide) (fun _ => ?_) (fun c9 => absurd c9 (by decide))
  refine r_aload0 dX9_first_22 ?_
  refine r_getR dX9_first_23 fl_X9_7 rfl rfl ?_
  refine r_iload1 dX9_first_26 ?_
  refine r_ialdN dX9_first_27 rfl hj ?_
  refine r_ifge (tgt := 39) dX9_first_28 (by decide) (fun c9 => absurd c9 (fun q => absurd hl (Int32.not_lt.mpr q))) (fun _ => ?_)
  refine r_aload0 dX9_first_31 ?_
  refine r_iconst_1 dX9_first_32 ?_
  refine r_cV1I dX9_first_33 mm_X9_met im_X9_met se_X9_met ml_X9_84 rfl rfl rfl (c_X9_met 1 h) (by decide) (Nat.le_of_ble_eq_true rfl) ?_
  refine r_goto (tgt := 45) dX9_first_36 (by decide) ?_
  exact r_iretE dX9_first_45 rfl (rfl) (rfl)
theorem c_X9_first (j : Nat) (f : Int32) (h : Hp) (hj : j < 4) (h1 : ¬ f < 1) (h2 : ¬ 9 < f) (hS : MS4 h) (hl : ¬ h.1 32 j < 0) : Rn 3 MX9_first [.ref 31, .int (nI j), .int f] h (EI (cntF fFirst f (fun i => h.1 34 (60 * j + i)) (mz h j)) h) := by
  refine rn_of mm_X9_first (le_b rfl) rfl ?_
  refine r_iload1 dX9_first_0 ?_
  refine r_cS1I dX9_first_1 mm_X9_isSheet st_X9_isSheet ml_X9_78 (c_mS_y h (okj hj)) (by decide) (Nat.le_of_ble_eq_true rfl) ?_
  refine r_ifeq (tgt := 19) dX9_first_4 (by decide) (fun c9 => absurd c9 (by decide)) (fun _ => ?_)
  refine r_iload2 dX9_first_7 ?_
  refine r_i2l dX9_first_8 ?_
  refine r_lconst_1 dX9_first_9 ?_
  refine r_ldc2 ct_X9_97 dX9_first_10 ?_
  refine r_cS3I dX9_first_13 mm_X9_in st_X9_in ml_X9_74 (c_inI_y (lo := 1) (hi := 9) h (by decide) (by decide) h1 h2) (by decide) (Nat.le_of_ble_eq_true rfl) ?_
  refine r_ifne (tgt := 22) dX9_first_16 (by decide) (fun _ => ?_) (fun c9 => absurd c9 (by decide))
  refine r_aload0 dX9_first_22 ?_
  refine r_getR dX9_first_23 fl_X9_7 rfl rfl ?_
  refine r_iload1 dX9_first_26 ?_
  refine r_ialdN dX9_first_27 rfl hj ?_
  refine r_ifge (tgt := 39) dX9_first_28 (by decide) (fun _ => ?_) (fun c9 => absurd (Int32.not_lt.mp hl) c9)
  refine r_aload0 dX9_first_39 ?_
  refine r_iload1 dX9_first_40 ?_
  refine r_iload2 dX9_first_41 ?_
  refine r_cV2I dX9_first_42 mm_X9_firstsOf im_X9_firstsOf se_X9_firstsOf ml_X9_276 rfl rfl rfl (c_X9_firstsOf j f h hj hS) (by decide) (Nat.le_of_ble_eq_true rfl) ?_
  exact r_iretE dX9_first_45 rfl (rfl) (rfl)
theorem c_X9_over (a t : Nat) (h : Hp) (ha : a < 2 ^ 30) (ht : t < 2 ^ 30) : Rn 0 MX9_over [.int (nI a), .int (nI t)] h (EL (bin a t) h) := by
  refine rn_of mm_X9_over (le_b rfl) rfl ?_
  refine r_lconst_1 dX9_over_0 ?_
  refine r_lstore2 dX9_over_1 rfl (by decide) ?_
  refine r_iconst_0 dX9_over_2 ?_
  refine r_istore4 dX9_over_3 rfl (by decide) ?_
  refine lpA (fun i v => v * (nI a - nI i).toInt64 / (nI i + 1).toInt64) (fun i v => Aw 0 MX9_over (Kp (EL (bin a t) h)) 5 [some (.int (nI a)), some (.int (nI t)), some (.long v), none, some (.int (nI i))] [] h) t ?_ 1 ?_
  · intro i v hi k
    refine r_iload4 dX9_over_5 ?_
    refine r_iload1 dX9_over_7 ?_
    refine r_icmpge (tgt := 31) dX9_over_8 (by decide) (fun c9 => absurd c9 (nI_ge hi (by omega))) (fun _ => ?_)
    refine r_lload2 dX9_over_11 ?_
    refine r_iload0 dX9_over_12 ?_
    refine r_iload4 dX9_over_13 ?_
    refine r_isub dX9_over_15 ?_
    refine r_i2l dX9_over_16 ?_
    refine r_lmul dX9_over_17 ?_
    refine r_iload4 dX9_over_18 ?_
    refine r_iconst_1 dX9_over_20 ?_
    refine r_iadd dX9_over_21 ?_
    refine r_i2l dX9_over_22 ?_
    refine r_ldiv (d64ne (by omega)) dX9_over_23 ?_
    refine r_lstore2 dX9_over_24 rfl (by decide) ?_
    refine r_iinc4_1 dX9_over_25 rfl (by decide) ?_
    refine r_goto (tgt := 5) dX9_over_28 (by decide) ?_
    rw [← nI_1] at k
    exact k
  · refine r_iload4 dX9_over_5 ?_
    refine r_iload1 dX9_over_7 ?_
    refine r_icmpge (tgt := 31) dX9_over_8 (by decide) (fun _ => ?_) (fun c9 => absurd (Int32.le_refl _) c9)
    refine r_lload2 dX9_over_31 ?_
    exact r_lretE dX9_over_32 rfl (rfl) (rfl)
theorem c_X9_power (b : Int64) (t : Nat) (h : Hp) (ht : t < 2 ^ 30) : Rn 0 MX9_power [.long b, .int (nI t)] h (EL (powL b t) h) := by
  refine rn_of mm_X9_power (le_b rfl) rfl ?_
  refine r_lconst_1 dX9_power_0 ?_
  refine r_lstore3 dX9_power_1 rfl (by decide) ?_
  refine r_iconst_0 dX9_power_2 ?_
  refine r_istore5 dX9_power_3 rfl (by decide) ?_
  refine lpA (fun _ v => v * b) (fun i v => Aw 0 MX9_power (Kp (EL (powL b t) h)) 5 [some (.long b), none, some (.int (nI t)), some (.long v), none, some (.int (nI i))] [] h) t ?_ 1 ?_
  · intro i v hi k
    refine r_iload5 dX9_power_5 ?_
    refine r_iload2 dX9_power_7 ?_
    refine r_icmpge (tgt := 21) dX9_power_8 (by decide) (fun c9 => absurd c9 (nI_ge hi (by omega))) (fun _ => ?_)
    refine r_lload3 dX9_power_11 ?_
    refine r_lload0 dX9_power_12 ?_
    refine r_lmul dX9_power_13 ?_
    refine r_lstore3 dX9_power_14 rfl (by decide) ?_
    refine r_iinc5_1 dX9_power_15 rfl (by decide) ?_
    refine r_goto (tgt := 5) dX9_power_18 (by decide) ?_
    rw [← nI_1] at k
    exact k
  · refine r_iload5 dX9_power_5 ?_
    refine r_iload2 dX9_power_7 ?_
    refine r_icmpge (tgt := 21) dX9_power_8 (by decide) (fun _ => ?_) (fun c9 => absurd (Int32.le_refl _) c9)
    refine r_lload3 dX9_power_21 ?_
    exact r_lretE dX9_power_22 rfl (rfl) (rfl)
