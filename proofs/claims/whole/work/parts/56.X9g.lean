/-! the reference: twice -/
theorem ab64 (x : Int64) : (if x < 0 then -x else x) = abs64 x := by
  unfold abs64
  by_cases c : x < 0
  · rw [if_pos c, if_neg (Int64.not_lt.mpr (Int64.le_of_lt c))]
  · rw [if_neg c]
    by_cases d : 0 < x
    · rw [if_pos d]
    · have : x = 0 := Int64.le_antisymm (Int64.not_lt.mp d) (Int64.not_lt.mp c)
      subst this
      decide
theorem by64 {x y : Int32} (h1 : ¬ x < -10000 ∧ x ≤ 10000) (h2 : ¬ y < -10000 ∧ y ≤ 10000) : (x - y).toInt64 = x.toInt64 - y.toInt64 ∧ (x.toInt64 - y.toInt64).toInt = x.toInt - y.toInt ∧ -20000 ≤ x.toInt - y.toInt ∧ x.toInt - y.toInt ≤ 20000 := by
  obtain ⟨a1, a2⟩ := h1
  obtain ⟨b1, b2⟩ := h2
  have e1 : (10000 : Int32).toInt = 10000 := by decide
  have e2 : (-10000 : Int32).toInt = -10000 := by decide
  have a1 := (fa_le _ _).mp (Int32.not_lt.mp a1)
  have a2 := (fa_le _ _).mp a2
  have b1 := (fa_le _ _).mp (Int32.not_lt.mp b1)
  have b2 := (fa_le _ _).mp b2
  have q : (x.toInt64 - y.toInt64).toInt = x.toInt - y.toInt := by
    rw [Int64.toInt_sub, Int32.toInt_toInt64, Int32.toInt_toInt64]
    simp only [Int.bmod]
    split <;> omega
  refine ⟨?_, q, by omega, by omega⟩
  apply Int64.toInt_inj.mp
  rw [q, Int32.toInt_toInt64, Int32.toInt_sub]
  simp only [Int.bmod]
  split <;> omega
theorem rd_b (a : Nat → Int32) (w : Int32) {n : Nat} (hn : n ≤ 30) (hw : fWithin a (-10000) 10000 (2 * n) = 1) : ∀ i, i ≤ n → 0 ≤ (rdS a w i).1.toInt ∧ (rdS a w i).1.toInt ≤ 400000000 * i ∧ -20000 * (i : Int) ≤ (rdS a w i).2.1.toInt ∧ (rdS a w i).2.1.toInt ≤ 20000 * i := by
  intro i
  induction i with
  | zero =>
    intro _
    have q1 : (rdS a w 0).1.toInt = 0 := by show (0 : Int64).toInt = 0; decide
    have q2 : (rdS a w 0).2.1.toInt = 0 := by show (0 : Int64).toInt = 0; decide
    rw [q1, q2]
    exact ⟨by decide, by decide, by decide, by decide⟩
  | succ i ih =>
    intro hi
    obtain ⟨i1, i2, i3, i4⟩ := ih (by omega)
    have e : rdS a w (i + 1) = rdF a i (rdS a w i) := by
      unfold rdS
      rw [lp_last, Nat.zero_add]
    rw [e]
    generalize rdS a w i = r at *
    obtain ⟨-, q, l1, l2⟩ := by64 (fW_at hw (show 2 * i < 2 * n by omega)) (fW_at hw (show 2 * i + 1 < 2 * n by omega))
    unfold rdF
    dsimp only
    generalize (a (2 * i)).toInt - (a (2 * i + 1)).toInt = z at *
    have sq : 0 ≤ z * z ∧ z * z ≤ 400000000 := by
      have h1 : (z * z) = ((z.natAbs * z.natAbs : Nat) : Int) := Int.natAbs_mul_self.symm
      have h2 : z.natAbs ≤ 20000 := by omega
      have h3 := Nat.mul_le_mul h2 h2
      omega
    refine ⟨?_, ?_, ?_, ?_⟩
    · rw [Int64.toInt_add, Int64.toInt_mul, q]
      have : (z * z).bmod (2 ^ 64) = z * z := by
        simp only [Int.bmod]
        split <;> omega
      rw [this]
      simp only [Int.bmod]
      split <;> omega
    · rw [Int64.toInt_add, Int64.toInt_mul, q]
      have : (z * z).bmod (2 ^ 64) = z * z := by
        simp only [Int.bmod]
        split <;> omega
      rw [this]
      simp only [Int.bmod]
      split <;> omega
    · rw [Int64.toInt_add, q]
      simp only [Int.bmod]
      split <;> omega
    · rw [Int64.toInt_add, q]
      simp only [Int.bmod]
      split <;> omega
theorem abs_lN (x : Int64) (h : -9223372036854775808 < x.toInt) : abs64 x = lN x.toInt.natAbs := by
  have h2 := Int64.toInt_lt x
  have e : (0 : Int64).toInt = 0 := by decide
  apply Int64.toInt_inj.mp
  rw [pk_lT (by omega)]
  unfold abs64
  split
  · rename_i c
    have c := (fa_lt64 _ _).mp c
    omega
  · rename_i c
    have c : ¬ (0 : Int64).toInt < x.toInt := fun q => c ((fa_lt64 _ _).mpr q)
    rw [Int64.toInt_neg]
    simp only [Int.bmod]
    split <;> omega
theorem tw_loop (j : Nat) (g0 w : Int32) (h : Hp) (K : KQT) (hj : j < 4) (hS : MS4 h) (hk : Aw 2 MX9_twice K 119 [some (.ref 31), some (.int (nI j)), some (.int w), some (.int (if g0 = 0 then 0 else fWithin (fun i => h.1 34 (60 * j + i)) (-10000) 10000 (mz h j))), some (.int (nI (mz h j))), none, none, none, none, none, none, none, none, none, none, none, none] [] h) (hg : g0 = 0 ∨ g0 = 1) : Aw 2 MX9_twice K 72 [some (.ref 31), some (.int (nI j)), some (.int w), some (.int g0), some (.int (nI 0)), none, none, none, none, none, none, none, none, none, none, none, none] [] h := by
  obtain ⟨z1, z2⟩ := hS j hj
  have key : ∀ r i, i + r = mz h j → Aw 2 MX9_twice K 72 [some (.ref 31), some (.int (nI j)), some (.int w), some (.int (if g0 = 0 then 0 else fWithin (fun i => h.1 34 (60 * j + i)) (-10000) 10000 i)), some (.int (nI i)), none, none, none, none, none, none, none, none, none, none, none, none] [] h := by
    intro r
    induction r with
    | zero =>
      intro i hi
      have : i = mz h j := by omega
      subst this
      refine r_iload4 dX9_twice_72 ?_
      refine r_aload0 dX9_twice_74 ?_
      refine r_getR dX9_twice_75 fl_X9_13 rfl rfl ?_
      refine r_iload1 dX9_twice_78 ?_
      refine r_ialdN dX9_twice_79 rfl hj ?_
      refine r_icmpge (tgt := 119) dX9_twice_80 (by decide) (fun _ => ?_) (fun c9 => absurd (by rw [z1]; exact Int32.le_refl _) c9)
      exact hk
    | succ r ih =>
      intro i hi
      have ih := ih (i + 1) (by omega)
      rw [fW_s] at ih
      by_cases g : g0 = 0
      · rw [if_pos g] at ih ⊢
        refine r_iload4 dX9_twice_72 ?_
        refine r_aload0 dX9_twice_74 ?_
        refine r_getR dX9_twice_75 fl_X9_13 rfl rfl ?_
        refine r_iload1 dX9_twice_78 ?_
        refine r_ialdN dX9_twice_79 rfl hj ?_
        refine r_icmpge (tgt := 119) dX9_twice_80 (by decide) (fun c9 => absurd c9 (by rw [z1]; exact nI_ge (by omega) (by omega))) (fun _ => ?_)
        refine r_iload3 dX9_twice_83 ?_
        refine r_ifeq (tgt := 111) dX9_twice_84 (by decide) (fun _ => ?_) (fun c9 => absurd (rfl) c9)
        refine r_iconst_0 dX9_twice_111 ?_
        refine r_istore3 dX9_twice_112 rfl (by decide) ?_
        refine r_iinc4_1 dX9_twice_113 rfl (by decide) ?_
        refine r_goto (tgt := 72) dX9_twice_116 (by decide) ?_
        rw [nI_1]
        exact ih
      · rw [if_neg g] at ih ⊢
        by_cases c : fWithin (fun i => h.1 34 (60 * j + i)) (-10000) 10000 i = 0
        · rw [if_pos c] at ih
          refine r_iload4 dX9_twice_72 ?_
          refine r_aload0 dX9_twice_74 ?_
          refine r_getR dX9_twice_75 fl_X9_13 rfl rfl ?_
          refine r_iload1 dX9_twice_78 ?_
          refine r_ialdN dX9_twice_79 rfl hj ?_
          refine r_icmpge (tgt := 119) dX9_twice_80 (by decide) (fun c9 => absurd c9 (by rw [z1]; exact nI_ge (by omega) (by omega))) (fun _ => ?_)
          refine r_iload3 dX9_twice_83 ?_
          refine r_ifeq (tgt := 111) dX9_twice_84 (by decide) (fun _ => ?_) (fun c9 => absurd (c) c9)
          refine r_iconst_0 dX9_twice_111 ?_
          refine r_istore3 dX9_twice_112 rfl (by decide) ?_
          refine r_iinc4_1 dX9_twice_113 rfl (by decide) ?_
          refine r_goto (tgt := 72) dX9_twice_116 (by decide) ?_
          rw [nI_1]
          exact ih
        · rw [if_neg c] at ih
          by_cases d : h.1 34 (60 * j + i) < -10000 ∨ 10000 < h.1 34 (60 * j + i)
          · rw [if_pos d] at ih
            refine r_iload4 dX9_twice_72 ?_
            refine r_aload0 dX9_twice_74 ?_
            refine r_getR dX9_twice_75 fl_X9_13 rfl rfl ?_
            refine r_iload1 dX9_twice_78 ?_
            refine r_ialdN dX9_twice_79 rfl hj ?_
            refine r_icmpge (tgt := 119) dX9_twice_80 (by decide) (fun c9 => absurd c9 (by rw [z1]; exact nI_ge (by omega) (by omega))) (fun _ => ?_)
            refine r_iload3 dX9_twice_83 ?_
            refine r_ifeq (tgt := 111) dX9_twice_84 (by decide) (fun c9 => absurd c9 (c)) (fun _ => ?_)
            refine r_aload0 dX9_twice_87 ?_
            refine r_iload1 dX9_twice_88 ?_
            refine r_iload4 dX9_twice_89 ?_
            refine r_cV2I dX9_twice_91 mm_X9_item im_X9_item se_X9_item ml_X9_242 rfl rfl rfl (c_X9_item j i h hj (by omega)) (by decide) (Nat.le_of_ble_eq_true rfl) ?_
            refine r_i2l dX9_twice_94 ?_
            refine r_ldc2 ct_X9_306 dX9_twice_95 ?_
            refine r_ldc2 ct_X9_308 dX9_twice_98 ?_
            refine r_cS3I dX9_twice_101 mm_X9_in st_X9_in ml_X9_74 (c_inI_n (lo := -10000) (hi := 10000) h (by decide) (by decide) d) (by decide) (Nat.le_of_ble_eq_true rfl) ?_
            refine r_ifeq (tgt := 111) dX9_twice_104 (by decide) (fun _ => ?_) (fun c9 => absurd (rfl) c9)
            refine r_iconst_0 dX9_twice_111 ?_
            refine r_istore3 dX9_twice_112 rfl (by decide) ?_
            refine r_iinc4_1 dX9_twice_113 rfl (by decide) ?_
            refine r_goto (tgt := 72) dX9_twice_116 (by decide) ?_
            rw [nI_1]
            exact ih
          · rw [if_neg d] at ih
            refine r_iload4 dX9_twice_72 ?_
            refine r_aload0 dX9_twice_74 ?_
            refine r_getR dX9_twice_75 fl_X9_13 rfl rfl ?_
            refine r_iload1 dX9_twice_78 ?_
            refine r_ialdN dX9_twice_79 rfl hj ?_
            refine r_icmpge (tgt := 119) dX9_twice_80 (by decide) (fun c9 => absurd c9 (by rw [z1]; exact nI_ge (by omega) (by omega))) (fun _ => ?_)
            refine r_iload3 dX9_twice_83 ?_
            refine r_ifeq (tgt := 111) dX9_twice_84 (by decide) (fun c9 => absurd c9 (c)) (fun _ => ?_)
            refine r_aload0 dX9_twice_87 ?_
            refine r_iload1 dX9_twice_88 ?_
            refine r_iload4 dX9_twice_89 ?_
            refine r_cV2I dX9_twice_91 mm_X9_item im_X9_item se_X9_item ml_X9_242 rfl rfl rfl (c_X9_item j i h hj (by omega)) (by decide) (Nat.le_of_ble_eq_true rfl) ?_
            refine r_i2l dX9_twice_94 ?_
            refine r_ldc2 ct_X9_306 dX9_twice_95 ?_
            refine r_ldc2 ct_X9_308 dX9_twice_98 ?_
            refine r_cS3I dX9_twice_101 mm_X9_in st_X9_in ml_X9_74 (c_inI_y (lo := -10000) (hi := 10000) h (by decide) (by decide) (fun q => d (Or.inl q)) (fun q => d (Or.inr q))) (by decide) (Nat.le_of_ble_eq_true rfl) ?_
            refine r_ifeq (tgt := 111) dX9_twice_104 (by decide) (fun c9 => absurd c9 (by decide)) (fun _ => ?_)
            refine r_iconst_1 dX9_twice_107 ?_
            refine r_goto (tgt := 112) dX9_twice_108 (by decide) ?_
            refine r_istore3 dX9_twice_112 rfl (by decide) ?_
            refine r_iinc4_1 dX9_twice_113 rfl (by decide) ?_
            refine r_goto (tgt := 72) dX9_twice_116 (by decide) ?_
            rw [nI_1]
            exact ih
  have k0 := key (mz h j) 0 (by omega)
  have e0 : (if g0 = 0 then 0 else fWithin (fun i => h.1 34 (60 * j + i)) (-10000) 10000 0) = g0 := by
    rcases hg with rfl | rfl
    · rfl
    · rw [if_neg (by decide)]; exact if_pos (fun j hj => by omega)
  rw [e0] at k0
  exact k0
theorem c_X9_twice_bad (s w : Int32) (h : Hp) (hb : ¬ okS s ∨ w < 0 ∨ 4 < w) : Rn 2 MX9_twice [.ref 31, .int s, .int w] h (EL (rfL (-2)) h) := by
  refine rn_of mm_X9_twice (le_b rfl) rfl ?_
  by_cases c : okS s
  · refine r_iload1 dX9_twice_0 ?_
    refine r_cS1I dX9_twice_1 mm_X9_isSheet st_X9_isSheet ml_X9_78 (c_mS_y h c) (by decide) (Nat.le_of_ble_eq_true rfl) ?_
    refine r_ifeq (tgt := 19) dX9_twice_4 (by decide) (fun c9 => absurd c9 (by decide)) (fun _ => ?_)
    refine r_iload2 dX9_twice_7 ?_
    refine r_i2l dX9_twice_8 ?_
    refine r_lconst_0 dX9_twice_9 ?_
    refine r_ldc2 ct_X9_150 dX9_twice_10 ?_
    refine r_cS3I dX9_twice_13 mm_X9_in st_X9_in ml_X9_74 (c_inI_n (lo := 0) (hi := 4) h (by decide) (by decide) (hb.resolve_left (fun q => q c))) (by decide) (Nat.le_of_ble_eq_true rfl) ?_
    refine r_ifne (tgt := 25) dX9_twice_16 (by decide) (fun c9 => absurd (rfl) c9) (fun _ => ?_)
    refine r_bipush bv_m2 dX9_twice_19 ?_
    refine r_cS1L dX9_twice_21 mm_X9_no st_X9_no ml_X9_216 (c_X9_no _ h) (by decide) (Nat.le_of_ble_eq_true rfl) ?_
    exact r_lretE dX9_twice_24 rfl (rfl) (rfl)
  · refine r_iload1 dX9_twice_0 ?_
    refine r_cS1I dX9_twice_1 mm_X9_isSheet st_X9_isSheet ml_X9_78 (c_mS_n h c) (by decide) (Nat.le_of_ble_eq_true rfl) ?_
    refine r_ifeq (tgt := 19) dX9_twice_4 (by decide) (fun _ => ?_) (fun c9 => absurd (rfl) c9)
    refine r_bipush bv_m2 dX9_twice_19 ?_
    refine r_cS1L dX9_twice_21 mm_X9_no st_X9_no ml_X9_216 (c_X9_no _ h) (by decide) (Nat.le_of_ble_eq_true rfl) ?_
    exact r_lretE dX9_twice_24 rfl (rfl) (rfl)
theorem c_X9_twice_null (j : Nat) (w : Int32) (h : Hp) (hj : j < 4) (w1 : ¬ w < 0) (w2 : ¬ 4 < w) (hl : h.1 32 j < 0) : Rn 2 MX9_twice [.ref 31, .int (nI j), .int w] h (EL (rfL (-11)) (pI h 31 4 1)) := by
  refine rn_of mm_X9_twice (le_b rfl) rfl ?_
  refine r_iload1 dX9_twice_0 ?_
  refine r_cS1I dX9_twice_1 mm_X9_isSheet st_X9_isSheet ml_X9_78 (c_mS_y h (okj hj)) (by decide) (Nat.le_of_ble_eq_true rfl) ?_
  refine r_ifeq (tgt := 19) dX9_twice_4 (by decide) (fun c9 => absurd c9 (by decide)) (fun _ => ?_)
  refine r_iload2 dX9_twice_7 ?_
  refine r_i2l dX9_twice_8 ?_
  refine r_lconst_0 dX9_twice_9 ?_
  refine r_ldc2 ct_X9_150 dX9_twice_10 ?_
  refine r_cS3I dX9_twice_13 mm_X9_in st_X9_in ml_X9_74 (c_inI_y (lo := 0) (hi := 4) h (by decide) (by decide) w1 w2) (by decide) (Nat.le_of_ble_eq_true rfl) ?_
  refine r_ifne (tgt := 25) dX9_twice_16 (by decide) (fun _ => ?_) (fun c9 => absurd c9 (by decide))
  refine r_aload0 dX9_twice_25 ?_
  refine r_getR dX9_twice_26 fl_X9_7 rfl rfl ?_
  refine r_iload1 dX9_twice_29 ?_
  refine r_ialdN dX9_twice_30 rfl hj ?_
  refine r_ifge (tgt := 43) dX9_twice_31 (by decide) (fun c9 => absurd c9 (fun q => absurd hl (Int32.not_lt.mpr q))) (fun _ => ?_)
  refine r_aload0 dX9_twice_34 ?_
  refine r_iconst_1 dX9_twice_35 ?_
  refine r_cV1I dX9_twice_36 mm_X9_met im_X9_met se_X9_met ml_X9_84 rfl rfl rfl (c_X9_met 1 h) (by decide) (Nat.le_of_ble_eq_true rfl) ?_
  refine r_cS1L dX9_twice_39 mm_X9_no st_X9_no ml_X9_216 (c_X9_no _ _) (by decide) (Nat.le_of_ble_eq_true rfl) ?_
  exact r_lretE dX9_twice_42 rfl (rfl) (rfl)
theorem c_X9_twice_not (j : Nat) (w : Int32) (h : Hp) (hj : j < 4) (w1 : ¬ w < 0) (w2 : ¬ 4 < w) (hS : MS4 h) (hl : ¬ h.1 32 j < 0) (hz : mz h j = 0 ∨ mz h j % 2 = 1 ∨ fWithin (fun i => h.1 34 (60 * j + i)) (-10000) 10000 (mz h j) = 0) : Rn 2 MX9_twice [.ref 31, .int (nI j), .int w] h (EL (rfL (-3)) h) := by
  obtain ⟨z1, z2⟩ := hS j hj
  refine rn_of mm_X9_twice (le_b rfl) rfl ?_
  refine r_iload1 dX9_twice_0 ?_
  refine r_cS1I dX9_twice_1 mm_X9_isSheet st_X9_isSheet ml_X9_78 (c_mS_y h (okj hj)) (by decide) (Nat.le_of_ble_eq_true rfl) ?_
  refine r_ifeq (tgt := 19) dX9_twice_4 (by decide) (fun c9 => absurd c9 (by decide)) (fun _ => ?_)
  refine r_iload2 dX9_twice_7 ?_
  refine r_i2l dX9_twice_8 ?_
  refine r_lconst_0 dX9_twice_9 ?_
  refine r_ldc2 ct_X9_150 dX9_twice_10 ?_
  refine r_cS3I dX9_twice_13 mm_X9_in st_X9_in ml_X9_74 (c_inI_y (lo := 0) (hi := 4) h (by decide) (by decide) w1 w2) (by decide) (Nat.le_of_ble_eq_true rfl) ?_
  refine r_ifne (tgt := 25) dX9_twice_16 (by decide) (fun _ => ?_) (fun c9 => absurd c9 (by decide))
  refine r_aload0 dX9_twice_25 ?_
  refine r_getR dX9_twice_26 fl_X9_7 rfl rfl ?_
  refine r_iload1 dX9_twice_29 ?_
  refine r_ialdN dX9_twice_30 rfl hj ?_
  refine r_ifge (tgt := 43) dX9_twice_31 (by decide) (fun _ => ?_) (fun c9 => absurd (Int32.not_lt.mp hl) c9)
  by_cases c : mz h j = 0
  · refine r_aload0 dX9_twice_43 ?_
    refine r_getR dX9_twice_44 fl_X9_13 rfl rfl ?_
    refine r_iload1 dX9_twice_47 ?_
    refine r_ialdN dX9_twice_48 rfl hj ?_
    refine r_ifle (tgt := 67) dX9_twice_49 (by decide) (fun _ => ?_) (fun c9 => absurd (by rw [z1, c]; decide) c9)
    refine r_iconst_0 dX9_twice_67 ?_
    refine r_istore3 dX9_twice_68 rfl (by decide) ?_
    refine r_iconst_0 dX9_twice_69 ?_
    refine r_istore4 dX9_twice_70 rfl (by decide) ?_
    refine tw_loop j 0 w h _ hj hS ?_ (Or.inl rfl)
    rw [if_pos rfl]
    refine r_iload3 dX9_twice_119 ?_
    refine r_ifne (tgt := 129) dX9_twice_120 (by decide) (fun c9 => absurd (rfl) c9) (fun _ => ?_)
    refine r_bipush bv_m3 dX9_twice_123 ?_
    refine r_cS1L dX9_twice_125 mm_X9_no st_X9_no ml_X9_216 (c_X9_no _ h) (by decide) (Nat.le_of_ble_eq_true rfl) ?_
    exact r_lretE dX9_twice_128 rfl (rfl) (rfl)
  · by_cases c2 : mz h j % 2 = 1
    · have e : ¬ rem32 (h.1 33 j) 2 = 0 := by
        rw [z1, show (2 : Int32) = nI 2 from rfl, nI_rem (by omega) (by decide) (by decide), c2]
        decide
      refine r_aload0 dX9_twice_43 ?_
      refine r_getR dX9_twice_44 fl_X9_13 rfl rfl ?_
      refine r_iload1 dX9_twice_47 ?_
      refine r_ialdN dX9_twice_48 rfl hj ?_
      refine r_ifle (tgt := 67) dX9_twice_49 (by decide) (fun c9 => absurd c9 (by rw [z1]; exact nI_nle (by omega) (by omega))) (fun _ => ?_)
      refine r_aload0 dX9_twice_52 ?_
      refine r_getR dX9_twice_53 fl_X9_13 rfl rfl ?_
      refine r_iload1 dX9_twice_56 ?_
      refine r_ialdN dX9_twice_57 rfl hj ?_
      refine r_iconst_2 dX9_twice_58 ?_
      refine r_irem (by decide) dX9_twice_59 ?_
      refine r_ifne (tgt := 67) dX9_twice_60 (by decide) (fun _ => ?_) (fun c9 => absurd c9 (e))
      refine r_iconst_0 dX9_twice_67 ?_
      refine r_istore3 dX9_twice_68 rfl (by decide) ?_
      refine r_iconst_0 dX9_twice_69 ?_
      refine r_istore4 dX9_twice_70 rfl (by decide) ?_
      refine tw_loop j 0 w h _ hj hS ?_ (Or.inl rfl)
      rw [if_pos rfl]
      refine r_iload3 dX9_twice_119 ?_
      refine r_ifne (tgt := 129) dX9_twice_120 (by decide) (fun c9 => absurd (rfl) c9) (fun _ => ?_)
      refine r_bipush bv_m3 dX9_twice_123 ?_
      refine r_cS1L dX9_twice_125 mm_X9_no st_X9_no ml_X9_216 (c_X9_no _ h) (by decide) (Nat.le_of_ble_eq_true rfl) ?_
      exact r_lretE dX9_twice_128 rfl (rfl) (rfl)
    · have e : rem32 (h.1 33 j) 2 = 0 := by
        rw [z1, show (2 : Int32) = nI 2 from rfl, nI_rem (by omega) (by decide) (by decide), show mz h j % 2 = 0 by omega]
        decide
      refine r_aload0 dX9_twice_43 ?_
      refine r_getR dX9_twice_44 fl_X9_13 rfl rfl ?_
      refine r_iload1 dX9_twice_47 ?_
      refine r_ialdN dX9_twice_48 rfl hj ?_
      refine r_ifle (tgt := 67) dX9_twice_49 (by decide) (fun c9 => absurd c9 (by rw [z1]; exact nI_nle (by omega) (by omega))) (fun _ => ?_)
      refine r_aload0 dX9_twice_52 ?_
      refine r_getR dX9_twice_53 fl_X9_13 rfl rfl ?_
      refine r_iload1 dX9_twice_56 ?_
      refine r_ialdN dX9_twice_57 rfl hj ?_
      refine r_iconst_2 dX9_twice_58 ?_
      refine r_irem (by decide) dX9_twice_59 ?_
      refine r_ifne (tgt := 67) dX9_twice_60 (by decide) (fun c9 => absurd (e) c9) (fun _ => ?_)
      refine r_iconst_1 dX9_twice_63 ?_
      refine r_goto (tgt := 68) dX9_twice_64 (by decide) ?_
      refine r_istore3 dX9_twice_68 rfl (by decide) ?_
      refine r_iconst_0 dX9_twice_69 ?_
      refine r_istore4 dX9_twice_70 rfl (by decide) ?_
      refine tw_loop j 1 w h _ hj hS ?_ (Or.inr rfl)
      rw [if_neg (by decide), (hz.resolve_left c).resolve_left c2]
      refine r_iload3 dX9_twice_119 ?_
      refine r_ifne (tgt := 129) dX9_twice_120 (by decide) (fun c9 => absurd (rfl) c9) (fun _ => ?_)
      refine r_bipush bv_m3 dX9_twice_123 ?_
      refine r_cS1L dX9_twice_125 mm_X9_no st_X9_no ml_X9_216 (c_X9_no _ h) (by decide) (Nat.le_of_ble_eq_true rfl) ?_
      exact r_lretE dX9_twice_128 rfl (rfl) (rfl)
theorem c_X9_twice (j w n X1 X2 : Nat) (h : Hp) (hj : j < 4) (hw : w ≤ 4) (hS : MS4 h) (hl : ¬ h.1 32 j < 0) (hn : mz h j = 2 * n) (hn1 : 1 ≤ n) (hi : fWithin (fun i => h.1 34 (60 * j + i)) (-10000) 10000 (mz h j) = 1) (e1 : abs64 (rdS (fun i => h.1 34 (60 * j + i)) 0 n).1 = lN X1) (e2 : abs64 (rdS (fun i => h.1 34 (60 * j + i)) 0 n).2.1 = lN X2) (hX1 : X1 < 2 ^ 62) (hX2 : X2 < 2 ^ 62) : Rn 2 MX9_twice [.ref 31, .int (nI j), .int (nI w)] h (EL (if w = 0 then (rdS (fun i => h.1 34 (60 * j + i)) 0 n).1 / lN (Nat.gcd X1 (2 * n)) else if w = 1 then lN (2 * n) / lN (Nat.gcd X1 (2 * n)) else if w = 2 then (rdS (fun i => h.1 34 (60 * j + i)) 0 n).2.1 / lN (Nat.gcd X2 n) else if w = 3 then lN n / lN (Nat.gcd X2 n) else (rdS (fun i => h.1 34 (60 * j + i)) 0 n).2.2.2.toInt64) h) := by
  obtain ⟨z1, z2⟩ := hS j hj
  have e : rem32 (h.1 33 j) 2 = 0 := by
    rw [z1, show (2 : Int32) = nI 2 from rfl, nI_rem (by omega) (by decide) (by decide), show mz h j % 2 = 0 by omega]
    decide
  have gp1 : 0 < Nat.gcd X1 (2 * n) := Nat.gcd_pos_of_pos_right _ (by omega)
  have gp2 : 0 < Nat.gcd X2 n := Nat.gcd_pos_of_pos_right _ (by omega)
  have gl1 : Nat.gcd X1 (2 * n) ≤ 2 * n := Nat.gcd_le_right _ (by omega)
  have gl2 : Nat.gcd X2 n ≤ n := Nat.gcd_le_right _ (by omega)
  have gn1 : ¬ lN (Nat.gcd X1 (2 * n)) = 0 := fun q => by have := (pk_lEQ (b := 0) (by omega) (by omega)).mp q; omega
  have gn2 : ¬ lN (Nat.gcd X2 n) = 0 := fun q => by have := (pk_lEQ (b := 0) (by omega) (by omega)).mp q; omega
  refine rn_of mm_X9_twice (le_b rfl) rfl ?_
  refine r_iload1 dX9_twice_0 ?_
  refine r_cS1I dX9_twice_1 mm_X9_isSheet st_X9_isSheet ml_X9_78 (c_mS_y h (okj hj)) (by decide) (Nat.le_of_ble_eq_true rfl) ?_
  refine r_ifeq (tgt := 19) dX9_twice_4 (by decide) (fun c9 => absurd c9 (by decide)) (fun _ => ?_)
  refine r_iload2 dX9_twice_7 ?_
  refine r_i2l dX9_twice_8 ?_
  refine r_lconst_0 dX9_twice_9 ?_
  refine r_ldc2 ct_X9_150 dX9_twice_10 ?_
  refine r_cS3I dX9_twice_13 mm_X9_in st_X9_in ml_X9_74 (c_inI_y (lo := 0) (hi := 4) h (by decide) (by decide) (nI_pos (by omega)) (nI_nlt (a := 4) hw (by decide))) (by decide) (Nat.le_of_ble_eq_true rfl) ?_
  refine r_ifne (tgt := 25) dX9_twice_16 (by decide) (fun _ => ?_) (fun c9 => absurd c9 (by decide))
  refine r_aload0 dX9_twice_25 ?_
  refine r_getR dX9_twice_26 fl_X9_7 rfl rfl ?_
  refine r_iload1 dX9_twice_29 ?_
  refine r_ialdN dX9_twice_30 rfl hj ?_
  refine r_ifge (tgt := 43) dX9_twice_31 (by decide) (fun _ => ?_) (fun c9 => absurd (Int32.not_lt.mp hl) c9)
  refine r_aload0 dX9_twice_43 ?_
  refine r_getR dX9_twice_44 fl_X9_13 rfl rfl ?_
  refine r_iload1 dX9_twice_47 ?_
  refine r_ialdN dX9_twice_48 rfl hj ?_
  refine r_ifle (tgt := 67) dX9_twice_49 (by decide) (fun c9 => absurd c9 (by rw [z1]; exact nI_nle (by omega) (by omega))) (fun _ => ?_)
  refine r_aload0 dX9_twice_52 ?_
  refine r_getR dX9_twice_53 fl_X9_13 rfl rfl ?_
  refine r_iload1 dX9_twice_56 ?_
  refine r_ialdN dX9_twice_57 rfl hj ?_
  refine r_iconst_2 dX9_twice_58 ?_
  refine r_irem (by decide) dX9_twice_59 ?_
  refine r_ifne (tgt := 67) dX9_twice_60 (by decide) (fun c9 => absurd (e) c9) (fun _ => ?_)
  refine r_iconst_1 dX9_twice_63 ?_
  refine r_goto (tgt := 68) dX9_twice_64 (by decide) ?_
  refine r_istore3 dX9_twice_68 rfl (by decide) ?_
  refine r_iconst_0 dX9_twice_69 ?_
  refine r_istore4 dX9_twice_70 rfl (by decide) ?_
  refine tw_loop j 1 _ h _ hj hS ?_ (Or.inr rfl)
  rw [if_neg (show ¬ (1 : Int32) = 0 by decide), hi]
  have ed : h.1 33 j / 2 = nI n := by
    rw [z1, show (2 : Int32) = nI 2 from rfl, pk_div (by omega) (by decide) (by decide), hn]
    congr 1
    omega
  refine r_iload3 dX9_twice_119 ?_
  refine r_ifne (tgt := 129) dX9_twice_120 (by decide) (fun _ => ?_) (fun c9 => absurd c9 (by decide))
  refine r_aload0 dX9_twice_129 ?_
  refine r_getR dX9_twice_130 fl_X9_13 rfl rfl ?_
  refine r_iload1 dX9_twice_133 ?_
  refine r_ialdN dX9_twice_134 rfl hj ?_
  refine r_iconst_2 dX9_twice_135 ?_
  refine r_idiv (by decide) dX9_twice_136 ?_
  rw [ed]
  refine r_istore4 dX9_twice_137 rfl (by decide) ?_
  refine r_lconst_0 dX9_twice_139 ?_
  refine r_lstore5 dX9_twice_140 rfl (by decide) ?_
  refine r_lconst_0 dX9_twice_142 ?_
  refine r_lstore7 dX9_twice_143 rfl (by decide) ?_
  refine r_iconst_0 dX9_twice_145 ?_
  refine r_istore9 dX9_twice_146 rfl (by decide) ?_
  refine r_ldc2 ct_X9_222 dX9_twice_148 ?_
  refine r_lstore10 dX9_twice_151 rfl (by decide) ?_
  refine r_iconst_0 dX9_twice_153 ?_
  refine r_istore12 dX9_twice_154 rfl (by decide) ?_
  rw [hn] at hi
  generalize hQ : (if w = 0 then (rdS (fun i => h.1 34 (60 * j + i)) 0 n).1 / lN (Nat.gcd X1 (2 * n)) else if w = 1 then lN (2 * n) / lN (Nat.gcd X1 (2 * n)) else if w = 2 then (rdS (fun i => h.1 34 (60 * j + i)) 0 n).2.1 / lN (Nat.gcd X2 n) else if w = 3 then lN n / lN (Nat.gcd X2 n) else (rdS (fun i => h.1 34 (60 * j + i)) 0 n).2.2.2.toInt64) = Q
  refine lpA (rdF (fun i => h.1 34 (60 * j + i))) (fun i s => ∀ x13 x15, Aw 2 MX9_twice (Kp (EL Q h)) 156 [some (.ref 31), some (.int (nI j)), some (.int (nI w)), some (.int 1), some (.int (nI n)), some (.long s.1), none, some (.long s.2.1), none, some (.int s.2.2.2), some (.long s.2.2.1), none, some (.int (nI i)), x13, none, x15, none] [] h) n ?_ (0, 0, -1, 0) ?_ _ _
  · intro i s hin k x13 x15
    obtain ⟨by1, -⟩ := by64 (fW_at hi (show 2 * i < 2 * n by omega)) (fW_at hi (show 2 * i + 1 < 2 * n by omega))
    refine r_iload12 dX9_twice_156 ?_
    refine r_iload4 dX9_twice_158 ?_
    refine r_icmpge (tgt := 261) dX9_twice_160 (by decide) (fun c9 => absurd c9 (nI_ge hin (by omega))) (fun _ => ?_)
    refine r_aload0 dX9_twice_163 ?_
    refine r_iload1 dX9_twice_164 ?_
    refine r_iconst_2 dX9_twice_165 ?_
    refine r_iload12 dX9_twice_166 ?_
    refine r_imul dX9_twice_168 ?_
    rw [show (2 : Int32) * nI i = nI (2 * i) from pk_mul 2 i]
    refine r_cV2I dX9_twice_169 mm_X9_item im_X9_item se_X9_item ml_X9_242 rfl rfl rfl (c_X9_item j (2 * i) h hj (by omega)) (by decide) (Nat.le_of_ble_eq_true rfl) ?_
    refine r_aload0 dX9_twice_172 ?_
    refine r_iload1 dX9_twice_173 ?_
    refine r_iconst_2 dX9_twice_174 ?_
    refine r_iload12 dX9_twice_175 ?_
    refine r_imul dX9_twice_177 ?_
    rw [show (2 : Int32) * nI i = nI (2 * i) from pk_mul 2 i]
    refine r_iconst_1 dX9_twice_178 ?_
    refine r_iadd dX9_twice_179 ?_
    rw [nI_1]
    refine r_cV2I dX9_twice_180 mm_X9_item im_X9_item se_X9_item ml_X9_242 rfl rfl rfl (c_X9_item j (2 * i + 1) h hj (by omega)) (by decide) (Nat.le_of_ble_eq_true rfl) ?_
    refine r_isub dX9_twice_183 ?_
    refine r_i2l dX9_twice_184 ?_
    rw [by1]
    unfold rdF at k
    dsimp only at k
    generalize (h.1 34 (60 * j + 2 * i)).toInt64 - (h.1 34 (60 * j + (2 * i + 1))).toInt64 = b at *
    refine r_lstore13 dX9_twice_185 rfl (by decide) ?_
    have tail : Aw 2 MX9_twice (Kp (EL Q h)) 202 [some (.ref 31), some (.int (nI j)), some (.int (nI w)), some (.int 1), some (.int (nI n)), some (.long s.1), none, some (.long s.2.1), none, some (.int s.2.2.2), some (.long s.2.2.1), none, some (.int (nI i)), some (.long b), none, x15, none] [.long (abs64 b)] h := by
      by_cases c : abs64 b ≤ s.2.2.1
      · rw [if_pos c, if_pos c] at k
        refine r_lstore15 dX9_twice_202 rfl (by decide) ?_
        refine r_lload5 dX9_twice_204 ?_
        refine r_lload13 dX9_twice_206 ?_
        refine r_lload13 dX9_twice_208 ?_
        refine r_lmul dX9_twice_210 ?_
        refine r_ladd dX9_twice_211 ?_
        refine r_lstore5 dX9_twice_212 rfl (by decide) ?_
        refine r_lload7 dX9_twice_214 ?_
        refine r_lload13 dX9_twice_216 ?_
        refine r_ladd dX9_twice_218 ?_
        refine r_lstore7 dX9_twice_219 rfl (by decide) ?_
        refine r_lload15 dX9_twice_221 ?_
        refine r_lload10 dX9_twice_223 ?_
        refine r_lle (tgt := 234) dX9_twice_225 dX9_twice_226 (by decide) (fun _ => ?_) (fun c9 => absurd (c) c9)
        refine r_iload9 dX9_twice_234 ?_
        refine r_istore9 dX9_twice_236 rfl (by decide) ?_
        refine r_lload15 dX9_twice_238 ?_
        refine r_lload10 dX9_twice_240 ?_
        refine r_lle (tgt := 251) dX9_twice_242 dX9_twice_243 (by decide) (fun _ => ?_) (fun c9 => absurd (c) c9)
        refine r_lload10 dX9_twice_251 ?_
        refine r_lstore10 dX9_twice_253 rfl (by decide) ?_
        refine r_iinc12_1 dX9_twice_255 rfl (by decide) ?_
        refine r_goto (tgt := 156) dX9_twice_258 (by decide) ?_
        rw [nI_1]
        exact k _ _
      · rw [if_neg c, if_neg c] at k
        refine r_lstore15 dX9_twice_202 rfl (by decide) ?_
        refine r_lload5 dX9_twice_204 ?_
        refine r_lload13 dX9_twice_206 ?_
        refine r_lload13 dX9_twice_208 ?_
        refine r_lmul dX9_twice_210 ?_
        refine r_ladd dX9_twice_211 ?_
        refine r_lstore5 dX9_twice_212 rfl (by decide) ?_
        refine r_lload7 dX9_twice_214 ?_
        refine r_lload13 dX9_twice_216 ?_
        refine r_ladd dX9_twice_218 ?_
        refine r_lstore7 dX9_twice_219 rfl (by decide) ?_
        refine r_lload15 dX9_twice_221 ?_
        refine r_lload10 dX9_twice_223 ?_
        refine r_lle (tgt := 234) dX9_twice_225 dX9_twice_226 (by decide) (fun c9 => absurd c9 (c)) (fun _ => ?_)
        refine r_iload12 dX9_twice_229 ?_
        refine r_goto (tgt := 236) dX9_twice_231 (by decide) ?_
        refine r_istore9 dX9_twice_236 rfl (by decide) ?_
        refine r_lload15 dX9_twice_238 ?_
        refine r_lload10 dX9_twice_240 ?_
        refine r_lle (tgt := 251) dX9_twice_242 dX9_twice_243 (by decide) (fun c9 => absurd c9 (c)) (fun _ => ?_)
        refine r_lload15 dX9_twice_246 ?_
        refine r_goto (tgt := 253) dX9_twice_248 (by decide) ?_
        refine r_lstore10 dX9_twice_253 rfl (by decide) ?_
        refine r_iinc12_1 dX9_twice_255 rfl (by decide) ?_
        refine r_goto (tgt := 156) dX9_twice_258 (by decide) ?_
        rw [nI_1]
        exact k _ _
    rw [← ab64] at tail
    by_cases c : b < 0
    · rw [if_pos c] at tail
      refine r_lload13 dX9_twice_187 ?_
      refine r_lconst_0 dX9_twice_189 ?_
      refine r_lge (tgt := 200) dX9_twice_190 dX9_twice_191 (by decide) (fun c9 => absurd c9 (fun q => absurd c (Int64.not_lt.mpr q))) (fun _ => ?_)
      refine r_lload13 dX9_twice_194 ?_
      refine r_lneg dX9_twice_196 ?_
      refine r_goto (tgt := 202) dX9_twice_197 (by decide) ?_
      exact tail
    · rw [if_neg c] at tail
      refine r_lload13 dX9_twice_187 ?_
      refine r_lconst_0 dX9_twice_189 ?_
      refine r_lge (tgt := 200) dX9_twice_190 dX9_twice_191 (by decide) (fun _ => ?_) (fun c9 => absurd (Int64.not_lt.mp c) c9)
      refine r_lload13 dX9_twice_200 ?_
      exact tail
  · intro x13 x15
    change Aw _ _ _ _ [some (.ref 31), some (.int (nI j)), some (.int (nI w)), some (.int 1), some (.int (nI n)), some (.long (rdS (fun i => h.1 34 (60 * j + i)) 0 n).1), none, some (.long (rdS (fun i => h.1 34 (60 * j + i)) 0 n).2.1), none, some (.int (rdS (fun i => h.1 34 (60 * j + i)) 0 n).2.2.2), some (.long (rdS (fun i => h.1 34 (60 * j + i)) 0 n).2.2.1), none, some (.int (nI n)), x13, none, x15, none] _ _
    generalize rdS (fun i => h.1 34 (60 * j + i)) 0 n = S at *
    have en : (nI n).toInt64 = lN n := nI_l (by omega)
    have en2 : (2 : Int64) * lN n = lN (2 * n) := lN_mul 2 n
    rw [← ab64] at e1 e2
    have : w = 0 ∨ w = 1 ∨ w = 2 ∨ w = 3 ∨ w = 4 := by omega
    rcases this with rfl | rfl | rfl | rfl | rfl
    · refine r_iload12 dX9_twice_156 ?_
      refine r_iload4 dX9_twice_158 ?_
      refine r_icmpge (tgt := 261) dX9_twice_160 (by decide) (fun _ => ?_) (fun c9 => absurd (Int32.le_refl _) c9)
      refine r_iload2 dX9_twice_261 ?_
      refine r_iconst_4 dX9_twice_262 ?_
      refine r_icmpne (tgt := 270) dX9_twice_263 (by decide) (fun _ => ?_) (fun c9 => absurd c9 (by decide))
      refine r_iload2 dX9_twice_270 ?_
      refine r_iconst_2 dX9_twice_271 ?_
      refine r_icmpge (tgt := 280) dX9_twice_272 (by decide) (fun c9 => absurd c9 (by decide)) (fun _ => ?_)
      refine r_lload5 dX9_twice_275 ?_
      refine r_goto (tgt := 282) dX9_twice_277 (by decide) ?_
      refine r_lstore12 dX9_twice_282 rfl (by decide) ?_
      refine r_iload2 dX9_twice_284 ?_
      refine r_iconst_2 dX9_twice_285 ?_
      refine r_icmpge (tgt := 299) dX9_twice_286 (by decide) (fun c9 => absurd c9 (by decide)) (fun _ => ?_)
      refine r_ldc2 ct_X9_82 dX9_twice_289 ?_
      refine r_iload4 dX9_twice_292 ?_
      refine r_i2l dX9_twice_294 ?_
      rw [en]
      refine r_lmul dX9_twice_295 ?_
      rw [en2]
      refine r_goto (tgt := 302) dX9_twice_296 (by decide) ?_
      refine r_lstore14 dX9_twice_302 rfl (by decide) ?_
      refine r_iload2 dX9_twice_304 ?_
      refine r_iconst_2 dX9_twice_305 ?_
      refine r_irem (by decide) dX9_twice_306 ?_
      refine r_ifne (tgt := 315) dX9_twice_307 (by decide) (fun c9 => absurd (rfl) c9) (fun _ => ?_)
      refine r_lload12 dX9_twice_310 ?_
      refine r_goto (tgt := 317) dX9_twice_312 (by decide) ?_
      refine r_lload12 dX9_twice_317 ?_
      refine r_lload14 dX9_twice_319 ?_
      refine r_cS2L dX9_twice_321 mm_X9_divisor st_X9_divisor ml_X9_310 (c_X9_divisor S.1 X1 (2 * n) h hX1 (by omega) e1) (by decide) (Nat.le_of_ble_eq_true rfl) ?_
      refine r_ldiv gn1 dX9_twice_324 ?_
      exact r_lretE dX9_twice_325 rfl (hQ) (rfl)
    · refine r_iload12 dX9_twice_156 ?_
      refine r_iload4 dX9_twice_158 ?_
      refine r_icmpge (tgt := 261) dX9_twice_160 (by decide) (fun _ => ?_) (fun c9 => absurd (Int32.le_refl _) c9)
      refine r_iload2 dX9_twice_261 ?_
      refine r_iconst_4 dX9_twice_262 ?_
      refine r_icmpne (tgt := 270) dX9_twice_263 (by decide) (fun _ => ?_) (fun c9 => absurd c9 (by decide))
      refine r_iload2 dX9_twice_270 ?_
      refine r_iconst_2 dX9_twice_271 ?_
      refine r_icmpge (tgt := 280) dX9_twice_272 (by decide) (fun c9 => absurd c9 (by decide)) (fun _ => ?_)
      refine r_lload5 dX9_twice_275 ?_
      refine r_goto (tgt := 282) dX9_twice_277 (by decide) ?_
      refine r_lstore12 dX9_twice_282 rfl (by decide) ?_
      refine r_iload2 dX9_twice_284 ?_
      refine r_iconst_2 dX9_twice_285 ?_
      refine r_icmpge (tgt := 299) dX9_twice_286 (by decide) (fun c9 => absurd c9 (by decide)) (fun _ => ?_)
      refine r_ldc2 ct_X9_82 dX9_twice_289 ?_
      refine r_iload4 dX9_twice_292 ?_
      refine r_i2l dX9_twice_294 ?_
      rw [en]
      refine r_lmul dX9_twice_295 ?_
      rw [en2]
      refine r_goto (tgt := 302) dX9_twice_296 (by decide) ?_
      refine r_lstore14 dX9_twice_302 rfl (by decide) ?_
      refine r_iload2 dX9_twice_304 ?_
      refine r_iconst_2 dX9_twice_305 ?_
      refine r_irem (by decide) dX9_twice_306 ?_
      refine r_ifne (tgt := 315) dX9_twice_307 (by decide) (fun _ => ?_) (fun c9 => absurd c9 (by decide))
      refine r_lload14 dX9_twice_315 ?_
      refine r_lload12 dX9_twice_317 ?_
      refine r_lload14 dX9_twice_319 ?_
      refine r_cS2L dX9_twice_321 mm_X9_divisor st_X9_divisor ml_X9_310 (c_X9_divisor S.1 X1 (2 * n) h hX1 (by omega) e1) (by decide) (Nat.le_of_ble_eq_true rfl) ?_
      refine r_ldiv gn1 dX9_twice_324 ?_
      exact r_lretE dX9_twice_325 rfl (hQ) (rfl)
    · refine r_iload12 dX9_twice_156 ?_
      refine r_iload4 dX9_twice_158 ?_
      refine r_icmpge (tgt := 261) dX9_twice_160 (by decide) (fun _ => ?_) (fun c9 => absurd (Int32.le_refl _) c9)
      refine r_iload2 dX9_twice_261 ?_
      refine r_iconst_4 dX9_twice_262 ?_
      refine r_icmpne (tgt := 270) dX9_twice_263 (by decide) (fun _ => ?_) (fun c9 => absurd c9 (by decide))
      refine r_iload2 dX9_twice_270 ?_
      refine r_iconst_2 dX9_twice_271 ?_
      refine r_icmpge (tgt := 280) dX9_twice_272 (by decide) (fun _ => ?_) (fun c9 => absurd (by decide) c9)
      refine r_lload7 dX9_twice_280 ?_
      refine r_lstore12 dX9_twice_282 rfl (by decide) ?_
      refine r_iload2 dX9_twice_284 ?_
      refine r_iconst_2 dX9_twice_285 ?_
      refine r_icmpge (tgt := 299) dX9_twice_286 (by decide) (fun _ => ?_) (fun c9 => absurd (by decide) c9)
      refine r_iload4 dX9_twice_299 ?_
      refine r_i2l dX9_twice_301 ?_
      rw [en]
      refine r_lstore14 dX9_twice_302 rfl (by decide) ?_
      refine r_iload2 dX9_twice_304 ?_
      refine r_iconst_2 dX9_twice_305 ?_
      refine r_irem (by decide) dX9_twice_306 ?_
      refine r_ifne (tgt := 315) dX9_twice_307 (by decide) (fun c9 => absurd (rfl) c9) (fun _ => ?_)
      refine r_lload12 dX9_twice_310 ?_
      refine r_goto (tgt := 317) dX9_twice_312 (by decide) ?_
      refine r_lload12 dX9_twice_317 ?_
      refine r_lload14 dX9_twice_319 ?_
      refine r_cS2L dX9_twice_321 mm_X9_divisor st_X9_divisor ml_X9_310 (c_X9_divisor S.2.1 X2 n h hX2 (by omega) e2) (by decide) (Nat.le_of_ble_eq_true rfl) ?_
      refine r_ldiv gn2 dX9_twice_324 ?_
      exact r_lretE dX9_twice_325 rfl (hQ) (rfl)
    · refine r_iload12 dX9_twice_156 ?_
      refine r_iload4 dX9_twice_158 ?_
      refine r_icmpge (tgt := 261) dX9_twice_160 (by decide) (fun _ => ?_) (fun c9 => absurd (Int32.le_refl _) c9)
      refine r_iload2 dX9_twice_261 ?_
      refine r_iconst_4 dX9_twice_262 ?_
      refine r_icmpne (tgt := 270) dX9_twice_263 (by decide) (fun _ => ?_) (fun c9 => absurd c9 (by decide))
      refine r_iload2 dX9_twice_270 ?_
      refine r_iconst_2 dX9_twice_271 ?_
      refine r_icmpge (tgt := 280) dX9_twice_272 (by decide) (fun _ => ?_) (fun c9 => absurd (by decide) c9)
      refine r_lload7 dX9_twice_280 ?_
      refine r_lstore12 dX9_twice_282 rfl (by decide) ?_
      refine r_iload2 dX9_twice_284 ?_
      refine r_iconst_2 dX9_twice_285 ?_
      refine r_icmpge (tgt := 299) dX9_twice_286 (by decide) (fun _ => ?_) (fun c9 => absurd (by decide) c9)
      refine r_iload4 dX9_twice_299 ?_
      refine r_i2l dX9_twice_301 ?_
      rw [en]
      refine r_lstore14 dX9_twice_302 rfl (by decide) ?_
      refine r_iload2 dX9_twice_304 ?_
      refine r_iconst_2 dX9_twice_305 ?_
      refine r_irem (by decide) dX9_twice_306 ?_
      refine r_ifne (tgt := 315) dX9_twice_307 (by decide) (fun _ => ?_) (fun c9 => absurd c9 (by decide))
      refine r_lload14 dX9_twice_315 ?_
      refine r_lload12 dX9_twice_317 ?_
      refine r_lload14 dX9_twice_319 ?_
      refine r_cS2L dX9_twice_321 mm_X9_divisor st_X9_divisor ml_X9_310 (c_X9_divisor S.2.1 X2 n h hX2 (by omega) e2) (by decide) (Nat.le_of_ble_eq_true rfl) ?_
      refine r_ldiv gn2 dX9_twice_324 ?_
      exact r_lretE dX9_twice_325 rfl (hQ) (rfl)
    · refine r_iload12 dX9_twice_156 ?_
      refine r_iload4 dX9_twice_158 ?_
      refine r_icmpge (tgt := 261) dX9_twice_160 (by decide) (fun _ => ?_) (fun c9 => absurd (Int32.le_refl _) c9)
      refine r_iload2 dX9_twice_261 ?_
      refine r_iconst_4 dX9_twice_262 ?_
      refine r_icmpne (tgt := 270) dX9_twice_263 (by decide) (fun c9 => absurd (rfl) c9) (fun _ => ?_)
      refine r_iload9 dX9_twice_266 ?_
      refine r_i2l dX9_twice_268 ?_
      exact r_lretE dX9_twice_269 rfl (hQ) (rfl)
