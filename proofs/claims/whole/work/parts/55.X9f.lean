/-! the reference: copies, twice -/
theorem c_X9_copies_bad (s t w : Int32) (h : Hp) (hb : ¬ okS s ∨ ¬ okS t ∨ w < 0 ∨ 3 < w) : Rn 2 MX9_copies [.ref 31, .int s, .int t, .int w] h (EL (rfL (-2)) h) := by
  refine rn_of mm_X9_copies (le_b rfl) rfl ?_
  by_cases c : okS s
  · by_cases c2 : okS t
    · refine r_iload1 dX9_copies_0 ?_
      refine r_cS1I dX9_copies_1 mm_X9_isSheet st_X9_isSheet ml_X9_78 (c_mS_y h c) (by decide) (Nat.le_of_ble_eq_true rfl) ?_
      refine r_ifeq (tgt := 26) dX9_copies_4 (by decide) (fun c9 => absurd c9 (by decide)) (fun _ => ?_)
      refine r_iload2 dX9_copies_7 ?_
      refine r_cS1I dX9_copies_8 mm_X9_isSheet st_X9_isSheet ml_X9_78 (c_mS_y h c2) (by decide) (Nat.le_of_ble_eq_true rfl) ?_
      refine r_ifeq (tgt := 26) dX9_copies_11 (by decide) (fun c9 => absurd c9 (by decide)) (fun _ => ?_)
      refine r_iload3 dX9_copies_14 ?_
      refine r_i2l dX9_copies_15 ?_
      refine r_lconst_0 dX9_copies_16 ?_
      refine r_ldc2 ct_X9_72 dX9_copies_17 ?_
      refine r_cS3I dX9_copies_20 mm_X9_in st_X9_in ml_X9_74 (c_inI_n (lo := 0) (hi := 3) h (by decide) (by decide) ((hb.resolve_left (fun q => q c)).resolve_left (fun q => q c2))) (by decide) (Nat.le_of_ble_eq_true rfl) ?_
      refine r_ifne (tgt := 32) dX9_copies_23 (by decide) (fun c9 => absurd (rfl) c9) (fun _ => ?_)
      refine r_bipush bv_m2 dX9_copies_26 ?_
      refine r_cS1L dX9_copies_28 mm_X9_no st_X9_no ml_X9_216 (c_X9_no _ h) (by decide) (Nat.le_of_ble_eq_true rfl) ?_
      exact r_lretE dX9_copies_31 rfl (rfl) (rfl)
    · refine r_iload1 dX9_copies_0 ?_
      refine r_cS1I dX9_copies_1 mm_X9_isSheet st_X9_isSheet ml_X9_78 (c_mS_y h c) (by decide) (Nat.le_of_ble_eq_true rfl) ?_
      refine r_ifeq (tgt := 26) dX9_copies_4 (by decide) (fun c9 => absurd c9 (by decide)) (fun _ => ?_)
      refine r_iload2 dX9_copies_7 ?_
      refine r_cS1I dX9_copies_8 mm_X9_isSheet st_X9_isSheet ml_X9_78 (c_mS_n h c2) (by decide) (Nat.le_of_ble_eq_true rfl) ?_
      refine r_ifeq (tgt := 26) dX9_copies_11 (by decide) (fun _ => ?_) (fun c9 => absurd (rfl) c9)
      refine r_bipush bv_m2 dX9_copies_26 ?_
      refine r_cS1L dX9_copies_28 mm_X9_no st_X9_no ml_X9_216 (c_X9_no _ h) (by decide) (Nat.le_of_ble_eq_true rfl) ?_
      exact r_lretE dX9_copies_31 rfl (rfl) (rfl)
  · refine r_iload1 dX9_copies_0 ?_
    refine r_cS1I dX9_copies_1 mm_X9_isSheet st_X9_isSheet ml_X9_78 (c_mS_n h c) (by decide) (Nat.le_of_ble_eq_true rfl) ?_
    refine r_ifeq (tgt := 26) dX9_copies_4 (by decide) (fun _ => ?_) (fun c9 => absurd (rfl) c9)
    refine r_bipush bv_m2 dX9_copies_26 ?_
    refine r_cS1L dX9_copies_28 mm_X9_no st_X9_no ml_X9_216 (c_X9_no _ h) (by decide) (Nat.le_of_ble_eq_true rfl) ?_
    exact r_lretE dX9_copies_31 rfl (rfl) (rfl)
theorem c_X9_copies_null (a b : Nat) (w : Int32) (h : Hp) (ha : a < 4) (hb : b < 4) (w1 : ¬ w < 0) (w2 : ¬ 3 < w) (hl : h.1 32 a < 0 ∨ h.1 32 b < 0) : Rn 2 MX9_copies [.ref 31, .int (nI a), .int (nI b), .int w] h (EL (rfL (-11)) (pI h 31 4 1)) := by
  refine rn_of mm_X9_copies (le_b rfl) rfl ?_
  by_cases c : h.1 32 a < 0
  · refine r_iload1 dX9_copies_0 ?_
    refine r_cS1I dX9_copies_1 mm_X9_isSheet st_X9_isSheet ml_X9_78 (c_mS_y h (okj ha)) (by decide) (Nat.le_of_ble_eq_true rfl) ?_
    refine r_ifeq (tgt := 26) dX9_copies_4 (by decide) (fun c9 => absurd c9 (by decide)) (fun _ => ?_)
    refine r_iload2 dX9_copies_7 ?_
    refine r_cS1I dX9_copies_8 mm_X9_isSheet st_X9_isSheet ml_X9_78 (c_mS_y h (okj hb)) (by decide) (Nat.le_of_ble_eq_true rfl) ?_
    refine r_ifeq (tgt := 26) dX9_copies_11 (by decide) (fun c9 => absurd c9 (by decide)) (fun _ => ?_)
    refine r_iload3 dX9_copies_14 ?_
    refine r_i2l dX9_copies_15 ?_
    refine r_lconst_0 dX9_copies_16 ?_
    refine r_ldc2 ct_X9_72 dX9_copies_17 ?_
    refine r_cS3I dX9_copies_20 mm_X9_in st_X9_in ml_X9_74 (c_inI_y (lo := 0) (hi := 3) h (by decide) (by decide) w1 w2) (by decide) (Nat.le_of_ble_eq_true rfl) ?_
    refine r_ifne (tgt := 32) dX9_copies_23 (by decide) (fun _ => ?_) (fun c9 => absurd c9 (by decide))
    refine r_aload0 dX9_copies_32 ?_
    refine r_getR dX9_copies_33 fl_X9_7 rfl rfl ?_
    refine r_iload1 dX9_copies_36 ?_
    refine r_ialdN dX9_copies_37 rfl ha ?_
    refine r_iflt (tgt := 50) dX9_copies_38 (by decide) (fun _ => ?_) (fun c9 => absurd (c) c9)
    refine r_aload0 dX9_copies_50 ?_
    refine r_iconst_1 dX9_copies_51 ?_
    refine r_cV1I dX9_copies_52 mm_X9_met im_X9_met se_X9_met ml_X9_84 rfl rfl rfl (c_X9_met 1 h) (by decide) (Nat.le_of_ble_eq_true rfl) ?_
    refine r_cS1L dX9_copies_55 mm_X9_no st_X9_no ml_X9_216 (c_X9_no _ _) (by decide) (Nat.le_of_ble_eq_true rfl) ?_
    exact r_lretE dX9_copies_58 rfl (rfl) (rfl)
  · refine r_iload1 dX9_copies_0 ?_
    refine r_cS1I dX9_copies_1 mm_X9_isSheet st_X9_isSheet ml_X9_78 (c_mS_y h (okj ha)) (by decide) (Nat.le_of_ble_eq_true rfl) ?_
    refine r_ifeq (tgt := 26) dX9_copies_4 (by decide) (fun c9 => absurd c9 (by decide)) (fun _ => ?_)
    refine r_iload2 dX9_copies_7 ?_
    refine r_cS1I dX9_copies_8 mm_X9_isSheet st_X9_isSheet ml_X9_78 (c_mS_y h (okj hb)) (by decide) (Nat.le_of_ble_eq_true rfl) ?_
    refine r_ifeq (tgt := 26) dX9_copies_11 (by decide) (fun c9 => absurd c9 (by decide)) (fun _ => ?_)
    refine r_iload3 dX9_copies_14 ?_
    refine r_i2l dX9_copies_15 ?_
    refine r_lconst_0 dX9_copies_16 ?_
    refine r_ldc2 ct_X9_72 dX9_copies_17 ?_
    refine r_cS3I dX9_copies_20 mm_X9_in st_X9_in ml_X9_74 (c_inI_y (lo := 0) (hi := 3) h (by decide) (by decide) w1 w2) (by decide) (Nat.le_of_ble_eq_true rfl) ?_
    refine r_ifne (tgt := 32) dX9_copies_23 (by decide) (fun _ => ?_) (fun c9 => absurd c9 (by decide))
    refine r_aload0 dX9_copies_32 ?_
    refine r_getR dX9_copies_33 fl_X9_7 rfl rfl ?_
    refine r_iload1 dX9_copies_36 ?_
    refine r_ialdN dX9_copies_37 rfl ha ?_
    refine r_iflt (tgt := 50) dX9_copies_38 (by decide) (fun c9 => absurd c9 (c)) (fun _ => ?_)
    refine r_aload0 dX9_copies_41 ?_
    refine r_getR dX9_copies_42 fl_X9_7 rfl rfl ?_
    refine r_iload2 dX9_copies_45 ?_
    refine r_ialdN dX9_copies_46 rfl hb ?_
    refine r_ifge (tgt := 59) dX9_copies_47 (by decide) (fun c9 => absurd c9 (fun q => absurd (hl.resolve_left c) (Int32.not_lt.mpr q))) (fun _ => ?_)
    refine r_aload0 dX9_copies_50 ?_
    refine r_iconst_1 dX9_copies_51 ?_
    refine r_cV1I dX9_copies_52 mm_X9_met im_X9_met se_X9_met ml_X9_84 rfl rfl rfl (c_X9_met 1 h) (by decide) (Nat.le_of_ble_eq_true rfl) ?_
    refine r_cS1L dX9_copies_55 mm_X9_no st_X9_no ml_X9_216 (c_X9_no _ _) (by decide) (Nat.le_of_ble_eq_true rfl) ?_
    exact r_lretE dX9_copies_58 rfl (rfl) (rfl)
theorem c_X9_copies_not (a b : Nat) (w : Int32) (h : Hp) (ha : a < 4) (hb : b < 4) (w1 : ¬ w < 0) (w2 : ¬ 3 < w) (hS : MS4 h) (h1 : ¬ h.1 32 a < 0) (h2 : ¬ h.1 32 b < 0) (hz : mz h a = 0 ∨ mz h b = 0) : Rn 2 MX9_copies [.ref 31, .int (nI a), .int (nI b), .int w] h (EL (rfL (-3)) h) := by
  obtain ⟨z1, z2⟩ := hS a ha
  obtain ⟨y1, y2⟩ := hS b hb
  refine rn_of mm_X9_copies (le_b rfl) rfl ?_
  by_cases c : mz h a = 0
  · rw [c] at z1
    refine r_iload1 dX9_copies_0 ?_
    refine r_cS1I dX9_copies_1 mm_X9_isSheet st_X9_isSheet ml_X9_78 (c_mS_y h (okj ha)) (by decide) (Nat.le_of_ble_eq_true rfl) ?_
    refine r_ifeq (tgt := 26) dX9_copies_4 (by decide) (fun c9 => absurd c9 (by decide)) (fun _ => ?_)
    refine r_iload2 dX9_copies_7 ?_
    refine r_cS1I dX9_copies_8 mm_X9_isSheet st_X9_isSheet ml_X9_78 (c_mS_y h (okj hb)) (by decide) (Nat.le_of_ble_eq_true rfl) ?_
    refine r_ifeq (tgt := 26) dX9_copies_11 (by decide) (fun c9 => absurd c9 (by decide)) (fun _ => ?_)
    refine r_iload3 dX9_copies_14 ?_
    refine r_i2l dX9_copies_15 ?_
    refine r_lconst_0 dX9_copies_16 ?_
    refine r_ldc2 ct_X9_72 dX9_copies_17 ?_
    refine r_cS3I dX9_copies_20 mm_X9_in st_X9_in ml_X9_74 (c_inI_y (lo := 0) (hi := 3) h (by decide) (by decide) w1 w2) (by decide) (Nat.le_of_ble_eq_true rfl) ?_
    refine r_ifne (tgt := 32) dX9_copies_23 (by decide) (fun _ => ?_) (fun c9 => absurd c9 (by decide))
    refine r_aload0 dX9_copies_32 ?_
    refine r_getR dX9_copies_33 fl_X9_7 rfl rfl ?_
    refine r_iload1 dX9_copies_36 ?_
    refine r_ialdN dX9_copies_37 rfl ha ?_
    refine r_iflt (tgt := 50) dX9_copies_38 (by decide) (fun c9 => absurd c9 (h1)) (fun _ => ?_)
    refine r_aload0 dX9_copies_41 ?_
    refine r_getR dX9_copies_42 fl_X9_7 rfl rfl ?_
    refine r_iload2 dX9_copies_45 ?_
    refine r_ialdN dX9_copies_46 rfl hb ?_
    refine r_ifge (tgt := 59) dX9_copies_47 (by decide) (fun _ => ?_) (fun c9 => absurd (Int32.not_lt.mp h2) c9)
    refine r_aload0 dX9_copies_59 ?_
    refine r_getR dX9_copies_60 fl_X9_13 rfl rfl ?_
    refine r_iload1 dX9_copies_63 ?_
    refine r_ialdN dX9_copies_64 rfl ha ?_
    refine r_ifeq (tgt := 77) dX9_copies_65 (by decide) (fun _ => ?_) (fun c9 => absurd (z1) c9)
    refine r_bipush bv_m3 dX9_copies_77 ?_
    refine r_cS1L dX9_copies_79 mm_X9_no st_X9_no ml_X9_216 (c_X9_no _ h) (by decide) (Nat.le_of_ble_eq_true rfl) ?_
    exact r_lretE dX9_copies_82 rfl (rfl) (rfl)
  · have d := hz.resolve_left c
    rw [d] at y1
    refine r_iload1 dX9_copies_0 ?_
    refine r_cS1I dX9_copies_1 mm_X9_isSheet st_X9_isSheet ml_X9_78 (c_mS_y h (okj ha)) (by decide) (Nat.le_of_ble_eq_true rfl) ?_
    refine r_ifeq (tgt := 26) dX9_copies_4 (by decide) (fun c9 => absurd c9 (by decide)) (fun _ => ?_)
    refine r_iload2 dX9_copies_7 ?_
    refine r_cS1I dX9_copies_8 mm_X9_isSheet st_X9_isSheet ml_X9_78 (c_mS_y h (okj hb)) (by decide) (Nat.le_of_ble_eq_true rfl) ?_
    refine r_ifeq (tgt := 26) dX9_copies_11 (by decide) (fun c9 => absurd c9 (by decide)) (fun _ => ?_)
    refine r_iload3 dX9_copies_14 ?_
    refine r_i2l dX9_copies_15 ?_
    refine r_lconst_0 dX9_copies_16 ?_
    refine r_ldc2 ct_X9_72 dX9_copies_17 ?_
    refine r_cS3I dX9_copies_20 mm_X9_in st_X9_in ml_X9_74 (c_inI_y (lo := 0) (hi := 3) h (by decide) (by decide) w1 w2) (by decide) (Nat.le_of_ble_eq_true rfl) ?_
    refine r_ifne (tgt := 32) dX9_copies_23 (by decide) (fun _ => ?_) (fun c9 => absurd c9 (by decide))
    refine r_aload0 dX9_copies_32 ?_
    refine r_getR dX9_copies_33 fl_X9_7 rfl rfl ?_
    refine r_iload1 dX9_copies_36 ?_
    refine r_ialdN dX9_copies_37 rfl ha ?_
    refine r_iflt (tgt := 50) dX9_copies_38 (by decide) (fun c9 => absurd c9 (h1)) (fun _ => ?_)
    refine r_aload0 dX9_copies_41 ?_
    refine r_getR dX9_copies_42 fl_X9_7 rfl rfl ?_
    refine r_iload2 dX9_copies_45 ?_
    refine r_ialdN dX9_copies_46 rfl hb ?_
    refine r_ifge (tgt := 59) dX9_copies_47 (by decide) (fun _ => ?_) (fun c9 => absurd (Int32.not_lt.mp h2) c9)
    refine r_aload0 dX9_copies_59 ?_
    refine r_getR dX9_copies_60 fl_X9_13 rfl rfl ?_
    refine r_iload1 dX9_copies_63 ?_
    refine r_ialdN dX9_copies_64 rfl ha ?_
    refine r_ifeq (tgt := 77) dX9_copies_65 (by decide) (fun c9 => absurd c9 (by rw [z1]; exact nI_ne0 (by omega) (by omega))) (fun _ => ?_)
    refine r_aload0 dX9_copies_68 ?_
    refine r_getR dX9_copies_69 fl_X9_13 rfl rfl ?_
    refine r_iload2 dX9_copies_72 ?_
    refine r_ialdN dX9_copies_73 rfl hb ?_
    refine r_ifne (tgt := 83) dX9_copies_74 (by decide) (fun c9 => absurd (y1) c9) (fun _ => ?_)
    refine r_bipush bv_m3 dX9_copies_77 ?_
    refine r_cS1L dX9_copies_79 mm_X9_no st_X9_no ml_X9_216 (c_X9_no _ h) (by decide) (Nat.le_of_ble_eq_true rfl) ?_
    exact r_lretE dX9_copies_82 rfl (rfl) (rfl)
def mD (h : Hp) (s t i j : Nat) : Int64 := (h.1 34 (60 * t + j)).toInt64 - (h.1 34 (60 * s + i)).toInt64
def ruP (D : Nat → Nat → Int64) (n1 n2 a b k : Nat) : Bool := decide (a + k < n1 ∧ b + k < n2 ∧ D (a + k) (b + k) = D a b)
theorem ru_k (D : Nat → Nat → Int64) (n1 n2 a b : Nat) : ∀ f k, k + f = n2 - b → 1 ≤ k → b < n2 → D (a + k - 1) (b + k - 1) = D a b → upF (ruP D n1 n2 a b) f k + 1 = k + rl D n1 n2 (f + 1) (a + k - 1) (b + k - 1) := by
  intro f
  induction f with
  | zero =>
    intro k hk h1 hb hD
    rw [upF, rl, if_neg (by omega)]
  | succ f ih =>
    intro k hk h1 hb hD
    rw [upF, rl]
    have e1 : a + k - 1 + 1 = a + k := by omega
    have e2 : b + k - 1 + 1 = b + k := by omega
    rw [e1, e2, hD]
    by_cases c : a + k < n1 ∧ b + k < n2 ∧ D (a + k) (b + k) = D a b
    · rw [if_pos (show ruP D n1 n2 a b k = true from decide_eq_true c), if_pos ⟨c.2.1, c.1, c.2.2⟩]
      have := ih (k + 1) (by omega) (by omega) hb (by rw [show a + (k + 1) - 1 = a + k by omega, show b + (k + 1) - 1 = b + k by omega]; exact c.2.2)
      rw [show a + (k + 1) - 1 = a + k by omega, show b + (k + 1) - 1 = b + k by omega] at this
      omega
    · rw [if_neg (by unfold ruP; simpa using c), if_neg (fun q => c ⟨q.2.1, q.1, q.2.2⟩)]
theorem ru_eq (D : Nat → Nat → Int64) {n1 n2 a b : Nat} (ha : a < n1) (hb : b < n2) : upF (ruP D n1 n2 a b) (n2 - b) 0 = rowV D n1 n2 b a := by
  obtain ⟨f, hf⟩ : ∃ f, n2 - b = f + 1 := ⟨n2 - b - 1, by omega⟩
  have := ru_k D n1 n2 a b f 1 (by omega) (by omega) hb rfl
  unfold rowV
  rw [hf, upF, if_pos (show ruP D n1 n2 a b 0 = true from decide_eq_true ⟨by omega, by omega, rfl⟩)]
  have e1 : a + 1 - 1 = a := by omega
  have e2 : b + 1 - 1 = b := by omega
  rw [e1, e2] at this
  rw [Nat.zero_add]
  omega
abbrev BM : Type := Nat × Nat × Nat
def cmF (D : Nat → Nat → Int64) (n1 n2 b a : Nat) (st : BM) : BM := if st.1 < rowV D n1 n2 b a then (rowV D n1 n2 b a, b, a) else st
def cpM (D : Nat → Nat → Int64) (n1 n2 : Nat) : BM := lp (fun b st => lp (cmF D n1 n2 b) 0 n1 st) 0 n2 (0, 0, 0)
def cmI (n1 n2 : Nat) (st : BM) : Prop := st.1 ≤ 60 ∧ st.2.1 < n2 ∧ st.2.2 < n1
theorem cmF_I {D : Nat → Nat → Int64} {n1 n2 b a : Nat} {st : BM} (h2 : n2 ≤ 60) (ha : a < n1) (hb : b < n2) (h : cmI n1 n2 st) : cmI n1 n2 (cmF D n1 n2 b a st) := by
  unfold cmF
  split
  · have := rl_le D n1 n2 (n2 - b) a b
    exact ⟨by unfold rowV; dsimp only; omega, hb, ha⟩
  · exact h
theorem c_X9_copies (s t w : Nat) (h : Hp) (hs : s < 4) (ht : t < 4) (hw : w ≤ 3) (hS : MS4 h) (h1 : ¬ h.1 32 s < 0) (h2 : ¬ h.1 32 t < 0) (hz1 : 1 ≤ mz h s) (hz2 : 1 ≤ mz h t) : Rn 2 MX9_copies [.ref 31, .int (nI s), .int (nI t), .int (nI w)] h (EL (if w = 0 then (nI (cpM (mD h s t) (mz h s) (mz h t)).1).toInt64 else if w = 1 then (nI (cpM (mD h s t) (mz h s) (mz h t)).2.1).toInt64 else if w = 2 then (nI (cpM (mD h s t) (mz h s) (mz h t)).2.2).toInt64 else mD h s t (cpM (mD h s t) (mz h s) (mz h t)).2.2 (cpM (mD h s t) (mz h s) (mz h t)).2.1) h) := by
  obtain ⟨z1, z2⟩ := hS s hs
  obtain ⟨y1, y2⟩ := hS t ht
  generalize hn1 : mz h s = n1 at *
  generalize hn2 : mz h t = n2 at *
  refine rn_of mm_X9_copies (le_b rfl) rfl ?_
  refine r_iload1 dX9_copies_0 ?_
  refine r_cS1I dX9_copies_1 mm_X9_isSheet st_X9_isSheet ml_X9_78 (c_mS_y h (okj hs)) (by decide) (Nat.le_of_ble_eq_true rfl) ?_
  refine r_ifeq (tgt := 26) dX9_copies_4 (by decide) (fun c9 => absurd c9 (by decide)) (fun _ => ?_)
  refine r_iload2 dX9_copies_7 ?_
  refine r_cS1I dX9_copies_8 mm_X9_isSheet st_X9_isSheet ml_X9_78 (c_mS_y h (okj ht)) (by decide) (Nat.le_of_ble_eq_true rfl) ?_
  refine r_ifeq (tgt := 26) dX9_copies_11 (by decide) (fun c9 => absurd c9 (by decide)) (fun _ => ?_)
  refine r_iload3 dX9_copies_14 ?_
  refine r_i2l dX9_copies_15 ?_
  refine r_lconst_0 dX9_copies_16 ?_
  refine r_ldc2 ct_X9_72 dX9_copies_17 ?_
  refine r_cS3I dX9_copies_20 mm_X9_in st_X9_in ml_X9_74 (c_inI_y (lo := 0) (hi := 3) h (by decide) (by decide) (nI_pos (by omega)) (nI_nlt (a := 3) hw (by decide))) (by decide) (Nat.le_of_ble_eq_true rfl) ?_
  refine r_ifne (tgt := 32) dX9_copies_23 (by decide) (fun _ => ?_) (fun c9 => absurd c9 (by decide))
  refine r_aload0 dX9_copies_32 ?_
  refine r_getR dX9_copies_33 fl_X9_7 rfl rfl ?_
  refine r_iload1 dX9_copies_36 ?_
  refine r_ialdN dX9_copies_37 rfl hs ?_
  refine r_iflt (tgt := 50) dX9_copies_38 (by decide) (fun c9 => absurd c9 (h1)) (fun _ => ?_)
  refine r_aload0 dX9_copies_41 ?_
  refine r_getR dX9_copies_42 fl_X9_7 rfl rfl ?_
  refine r_iload2 dX9_copies_45 ?_
  refine r_ialdN dX9_copies_46 rfl ht ?_
  refine r_ifge (tgt := 59) dX9_copies_47 (by decide) (fun _ => ?_) (fun c9 => absurd (Int32.not_lt.mp h2) c9)
  refine r_aload0 dX9_copies_59 ?_
  refine r_getR dX9_copies_60 fl_X9_13 rfl rfl ?_
  refine r_iload1 dX9_copies_63 ?_
  refine r_ialdN dX9_copies_64 rfl hs ?_
  refine r_ifeq (tgt := 77) dX9_copies_65 (by decide) (fun c9 => absurd c9 (by rw [z1]; exact nI_ne0 (by omega) (by omega))) (fun _ => ?_)
  refine r_aload0 dX9_copies_68 ?_
  refine r_getR dX9_copies_69 fl_X9_13 rfl rfl ?_
  refine r_iload2 dX9_copies_72 ?_
  refine r_ialdN dX9_copies_73 rfl ht ?_
  refine r_ifne (tgt := 83) dX9_copies_74 (by decide) (fun _ => ?_) (fun c9 => absurd c9 (by rw [y1]; exact nI_ne0 (by omega) (by omega)))
  refine r_iconst_0 dX9_copies_83 ?_
  refine r_istore4 dX9_copies_84 rfl (by decide) ?_
  refine r_iconst_0 dX9_copies_86 ?_
  refine r_istore5 dX9_copies_87 rfl (by decide) ?_
  refine r_iconst_0 dX9_copies_89 ?_
  refine r_istore6 dX9_copies_90 rfl (by decide) ?_
  refine r_iconst_0 dX9_copies_92 ?_
  refine r_istore7 dX9_copies_93 rfl (by decide) ?_
  generalize hQ : (if w = 0 then (nI (cpM (mD h s t) n1 n2).1).toInt64 else if w = 1 then (nI (cpM (mD h s t) n1 n2).2.1).toInt64 else if w = 2 then (nI (cpM (mD h s t) n1 n2).2.2).toInt64 else mD h s t (cpM (mD h s t) n1 n2).2.2 (cpM (mD h s t) n1 n2).2.1) = Q
  refine lpI (fun b st => lp (cmF (mD h s t) n1 n2 b) 0 n1 st) (fun b st => ∀ x8 x9 x11, Aw 2 MX9_copies (Kp (EL Q h)) 95 [some (.ref 31), some (.int (nI s)), some (.int (nI t)), some (.int (nI w)), some (.int (nI st.1)), some (.int (nI st.2.1)), some (.int (nI st.2.2)), some (.int (nI b)), x8, x9, none, x11] [] h) (fun _ st => cmI n1 n2 st) n2 ?_ ?_ n2 0 (0, 0, 0) (by omega) ⟨by decide, by show 0 < n2; omega, by show 0 < n1; omega⟩ ?_ _ _ _
  · intro b st hb hI
    exact lp_inv (cmF (mD h s t) n1 n2 b) (fun _ st => cmI n1 n2 st) n1 (fun a st ha hI => cmF_I y2 ha hb hI) n1 0 st (by omega) hI
  · intro b st hb hI k x8 x9 x11
    refine r_iload7 dX9_copies_95 ?_
    refine r_aload0 dX9_copies_97 ?_
    refine r_getR dX9_copies_98 fl_X9_13 rfl rfl ?_
    refine r_iload2 dX9_copies_101 ?_
    refine r_ialdN dX9_copies_102 rfl ht ?_
    refine r_icmpge (tgt := 236) dX9_copies_103 (by decide) (fun c9 => absurd c9 (by rw [y1]; exact nI_ge hb (by omega))) (fun _ => ?_)
    refine r_iconst_0 dX9_copies_106 ?_
    refine r_istore8 dX9_copies_107 rfl (by decide) ?_
    refine lpI (cmF (mD h s t) n1 n2 b) (fun a st => ∀ x9 x11, Aw 2 MX9_copies (Kp (EL Q h)) 109 [some (.ref 31), some (.int (nI s)), some (.int (nI t)), some (.int (nI w)), some (.int (nI st.1)), some (.int (nI st.2.1)), some (.int (nI st.2.2)), some (.int (nI b)), some (.int (nI a)), x9, none, x11] [] h) (fun _ st => cmI n1 n2 st) n1 (fun a st ha hI => cmF_I y2 ha hb hI) ?_ n1 0 st (by omega) hI ?_ _ _
    · intro a st ha hI k x9 x11
      have hV := ru_eq (mD h s t) (n1 := n1) (n2 := n2) ha hb
      have hle := rl_le (mD h s t) n1 n2 (n2 - b) a b
      have hle : rowV (mD h s t) n1 n2 b a ≤ n2 - b := hle
      refine r_iload8 dX9_copies_109 ?_
      refine r_aload0 dX9_copies_111 ?_
      refine r_getR dX9_copies_112 fl_X9_13 rfl rfl ?_
      refine r_iload1 dX9_copies_115 ?_
      refine r_ialdN dX9_copies_116 rfl hs ?_
      refine r_icmpge (tgt := 230) dX9_copies_117 (by decide) (fun c9 => absurd c9 (by rw [z1]; exact nI_ge ha (by omega))) (fun _ => ?_)
      refine r_aload0 dX9_copies_120 ?_
      refine r_iload2 dX9_copies_121 ?_
      refine r_iload7 dX9_copies_122 ?_
      refine r_cV2I dX9_copies_124 mm_X9_item im_X9_item se_X9_item ml_X9_242 rfl rfl rfl (c_X9_item t b h ht (by omega)) (by decide) (Nat.le_of_ble_eq_true rfl) ?_
      refine r_i2l dX9_copies_127 ?_
      refine r_aload0 dX9_copies_128 ?_
      refine r_iload1 dX9_copies_129 ?_
      refine r_iload8 dX9_copies_130 ?_
      refine r_cV2I dX9_copies_132 mm_X9_item im_X9_item se_X9_item ml_X9_242 rfl rfl rfl (c_X9_item s a h hs (by omega)) (by decide) (Nat.le_of_ble_eq_true rfl) ?_
      refine r_i2l dX9_copies_135 ?_
      refine r_lsub dX9_copies_136 ?_
      refine r_lstore9 dX9_copies_137 rfl (by decide) ?_
      refine r_iconst_0 dX9_copies_139 ?_
      refine r_istore11 dX9_copies_140 rfl (by decide) ?_
      change Aw _ _ _ _ (_ :: _ :: _ :: _ :: _ :: _ :: _ :: _ :: _ :: some (.long (mD h s t a b)) :: _) _ _
      have tail : Aw 2 MX9_copies (Kp (EL Q h)) 205 [some (.ref 31), some (.int (nI s)), some (.int (nI t)), some (.int (nI w)), some (.int (nI st.1)), some (.int (nI st.2.1)), some (.int (nI st.2.2)), some (.int (nI b)), some (.int (nI a)), some (.long (mD h s t a b)), none, some (.int (nI (rowV (mD h s t) n1 n2 b a)))] [] h := by
        unfold cmF at k
        have := hI.1
        by_cases c : st.1 < rowV (mD h s t) n1 n2 b a
        · rw [if_pos c] at k
          refine r_iload11 dX9_copies_205 ?_
          refine r_iload4 dX9_copies_207 ?_
          refine r_icmple (tgt := 224) dX9_copies_209 (by decide) (fun c9 => absurd c9 (nI_ge c (by omega))) (fun _ => ?_)
          refine r_iload11 dX9_copies_212 ?_
          refine r_istore4 dX9_copies_214 rfl (by decide) ?_
          refine r_iload7 dX9_copies_216 ?_
          refine r_istore5 dX9_copies_218 rfl (by decide) ?_
          refine r_iload8 dX9_copies_220 ?_
          refine r_istore6 dX9_copies_222 rfl (by decide) ?_
          refine r_iinc8_1 dX9_copies_224 rfl (by decide) ?_
          refine r_goto (tgt := 109) dX9_copies_227 (by decide) ?_
          rw [nI_1]
          exact k _ _
        · rw [if_neg c] at k
          refine r_iload11 dX9_copies_205 ?_
          refine r_iload4 dX9_copies_207 ?_
          refine r_icmple (tgt := 224) dX9_copies_209 (by decide) (fun _ => ?_) (fun c9 => absurd (nI_le (by omega) (by omega)) c9)
          refine r_iinc8_1 dX9_copies_224 rfl (by decide) ?_
          refine r_goto (tgt := 109) dX9_copies_227 (by decide) ?_
          rw [nI_1]
          exact k _ _
      have run : ∀ f x, x + f = n2 - b → upF (ruP (mD h s t) n1 n2 a b) f x = rowV (mD h s t) n1 n2 b a → Aw 2 MX9_copies (Kp (EL Q h)) 142 [some (.ref 31), some (.int (nI s)), some (.int (nI t)), some (.int (nI w)), some (.int (nI st.1)), some (.int (nI st.2.1)), some (.int (nI st.2.2)), some (.int (nI b)), some (.int (nI a)), some (.long (mD h s t a b)), none, some (.int (nI x))] [] h := by
        intro f
        induction f with
        | zero =>
          intro x hx he
          have he : x = rowV (mD h s t) n1 n2 b a := he
          rw [← he] at tail
          refine r_iload8 dX9_copies_142 ?_
          refine r_iload11 dX9_copies_144 ?_
          refine r_iadd dX9_copies_146 ?_
          rw [nI_add]
          by_cases c : a + x < n1
          · refine r_aload0 dX9_copies_147 ?_
            refine r_getR dX9_copies_148 fl_X9_13 rfl rfl ?_
            refine r_iload1 dX9_copies_151 ?_
            refine r_ialdN dX9_copies_152 rfl hs ?_
            refine r_icmpge (tgt := 205) dX9_copies_153 (by decide) (fun c9 => absurd c9 (by rw [z1]; exact nI_ge c (by omega))) (fun _ => ?_)
            refine r_iload7 dX9_copies_156 ?_
            refine r_iload11 dX9_copies_158 ?_
            refine r_iadd dX9_copies_160 ?_
            rw [nI_add]
            refine r_aload0 dX9_copies_161 ?_
            refine r_getR dX9_copies_162 fl_X9_13 rfl rfl ?_
            refine r_iload2 dX9_copies_165 ?_
            refine r_ialdN dX9_copies_166 rfl ht ?_
            refine r_icmpge (tgt := 205) dX9_copies_167 (by decide) (fun _ => ?_) (fun c9 => absurd (by rw [y1]; exact nI_le (by omega) (by omega)) c9)
            exact tail
          · refine r_aload0 dX9_copies_147 ?_
            refine r_getR dX9_copies_148 fl_X9_13 rfl rfl ?_
            refine r_iload1 dX9_copies_151 ?_
            refine r_ialdN dX9_copies_152 rfl hs ?_
            refine r_icmpge (tgt := 205) dX9_copies_153 (by decide) (fun _ => ?_) (fun c9 => absurd (by rw [z1]; exact nI_le (by omega) (by omega)) c9)
            exact tail
        | succ f ih =>
          intro x hx he
          rw [upF] at he
          refine r_iload8 dX9_copies_142 ?_
          refine r_iload11 dX9_copies_144 ?_
          refine r_iadd dX9_copies_146 ?_
          rw [nI_add]
          by_cases c : a + x < n1
          · refine r_aload0 dX9_copies_147 ?_
            refine r_getR dX9_copies_148 fl_X9_13 rfl rfl ?_
            refine r_iload1 dX9_copies_151 ?_
            refine r_ialdN dX9_copies_152 rfl hs ?_
            refine r_icmpge (tgt := 205) dX9_copies_153 (by decide) (fun c9 => absurd c9 (by rw [z1]; exact nI_ge c (by omega))) (fun _ => ?_)
            refine r_iload7 dX9_copies_156 ?_
            refine r_iload11 dX9_copies_158 ?_
            refine r_iadd dX9_copies_160 ?_
            rw [nI_add]
            refine r_aload0 dX9_copies_161 ?_
            refine r_getR dX9_copies_162 fl_X9_13 rfl rfl ?_
            refine r_iload2 dX9_copies_165 ?_
            refine r_ialdN dX9_copies_166 rfl ht ?_
            refine r_icmpge (tgt := 205) dX9_copies_167 (by decide) (fun c9 => absurd c9 (by rw [y1]; exact nI_ge (by omega) (by omega))) (fun _ => ?_)
            refine r_aload0 dX9_copies_170 ?_
            refine r_iload2 dX9_copies_171 ?_
            refine r_iload7 dX9_copies_172 ?_
            refine r_iload11 dX9_copies_174 ?_
            refine r_iadd dX9_copies_176 ?_
            rw [nI_add]
            refine r_cV2I dX9_copies_177 mm_X9_item im_X9_item se_X9_item ml_X9_242 rfl rfl rfl (c_X9_item t (b + x) h ht (by omega)) (by decide) (Nat.le_of_ble_eq_true rfl) ?_
            refine r_i2l dX9_copies_180 ?_
            refine r_aload0 dX9_copies_181 ?_
            refine r_iload1 dX9_copies_182 ?_
            refine r_iload8 dX9_copies_183 ?_
            refine r_iload11 dX9_copies_185 ?_
            refine r_iadd dX9_copies_187 ?_
            rw [nI_add]
            refine r_cV2I dX9_copies_188 mm_X9_item im_X9_item se_X9_item ml_X9_242 rfl rfl rfl (c_X9_item s (a + x) h hs (by omega)) (by decide) (Nat.le_of_ble_eq_true rfl) ?_
            refine r_i2l dX9_copies_191 ?_
            refine r_lsub dX9_copies_192 ?_
            change Aw _ _ _ _ _ (.long (mD h s t (a + x) (b + x)) :: _) _
            by_cases d : mD h s t (a + x) (b + x) = mD h s t a b
            · rw [if_pos (show ruP (mD h s t) n1 n2 a b x = true from decide_eq_true ⟨c, by omega, d⟩)] at he
              refine r_lload9 dX9_copies_193 ?_
              refine r_lne (tgt := 205) dX9_copies_195 dX9_copies_196 (by decide) (fun c9 => absurd (d) c9) (fun _ => ?_)
              refine r_iinc11_1 dX9_copies_199 rfl (by decide) ?_
              refine r_goto (tgt := 142) dX9_copies_202 (by decide) ?_
              rw [nI_1]
              exact ih (x + 1) (by omega) he
            · rw [if_neg (by unfold ruP; simp [d])] at he
              rw [← he] at tail
              refine r_lload9 dX9_copies_193 ?_
              refine r_lne (tgt := 205) dX9_copies_195 dX9_copies_196 (by decide) (fun _ => ?_) (fun c9 => absurd c9 (d))
              exact tail
          · rw [if_neg (by unfold ruP; simp [c])] at he
            rw [← he] at tail
            refine r_aload0 dX9_copies_147 ?_
            refine r_getR dX9_copies_148 fl_X9_13 rfl rfl ?_
            refine r_iload1 dX9_copies_151 ?_
            refine r_ialdN dX9_copies_152 rfl hs ?_
            refine r_icmpge (tgt := 205) dX9_copies_153 (by decide) (fun _ => ?_) (fun c9 => absurd (by rw [z1]; exact nI_le (by omega) (by omega)) c9)
            exact tail
      exact run (n2 - b) 0 (by omega) hV
    · intro hI2 x9 x11
      refine r_iload8 dX9_copies_109 ?_
      refine r_aload0 dX9_copies_111 ?_
      refine r_getR dX9_copies_112 fl_X9_13 rfl rfl ?_
      refine r_iload1 dX9_copies_115 ?_
      refine r_ialdN dX9_copies_116 rfl hs ?_
      refine r_icmpge (tgt := 230) dX9_copies_117 (by decide) (fun _ => ?_) (fun c9 => absurd (by rw [z1]; exact Int32.le_refl _) c9)
      refine r_iinc7_1 dX9_copies_230 rfl (by decide) ?_
      refine r_goto (tgt := 95) dX9_copies_233 (by decide) ?_
      rw [nI_1]
      exact k _ _ _
  · intro hI x8 x9 x11
    have hI : cmI n1 n2 (cpM (mD h s t) n1 n2) := hI
    change Aw _ _ _ _ [some (.ref 31), some (.int (nI s)), some (.int (nI t)), some (.int (nI w)), some (.int (nI (cpM (mD h s t) n1 n2).1)), some (.int (nI (cpM (mD h s t) n1 n2).2.1)), some (.int (nI (cpM (mD h s t) n1 n2).2.2)), some (.int (nI n2)), x8, x9, none, x11] _ _
    generalize cpM (mD h s t) n1 n2 = st at *
    refine r_iload7 dX9_copies_95 ?_
    refine r_aload0 dX9_copies_97 ?_
    refine r_getR dX9_copies_98 fl_X9_13 rfl rfl ?_
    refine r_iload2 dX9_copies_101 ?_
    refine r_ialdN dX9_copies_102 rfl ht ?_
    refine r_icmpge (tgt := 236) dX9_copies_103 (by decide) (fun _ => ?_) (fun c9 => absurd (by rw [y1]; exact Int32.le_refl _) c9)
    have : w = 0 ∨ w = 1 ∨ w = 2 ∨ w = 3 := by omega
    rcases this with rfl | rfl | rfl | rfl
    · refine r_iload3 dX9_copies_236 ?_
      refine r_ifne (tgt := 246) dX9_copies_237 (by decide) (fun c9 => absurd (rfl) c9) (fun _ => ?_)
      refine r_iload4 dX9_copies_240 ?_
      refine r_i2l dX9_copies_242 ?_
      refine r_goto (tgt := 285) dX9_copies_243 (by decide) ?_
      exact r_lretE dX9_copies_285 rfl (hQ) (rfl)
    · refine r_iload3 dX9_copies_236 ?_
      refine r_ifne (tgt := 246) dX9_copies_237 (by decide) (fun _ => ?_) (fun c9 => absurd c9 (by decide))
      refine r_iload3 dX9_copies_246 ?_
      refine r_iconst_1 dX9_copies_247 ?_
      refine r_icmpne (tgt := 257) dX9_copies_248 (by decide) (fun c9 => absurd (rfl) c9) (fun _ => ?_)
      refine r_iload5 dX9_copies_251 ?_
      refine r_i2l dX9_copies_253 ?_
      refine r_goto (tgt := 285) dX9_copies_254 (by decide) ?_
      exact r_lretE dX9_copies_285 rfl (hQ) (rfl)
    · refine r_iload3 dX9_copies_236 ?_
      refine r_ifne (tgt := 246) dX9_copies_237 (by decide) (fun _ => ?_) (fun c9 => absurd c9 (by decide))
      refine r_iload3 dX9_copies_246 ?_
      refine r_iconst_1 dX9_copies_247 ?_
      refine r_icmpne (tgt := 257) dX9_copies_248 (by decide) (fun _ => ?_) (fun c9 => absurd c9 (by decide))
      refine r_iload3 dX9_copies_257 ?_
      refine r_iconst_2 dX9_copies_258 ?_
      refine r_icmpne (tgt := 268) dX9_copies_259 (by decide) (fun c9 => absurd (rfl) c9) (fun _ => ?_)
      refine r_iload6 dX9_copies_262 ?_
      refine r_i2l dX9_copies_264 ?_
      refine r_goto (tgt := 285) dX9_copies_265 (by decide) ?_
      exact r_lretE dX9_copies_285 rfl (hQ) (rfl)
    · have := hI.2.1
      have := hI.2.2
      refine r_iload3 dX9_copies_236 ?_
      refine r_ifne (tgt := 246) dX9_copies_237 (by decide) (fun _ => ?_) (fun c9 => absurd c9 (by decide))
      refine r_iload3 dX9_copies_246 ?_
      refine r_iconst_1 dX9_copies_247 ?_
      refine r_icmpne (tgt := 257) dX9_copies_248 (by decide) (fun _ => ?_) (fun c9 => absurd c9 (by decide))
      refine r_iload3 dX9_copies_257 ?_
      refine r_iconst_2 dX9_copies_258 ?_
      refine r_icmpne (tgt := 268) dX9_copies_259 (by decide) (fun _ => ?_) (fun c9 => absurd c9 (by decide))
      refine r_aload0 dX9_copies_268 ?_
      refine r_iload2 dX9_copies_269 ?_
      refine r_iload5 dX9_copies_270 ?_
      refine r_cV2I dX9_copies_272 mm_X9_item im_X9_item se_X9_item ml_X9_242 rfl rfl rfl (c_X9_item t st.2.1 h ht (by omega)) (by decide) (Nat.le_of_ble_eq_true rfl) ?_
      refine r_i2l dX9_copies_275 ?_
      refine r_aload0 dX9_copies_276 ?_
      refine r_iload1 dX9_copies_277 ?_
      refine r_iload6 dX9_copies_278 ?_
      refine r_cV2I dX9_copies_280 mm_X9_item im_X9_item se_X9_item ml_X9_242 rfl rfl rfl (c_X9_item s st.2.2 h hs (by omega)) (by decide) (Nat.le_of_ble_eq_true rfl) ?_
      refine r_i2l dX9_copies_283 ?_
      refine r_lsub dX9_copies_284 ?_
      exact r_lretE dX9_copies_285 rfl (hQ) (rfl)
theorem c_X9_divisor (a : Int64) (X Y : Nat) (h : Hp) (hX : X < 2 ^ 62) (hY : Y < 2 ^ 62) (ha : (if a < 0 then -a else a) = lN X) : Rn 0 MX9_divisor [.long a, .long (lN Y)] h (EL (lN (Nat.gcd X Y)) h) := by
  refine rn_of mm_X9_divisor (le_b rfl) rfl ?_
  have key : ∀ f x y x8, y ≤ f → x < 2 ^ 62 → y < 2 ^ 62 → Nat.gcd x y = Nat.gcd X Y → Aw 0 MX9_divisor (Kp (EL (lN (Nat.gcd X Y)) h)) 17 [some (.long a), none, some (.long (lN Y)), none, some (.long (lN x)), none, some (.long (lN y)), none, x8, none] [] h := by
    intro f
    induction f with
    | zero =>
      intro x y x8 hf hx hy he
      have : y = 0 := Nat.le_zero.mp hf
      subst this
      rw [Nat.gcd_zero_right] at he
      refine r_lload6 dX9_divisor_17 ?_
      refine r_lconst_0 dX9_divisor_19 ?_
      refine r_leq (tgt := 42) dX9_divisor_20 dX9_divisor_21 (by decide) (fun _ => ?_) (fun c9 => absurd (rfl) c9)
      refine r_lload4 dX9_divisor_42 ?_
      exact r_lretE dX9_divisor_44 rfl (by rw [he]) (rfl)
    | succ f ih =>
      intro x y x8 hf hx hy he
      by_cases c : y = 0
      · subst c
        rw [Nat.gcd_zero_right] at he
        refine r_lload6 dX9_divisor_17 ?_
        refine r_lconst_0 dX9_divisor_19 ?_
        refine r_leq (tgt := 42) dX9_divisor_20 dX9_divisor_21 (by decide) (fun _ => ?_) (fun c9 => absurd (rfl) c9)
        refine r_lload4 dX9_divisor_42 ?_
        exact r_lretE dX9_divisor_44 rfl (by rw [he]) (rfl)
      · have hne : ¬ lN y = 0 := fun e => c ((pk_lEQ (a := y) (b := 0) (by omega) (by omega)).mp e)
        have hm : x % y < y := Nat.mod_lt _ (by omega)
        refine r_lload6 dX9_divisor_17 ?_
        refine r_lconst_0 dX9_divisor_19 ?_
        refine r_leq (tgt := 42) dX9_divisor_20 dX9_divisor_21 (by decide) (fun c9 => absurd c9 (hne)) (fun _ => ?_)
        refine r_lload4 dX9_divisor_24 ?_
        refine r_lload6 dX9_divisor_26 ?_
        refine r_lrem hne dX9_divisor_28 ?_
        rw [show rem64 (lN x) (lN y) = lN (x % y) from pk_lRem (by omega) (by omega) (by omega)]
        refine r_lstore8 dX9_divisor_29 rfl (by decide) ?_
        refine r_lload6 dX9_divisor_31 ?_
        refine r_lstore4 dX9_divisor_33 rfl (by decide) ?_
        refine r_lload8 dX9_divisor_35 ?_
        refine r_lstore6 dX9_divisor_37 rfl (by decide) ?_
        refine r_goto (tgt := 17) dX9_divisor_39 (by decide) ?_
        refine ih y (x % y) _ (by omega) (by omega) (by omega) ?_
        rw [Nat.gcd_comm, ← Nat.gcd_rec, Nat.gcd_comm, he]
  by_cases c : a < 0
  · rw [if_pos c] at ha
    refine r_lload0 dX9_divisor_0 ?_
    refine r_lconst_0 dX9_divisor_1 ?_
    refine r_lge (tgt := 11) dX9_divisor_2 dX9_divisor_3 (by decide) (fun c9 => absurd c9 (fun q => absurd c (Int64.not_lt.mpr q))) (fun _ => ?_)
    refine r_lload0 dX9_divisor_6 ?_
    refine r_lneg dX9_divisor_7 ?_
    refine r_goto (tgt := 12) dX9_divisor_8 (by decide) ?_
    rw [ha]
    refine r_lstore4 dX9_divisor_12 rfl (by decide) ?_
    refine r_lload2 dX9_divisor_14 ?_
    refine r_lstore6 dX9_divisor_15 rfl (by decide) ?_
    exact key Y X Y none (Nat.le_refl _) hX hY rfl
  · rw [if_neg c] at ha
    subst ha
    refine r_lload0 dX9_divisor_0 ?_
    refine r_lconst_0 dX9_divisor_1 ?_
    refine r_lge (tgt := 11) dX9_divisor_2 dX9_divisor_3 (by decide) (fun _ => ?_) (fun c9 => absurd (Int64.not_lt.mp c) c9)
    refine r_lload0 dX9_divisor_11 ?_
    refine r_lstore4 dX9_divisor_12 rfl (by decide) ?_
    refine r_lload2 dX9_divisor_14 ?_
    refine r_lstore6 dX9_divisor_15 rfl (by decide) ?_
    exact key Y X Y none (Nat.le_refl _) hX hY rfl
