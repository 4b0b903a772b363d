/-! class ToldFigures: helpers, sheets -/
def okS (s : Int32) : Prop := ¬ s < 0 ∧ ¬ 4 ≤ s
def okF (s : Int32) : Prop := ¬ s < 0 ∧ ¬ 3 ≤ s
def okRu (s : Int32) : Prop := ¬ s < 0 ∧ ¬ 2 < s
theorem c_isS_y {s : Int32} (h : Hp) (hs : okS s) : Rn 0 MX8_isSheet [.int s] h (EI 1 h) := by
  refine rn_of mm_X8_isSheet (le_b rfl) rfl ?_
  refine r_iload0 dX8_isSheet_0 ?_
  refine r_iflt (tgt := 13) dX8_isSheet_1 (by decide) (fun c9 => absurd c9 (hs.1)) (fun _ => ?_)
  refine r_iload0 dX8_isSheet_4 ?_
  refine r_iconst_4 dX8_isSheet_5 ?_
  refine r_icmpge (tgt := 13) dX8_isSheet_6 (by decide) (fun c9 => absurd c9 (hs.2)) (fun _ => ?_)
  refine r_iconst_1 dX8_isSheet_9 ?_
  refine r_goto (tgt := 14) dX8_isSheet_10 (by decide) ?_
  exact r_zretE dX8_isSheet_14 rfl (by decide) (rfl) (rfl)
theorem c_isS_n {s : Int32} (h : Hp) (hs : ¬ okS s) : Rn 0 MX8_isSheet [.int s] h (EI 0 h) := by
  refine rn_of mm_X8_isSheet (le_b rfl) rfl ?_
  by_cases c : s < 0
  · refine r_iload0 dX8_isSheet_0 ?_
    refine r_iflt (tgt := 13) dX8_isSheet_1 (by decide) (fun _ => ?_) (fun c9 => absurd (c) c9)
    refine r_iconst_0 dX8_isSheet_13 ?_
    exact r_zretE dX8_isSheet_14 rfl (by decide) (rfl) (rfl)
  · have c2 : 4 ≤ s := Decidable.byContradiction fun q => hs ⟨c, q⟩
    refine r_iload0 dX8_isSheet_0 ?_
    refine r_iflt (tgt := 13) dX8_isSheet_1 (by decide) (fun c9 => absurd c9 (c)) (fun _ => ?_)
    refine r_iload0 dX8_isSheet_4 ?_
    refine r_iconst_4 dX8_isSheet_5 ?_
    refine r_icmpge (tgt := 13) dX8_isSheet_6 (by decide) (fun _ => ?_) (fun c9 => absurd (c2) c9)
    refine r_iconst_0 dX8_isSheet_13 ?_
    exact r_zretE dX8_isSheet_14 rfl (by decide) (rfl) (rfl)
theorem c_isF_y {s : Int32} (h : Hp) (hs : okF s) : Rn 0 MX8_isForm [.int s] h (EI 1 h) := by
  refine rn_of mm_X8_isForm (le_b rfl) rfl ?_
  refine r_iload0 dX8_isForm_0 ?_
  refine r_iflt (tgt := 13) dX8_isForm_1 (by decide) (fun c9 => absurd c9 (hs.1)) (fun _ => ?_)
  refine r_iload0 dX8_isForm_4 ?_
  refine r_iconst_3 dX8_isForm_5 ?_
  refine r_icmpge (tgt := 13) dX8_isForm_6 (by decide) (fun c9 => absurd c9 (hs.2)) (fun _ => ?_)
  refine r_iconst_1 dX8_isForm_9 ?_
  refine r_goto (tgt := 14) dX8_isForm_10 (by decide) ?_
  exact r_zretE dX8_isForm_14 rfl (by decide) (rfl) (rfl)
theorem c_isF_n {s : Int32} (h : Hp) (hs : ¬ okF s) : Rn 0 MX8_isForm [.int s] h (EI 0 h) := by
  refine rn_of mm_X8_isForm (le_b rfl) rfl ?_
  by_cases c : s < 0
  · refine r_iload0 dX8_isForm_0 ?_
    refine r_iflt (tgt := 13) dX8_isForm_1 (by decide) (fun _ => ?_) (fun c9 => absurd (c) c9)
    refine r_iconst_0 dX8_isForm_13 ?_
    exact r_zretE dX8_isForm_14 rfl (by decide) (rfl) (rfl)
  · have c2 : 3 ≤ s := Decidable.byContradiction fun q => hs ⟨c, q⟩
    refine r_iload0 dX8_isForm_0 ?_
    refine r_iflt (tgt := 13) dX8_isForm_1 (by decide) (fun c9 => absurd c9 (c)) (fun _ => ?_)
    refine r_iload0 dX8_isForm_4 ?_
    refine r_iconst_3 dX8_isForm_5 ?_
    refine r_icmpge (tgt := 13) dX8_isForm_6 (by decide) (fun _ => ?_) (fun c9 => absurd (c2) c9)
    refine r_iconst_0 dX8_isForm_13 ?_
    exact r_zretE dX8_isForm_14 rfl (by decide) (rfl) (rfl)
theorem c_isR_y {s : Int32} (h : Hp) (hs : okRu s) : Rn 0 MX8_isRule [.int s] h (EI 1 h) := by
  refine rn_of mm_X8_isRule (le_b rfl) rfl ?_
  refine r_iload0 dX8_isRule_0 ?_
  refine r_iflt (tgt := 13) dX8_isRule_1 (by decide) (fun c9 => absurd c9 (hs.1)) (fun _ => ?_)
  refine r_iload0 dX8_isRule_4 ?_
  refine r_iconst_2 dX8_isRule_5 ?_
  refine r_icmpgt (tgt := 13) dX8_isRule_6 (by decide) (fun c9 => absurd c9 (hs.2)) (fun _ => ?_)
  refine r_iconst_1 dX8_isRule_9 ?_
  refine r_goto (tgt := 14) dX8_isRule_10 (by decide) ?_
  exact r_zretE dX8_isRule_14 rfl (by decide) (rfl) (rfl)
theorem c_isR_n {s : Int32} (h : Hp) (hs : ¬ okRu s) : Rn 0 MX8_isRule [.int s] h (EI 0 h) := by
  refine rn_of mm_X8_isRule (le_b rfl) rfl ?_
  by_cases c : s < 0
  · refine r_iload0 dX8_isRule_0 ?_
    refine r_iflt (tgt := 13) dX8_isRule_1 (by decide) (fun _ => ?_) (fun c9 => absurd (c) c9)
    refine r_iconst_0 dX8_isRule_13 ?_
    exact r_zretE dX8_isRule_14 rfl (by decide) (rfl) (rfl)
  · have c2 : 2 < s := Decidable.byContradiction fun q => hs ⟨c, q⟩
    refine r_iload0 dX8_isRule_0 ?_
    refine r_iflt (tgt := 13) dX8_isRule_1 (by decide) (fun c9 => absurd c9 (c)) (fun _ => ?_)
    refine r_iload0 dX8_isRule_4 ?_
    refine r_iconst_2 dX8_isRule_5 ?_
    refine r_icmpgt (tgt := 13) dX8_isRule_6 (by decide) (fun _ => ?_) (fun c9 => absurd (c2) c9)
    refine r_iconst_0 dX8_isRule_13 ?_
    exact r_zretE dX8_isRule_14 rfl (by decide) (rfl) (rfl)
theorem c_X8_found (k : Int32) (h : Hp) : Rn 0 MX8_found [.ref 0, .int k] h (EI (-10 - k) (pI h 0 10 k)) := by
  refine rn_of mm_X8_found (le_b rfl) rfl ?_
  refine r_aload0 dX8_found_0 ?_
  refine r_iload1 dX8_found_1 ?_
  refine r_putI dX8_found_2 fw_X8_233 rfl rfl ?_
  refine r_bipush bv_m10 dX8_found_5 ?_
  refine r_iload1 dX8_found_7 ?_
  refine r_isub dX8_found_8 ?_
  exact r_iretE dX8_found_9 rfl (rfl) (rfl)
def rfL (x : Int32) : Int64 := -9223372036854775808 - x.toInt64
theorem c_X8_refusedLong (x : Int32) (h : Hp) : Rn 0 MX8_refusedLong [.int x] h (EL (rfL x) h) := by
  refine rn_of mm_X8_refusedLong (le_b rfl) rfl ?_
  refine r_ldc2 ct_X8_287 dX8_refusedLong_0 ?_
  refine r_iload0 dX8_refusedLong_3 ?_
  refine r_i2l dX8_refusedLong_4 ?_
  refine r_lsub dX8_refusedLong_5 ?_
  exact r_lretE dX8_refusedLong_6 rfl (rfl) (rfl)
theorem c_faulty_n (h : Hp) (hf : h.1 1 10 = -1) : Rn 0 MX8_faulty [.ref 0] h (EI 0 h) := by
  refine rn_of mm_X8_faulty (le_b rfl) rfl ?_
  refine r_aload0 dX8_faulty_0 ?_
  refine r_getR dX8_faulty_1 fl_X8_12 rfl rfl ?_
  refine r_getI dX8_faulty_4 fl_X8_79 rfl rfl ?_
  refine r_iconst_m1 dX8_faulty_7 ?_
  refine r_icmpeq (tgt := 15) dX8_faulty_8 (by decide) (fun _ => ?_) (fun c9 => absurd (hf) c9)
  refine r_iconst_0 dX8_faulty_15 ?_
  exact r_zretE dX8_faulty_16 rfl (by decide) (rfl) (rfl)
theorem c_faulty_y (h : Hp) (hf : ¬ h.1 1 10 = -1) : Rn 0 MX8_faulty [.ref 0] h (EI 1 h) := by
  refine rn_of mm_X8_faulty (le_b rfl) rfl ?_
  refine r_aload0 dX8_faulty_0 ?_
  refine r_getR dX8_faulty_1 fl_X8_12 rfl rfl ?_
  refine r_getI dX8_faulty_4 fl_X8_79 rfl rfl ?_
  refine r_iconst_m1 dX8_faulty_7 ?_
  refine r_icmpeq (tgt := 15) dX8_faulty_8 (by decide) (fun c9 => absurd c9 (hf)) (fun _ => ?_)
  refine r_iconst_1 dX8_faulty_11 ?_
  refine r_goto (tgt := 16) dX8_faulty_12 (by decide) ?_
  exact r_zretE dX8_faulty_16 rfl (by decide) (rfl) (rfl)
/-- the four sheets are as they must be -/
def szN (h : Hp) (p : Nat) : Nat := (h.1 p 3).toNatClampNeg
def SH4 (h : Hp) : Prop := ∀ j, j < 4 → h.1 (18 + j) 3 = nI (szN h (18 + j)) ∧ szN h (18 + j) ≤ 60 ∧ (h.1 (18 + j) 1 = 0 ∨ h.1 (18 + j) 1 = 1)
theorem okS_n {s : Int32} (hs : okS s) : ∃ j, j < 4 ∧ s = nI j := by
  obtain ⟨j, h1, h2, -⟩ := pk_mu (L := 4) hs.1 hs.2 (by decide)
  exact ⟨j, h1, h2⟩
theorem shj {j : Nat} (hj : j < 4) : isSh (18 + j) := ⟨by omega, by omega⟩
theorem c_lost {j : Nat} (h : Hp) (hj : j < 4) (hl : h.1 (18 + j) 1 = 1) : Rn 1 MX8_isLost [.ref 0, .int (nI j)] h (EI 1 h) := by
  have ho := oSh (shj hj)
  refine rn_of mm_X8_isLost (le_b rfl) rfl ?_
  refine r_iload1 dX8_isLost_0 ?_
  refine r_cS1I dX8_isLost_1 mm_X8_isSheet st_X8_isSheet ml_X8_154 (c_isS_y h ⟨nI_pos (by omega), nI_ge (b := 4) hj (by decide)⟩) (by decide) (Nat.le_of_ble_eq_true rfl) ?_
  refine r_ifeq (tgt := 19) dX8_isLost_4 (by decide) (fun c9 => absurd c9 (by decide)) (fun _ => ?_)
  refine r_aload0 dX8_isLost_7 ?_
  refine r_getR dX8_isLost_8 fl_X8_32 rfl rfl ?_
  refine r_iload1 dX8_isLost_11 ?_
  refine r_aaldN dX8_isLost_12 hj ?_
  refine r_getI dX8_isLost_13 fl_X8_222 ho rfl ?_
  refine r_ifeq (tgt := 23) dX8_isLost_16 (by decide) (fun c9 => absurd c9 (by rw [hl]; decide)) (fun _ => ?_)
  refine r_iconst_1 dX8_isLost_19 ?_
  refine r_goto (tgt := 24) dX8_isLost_20 (by decide) ?_
  exact r_zretE dX8_isLost_24 rfl (by decide) (rfl) (rfl)
theorem c_there {j : Nat} (h : Hp) (hj : j < 4) (hl : h.1 (18 + j) 1 = 0) : Rn 1 MX8_isLost [.ref 0, .int (nI j)] h (EI 0 h) := by
  have ho := oSh (shj hj)
  refine rn_of mm_X8_isLost (le_b rfl) rfl ?_
  refine r_iload1 dX8_isLost_0 ?_
  refine r_cS1I dX8_isLost_1 mm_X8_isSheet st_X8_isSheet ml_X8_154 (c_isS_y h ⟨nI_pos (by omega), nI_ge (b := 4) hj (by decide)⟩) (by decide) (Nat.le_of_ble_eq_true rfl) ?_
  refine r_ifeq (tgt := 19) dX8_isLost_4 (by decide) (fun c9 => absurd c9 (by decide)) (fun _ => ?_)
  refine r_aload0 dX8_isLost_7 ?_
  refine r_getR dX8_isLost_8 fl_X8_32 rfl rfl ?_
  refine r_iload1 dX8_isLost_11 ?_
  refine r_aaldN dX8_isLost_12 hj ?_
  refine r_getI dX8_isLost_13 fl_X8_222 ho rfl ?_
  refine r_ifeq (tgt := 23) dX8_isLost_16 (by decide) (fun _ => ?_) (fun c9 => absurd (by rw [hl]) c9)
  refine r_iconst_0 dX8_isLost_23 ?_
  exact r_zretE dX8_isLost_24 rfl (by decide) (rfl) (rfl)
def trb (h : Hp) (p : Nat) (f i : Int32) : Int32 := if h.1 p 1 = 0 then (if h.1 p 2 = f then (if i < 0 then 2 else if i < h.1 p 3 then 0 else 2) else 3) else 1
theorem c_X8_itemTrouble (p : Nat) (f i : Int32) (h : Hp) (hp : isSh p) : Rn 0 MX8_itemTrouble [.ref p, .int f, .int i] h (EI (trb h p f i) h) := by
  have ho := oSh hp
  refine rn_of mm_X8_itemTrouble (le_b rfl) rfl ?_
  unfold trb
  refine r_aload0 dX8_itemTrouble_0 ?_
  refine r_getI dX8_itemTrouble_1 fl_X8_222 ho rfl ?_
  refine r_ifeq (tgt := 9) dX8_itemTrouble_4 (by decide) (fun c => ?_) (fun c => ?_)
  · rw [if_pos c]
    refine r_aload0 dX8_itemTrouble_9 ?_
    refine r_getI dX8_itemTrouble_10 fl_X8_239 ho rfl ?_
    refine r_iload1 dX8_itemTrouble_13 ?_
    refine r_icmpeq (tgt := 19) dX8_itemTrouble_14 (by decide) (fun c2 => ?_) (fun c2 => ?_)
    · rw [if_pos c2]
      refine r_iload2 dX8_itemTrouble_19 ?_
      refine r_iflt (tgt := 31) dX8_itemTrouble_20 (by decide) (fun c3 => ?_) (fun c3 => ?_)
      · refine r_iconst_2 dX8_itemTrouble_31 ?_
        refine r_goto (tgt := 36) dX8_itemTrouble_32 (by decide) ?_
        exact r_iretE dX8_itemTrouble_36 rfl (by rw [if_pos c3]) (rfl)
      · refine r_iload2 dX8_itemTrouble_23 ?_
        refine r_aload0 dX8_itemTrouble_24 ?_
        refine r_getI dX8_itemTrouble_25 fl_X8_184 ho rfl ?_
        refine r_icmplt (tgt := 35) dX8_itemTrouble_28 (by decide) (fun c4 => ?_) (fun c4 => ?_)
        · refine r_iconst_0 dX8_itemTrouble_35 ?_
          exact r_iretE dX8_itemTrouble_36 rfl (by rw [if_neg c3, if_pos c4]) (rfl)
        · refine r_iconst_2 dX8_itemTrouble_31 ?_
          refine r_goto (tgt := 36) dX8_itemTrouble_32 (by decide) ?_
          exact r_iretE dX8_itemTrouble_36 rfl (by rw [if_neg c3, if_neg c4]) (rfl)
    · refine r_iconst_3 dX8_itemTrouble_17 ?_
      exact r_iretE dX8_itemTrouble_18 rfl (by rw [if_neg c2]) (rfl)
  · refine r_iconst_1 dX8_itemTrouble_7 ?_
    exact r_iretE dX8_itemTrouble_8 rfl (by rw [if_neg c]) (rfl)
def fThere (h : Hp) : Int32 := lp (fun j a => if h.1 (18 + j) 1 = 0 then a + 1 else a) 0 4 0
theorem c_X8_sheetsThere (h : Hp) (hS : SH4 h) : Rn 2 MX8_sheetsThere [.ref 0] h (EI (fThere h) h) := by
  refine rn_of mm_X8_sheetsThere (le_b rfl) rfl ?_
  refine r_iconst_0 dX8_sheetsThere_0 ?_
  refine r_istore1 dX8_sheetsThere_1 rfl (by decide) ?_
  refine r_iconst_0 dX8_sheetsThere_2 ?_
  refine r_istore2 dX8_sheetsThere_3 rfl (by decide) ?_
  refine lpA (fun j a => if h.1 (18 + j) 1 = 0 then a + 1 else a) (fun j a => Aw 2 MX8_sheetsThere (Kp (EI (fThere h) h)) 4 [some (.ref 0), some (.int a), some (.int (nI j))] [] h) 4 ?_ 0 ?_
  · intro j a hj k
    rcases (hS j hj).2.2 with hl | hl
    · rw [if_pos hl] at k
      refine r_iload2 dX8_sheetsThere_4 ?_
      refine r_iconst_4 dX8_sheetsThere_5 ?_
      refine r_icmpge (tgt := 26) dX8_sheetsThere_6 (by decide) (fun c9 => absurd c9 (nI_ge (b := 4) hj (by decide))) (fun _ => ?_)
      refine r_aload0 dX8_sheetsThere_9 ?_
      refine r_iload2 dX8_sheetsThere_10 ?_
      refine r_cV1I dX8_sheetsThere_11 mm_X8_isLost im_X8_isLost se_X8_isLost ml_X8_160 rfl rfl rfl (c_there h hj hl) (by decide) (Nat.le_of_ble_eq_true rfl) ?_
      refine r_ifne (tgt := 20) dX8_sheetsThere_14 (by decide) (fun c9 => absurd (rfl) c9) (fun _ => ?_)
      refine r_iinc1_1 dX8_sheetsThere_17 rfl (by decide) ?_
      refine r_iinc2_1 dX8_sheetsThere_20 rfl (by decide) ?_
      refine r_goto (tgt := 4) dX8_sheetsThere_23 (by decide) ?_
      rw [nI_1]
      exact k
    · rw [if_neg (by rw [hl]; decide)] at k
      refine r_iload2 dX8_sheetsThere_4 ?_
      refine r_iconst_4 dX8_sheetsThere_5 ?_
      refine r_icmpge (tgt := 26) dX8_sheetsThere_6 (by decide) (fun c9 => absurd c9 (nI_ge (b := 4) hj (by decide))) (fun _ => ?_)
      refine r_aload0 dX8_sheetsThere_9 ?_
      refine r_iload2 dX8_sheetsThere_10 ?_
      refine r_cV1I dX8_sheetsThere_11 mm_X8_isLost im_X8_isLost se_X8_isLost ml_X8_160 rfl rfl rfl (c_lost h hj hl) (by decide) (Nat.le_of_ble_eq_true rfl) ?_
      refine r_ifne (tgt := 20) dX8_sheetsThere_14 (by decide) (fun _ => ?_) (fun c9 => absurd c9 (by decide))
      refine r_iinc2_1 dX8_sheetsThere_20 rfl (by decide) ?_
      refine r_goto (tgt := 4) dX8_sheetsThere_23 (by decide) ?_
      rw [nI_1]
      exact k
  · refine r_iload2 dX8_sheetsThere_4 ?_
    refine r_iconst_4 dX8_sheetsThere_5 ?_
    refine r_icmpge (tgt := 26) dX8_sheetsThere_6 (by decide) (fun _ => ?_) (fun c9 => absurd (Int32.le_refl _) c9)
    refine r_iload1 dX8_sheetsThere_26 ?_
    exact r_iretE dX8_sheetsThere_27 rfl (rfl) (rfl)
-- the calls on sheets: for a wrong sheet number, for a lost one, for one that is there
theorem c_X8_sheet_bad (s f n : Int32) (h : Hp) (hb : ¬ okS s ∨ ¬ okF f ∨ 60 < n) : Rn 1 MX8_sheet [.ref 0, .int s, .int f, .int n] h (EI (-2) h) := by
  refine rn_of mm_X8_sheet (le_b rfl) rfl ?_
  by_cases c : okS s
  · by_cases c2 : okF f
    · have c3 : 60 < n := (hb.resolve_left (fun q => q c)).resolve_left (fun q => q c2)
      refine r_iload1 dX8_sheet_0 ?_
      refine r_cS1I dX8_sheet_1 mm_X8_isSheet st_X8_isSheet ml_X8_154 (c_isS_y h c) (by decide) (Nat.le_of_ble_eq_true rfl) ?_
      refine r_ifeq (tgt := 20) dX8_sheet_4 (by decide) (fun c9 => absurd c9 (by decide)) (fun _ => ?_)
      refine r_iload2 dX8_sheet_7 ?_
      refine r_cS1I dX8_sheet_8 mm_X8_isForm st_X8_isForm ml_X8_215 (c_isF_y h c2) (by decide) (Nat.le_of_ble_eq_true rfl) ?_
      refine r_ifeq (tgt := 20) dX8_sheet_11 (by decide) (fun c9 => absurd c9 (by decide)) (fun _ => ?_)
      refine r_iload3 dX8_sheet_14 ?_
      refine r_bipush bv_60 dX8_sheet_15 ?_
      refine r_icmple (tgt := 23) dX8_sheet_17 (by decide) (fun c9 => absurd c9 (Int32.not_le.mpr c3)) (fun _ => ?_)
      refine r_bipush bv_m2 dX8_sheet_20 ?_
      exact r_iretE dX8_sheet_22 rfl (rfl) (rfl)
    · refine r_iload1 dX8_sheet_0 ?_
      refine r_cS1I dX8_sheet_1 mm_X8_isSheet st_X8_isSheet ml_X8_154 (c_isS_y h c) (by decide) (Nat.le_of_ble_eq_true rfl) ?_
      refine r_ifeq (tgt := 20) dX8_sheet_4 (by decide) (fun c9 => absurd c9 (by decide)) (fun _ => ?_)
      refine r_iload2 dX8_sheet_7 ?_
      refine r_cS1I dX8_sheet_8 mm_X8_isForm st_X8_isForm ml_X8_215 (c_isF_n h c2) (by decide) (Nat.le_of_ble_eq_true rfl) ?_
      refine r_ifeq (tgt := 20) dX8_sheet_11 (by decide) (fun _ => ?_) (fun c9 => absurd (rfl) c9)
      refine r_bipush bv_m2 dX8_sheet_20 ?_
      exact r_iretE dX8_sheet_22 rfl (rfl) (rfl)
  · refine r_iload1 dX8_sheet_0 ?_
    refine r_cS1I dX8_sheet_1 mm_X8_isSheet st_X8_isSheet ml_X8_154 (c_isS_n h c) (by decide) (Nat.le_of_ble_eq_true rfl) ?_
    refine r_ifeq (tgt := 20) dX8_sheet_4 (by decide) (fun _ => ?_) (fun c9 => absurd (rfl) c9)
    refine r_bipush bv_m2 dX8_sheet_20 ?_
    exact r_iretE dX8_sheet_22 rfl (rfl) (rfl)
theorem c_X8_sheet_size (s f n : Int32) (h : Hp) (hs : okS s) (hf : okF f) (hn : n < 0) : Rn 1 MX8_sheet [.ref 0, .int s, .int f, .int n] h (EI (-15) (pI h 0 10 5)) := by
  refine rn_of mm_X8_sheet (le_b rfl) rfl ?_
  refine r_iload1 dX8_sheet_0 ?_
  refine r_cS1I dX8_sheet_1 mm_X8_isSheet st_X8_isSheet ml_X8_154 (c_isS_y h hs) (by decide) (Nat.le_of_ble_eq_true rfl) ?_
  refine r_ifeq (tgt := 20) dX8_sheet_4 (by decide) (fun c9 => absurd c9 (by decide)) (fun _ => ?_)
  refine r_iload2 dX8_sheet_7 ?_
  refine r_cS1I dX8_sheet_8 mm_X8_isForm st_X8_isForm ml_X8_215 (c_isF_y h hf) (by decide) (Nat.le_of_ble_eq_true rfl) ?_
  refine r_ifeq (tgt := 20) dX8_sheet_11 (by decide) (fun c9 => absurd c9 (by decide)) (fun _ => ?_)
  refine r_iload3 dX8_sheet_14 ?_
  refine r_bipush bv_60 dX8_sheet_15 ?_
  refine r_icmple (tgt := 23) dX8_sheet_17 (by decide) (fun _ => ?_) (fun c9 => absurd (Int32.le_of_lt (Int32.lt_trans hn (by decide))) c9)
  refine r_iload3 dX8_sheet_23 ?_
  refine r_ifge (tgt := 33) dX8_sheet_24 (by decide) (fun c9 => absurd c9 (fun q => absurd hn (Int32.not_lt.mpr q))) (fun _ => ?_)
  refine r_aload0 dX8_sheet_27 ?_
  refine r_iconst_5 dX8_sheet_28 ?_
  refine r_cV1I dX8_sheet_29 mm_X8_found im_X8_found se_X8_found ml_X8_163 rfl rfl rfl (c_X8_found 5 h) (by decide) (Nat.le_of_ble_eq_true rfl) ?_
  exact r_iretE dX8_sheet_32 rfl (rfl) (rfl)
theorem c_X8_sheet (j n : Nat) (f : Int32) (h : Hp) (hj : j < 4) (hf : okF f) (hn : n ≤ 60) : Rn 2 MX8_sheet [.ref 0, .int (nI j), .int f, .int (nI n)] h (EI (nI n) (beginH h (18 + j) f (nI n))) := by
  have ho := oSh (shj hj)
  have hs : okS (nI j) := ⟨nI_pos (by omega), nI_ge (b := 4) hj (by decide)⟩
  refine rn_of mm_X8_sheet (le_b rfl) rfl ?_
  refine r_iload1 dX8_sheet_0 ?_
  refine r_cS1I dX8_sheet_1 mm_X8_isSheet st_X8_isSheet ml_X8_154 (c_isS_y h hs) (by decide) (Nat.le_of_ble_eq_true rfl) ?_
  refine r_ifeq (tgt := 20) dX8_sheet_4 (by decide) (fun c9 => absurd c9 (by decide)) (fun _ => ?_)
  refine r_iload2 dX8_sheet_7 ?_
  refine r_cS1I dX8_sheet_8 mm_X8_isForm st_X8_isForm ml_X8_215 (c_isF_y h hf) (by decide) (Nat.le_of_ble_eq_true rfl) ?_
  refine r_ifeq (tgt := 20) dX8_sheet_11 (by decide) (fun c9 => absurd c9 (by decide)) (fun _ => ?_)
  refine r_iload3 dX8_sheet_14 ?_
  refine r_bipush bv_60 dX8_sheet_15 ?_
  refine r_icmple (tgt := 23) dX8_sheet_17 (by decide) (fun _ => ?_) (fun c9 => absurd (nI_le (b := 60) hn (by decide)) c9)
  refine r_iload3 dX8_sheet_23 ?_
  refine r_ifge (tgt := 33) dX8_sheet_24 (by decide) (fun _ => ?_) (fun c9 => absurd (nI_pos' (by omega)) c9)
  refine r_aload0 dX8_sheet_33 ?_
  refine r_getR dX8_sheet_34 fl_X8_32 rfl rfl ?_
  refine r_iload1 dX8_sheet_37 ?_
  refine r_aaldN dX8_sheet_38 hj ?_
  refine r_iload2 dX8_sheet_39 ?_
  refine r_iload3 dX8_sheet_40 ?_
  refine r_cV2V dX8_sheet_41 mm_X6_begin im_X6_begin se_X6_begin ml_X8_218 ho rfl rfl (c_X6_begin (18 + j) f (nI n) h (shj hj)) (by decide) (Nat.le_of_ble_eq_true rfl) ?_
  refine r_iload3 dX8_sheet_44 ?_
  exact r_iretE dX8_sheet_45 rfl (rfl) (rfl)
theorem c_X8_lose_bad (s : Int32) (h : Hp) (hb : ¬ okS s) : Rn 1 MX8_lose [.ref 0, .int s] h (EI (-2) h) := by
  refine rn_of mm_X8_lose (le_b rfl) rfl ?_
  refine r_iload1 dX8_lose_0 ?_
  refine r_cS1I dX8_lose_1 mm_X8_isSheet st_X8_isSheet ml_X8_154 (c_isS_n h hb) (by decide) (Nat.le_of_ble_eq_true rfl) ?_
  refine r_ifne (tgt := 10) dX8_lose_4 (by decide) (fun c9 => absurd (rfl) c9) (fun _ => ?_)
  refine r_bipush bv_m2 dX8_lose_7 ?_
  exact r_iretE dX8_lose_9 rfl (rfl) (rfl)
theorem c_X8_lose_null (j : Nat) (h : Hp) (hj : j < 4) (hl : h.1 (18 + j) 1 = 1) : Rn 2 MX8_lose [.ref 0, .int (nI j)] h (EI (-11) (pI h 0 10 1)) := by
  have hs : okS (nI j) := ⟨nI_pos (by omega), nI_ge (b := 4) hj (by decide)⟩
  refine rn_of mm_X8_lose (le_b rfl) rfl ?_
  refine r_iload1 dX8_lose_0 ?_
  refine r_cS1I dX8_lose_1 mm_X8_isSheet st_X8_isSheet ml_X8_154 (c_isS_y h hs) (by decide) (Nat.le_of_ble_eq_true rfl) ?_
  refine r_ifne (tgt := 10) dX8_lose_4 (by decide) (fun _ => ?_) (fun c9 => absurd c9 (by decide))
  refine r_aload0 dX8_lose_10 ?_
  refine r_iload1 dX8_lose_11 ?_
  refine r_cV1I dX8_lose_12 mm_X8_isLost im_X8_isLost se_X8_isLost ml_X8_160 rfl rfl rfl (c_lost h hj hl) (by decide) (Nat.le_of_ble_eq_true rfl) ?_
  refine r_ifeq (tgt := 24) dX8_lose_15 (by decide) (fun c9 => absurd c9 (by decide)) (fun _ => ?_)
  refine r_aload0 dX8_lose_18 ?_
  refine r_iconst_1 dX8_lose_19 ?_
  refine r_cV1I dX8_lose_20 mm_X8_found im_X8_found se_X8_found ml_X8_163 rfl rfl rfl (c_X8_found 1 h) (by decide) (Nat.le_of_ble_eq_true rfl) ?_
  exact r_iretE dX8_lose_23 rfl (rfl) (rfl)
theorem c_X8_lose (j : Nat) (h : Hp) (hj : j < 4) (hl : h.1 (18 + j) 1 = 0) : Rn 2 MX8_lose [.ref 0, .int (nI j)] h (EI (h.1 (18 + j) 3) (pI h (18 + j) 1 1)) := by
  have ho := oSh (shj hj)
  have hs : okS (nI j) := ⟨nI_pos (by omega), nI_ge (b := 4) hj (by decide)⟩
  refine rn_of mm_X8_lose (le_b rfl) rfl ?_
  refine r_iload1 dX8_lose_0 ?_
  refine r_cS1I dX8_lose_1 mm_X8_isSheet st_X8_isSheet ml_X8_154 (c_isS_y h hs) (by decide) (Nat.le_of_ble_eq_true rfl) ?_
  refine r_ifne (tgt := 10) dX8_lose_4 (by decide) (fun _ => ?_) (fun c9 => absurd c9 (by decide))
  refine r_aload0 dX8_lose_10 ?_
  refine r_iload1 dX8_lose_11 ?_
  refine r_cV1I dX8_lose_12 mm_X8_isLost im_X8_isLost se_X8_isLost ml_X8_160 rfl rfl rfl (c_there h hj hl) (by decide) (Nat.le_of_ble_eq_true rfl) ?_
  refine r_ifeq (tgt := 24) dX8_lose_15 (by decide) (fun _ => ?_) (fun c9 => absurd (rfl) c9)
  refine r_aload0 dX8_lose_24 ?_
  refine r_getR dX8_lose_25 fl_X8_32 rfl rfl ?_
  refine r_iload1 dX8_lose_28 ?_
  refine r_aaldN dX8_lose_29 hj ?_
  refine r_iconst_1 dX8_lose_30 ?_
  refine r_putZ dX8_lose_31 fw_X8_222 ho rfl (by decide) ?_
  refine r_aload0 dX8_lose_34 ?_
  refine r_getR dX8_lose_35 fl_X8_32 rfl rfl ?_
  refine r_iload1 dX8_lose_38 ?_
  refine r_aaldN dX8_lose_39 hj ?_
  refine r_getI dX8_lose_40 fl_X8_184 ho rfl ?_
  exact r_iretE dX8_lose_43 rfl (by simp [pI_g]) (rfl)
theorem c_X8_lay_bad (s f i v : Int32) (h : Hp) (hb : ¬ okS s ∨ ¬ okF f) : Rn 1 MX8_lay [.ref 0, .int s, .int f, .int i, .int v] h (EI (-2) h) := by
  refine rn_of mm_X8_lay (le_b rfl) rfl ?_
  by_cases c : okS s
  · have c2 : ¬ okF f := hb.resolve_left (fun q => q c)
    refine r_iload1 dX8_lay_0 ?_
    refine r_cS1I dX8_lay_1 mm_X8_isSheet st_X8_isSheet ml_X8_154 (c_isS_y h c) (by decide) (Nat.le_of_ble_eq_true rfl) ?_
    refine r_ifeq (tgt := 14) dX8_lay_4 (by decide) (fun c9 => absurd c9 (by decide)) (fun _ => ?_)
    refine r_iload2 dX8_lay_7 ?_
    refine r_cS1I dX8_lay_8 mm_X8_isForm st_X8_isForm ml_X8_215 (c_isF_n h c2) (by decide) (Nat.le_of_ble_eq_true rfl) ?_
    refine r_ifne (tgt := 17) dX8_lay_11 (by decide) (fun c9 => absurd (rfl) c9) (fun _ => ?_)
    refine r_bipush bv_m2 dX8_lay_14 ?_
    exact r_iretE dX8_lay_16 rfl (rfl) (rfl)
  · refine r_iload1 dX8_lay_0 ?_
    refine r_cS1I dX8_lay_1 mm_X8_isSheet st_X8_isSheet ml_X8_154 (c_isS_n h c) (by decide) (Nat.le_of_ble_eq_true rfl) ?_
    refine r_ifeq (tgt := 14) dX8_lay_4 (by decide) (fun _ => ?_) (fun c9 => absurd (rfl) c9)
    refine r_bipush bv_m2 dX8_lay_14 ?_
    exact r_iretE dX8_lay_16 rfl (rfl) (rfl)
theorem c_X8_lay (j : Nat) (f i v : Int32) (h : Hp) (hj : j < 4) (hf : okF f) (hS : SH4 h) : Rn 2 MX8_lay [.ref 0, .int (nI j), .int f, .int i, .int v] h (if trb h (18 + j) f i = 0 then EI 1 (keepH h (18 + j) i v) else EI (-10 - trb h (18 + j) f i) (pI h 0 10 (trb h (18 + j) f i))) := by
  have ho := oSh (shj hj)
  have hs : okS (nI j) := ⟨nI_pos (by omega), nI_ge (b := 4) hj (by decide)⟩
  refine rn_of mm_X8_lay (le_b rfl) rfl ?_
  refine r_iload1 dX8_lay_0 ?_
  refine r_cS1I dX8_lay_1 mm_X8_isSheet st_X8_isSheet ml_X8_154 (c_isS_y h hs) (by decide) (Nat.le_of_ble_eq_true rfl) ?_
  refine r_ifeq (tgt := 14) dX8_lay_4 (by decide) (fun c9 => absurd c9 (by decide)) (fun _ => ?_)
  refine r_iload2 dX8_lay_7 ?_
  refine r_cS1I dX8_lay_8 mm_X8_isForm st_X8_isForm ml_X8_215 (c_isF_y h hf) (by decide) (Nat.le_of_ble_eq_true rfl) ?_
  refine r_ifne (tgt := 17) dX8_lay_11 (by decide) (fun _ => ?_) (fun c9 => absurd c9 (by decide))
  refine r_aload0 dX8_lay_17 ?_
  refine r_getR dX8_lay_18 fl_X8_32 rfl rfl ?_
  refine r_iload1 dX8_lay_21 ?_
  refine r_aaldN dX8_lay_22 hj ?_
  refine r_iload2 dX8_lay_23 ?_
  refine r_iload3 dX8_lay_24 ?_
  refine r_cS3I dX8_lay_25 mm_X8_itemTrouble st_X8_itemTrouble ml_X8_225 (c_X8_itemTrouble (18 + j) f i h (shj hj)) (by decide) (Nat.le_of_ble_eq_true rfl) ?_
  refine r_istore5 dX8_lay_28 rfl (by decide) ?_
  by_cases c : trb h (18 + j) f i = 0
  · rw [if_pos c]
    refine r_iload5 dX8_lay_30 ?_
    refine r_ifeq (tgt := 42) dX8_lay_32 (by decide) (fun _ => ?_) (fun c9 => absurd (c) c9)
    refine r_aload0 dX8_lay_42 ?_
    refine r_getR dX8_lay_43 fl_X8_32 rfl rfl ?_
    refine r_iload1 dX8_lay_46 ?_
    refine r_aaldN dX8_lay_47 hj ?_
    refine r_iload3 dX8_lay_48 ?_
    refine r_iload4 dX8_lay_49 ?_
    refine r_cV2V dX8_lay_51 mm_X6_keep im_X6_keep se_X6_keep ml_X8_229 ho rfl rfl (c_X6_keep (18 + j) (szN h (18 + j)) i v h (shj hj) (hS j hj).2.1 (hS j hj).1) (by decide) (Nat.le_of_ble_eq_true rfl) ?_
    refine r_iconst_1 dX8_lay_54 ?_
    exact r_iretE dX8_lay_55 rfl (rfl) (rfl)
  · rw [if_neg c]
    refine r_iload5 dX8_lay_30 ?_
    refine r_ifeq (tgt := 42) dX8_lay_32 (by decide) (fun c9 => absurd c9 (c)) (fun _ => ?_)
    refine r_aload0 dX8_lay_35 ?_
    refine r_iload5 dX8_lay_36 ?_
    refine r_cV1I dX8_lay_38 mm_X8_found im_X8_found se_X8_found ml_X8_163 rfl rfl rfl (c_X8_found _ h) (by decide) (Nat.le_of_ble_eq_true rfl) ?_
    exact r_iretE dX8_lay_41 rfl (rfl) (rfl)
theorem c_X8_get_bad (s f i : Int32) (h : Hp) (hb : ¬ okS s ∨ ¬ okF f) : Rn 1 MX8_get [.ref 0, .int s, .int f, .int i] h (EI (-2147483648) h) := by
  refine rn_of mm_X8_get (le_b rfl) rfl ?_
  by_cases c : okS s
  · have c2 : ¬ okF f := hb.resolve_left (fun q => q c)
    refine r_iload1 dX8_get_0 ?_
    refine r_cS1I dX8_get_1 mm_X8_isSheet st_X8_isSheet ml_X8_154 (c_isS_y h c) (by decide) (Nat.le_of_ble_eq_true rfl) ?_
    refine r_ifeq (tgt := 14) dX8_get_4 (by decide) (fun c9 => absurd c9 (by decide)) (fun _ => ?_)
    refine r_iload2 dX8_get_7 ?_
    refine r_cS1I dX8_get_8 mm_X8_isForm st_X8_isForm ml_X8_215 (c_isF_n h c2) (by decide) (Nat.le_of_ble_eq_true rfl) ?_
    refine r_ifne (tgt := 17) dX8_get_11 (by decide) (fun c9 => absurd (rfl) c9) (fun _ => ?_)
    refine r_ldc ct_X8_232 dX8_get_14 ?_
    exact r_iretE dX8_get_16 rfl (rfl) (rfl)
  · refine r_iload1 dX8_get_0 ?_
    refine r_cS1I dX8_get_1 mm_X8_isSheet st_X8_isSheet ml_X8_154 (c_isS_n h c) (by decide) (Nat.le_of_ble_eq_true rfl) ?_
    refine r_ifeq (tgt := 14) dX8_get_4 (by decide) (fun _ => ?_) (fun c9 => absurd (rfl) c9)
    refine r_ldc ct_X8_232 dX8_get_14 ?_
    exact r_iretE dX8_get_16 rfl (rfl) (rfl)
theorem c_X8_get (j : Nat) (f i : Int32) (h : Hp) (hj : j < 4) (hf : okF f) (hS : SH4 h) : Rn 2 MX8_get [.ref 0, .int (nI j), .int f, .int i] h (if trb h (18 + j) f i = 0 then EI (fItem h (18 + j) i) h else EI (-2147483648) (pI h 0 10 (trb h (18 + j) f i))) := by
  have ho := oSh (shj hj)
  have hs : okS (nI j) := ⟨nI_pos (by omega), nI_ge (b := 4) hj (by decide)⟩
  refine rn_of mm_X8_get (le_b rfl) rfl ?_
  refine r_iload1 dX8_get_0 ?_
  refine r_cS1I dX8_get_1 mm_X8_isSheet st_X8_isSheet ml_X8_154 (c_isS_y h hs) (by decide) (Nat.le_of_ble_eq_true rfl) ?_
  refine r_ifeq (tgt := 14) dX8_get_4 (by decide) (fun c9 => absurd c9 (by decide)) (fun _ => ?_)
  refine r_iload2 dX8_get_7 ?_
  refine r_cS1I dX8_get_8 mm_X8_isForm st_X8_isForm ml_X8_215 (c_isF_y h hf) (by decide) (Nat.le_of_ble_eq_true rfl) ?_
  refine r_ifne (tgt := 17) dX8_get_11 (by decide) (fun _ => ?_) (fun c9 => absurd c9 (by decide))
  refine r_aload0 dX8_get_17 ?_
  refine r_getR dX8_get_18 fl_X8_32 rfl rfl ?_
  refine r_iload1 dX8_get_21 ?_
  refine r_aaldN dX8_get_22 hj ?_
  refine r_iload2 dX8_get_23 ?_
  refine r_iload3 dX8_get_24 ?_
  refine r_cS3I dX8_get_25 mm_X8_itemTrouble st_X8_itemTrouble ml_X8_225 (c_X8_itemTrouble (18 + j) f i h (shj hj)) (by decide) (Nat.le_of_ble_eq_true rfl) ?_
  refine r_istore4 dX8_get_28 rfl (by decide) ?_
  by_cases c : trb h (18 + j) f i = 0
  · rw [if_pos c]
    refine r_iload4 dX8_get_30 ?_
    refine r_ifeq (tgt := 44) dX8_get_32 (by decide) (fun _ => ?_) (fun c9 => absurd (c) c9)
    refine r_aload0 dX8_get_44 ?_
    refine r_getR dX8_get_45 fl_X8_32 rfl rfl ?_
    refine r_iload1 dX8_get_48 ?_
    refine r_aaldN dX8_get_49 hj ?_
    refine r_iload3 dX8_get_50 ?_
    refine r_cV1I dX8_get_51 mm_X6_item im_X6_item se_X6_item ml_X8_236 ho rfl rfl (c_X6_item (18 + j) (szN h (18 + j)) i h (shj hj) (hS j hj).2.1 (hS j hj).1) (by decide) (Nat.le_of_ble_eq_true rfl) ?_
    exact r_iretE dX8_get_54 rfl (rfl) (rfl)
  · rw [if_neg c]
    refine r_iload4 dX8_get_30 ?_
    refine r_ifeq (tgt := 44) dX8_get_32 (by decide) (fun c9 => absurd c9 (c)) (fun _ => ?_)
    refine r_aload0 dX8_get_35 ?_
    refine r_iload4 dX8_get_36 ?_
    refine r_putI dX8_get_38 fw_X8_233 rfl rfl ?_
    refine r_ldc ct_X8_232 dX8_get_41 ?_
    exact r_iretE dX8_get_43 rfl (rfl) (rfl)
theorem c_X8_copy_bad (s i t k n : Int32) (h : Hp) (hb : ¬ okS s ∨ ¬ okS t) : Rn 1 MX8_copy [.ref 0, .int s, .int i, .int t, .int k, .int n] h (EI (-2) h) := by
  refine rn_of mm_X8_copy (le_b rfl) rfl ?_
  by_cases c : okS s
  · have c2 : ¬ okS t := hb.resolve_left (fun q => q c)
    refine r_iload1 dX8_copy_0 ?_
    refine r_cS1I dX8_copy_1 mm_X8_isSheet st_X8_isSheet ml_X8_154 (c_isS_y h c) (by decide) (Nat.le_of_ble_eq_true rfl) ?_
    refine r_ifeq (tgt := 14) dX8_copy_4 (by decide) (fun c9 => absurd c9 (by decide)) (fun _ => ?_)
    refine r_iload3 dX8_copy_7 ?_
    refine r_cS1I dX8_copy_8 mm_X8_isSheet st_X8_isSheet ml_X8_154 (c_isS_n h c2) (by decide) (Nat.le_of_ble_eq_true rfl) ?_
    refine r_ifne (tgt := 17) dX8_copy_11 (by decide) (fun c9 => absurd (rfl) c9) (fun _ => ?_)
    refine r_bipush bv_m2 dX8_copy_14 ?_
    exact r_iretE dX8_copy_16 rfl (rfl) (rfl)
  · refine r_iload1 dX8_copy_0 ?_
    refine r_cS1I dX8_copy_1 mm_X8_isSheet st_X8_isSheet ml_X8_154 (c_isS_n h c) (by decide) (Nat.le_of_ble_eq_true rfl) ?_
    refine r_ifeq (tgt := 14) dX8_copy_4 (by decide) (fun _ => ?_) (fun c9 => absurd (rfl) c9)
    refine r_bipush bv_m2 dX8_copy_14 ?_
    exact r_iretE dX8_copy_16 rfl (rfl) (rfl)
theorem c_X8_copy_null (a b : Nat) (i k n : Int32) (h : Hp) (ha : a < 4) (hb : b < 4) (hS : SH4 h) (hl : h.1 (18 + a) 1 = 1 ∨ h.1 (18 + b) 1 = 1) : Rn 2 MX8_copy [.ref 0, .int (nI a), .int i, .int (nI b), .int k, .int n] h (EI (-11) (pI h 0 10 1)) := by
  have hsa : okS (nI a) := ⟨nI_pos (by omega), nI_ge (b := 4) ha (by decide)⟩
  have hsb : okS (nI b) := ⟨nI_pos (by omega), nI_ge (b := 4) hb (by decide)⟩
  refine rn_of mm_X8_copy (le_b rfl) rfl ?_
  rcases (hS a ha).2.2 with q | q
  · have q2 : h.1 (18 + b) 1 = 1 := hl.resolve_left (fun z => by rw [q] at z; exact absurd z (by decide))
    refine r_iload1 dX8_copy_0 ?_
    refine r_cS1I dX8_copy_1 mm_X8_isSheet st_X8_isSheet ml_X8_154 (c_isS_y h hsa) (by decide) (Nat.le_of_ble_eq_true rfl) ?_
    refine r_ifeq (tgt := 14) dX8_copy_4 (by decide) (fun c9 => absurd c9 (by decide)) (fun _ => ?_)
    refine r_iload3 dX8_copy_7 ?_
    refine r_cS1I dX8_copy_8 mm_X8_isSheet st_X8_isSheet ml_X8_154 (c_isS_y h hsb) (by decide) (Nat.le_of_ble_eq_true rfl) ?_
    refine r_ifne (tgt := 17) dX8_copy_11 (by decide) (fun _ => ?_) (fun c9 => absurd c9 (by decide))
    refine r_aload0 dX8_copy_17 ?_
    refine r_iload1 dX8_copy_18 ?_
    refine r_cV1I dX8_copy_19 mm_X8_isLost im_X8_isLost se_X8_isLost ml_X8_160 rfl rfl rfl (c_there h ha q) (by decide) (Nat.le_of_ble_eq_true rfl) ?_
    refine r_ifne (tgt := 33) dX8_copy_22 (by decide) (fun c9 => absurd (rfl) c9) (fun _ => ?_)
    refine r_aload0 dX8_copy_25 ?_
    refine r_iload3 dX8_copy_26 ?_
    refine r_cV1I dX8_copy_27 mm_X8_isLost im_X8_isLost se_X8_isLost ml_X8_160 rfl rfl rfl (c_lost h hb q2) (by decide) (Nat.le_of_ble_eq_true rfl) ?_
    refine r_ifeq (tgt := 39) dX8_copy_30 (by decide) (fun c9 => absurd c9 (by decide)) (fun _ => ?_)
    refine r_aload0 dX8_copy_33 ?_
    refine r_iconst_1 dX8_copy_34 ?_
    refine r_cV1I dX8_copy_35 mm_X8_found im_X8_found se_X8_found ml_X8_163 rfl rfl rfl (c_X8_found 1 h) (by decide) (Nat.le_of_ble_eq_true rfl) ?_
    exact r_iretE dX8_copy_38 rfl (rfl) (rfl)
  · refine r_iload1 dX8_copy_0 ?_
    refine r_cS1I dX8_copy_1 mm_X8_isSheet st_X8_isSheet ml_X8_154 (c_isS_y h hsa) (by decide) (Nat.le_of_ble_eq_true rfl) ?_
    refine r_ifeq (tgt := 14) dX8_copy_4 (by decide) (fun c9 => absurd c9 (by decide)) (fun _ => ?_)
    refine r_iload3 dX8_copy_7 ?_
    refine r_cS1I dX8_copy_8 mm_X8_isSheet st_X8_isSheet ml_X8_154 (c_isS_y h hsb) (by decide) (Nat.le_of_ble_eq_true rfl) ?_
    refine r_ifne (tgt := 17) dX8_copy_11 (by decide) (fun _ => ?_) (fun c9 => absurd c9 (by decide))
    refine r_aload0 dX8_copy_17 ?_
    refine r_iload1 dX8_copy_18 ?_
    refine r_cV1I dX8_copy_19 mm_X8_isLost im_X8_isLost se_X8_isLost ml_X8_160 rfl rfl rfl (c_lost h ha q) (by decide) (Nat.le_of_ble_eq_true rfl) ?_
    refine r_ifne (tgt := 33) dX8_copy_22 (by decide) (fun _ => ?_) (fun c9 => absurd c9 (by decide))
    refine r_aload0 dX8_copy_33 ?_
    refine r_iconst_1 dX8_copy_34 ?_
    refine r_cV1I dX8_copy_35 mm_X8_found im_X8_found se_X8_found ml_X8_163 rfl rfl rfl (c_X8_found 1 h) (by decide) (Nat.le_of_ble_eq_true rfl) ?_
    exact r_iretE dX8_copy_38 rfl (rfl) (rfl)
theorem fStr_y {s n : Nat} {i k : Int32} (hs : s = n) (h : fStretch (nI n) i k = 1) (hn : n ≤ 60) : ¬ i < 0 ∧ ¬ k < 0 ∧ i.toNatClampNeg + k.toNatClampNeg ≤ 60 := by
  unfold fStretch at h
  by_cases c1 : i < 0
  · rw [if_pos c1] at h; exact absurd h (by decide)
  · rw [if_neg c1] at h
    by_cases c2 : k < 0
    · rw [if_pos c2] at h; exact absurd h (by decide)
    · rw [if_neg c2] at h
      by_cases c3 : nI n < i
      · rw [if_pos c3] at h; exact absurd h (by decide)
      · rw [if_neg c3] at h
        by_cases c4 : nI n - i < k
        · rw [if_pos c4] at h; exact absurd h (by decide)
        · obtain ⟨x, hx, rfl⟩ := nI_of c1
          obtain ⟨y, hy, rfl⟩ := nI_of c2
          have e1 : x ≤ n := Nat.le_of_not_lt fun q => c3 (nI_lt q hx)
          rw [pk_sub e1] at c4
          have e2 : y ≤ n - x := Nat.le_of_not_lt fun q => c4 (nI_lt q hy)
          rw [nI_clamp hx, nI_clamp hy]
          exact ⟨c1, c2, by omega⟩
theorem fStr_01 (s i n : Int32) : fStretch s i n = 0 ∨ fStretch s i n = 1 := by
  unfold fStretch
  split
  · exact Or.inl rfl
  · split
    · exact Or.inl rfl
    · split
      · exact Or.inl rfl
      · split
        · exact Or.inl rfl
        · exact Or.inr rfl
def cpyH (h : Hp) (a b : Nat) (i k n : Int32) : Hp := pA h (18 + b + 4) (va_cpy (h.1 (18 + a + 4)) (h.1 (18 + b + 4)) i.toNatClampNeg k.toNatClampNeg n.toNatClampNeg)
theorem c_X8_copy (a b : Nat) (i k n : Int32) (h : Hp) (ha : a < 4) (hb : b < 4) (hS : SH4 h) (hla : h.1 (18 + a) 1 = 0) (hlb : h.1 (18 + b) 1 = 0) : Rn 2 MX8_copy [.ref 0, .int (nI a), .int i, .int (nI b), .int k, .int n] h (if h.1 (18 + a) 2 = h.1 (18 + b) 2 then (if fStretch (h.1 (18 + a) 3) i n = 1 ∧ fStretch (h.1 (18 + b) 3) k n = 1 then EI 1 (cpyH h a b i k n) else EI (-12) (pI h 0 10 2)) else EI (-14) (pI h 0 10 4)) := by
  have hoa := oSh (shj ha)
  have hob := oSh (shj hb)
  have hsa : okS (nI a) := ⟨nI_pos (by omega), nI_ge (b := 4) ha (by decide)⟩
  have hsb : okS (nI b) := ⟨nI_pos (by omega), nI_ge (b := 4) hb (by decide)⟩
  refine rn_of mm_X8_copy (le_b rfl) rfl ?_
  refine r_iload1 dX8_copy_0 ?_
  refine r_cS1I dX8_copy_1 mm_X8_isSheet st_X8_isSheet ml_X8_154 (c_isS_y h hsa) (by decide) (Nat.le_of_ble_eq_true rfl) ?_
  refine r_ifeq (tgt := 14) dX8_copy_4 (by decide) (fun c9 => absurd c9 (by decide)) (fun _ => ?_)
  refine r_iload3 dX8_copy_7 ?_
  refine r_cS1I dX8_copy_8 mm_X8_isSheet st_X8_isSheet ml_X8_154 (c_isS_y h hsb) (by decide) (Nat.le_of_ble_eq_true rfl) ?_
  refine r_ifne (tgt := 17) dX8_copy_11 (by decide) (fun _ => ?_) (fun c9 => absurd c9 (by decide))
  refine r_aload0 dX8_copy_17 ?_
  refine r_iload1 dX8_copy_18 ?_
  refine r_cV1I dX8_copy_19 mm_X8_isLost im_X8_isLost se_X8_isLost ml_X8_160 rfl rfl rfl (c_there h ha hla) (by decide) (Nat.le_of_ble_eq_true rfl) ?_
  refine r_ifne (tgt := 33) dX8_copy_22 (by decide) (fun c9 => absurd (rfl) c9) (fun _ => ?_)
  refine r_aload0 dX8_copy_25 ?_
  refine r_iload3 dX8_copy_26 ?_
  refine r_cV1I dX8_copy_27 mm_X8_isLost im_X8_isLost se_X8_isLost ml_X8_160 rfl rfl rfl (c_there h hb hlb) (by decide) (Nat.le_of_ble_eq_true rfl) ?_
  refine r_ifeq (tgt := 39) dX8_copy_30 (by decide) (fun _ => ?_) (fun c9 => absurd (rfl) c9)
  refine r_aload0 dX8_copy_39 ?_
  refine r_getR dX8_copy_40 fl_X8_32 rfl rfl ?_
  refine r_iload1 dX8_copy_43 ?_
  refine r_aaldN dX8_copy_44 ha ?_
  refine r_getI dX8_copy_45 fl_X8_239 hoa rfl ?_
  refine r_aload0 dX8_copy_48 ?_
  refine r_getR dX8_copy_49 fl_X8_32 rfl rfl ?_
  refine r_iload3 dX8_copy_52 ?_
  refine r_aaldN dX8_copy_53 hb ?_
  refine r_getI dX8_copy_54 fl_X8_239 hob rfl ?_
  by_cases c : h.1 (18 + a) 2 = h.1 (18 + b) 2
  · rw [if_pos c]
    refine r_icmpeq (tgt := 66) dX8_copy_57 (by decide) (fun _ => ?_) (fun c9 => absurd (c) c9)
    refine r_aload0 dX8_copy_66 ?_
    refine r_getR dX8_copy_67 fl_X8_32 rfl rfl ?_
    refine r_iload1 dX8_copy_70 ?_
    refine r_aaldN dX8_copy_71 ha ?_
    refine r_iload2 dX8_copy_72 ?_
    refine r_iload5 dX8_copy_73 ?_
    refine r_cV2I dX8_copy_75 mm_X6_hasStretch im_X6_hasStretch se_X6_hasStretch ml_X8_242 hoa rfl rfl (c_X6_hasStretch (18 + a) i n h (shj ha)) (by decide) (Nat.le_of_ble_eq_true rfl) ?_
    rcases fStr_01 (h.1 (18 + a) 3) i n with q | q
    · rw [if_neg (fun z => by rw [q] at z; exact absurd z.1 (by decide))]
      refine r_ifeq (tgt := 97) dX8_copy_78 (by decide) (fun _ => ?_) (fun c9 => absurd (q) c9)
      refine r_aload0 dX8_copy_97 ?_
      refine r_iconst_2 dX8_copy_98 ?_
      refine r_cV1I dX8_copy_99 mm_X8_found im_X8_found se_X8_found ml_X8_163 rfl rfl rfl (c_X8_found 2 h) (by decide) (Nat.le_of_ble_eq_true rfl) ?_
      exact r_iretE dX8_copy_102 rfl (rfl) (rfl)
    · refine r_ifeq (tgt := 97) dX8_copy_78 (by decide) (fun c9 => absurd c9 (by rw [q]; decide)) (fun _ => ?_)
      refine r_aload0 dX8_copy_81 ?_
      refine r_getR dX8_copy_82 fl_X8_32 rfl rfl ?_
      refine r_iload3 dX8_copy_85 ?_
      refine r_aaldN dX8_copy_86 hb ?_
      refine r_iload4 dX8_copy_87 ?_
      refine r_iload5 dX8_copy_89 ?_
      refine r_cV2I dX8_copy_91 mm_X6_hasStretch im_X6_hasStretch se_X6_hasStretch ml_X8_242 hob rfl rfl (c_X6_hasStretch (18 + b) k n h (shj hb)) (by decide) (Nat.le_of_ble_eq_true rfl) ?_
      rcases fStr_01 (h.1 (18 + b) 3) k n with q2 | q2
      · rw [if_neg (fun z => by rw [q2] at z; exact absurd z.2 (by decide))]
        refine r_ifne (tgt := 103) dX8_copy_94 (by decide) (fun c9 => absurd (q2) c9) (fun _ => ?_)
        refine r_aload0 dX8_copy_97 ?_
        refine r_iconst_2 dX8_copy_98 ?_
        refine r_cV1I dX8_copy_99 mm_X8_found im_X8_found se_X8_found ml_X8_163 rfl rfl rfl (c_X8_found 2 h) (by decide) (Nat.le_of_ble_eq_true rfl) ?_
        exact r_iretE dX8_copy_102 rfl (rfl) (rfl)
      · rw [if_pos ⟨q, q2⟩]
        rw [(hS a ha).1] at q
        rw [(hS b hb).1] at q2
        have f1 := fStr_y rfl q (hS a ha).2.1
        have f2 := fStr_y rfl q2 (hS b hb).2.1
        refine r_ifne (tgt := 103) dX8_copy_94 (by decide) (fun _ => ?_) (fun c9 => absurd c9 (by rw [(hS b hb).1, q2]; decide))
        refine r_aload0 dX8_copy_103 ?_
        refine r_getR dX8_copy_104 fl_X8_32 rfl rfl ?_
        refine r_iload1 dX8_copy_107 ?_
        refine r_aaldN dX8_copy_108 ha ?_
        refine r_getR dX8_copy_109 fl_X8_245 hoa rfl ?_
        refine r_iload2 dX8_copy_112 ?_
        refine r_aload0 dX8_copy_113 ?_
        refine r_getR dX8_copy_114 fl_X8_32 rfl rfl ?_
        refine r_iload3 dX8_copy_117 ?_
        refine r_aaldN dX8_copy_118 hb ?_
        refine r_getR dX8_copy_119 fl_X8_245 hob rfl ?_
        refine r_iload4 dX8_copy_122 ?_
        refine r_iload5 dX8_copy_124 ?_
        refine r_acopy dX8_copy_126 ac_l (by decide) (Nat.le_of_ble_eq_true rfl) (aSh (shj ha)) (aSh (shj hb)) f1.1 f2.1 f1.2.1 f1.2.2 f2.2.2 ?_
        refine r_iconst_1 dX8_copy_129 ?_
        exact r_iretE dX8_copy_130 rfl (rfl) (rfl)
  · rw [if_neg c]
    refine r_icmpeq (tgt := 66) dX8_copy_57 (by decide) (fun c9 => absurd c9 (c)) (fun _ => ?_)
    refine r_aload0 dX8_copy_60 ?_
    refine r_iconst_4 dX8_copy_61 ?_
    refine r_cV1I dX8_copy_62 mm_X8_found im_X8_found se_X8_found ml_X8_163 rfl rfl rfl (c_X8_found 4 h) (by decide) (Nat.le_of_ble_eq_true rfl) ?_
    exact r_iretE dX8_copy_65 rfl (rfl) (rfl)
