/-! ToldFigures: the calls on text and rows -/
def setI (h : Hp) (f : Nat) (v : Int32) : Hp := pI (pI h 0 f v) 0 11 0
theorem c_X8_set0 (v : Int32) (h : Hp) (h1 : ¬ v < 1) (h2 : ¬ 9 < v) : Rn 0 MX8_set [.ref 0, .int 0, .int v] h (EI (h.1 0 7) (setI h 7 v)) := by
  refine rn_of mm_X8_set (le_b rfl) rfl ?_
  refine r_iload1 dX8_set_0 ?_
  refine r_ifne (tgt := 32) dX8_set_1 (by decide) (fun c9 => absurd (rfl) c9) (fun _ => ?_)
  refine r_iload2 dX8_set_4 ?_
  refine r_iconst_1 dX8_set_5 ?_
  refine r_icmplt (tgt := 32) dX8_set_6 (by decide) (fun c9 => absurd c9 (h1)) (fun _ => ?_)
  refine r_iload2 dX8_set_9 ?_
  refine r_bipush bv_9 dX8_set_10 ?_
  refine r_icmpgt (tgt := 32) dX8_set_12 (by decide) (fun c9 => absurd c9 (h2)) (fun _ => ?_)
  refine r_aload0 dX8_set_15 ?_
  refine r_getI dX8_set_16 fl_X8_57 rfl rfl ?_
  refine r_istore3 dX8_set_19 rfl (by decide) ?_
  refine r_aload0 dX8_set_20 ?_
  refine r_iload2 dX8_set_21 ?_
  refine r_putI dX8_set_22 fw_X8_57 rfl rfl ?_
  refine r_aload0 dX8_set_25 ?_
  refine r_iconst_0 dX8_set_26 ?_
  refine r_putZ dX8_set_27 fw_X8_65 rfl rfl (by decide) ?_
  refine r_iload3 dX8_set_30 ?_
  exact r_iretE dX8_set_31 rfl (rfl) (rfl)
theorem c_X8_set1 (v : Int32) (h : Hp) (h1 : ¬ v < 0) (h2 : ¬ 7 ≤ v) : Rn 0 MX8_set [.ref 0, .int 1, .int v] h (EI (h.1 0 8) (setI h 8 v)) := by
  refine rn_of mm_X8_set (le_b rfl) rfl ?_
  refine r_iload1 dX8_set_0 ?_
  refine r_ifne (tgt := 32) dX8_set_1 (by decide) (fun _ => ?_) (fun c9 => absurd c9 (by decide))
  refine r_iload1 dX8_set_32 ?_
  refine r_iconst_1 dX8_set_33 ?_
  refine r_icmpne (tgt := 64) dX8_set_34 (by decide) (fun c9 => absurd (rfl) c9) (fun _ => ?_)
  refine r_iload2 dX8_set_37 ?_
  refine r_iflt (tgt := 64) dX8_set_38 (by decide) (fun c9 => absurd c9 (h1)) (fun _ => ?_)
  refine r_iload2 dX8_set_41 ?_
  refine r_bipush bv_7 dX8_set_42 ?_
  refine r_icmpge (tgt := 64) dX8_set_44 (by decide) (fun c9 => absurd c9 (h2)) (fun _ => ?_)
  refine r_aload0 dX8_set_47 ?_
  refine r_getI dX8_set_48 fl_X8_61 rfl rfl ?_
  refine r_istore3 dX8_set_51 rfl (by decide) ?_
  refine r_aload0 dX8_set_52 ?_
  refine r_iload2 dX8_set_53 ?_
  refine r_putI dX8_set_54 fw_X8_61 rfl rfl ?_
  refine r_aload0 dX8_set_57 ?_
  refine r_iconst_0 dX8_set_58 ?_
  refine r_putZ dX8_set_59 fw_X8_65 rfl rfl (by decide) ?_
  refine r_iload3 dX8_set_62 ?_
  exact r_iretE dX8_set_63 rfl (rfl) (rfl)
theorem c_X8_set_bad (w v : Int32) (h : Hp) (hb : ¬ (w = 0 ∧ ¬ v < 1 ∧ ¬ 9 < v) ∧ ¬ (w = 1 ∧ ¬ v < 0 ∧ ¬ 7 ≤ v)) : Rn 0 MX8_set [.ref 0, .int w, .int v] h (EI (-2) h) := by
  refine rn_of mm_X8_set (le_b rfl) rfl ?_
  have rest : Aw 0 MX8_set (Kp (EI (-2) h)) 32 [some (.ref 0), some (.int w), some (.int v), none] [] h := by
    by_cases c : w = 1
    · by_cases c2 : v < 0
      · refine r_iload1 dX8_set_32 ?_
        refine r_iconst_1 dX8_set_33 ?_
        refine r_icmpne (tgt := 64) dX8_set_34 (by decide) (fun c9 => absurd (c) c9) (fun _ => ?_)
        refine r_iload2 dX8_set_37 ?_
        refine r_iflt (tgt := 64) dX8_set_38 (by decide) (fun _ => ?_) (fun c9 => absurd (c2) c9)
        refine r_bipush bv_m2 dX8_set_64 ?_
        exact r_iretE dX8_set_66 rfl (rfl) (rfl)
      · by_cases c3 : 7 ≤ v
        · refine r_iload1 dX8_set_32 ?_
          refine r_iconst_1 dX8_set_33 ?_
          refine r_icmpne (tgt := 64) dX8_set_34 (by decide) (fun c9 => absurd (c) c9) (fun _ => ?_)
          refine r_iload2 dX8_set_37 ?_
          refine r_iflt (tgt := 64) dX8_set_38 (by decide) (fun c9 => absurd c9 (c2)) (fun _ => ?_)
          refine r_iload2 dX8_set_41 ?_
          refine r_bipush bv_7 dX8_set_42 ?_
          refine r_icmpge (tgt := 64) dX8_set_44 (by decide) (fun _ => ?_) (fun c9 => absurd (c3) c9)
          refine r_bipush bv_m2 dX8_set_64 ?_
          exact r_iretE dX8_set_66 rfl (rfl) (rfl)
        · exact absurd ⟨c, c2, c3⟩ hb.2
    · refine r_iload1 dX8_set_32 ?_
      refine r_iconst_1 dX8_set_33 ?_
      refine r_icmpne (tgt := 64) dX8_set_34 (by decide) (fun _ => ?_) (fun c9 => absurd c9 (c))
      refine r_bipush bv_m2 dX8_set_64 ?_
      exact r_iretE dX8_set_66 rfl (rfl) (rfl)
  by_cases c : w = 0
  · by_cases c2 : v < 1
    · refine r_iload1 dX8_set_0 ?_
      refine r_ifne (tgt := 32) dX8_set_1 (by decide) (fun c9 => absurd (c) c9) (fun _ => ?_)
      refine r_iload2 dX8_set_4 ?_
      refine r_iconst_1 dX8_set_5 ?_
      refine r_icmplt (tgt := 32) dX8_set_6 (by decide) (fun _ => ?_) (fun c9 => absurd (c2) c9)
      exact rest
    · by_cases c3 : 9 < v
      · refine r_iload1 dX8_set_0 ?_
        refine r_ifne (tgt := 32) dX8_set_1 (by decide) (fun c9 => absurd (c) c9) (fun _ => ?_)
        refine r_iload2 dX8_set_4 ?_
        refine r_iconst_1 dX8_set_5 ?_
        refine r_icmplt (tgt := 32) dX8_set_6 (by decide) (fun c9 => absurd c9 (c2)) (fun _ => ?_)
        refine r_iload2 dX8_set_9 ?_
        refine r_bipush bv_9 dX8_set_10 ?_
        refine r_icmpgt (tgt := 32) dX8_set_12 (by decide) (fun _ => ?_) (fun c9 => absurd (c3) c9)
        exact rest
      · exact absurd ⟨c, c2, c3⟩ hb.1
  · refine r_iload1 dX8_set_0 ?_
    refine r_ifne (tgt := 32) dX8_set_1 (by decide) (fun _ => ?_) (fun c9 => absurd c9 (c))
    exact rest
def rcH (h : Hp) (bt : Nat → Nat) (n : Nat) : Hp := pI (pI (rdH h bt n) 0 9 (fAll ((rdH h bt n).1 1 9))) 0 12 0
theorem c_X8_readClaims {h : Hp} {bt : Nat → Nat} {n : Nat} (hT : TX h bt n) : Rn 7 MX8_readClaims [.ref 0] h (EV (rcH h bt n)) := by
  refine rn_of mm_X8_readClaims (le_b rfl) rfl ?_
  refine r_aload0 dX8_readClaims_0 ?_
  refine r_getR dX8_readClaims_1 fl_X8_12 rfl rfl ?_
  refine r_cV0V dX8_readClaims_4 mm_X1_read im_X1_read se_X1_read ml_X8_289 rfl rfl rfl (c_X1_read hT) (by decide) (Nat.le_of_ble_eq_true rfl) ?_
  refine r_aload0 dX8_readClaims_7 ?_
  refine r_aload0 dX8_readClaims_8 ?_
  refine r_getR dX8_readClaims_9 fl_X8_12 rfl rfl ?_
  refine r_cV0I dX8_readClaims_12 mm_X1_all im_X1_all se_X1_all ml_X8_93 rfl rfl rfl (c_X1_all _) (by decide) (Nat.le_of_ble_eq_true rfl) ?_
  refine r_putI dX8_readClaims_15 fw_X8_97 rfl rfl ?_
  refine r_aload0 dX8_readClaims_18 ?_
  refine r_iconst_0 dX8_readClaims_19 ?_
  refine r_putZ dX8_readClaims_20 fw_X8_292 rfl rfl (by decide) ?_
  exact r_vretE dX8_readClaims_23 rfl (rfl)
theorem rdH_len (h : Hp) (bt : Nat → Nat) (n : Nat) : (rdH h bt n).1 1 8 = h.1 1 8 := by
  unfold rdH rdHr
  rw [ctH_len]
  simp [pI_g]
theorem rcH_len (h : Hp) (bt : Nat → Nat) (n : Nat) : (rcH h bt n).1 1 8 = h.1 1 8 := by
  unfold rcH
  rw [pI_g, if_neg (by decide), pI_g, if_neg (by decide), rdH_len]
theorem c_X8_type_bad (b : Int32) (h : Hp) (hb : b < 0 ∨ 255 < b) : Rn 0 MX8_type [.ref 0, .int b] h (EI (-2) h) := by
  refine rn_of mm_X8_type (le_b rfl) rfl ?_
  by_cases c : b < 0
  · refine r_iload1 dX8_type_0 ?_
    refine r_iflt (tgt := 11) dX8_type_1 (by decide) (fun _ => ?_) (fun c9 => absurd (c) c9)
    refine r_bipush bv_m2 dX8_type_11 ?_
    exact r_iretE dX8_type_13 rfl (rfl) (rfl)
  · refine r_iload1 dX8_type_0 ?_
    refine r_iflt (tgt := 11) dX8_type_1 (by decide) (fun c9 => absurd c9 (c)) (fun _ => ?_)
    refine r_iload1 dX8_type_4 ?_
    refine r_sipush sv_255 dX8_type_5 ?_
    refine r_icmple (tgt := 14) dX8_type_8 (by decide) (fun c9 => absurd c9 (Int32.not_le.mpr (hb.resolve_left c))) (fun _ => ?_)
    refine r_bipush bv_m2 dX8_type_11 ?_
    exact r_iretE dX8_type_13 rfl (rfl) (rfl)
theorem c_X8_type_full (b n : Nat) (h : Hp) (hb : b ≤ 255) (hl : h.1 1 8 = nI 100) : Rn 1 MX8_type [.ref 0, .int (nI b)] h (EI (-4) h) := by
  have r := c_X1_append 100 (nI b) h hl (Nat.le_refl _)
  rw [if_neg (by decide)] at r
  refine rn_of mm_X8_type (le_b rfl) rfl ?_
  refine r_iload1 dX8_type_0 ?_
  refine r_iflt (tgt := 11) dX8_type_1 (by decide) (fun c9 => absurd c9 (nI_pos (by omega))) (fun _ => ?_)
  refine r_iload1 dX8_type_4 ?_
  refine r_sipush sv_255 dX8_type_5 ?_
  refine r_icmple (tgt := 14) dX8_type_8 (by decide) (fun _ => ?_) (fun c9 => absurd (nI_le (b := 255) hb (by decide)) c9)
  refine r_aload0 dX8_type_14 ?_
  refine r_getR dX8_type_15 fl_X8_12 rfl rfl ?_
  refine r_iload1 dX8_type_18 ?_
  refine r_cV1I dX8_type_19 mm_X1_append im_X1_append se_X1_append ml_X8_69 rfl rfl rfl (r) (by decide) (Nat.le_of_ble_eq_true rfl) ?_
  refine r_ifne (tgt := 28) dX8_type_22 (by decide) (fun c9 => absurd (rfl) c9) (fun _ => ?_)
  refine r_bipush bv_m4 dX8_type_25 ?_
  exact r_iretE dX8_type_27 rfl (rfl) (rfl)
def tyH (h : Hp) (n b : Nat) : Hp := pI (pI h 2 n (nI b)) 1 8 (nI (n + 1))
def tyB (bt : Nat → Nat) (n b : Nat) : Nat → Nat := fun j => if j = n then b else bt j
theorem tyT {h : Hp} {bt : Nat → Nat} {n b : Nat} (hT : TX h bt n) (hn : n < 100) (hb : b ≤ 255) : TX (tyH h n b) (tyB bt n b) (n + 1) := by
  obtain ⟨a1, a2, a3⟩ := hT
  refine ⟨by simp [tyH, pI_g], by omega, fun j hj => ?_⟩
  unfold tyB
  by_cases e : j = n
  · subst e
    simp [tyH, pI_g]
    omega
  · obtain ⟨b1, b2⟩ := a3 j (by omega)
    simp [tyH, pI_g, e, b1, b2]
theorem c_X8_type {h : Hp} {bt : Nat → Nat} {n : Nat} (b : Nat) (hT : TX h bt n) (hn : n < 100) (hb : b ≤ 255) : Rn 8 MX8_type [.ref 0, .int (nI b)] h (EI (nI (n + 1)) (rcH (tyH h n b) (tyB bt n b) (n + 1))) := by
  have r := c_X1_append n (nI b) h hT.1 hT.2.1
  rw [if_pos hn] at r
  refine rn_of mm_X8_type (le_b rfl) rfl ?_
  refine r_iload1 dX8_type_0 ?_
  refine r_iflt (tgt := 11) dX8_type_1 (by decide) (fun c9 => absurd c9 (nI_pos (by omega))) (fun _ => ?_)
  refine r_iload1 dX8_type_4 ?_
  refine r_sipush sv_255 dX8_type_5 ?_
  refine r_icmple (tgt := 14) dX8_type_8 (by decide) (fun _ => ?_) (fun c9 => absurd (nI_le (b := 255) hb (by decide)) c9)
  refine r_aload0 dX8_type_14 ?_
  refine r_getR dX8_type_15 fl_X8_12 rfl rfl ?_
  refine r_iload1 dX8_type_18 ?_
  refine r_cV1I dX8_type_19 mm_X1_append im_X1_append se_X1_append ml_X8_69 rfl rfl rfl (r) (by decide) (Nat.le_of_ble_eq_true rfl) ?_
  refine r_ifne (tgt := 28) dX8_type_22 (by decide) (fun _ => ?_) (fun c9 => absurd c9 (by decide))
  refine r_aload0 dX8_type_28 ?_
  refine r_cV0V dX8_type_29 mm_X8_readClaims im_X8_readClaims se_X8_readClaims ml_X8_73 rfl rfl rfl (c_X8_readClaims (tyT hT hn hb)) (by decide) (Nat.le_of_ble_eq_true rfl) ?_
  refine r_aload0 dX8_type_32 ?_
  refine r_getR dX8_type_33 fl_X8_12 rfl rfl ?_
  refine r_getI dX8_type_36 fl_X8_76 rfl rfl ?_
  exact r_iretE dX8_type_39 rfl (by rw [rcH_len]; exact (tyT hT hn hb).1) (rfl)
theorem c_X8_wipe {h : Hp} : Rn 8 MX8_wipe [.ref 0] h (EI (h.1 1 8) (rcH (pI h 1 8 0) (fun _ => 0) 0)) := by
  have hT0 : TX (pI h 1 8 0) (fun _ => 0) 0 := ⟨by simp [pI_g]; rfl, by decide, fun j hj => absurd hj (Nat.not_lt_zero j)⟩
  refine rn_of mm_X8_wipe (le_b rfl) rfl ?_
  refine r_aload0 dX8_wipe_0 ?_
  refine r_getR dX8_wipe_1 fl_X8_12 rfl rfl ?_
  refine r_getI dX8_wipe_4 fl_X8_76 rfl rfl ?_
  refine r_istore1 dX8_wipe_7 rfl (by decide) ?_
  refine r_aload0 dX8_wipe_8 ?_
  refine r_getR dX8_wipe_9 fl_X8_12 rfl rfl ?_
  refine r_iconst_0 dX8_wipe_12 ?_
  refine r_putI dX8_wipe_13 fw_X8_76 rfl rfl ?_
  refine r_aload0 dX8_wipe_16 ?_
  refine r_cV0V dX8_wipe_17 mm_X8_readClaims im_X8_readClaims se_X8_readClaims ml_X8_73 rfl rfl rfl (c_X8_readClaims hT0) (by decide) (Nat.le_of_ble_eq_true rfl) ?_
  refine r_iload1 dX8_wipe_20 ?_
  exact r_iretE dX8_wipe_21 rfl (rfl) (rfl)
theorem c_X8_fault (h : Hp) : Rn 0 MX8_fault [.ref 0] h (EI (h.1 1 10) h) := by
  refine rn_of mm_X8_fault (le_b rfl) rfl ?_
  refine r_aload0 dX8_fault_0 ?_
  refine r_getR dX8_fault_1 fl_X8_12 rfl rfl ?_
  refine r_getI dX8_fault_4 fl_X8_79 rfl rfl ?_
  exact r_iretE dX8_fault_7 rfl (rfl) (rfl)
theorem c_X8_claims_y (h : Hp) (hf : h.1 1 10 = -1) : Rn 1 MX8_claims [.ref 0] h (EI (h.1 1 9) h) := by
  refine rn_of mm_X8_claims (le_b rfl) rfl ?_
  refine r_aload0 dX8_claims_0 ?_
  refine r_cV0I dX8_claims_1 mm_X8_faulty im_X8_faulty se_X8_faulty ml_X8_82 rfl rfl rfl (c_faulty_n h hf) (by decide) (Nat.le_of_ble_eq_true rfl) ?_
  refine r_ifeq (tgt := 12) dX8_claims_4 (by decide) (fun _ => ?_) (fun c9 => absurd (rfl) c9)
  refine r_aload0 dX8_claims_12 ?_
  refine r_getR dX8_claims_13 fl_X8_12 rfl rfl ?_
  refine r_getI dX8_claims_16 fl_X8_86 rfl rfl ?_
  exact r_iretE dX8_claims_19 rfl (rfl) (rfl)
theorem c_X8_claims_n (h : Hp) (hf : ¬ h.1 1 10 = -1) : Rn 1 MX8_claims [.ref 0] h (EI (-3) h) := by
  refine rn_of mm_X8_claims (le_b rfl) rfl ?_
  refine r_aload0 dX8_claims_0 ?_
  refine r_cV0I dX8_claims_1 mm_X8_faulty im_X8_faulty se_X8_faulty ml_X8_82 rfl rfl rfl (c_faulty_y h hf) (by decide) (Nat.le_of_ble_eq_true rfl) ?_
  refine r_ifeq (tgt := 12) dX8_claims_4 (by decide) (fun c9 => absurd c9 (by decide)) (fun _ => ?_)
  refine r_bipush bv_m3 dX8_claims_7 ?_
  refine r_goto (tgt := 19) dX8_claims_9 (by decide) ?_
  exact r_iretE dX8_claims_19 rfl (rfl) (rfl)
theorem c_X8_claim_bad (i w : Int32) (h : Hp) (hb : i < 0 ∨ w < 0 ∨ 5 ≤ w) : Rn 0 MX8_claim [.ref 0, .int i, .int w] h (EI (-2) h) := by
  refine rn_of mm_X8_claim (le_b rfl) rfl ?_
  by_cases c : i < 0
  · refine r_iload1 dX8_claim_0 ?_
    refine r_iflt (tgt := 13) dX8_claim_1 (by decide) (fun _ => ?_) (fun c9 => absurd (c) c9)
    refine r_bipush bv_m2 dX8_claim_13 ?_
    exact r_iretE dX8_claim_15 rfl (rfl) (rfl)
  · by_cases c2 : w < 0
    · refine r_iload1 dX8_claim_0 ?_
      refine r_iflt (tgt := 13) dX8_claim_1 (by decide) (fun c9 => absurd c9 (c)) (fun _ => ?_)
      refine r_iload2 dX8_claim_4 ?_
      refine r_iflt (tgt := 13) dX8_claim_5 (by decide) (fun _ => ?_) (fun c9 => absurd (c2) c9)
      refine r_bipush bv_m2 dX8_claim_13 ?_
      exact r_iretE dX8_claim_15 rfl (rfl) (rfl)
    · refine r_iload1 dX8_claim_0 ?_
      refine r_iflt (tgt := 13) dX8_claim_1 (by decide) (fun c9 => absurd c9 (c)) (fun _ => ?_)
      refine r_iload2 dX8_claim_4 ?_
      refine r_iflt (tgt := 13) dX8_claim_5 (by decide) (fun c9 => absurd c9 (c2)) (fun _ => ?_)
      refine r_iload2 dX8_claim_8 ?_
      refine r_iconst_5 dX8_claim_9 ?_
      refine r_icmplt (tgt := 16) dX8_claim_10 (by decide) (fun c9 => absurd c9 (Int32.not_lt.mpr ((hb.resolve_left c).resolve_left c2))) (fun _ => ?_)
      refine r_bipush bv_m2 dX8_claim_13 ?_
      exact r_iretE dX8_claim_15 rfl (rfl) (rfl)
theorem c_X8_claim_not (i w : Int32) (h : Hp) (h1 : ¬ i < 0) (h2 : ¬ w < 0) (h3 : w < 5) (hf : ¬ h.1 1 10 = -1) : Rn 1 MX8_claim [.ref 0, .int i, .int w] h (EI (-3) h) := by
  refine rn_of mm_X8_claim (le_b rfl) rfl ?_
  refine r_iload1 dX8_claim_0 ?_
  refine r_iflt (tgt := 13) dX8_claim_1 (by decide) (fun c9 => absurd c9 (h1)) (fun _ => ?_)
  refine r_iload2 dX8_claim_4 ?_
  refine r_iflt (tgt := 13) dX8_claim_5 (by decide) (fun c9 => absurd c9 (h2)) (fun _ => ?_)
  refine r_iload2 dX8_claim_8 ?_
  refine r_iconst_5 dX8_claim_9 ?_
  refine r_icmplt (tgt := 16) dX8_claim_10 (by decide) (fun _ => ?_) (fun c9 => absurd (h3) c9)
  refine r_aload0 dX8_claim_16 ?_
  refine r_cV0I dX8_claim_17 mm_X8_faulty im_X8_faulty se_X8_faulty ml_X8_82 rfl rfl rfl (c_faulty_y h hf) (by decide) (Nat.le_of_ble_eq_true rfl) ?_
  refine r_ifeq (tgt := 26) dX8_claim_20 (by decide) (fun c9 => absurd c9 (by decide)) (fun _ => ?_)
  refine r_bipush bv_m3 dX8_claim_23 ?_
  exact r_iretE dX8_claim_25 rfl (rfl) (rfl)
theorem c_X8_claim_bad2 (i w : Int32) (h : Hp) (h1 : ¬ i < 0) (h2 : ¬ w < 0) (h3 : w < 5) (hf : h.1 1 10 = -1) (hi : h.1 1 9 ≤ i) : Rn 1 MX8_claim [.ref 0, .int i, .int w] h (EI (-2) h) := by
  refine rn_of mm_X8_claim (le_b rfl) rfl ?_
  refine r_iload1 dX8_claim_0 ?_
  refine r_iflt (tgt := 13) dX8_claim_1 (by decide) (fun c9 => absurd c9 (h1)) (fun _ => ?_)
  refine r_iload2 dX8_claim_4 ?_
  refine r_iflt (tgt := 13) dX8_claim_5 (by decide) (fun c9 => absurd c9 (h2)) (fun _ => ?_)
  refine r_iload2 dX8_claim_8 ?_
  refine r_iconst_5 dX8_claim_9 ?_
  refine r_icmplt (tgt := 16) dX8_claim_10 (by decide) (fun _ => ?_) (fun c9 => absurd (h3) c9)
  refine r_aload0 dX8_claim_16 ?_
  refine r_cV0I dX8_claim_17 mm_X8_faulty im_X8_faulty se_X8_faulty ml_X8_82 rfl rfl rfl (c_faulty_n h hf) (by decide) (Nat.le_of_ble_eq_true rfl) ?_
  refine r_ifeq (tgt := 26) dX8_claim_20 (by decide) (fun _ => ?_) (fun c9 => absurd (rfl) c9)
  refine r_iload1 dX8_claim_26 ?_
  refine r_aload0 dX8_claim_27 ?_
  refine r_getR dX8_claim_28 fl_X8_12 rfl rfl ?_
  refine r_getI dX8_claim_31 fl_X8_86 rfl rfl ?_
  refine r_icmpge (tgt := 49) dX8_claim_34 (by decide) (fun _ => ?_) (fun c9 => absurd (hi) c9)
  refine r_bipush bv_m2 dX8_claim_49 ?_
  exact r_iretE dX8_claim_51 rfl (rfl) (rfl)
theorem c_X8_claim (i w k : Nat) (h : Hp) (hw : w < 5) (hf : h.1 1 10 = -1) (hk : h.1 1 9 = nI k) (hk2 : k ≤ 10) (hi : i < k) : Rn 1 MX8_claim [.ref 0, .int (nI i), .int (nI w)] h (EI (h.1 (3 + w) i) h) := by
  refine rn_of mm_X8_claim (le_b rfl) rfl ?_
  refine r_iload1 dX8_claim_0 ?_
  refine r_iflt (tgt := 13) dX8_claim_1 (by decide) (fun c9 => absurd c9 (nI_pos (by omega))) (fun _ => ?_)
  refine r_iload2 dX8_claim_4 ?_
  refine r_iflt (tgt := 13) dX8_claim_5 (by decide) (fun c9 => absurd c9 (nI_pos (by omega))) (fun _ => ?_)
  refine r_iload2 dX8_claim_8 ?_
  refine r_iconst_5 dX8_claim_9 ?_
  refine r_icmplt (tgt := 16) dX8_claim_10 (by decide) (fun _ => ?_) (fun c9 => absurd (nI_lt (b := 5) hw (by decide)) c9)
  refine r_aload0 dX8_claim_16 ?_
  refine r_cV0I dX8_claim_17 mm_X8_faulty im_X8_faulty se_X8_faulty ml_X8_82 rfl rfl rfl (c_faulty_n h hf) (by decide) (Nat.le_of_ble_eq_true rfl) ?_
  refine r_ifeq (tgt := 26) dX8_claim_20 (by decide) (fun _ => ?_) (fun c9 => absurd (rfl) c9)
  refine r_iload1 dX8_claim_26 ?_
  refine r_aload0 dX8_claim_27 ?_
  refine r_getR dX8_claim_28 fl_X8_12 rfl rfl ?_
  refine r_getI dX8_claim_31 fl_X8_86 rfl rfl ?_
  refine r_icmpge (tgt := 49) dX8_claim_34 (by decide) (fun c9 => absurd c9 (by rw [hk]; exact nI_ge hi (by omega))) (fun _ => ?_)
  refine r_aload0 dX8_claim_37 ?_
  refine r_getR dX8_claim_38 fl_X8_12 rfl rfl ?_
  refine r_iload1 dX8_claim_41 ?_
  refine r_iload2 dX8_claim_42 ?_
  refine r_cV2I dX8_claim_43 mm_X1_told im_X1_told se_X1_told ml_X8_89 rfl rfl rfl (c_X1_told i w h (by omega) (by omega)) (by decide) (Nat.le_of_ble_eq_true rfl) ?_
  refine r_goto (tgt := 51) dX8_claim_46 (by decide) ?_
  exact r_iretE dX8_claim_51 rfl (rfl) (rfl)
theorem c_X8_believe_bad (b : Int32) (h : Hp) (hb : b < 0) : Rn 1 MX8_believe [.ref 0, .int b] h (EI (-2) h) := by
  refine rn_of mm_X8_believe (le_b rfl) rfl ?_
  refine r_iload1 dX8_believe_0 ?_
  refine r_ifge (tgt := 7) dX8_believe_1 (by decide) (fun c9 => absurd c9 (fun q => absurd hb (Int32.not_lt.mpr q))) (fun _ => ?_)
  refine r_bipush bv_m2 dX8_believe_4 ?_
  exact r_iretE dX8_believe_6 rfl (rfl) (rfl)
theorem c_X8_believe_not (b : Int32) (h : Hp) (hb : ¬ b < 0) (hf : ¬ h.1 1 10 = -1) : Rn 1 MX8_believe [.ref 0, .int b] h (EI (-3) h) := by
  refine rn_of mm_X8_believe (le_b rfl) rfl ?_
  refine r_iload1 dX8_believe_0 ?_
  refine r_ifge (tgt := 7) dX8_believe_1 (by decide) (fun _ => ?_) (fun c9 => absurd (Int32.not_lt.mp hb) c9)
  refine r_aload0 dX8_believe_7 ?_
  refine r_cV0I dX8_believe_8 mm_X8_faulty im_X8_faulty se_X8_faulty ml_X8_82 rfl rfl rfl (c_faulty_y h hf) (by decide) (Nat.le_of_ble_eq_true rfl) ?_
  refine r_ifeq (tgt := 17) dX8_believe_11 (by decide) (fun c9 => absurd c9 (by decide)) (fun _ => ?_)
  refine r_bipush bv_m3 dX8_believe_14 ?_
  exact r_iretE dX8_believe_16 rfl (rfl) (rfl)
theorem c_X8_believe (b : Int32) (h : Hp) (hb : ¬ b < 0) (hf : h.1 1 10 = -1) : Rn 1 MX8_believe [.ref 0, .int b] h (if b &&& (fAll (h.1 1 9) ^^^ (-1)) = 0 then EI (h.1 0 9) (pI h 0 9 b) else EI (-2) h) := by
  refine rn_of mm_X8_believe (le_b rfl) rfl ?_
  refine r_iload1 dX8_believe_0 ?_
  refine r_ifge (tgt := 7) dX8_believe_1 (by decide) (fun _ => ?_) (fun c9 => absurd (Int32.not_lt.mp hb) c9)
  refine r_aload0 dX8_believe_7 ?_
  refine r_cV0I dX8_believe_8 mm_X8_faulty im_X8_faulty se_X8_faulty ml_X8_82 rfl rfl rfl (c_faulty_n h hf) (by decide) (Nat.le_of_ble_eq_true rfl) ?_
  refine r_ifeq (tgt := 17) dX8_believe_11 (by decide) (fun _ => ?_) (fun c9 => absurd (rfl) c9)
  refine r_iload1 dX8_believe_17 ?_
  refine r_aload0 dX8_believe_18 ?_
  refine r_getR dX8_believe_19 fl_X8_12 rfl rfl ?_
  refine r_cV0I dX8_believe_22 mm_X1_all im_X1_all se_X1_all ml_X8_93 rfl rfl rfl (c_X1_all h) (by decide) (Nat.le_of_ble_eq_true rfl) ?_
  refine r_iconst_m1 dX8_believe_25 ?_
  refine r_ixor dX8_believe_26 ?_
  refine r_iand dX8_believe_27 ?_
  by_cases c : b &&& (fAll (h.1 1 9) ^^^ (-1)) = 0
  · rw [if_pos c]
    refine r_ifeq (tgt := 34) dX8_believe_28 (by decide) (fun _ => ?_) (fun c9 => absurd (c) c9)
    refine r_aload0 dX8_believe_34 ?_
    refine r_getI dX8_believe_35 fl_X8_97 rfl rfl ?_
    refine r_istore2 dX8_believe_38 rfl (by decide) ?_
    refine r_aload0 dX8_believe_39 ?_
    refine r_iload1 dX8_believe_40 ?_
    refine r_putI dX8_believe_41 fw_X8_97 rfl rfl ?_
    refine r_iload2 dX8_believe_44 ?_
    exact r_iretE dX8_believe_45 rfl (rfl) (rfl)
  · rw [if_neg c]
    refine r_ifeq (tgt := 34) dX8_believe_28 (by decide) (fun c9 => absurd c9 (c)) (fun _ => ?_)
    refine r_bipush bv_m2 dX8_believe_31 ?_
    exact r_iretE dX8_believe_33 rfl (rfl) (rfl)
theorem c_X8_rows {h : Hp} {n t : Nat} (hK : KR h n t) : ∃ h1, Rn 4 MX8_rows [.ref 0] h (EI (nI (NR n t)) h1) ∧ FR h h1 ∧ h1.1 0 11 = 1 ∧ TB h1 (NR n t) (rowN n t) ∧ (h1 = h ∨ h1.1 0 12 = 0) := by
  obtain ⟨h1, r1, f1, s1, t1, c1⟩ := c_X8_layRows hK
  refine ⟨h1, ?_, f1, s1, t1, c1⟩
  refine rn_of mm_X8_rows (le_b rfl) rfl ?_
  refine r_aload0 dX8_rows_0 ?_
  refine r_cV0V dX8_rows_1 mm_X8_layRows im_X8_layRows se_X8_layRows ml_X8_116 rfl rfl rfl (r1) (by decide) (Nat.le_of_ble_eq_true rfl) ?_
  refine r_aload0 dX8_rows_4 ?_
  refine r_getR dX8_rows_5 fl_X8_26 rfl rfl ?_
  refine r_getI dX8_rows_8 fl_X8_119 rfl rfl ?_
  exact r_iretE dX8_rows_11 rfl (t1.1) (rfl)
-- put
def grN (N : Nat) : Int32 := (tk0 (dgt N)).2.2.2.2.1
def tkH (h : Hp) (N : Nat) : Hp := rowH h (dgC N (h.1 11) 0) (tk0 (dgt N))
theorem c_X8_put_bad (r : Int32) (h : Hp) (hb : r < 0 ∨ 9999999 < r) : Rn 0 MX8_put [.ref 0, .int r] h (EI (-2) h) := by
  refine rn_of mm_X8_put (le_b rfl) rfl ?_
  by_cases c : r < 0
  · refine r_iload1 dX8_put_0 ?_
    refine r_iflt (tgt := 10) dX8_put_1 (by decide) (fun _ => ?_) (fun c9 => absurd (c) c9)
    refine r_bipush bv_m2 dX8_put_10 ?_
    exact r_iretE dX8_put_12 rfl (rfl) (rfl)
  · refine r_iload1 dX8_put_0 ?_
    refine r_iflt (tgt := 10) dX8_put_1 (by decide) (fun c9 => absurd c9 (c)) (fun _ => ?_)
    refine r_iload1 dX8_put_4 ?_
    refine r_ldc ct_X8_100 dX8_put_5 ?_
    refine r_icmple (tgt := 13) dX8_put_7 (by decide) (fun c9 => absurd c9 (Int32.not_le.mpr (hb.resolve_left c))) (fun _ => ?_)
    refine r_bipush bv_m2 dX8_put_10 ?_
    exact r_iretE dX8_put_12 rfl (rfl) (rfl)
theorem tkH_1 (h : Hp) (N : Nat) : (tkH h N).1 10 1 = nI (sg (dgt N) 7) := by
  have e : (tkH h N).1 10 1 = (tk0 (dgt N)).1 := by simp [tkH, rowH]
  rw [e, tk0, tk_1]
  show (0 : Int32) + _ = _
  rw [Int32.zero_add]
theorem tkH_5 (h : Hp) (N : Nat) : (tkH h N).1 10 5 = grN N := by simp [tkH, rowH, grN]
theorem sg_le (N : Nat) : sg (dgt N) 7 ≤ 63 := by
  have h := fun j => dgt_lt N j
  have a0 := h 0; have a1 := h 1; have a2 := h 2; have a3 := h 3; have a4 := h 4; have a5 := h 5; have a6 := h 6
  simp only [sg]
  omega
theorem c_X8_put_bad2 (N n t : Nat) (h : Hp) (hN : N ≤ 9999999) (h1 : h.1 0 7 = nI n) (hn : n ≤ 9) (h2 : h.1 0 8 = nI t) (hb : ¬ sg (dgt N) 7 = n ∨ ¬ grN N ≤ nI t) : Rn 1 MX8_put [.ref 0, .int (nI N)] h (EI (-2) (tkH h N)) := by
  refine rn_of mm_X8_put (le_b rfl) rfl ?_
  refine r_iload1 dX8_put_0 ?_
  refine r_iflt (tgt := 10) dX8_put_1 (by decide) (fun c9 => absurd c9 (nI_pos (by omega))) (fun _ => ?_)
  refine r_iload1 dX8_put_4 ?_
  refine r_ldc ct_X8_100 dX8_put_5 ?_
  refine r_icmple (tgt := 13) dX8_put_7 (by decide) (fun _ => ?_) (fun c9 => absurd (nI_le (b := 9999999) hN (by decide)) c9)
  refine r_aload0 dX8_put_13 ?_
  refine r_getR dX8_put_14 fl_X8_19 rfl rfl ?_
  refine r_iload1 dX8_put_17 ?_
  refine r_cV1V dX8_put_18 mm_X4_take im_X4_take se_X4_take ml_X8_101 rfl rfl rfl (c_X4_take N h (by omega)) (by decide) (Nat.le_of_ble_eq_true rfl) ?_
  refine r_aload0 dX8_put_21 ?_
  refine r_getR dX8_put_22 fl_X8_19 rfl rfl ?_
  refine r_getI dX8_put_25 fl_X8_105 rfl rfl ?_
  change Aw _ _ _ _ _ _ (tkH h N)
  refine r_aload0 dX8_put_28 ?_
  refine r_getI dX8_put_29 fl_X8_57 rfl rfl ?_
  have e7 : (tkH h N).1 0 7 = nI n := by rw [tkH, rowH_ne _ _ _ _ (by decide) (by decide)]; exact h1
  have e8 : (tkH h N).1 0 8 = nI t := by rw [tkH, rowH_ne _ _ _ _ (by decide) (by decide)]; exact h2
  change Aw _ _ _ _ _ [.int ((tkH h N).1 0 7), .int ((tkH h N).1 10 1)] _
  rw [tkH_1, e7]
  have hsl := sg_le N
  by_cases c : sg (dgt N) 7 = n
  · refine r_icmpne (tgt := 49) dX8_put_32 (by decide) (fun c9 => absurd (by rw [c]) c9) (fun _ => ?_)
    refine r_aload0 dX8_put_35 ?_
    refine r_getR dX8_put_36 fl_X8_19 rfl rfl ?_
    refine r_getI dX8_put_39 fl_X8_106 rfl rfl ?_
    refine r_aload0 dX8_put_42 ?_
    refine r_getI dX8_put_43 fl_X8_61 rfl rfl ?_
    rw [tkH_5, e8]
    refine r_icmple (tgt := 52) dX8_put_46 (by decide) (fun c9 => absurd c9 (hb.resolve_left (fun q => q c))) (fun _ => ?_)
    refine r_bipush bv_m2 dX8_put_49 ?_
    exact r_iretE dX8_put_51 rfl (rfl) (rfl)
  · refine r_icmpne (tgt := 49) dX8_put_32 (by decide) (fun _ => ?_) (fun c9 => absurd c9 (fun q => c ((nI_eq (by omega) (by omega)).mp q)))
    refine r_bipush bv_m2 dX8_put_49 ?_
    exact r_iretE dX8_put_51 rfl (rfl) (rfl)
theorem c_X8_put_not (N n t : Nat) (h : Hp) (hN : N ≤ 9999999) (h1 : h.1 0 7 = nI n) (h2 : h.1 0 8 = nI t) (hs : sg (dgt N) 7 = n) (hg : grN N ≤ nI t) (hf : ¬ h.1 1 10 = -1) : Rn 1 MX8_put [.ref 0, .int (nI N)] h (EI (-3) (tkH h N)) := by
  refine rn_of mm_X8_put (le_b rfl) rfl ?_
  refine r_iload1 dX8_put_0 ?_
  refine r_iflt (tgt := 10) dX8_put_1 (by decide) (fun c9 => absurd c9 (nI_pos (by omega))) (fun _ => ?_)
  refine r_iload1 dX8_put_4 ?_
  refine r_ldc ct_X8_100 dX8_put_5 ?_
  refine r_icmple (tgt := 13) dX8_put_7 (by decide) (fun _ => ?_) (fun c9 => absurd (nI_le (b := 9999999) hN (by decide)) c9)
  refine r_aload0 dX8_put_13 ?_
  refine r_getR dX8_put_14 fl_X8_19 rfl rfl ?_
  refine r_iload1 dX8_put_17 ?_
  refine r_cV1V dX8_put_18 mm_X4_take im_X4_take se_X4_take ml_X8_101 rfl rfl rfl (c_X4_take N h (by omega)) (by decide) (Nat.le_of_ble_eq_true rfl) ?_
  refine r_aload0 dX8_put_21 ?_
  refine r_getR dX8_put_22 fl_X8_19 rfl rfl ?_
  refine r_getI dX8_put_25 fl_X8_105 rfl rfl ?_
  change Aw _ _ _ _ _ _ (tkH h N)
  refine r_aload0 dX8_put_28 ?_
  refine r_getI dX8_put_29 fl_X8_57 rfl rfl ?_
  have e7 : (tkH h N).1 0 7 = nI n := by rw [tkH, rowH_ne _ _ _ _ (by decide) (by decide)]; exact h1
  have e8 : (tkH h N).1 0 8 = nI t := by rw [tkH, rowH_ne _ _ _ _ (by decide) (by decide)]; exact h2
  have ef : ¬ (tkH h N).1 1 10 = -1 := by rw [tkH, rowH_ne _ _ _ _ (by decide) (by decide)]; exact hf
  change Aw _ _ _ _ _ [.int ((tkH h N).1 0 7), .int ((tkH h N).1 10 1)] _
  rw [tkH_1, e7]
  refine r_icmpne (tgt := 49) dX8_put_32 (by decide) (fun c9 => absurd (by rw [hs]) c9) (fun _ => ?_)
  refine r_aload0 dX8_put_35 ?_
  refine r_getR dX8_put_36 fl_X8_19 rfl rfl ?_
  refine r_getI dX8_put_39 fl_X8_106 rfl rfl ?_
  refine r_aload0 dX8_put_42 ?_
  refine r_getI dX8_put_43 fl_X8_61 rfl rfl ?_
  rw [tkH_5, e8]
  refine r_icmple (tgt := 52) dX8_put_46 (by decide) (fun _ => ?_) (fun c9 => absurd (hg) c9)
  refine r_aload0 dX8_put_52 ?_
  refine r_cV0I dX8_put_53 mm_X8_faulty im_X8_faulty se_X8_faulty ml_X8_82 rfl rfl rfl (c_faulty_y _ ef) (by decide) (Nat.le_of_ble_eq_true rfl) ?_
  refine r_ifeq (tgt := 62) dX8_put_56 (by decide) (fun c9 => absurd c9 (by decide)) (fun _ => ?_)
  refine r_bipush bv_m3 dX8_put_59 ?_
  exact r_iretE dX8_put_61 rfl (rfl) (rfl)
theorem tkH_fr (h : Hp) (N : Nat) : FR h (tkH h N) := ⟨fun q j hq => rowH_ne _ _ _ _ (fun e => hq (Or.inr (Or.inr (Or.inl e)))) (fun e => hq (Or.inr (Or.inr (Or.inr (Or.inl e))))), rfl⟩
def hN1 (h : Hp) (Kd Mk Bh : Nat → Nat) (kc n N : Nat) : Int32 := hbN (fun i => (stl h Kd Bh (nI n) i).1) (fun i => (stl h Kd Bh (nI n) i).2) Kd Mk n kc N
def ptH (h : Hp) (Kd Bh : Nat → Nat) (kc n N : Nat) : Hp := sH (tkH h N) kc (stl (tkH h N) Kd Bh (nI n))
theorem c_X8_put {h : Hp} {n t kc : Nat} {Kd Mk Bh : Nat → Nat} (N : Nat) (hN : N ≤ 9999999) (h1 : h.1 0 7 = nI n) (hn : 1 ≤ n) (h2 : h.1 0 8 = nI t) (hC : CLM h kc Kd Mk Bh) (hs : sg (dgt N) 7 = n) (hg : grN N ≤ nI t) (hf : h.1 1 10 = -1) : Rn 5 MX8_put [.ref 0, .int (nI N)] h (EI (hN1 h Kd Mk Bh kc n N) (ptH h Kd Bh kc n N)) := by
  have fr := tkH_fr h N
  have hsl := sg_le N
  have hC1 := fr.clm hC
  refine rn_of mm_X8_put (le_b rfl) rfl ?_
  refine r_iload1 dX8_put_0 ?_
  refine r_iflt (tgt := 10) dX8_put_1 (by decide) (fun c9 => absurd c9 (nI_pos (by omega))) (fun _ => ?_)
  refine r_iload1 dX8_put_4 ?_
  refine r_ldc ct_X8_100 dX8_put_5 ?_
  refine r_icmple (tgt := 13) dX8_put_7 (by decide) (fun _ => ?_) (fun c9 => absurd (nI_le (b := 9999999) hN (by decide)) c9)
  refine r_aload0 dX8_put_13 ?_
  refine r_getR dX8_put_14 fl_X8_19 rfl rfl ?_
  refine r_iload1 dX8_put_17 ?_
  refine r_cV1V dX8_put_18 mm_X4_take im_X4_take se_X4_take ml_X8_101 rfl rfl rfl (c_X4_take N h (by omega)) (by decide) (Nat.le_of_ble_eq_true rfl) ?_
  refine r_aload0 dX8_put_21 ?_
  refine r_getR dX8_put_22 fl_X8_19 rfl rfl ?_
  refine r_getI dX8_put_25 fl_X8_105 rfl rfl ?_
  change Aw _ _ _ _ _ _ (tkH h N)
  refine r_aload0 dX8_put_28 ?_
  refine r_getI dX8_put_29 fl_X8_57 rfl rfl ?_
  have e7 : (tkH h N).1 0 7 = nI n := by rw [tkH, rowH_ne _ _ _ _ (by decide) (by decide)]; exact h1
  have e8 : (tkH h N).1 0 8 = nI t := by rw [tkH, rowH_ne _ _ _ _ (by decide) (by decide)]; exact h2
  have ef : (tkH h N).1 1 10 = -1 := by rw [tkH, rowH_ne _ _ _ _ (by decide) (by decide)]; exact hf
  change Aw _ _ _ _ _ [.int ((tkH h N).1 0 7), .int ((tkH h N).1 10 1)] _
  have e1 := tkH_1 h N
  rw [e1, e7]
  refine r_icmpne (tgt := 49) dX8_put_32 (by decide) (fun c9 => absurd (by rw [hs]) c9) (fun _ => ?_)
  refine r_aload0 dX8_put_35 ?_
  refine r_getR dX8_put_36 fl_X8_19 rfl rfl ?_
  refine r_getI dX8_put_39 fl_X8_106 rfl rfl ?_
  refine r_aload0 dX8_put_42 ?_
  refine r_getI dX8_put_43 fl_X8_61 rfl rfl ?_
  rw [tkH_5, e8]
  refine r_icmple (tgt := 52) dX8_put_46 (by decide) (fun _ => ?_) (fun c9 => absurd (hg) c9)
  refine r_aload0 dX8_put_52 ?_
  refine r_cV0I dX8_put_53 mm_X8_faulty im_X8_faulty se_X8_faulty ml_X8_82 rfl rfl rfl (c_faulty_n _ ef) (by decide) (Nat.le_of_ble_eq_true rfl) ?_
  refine r_ifeq (tgt := 62) dX8_put_56 (by decide) (fun _ => ?_) (fun c9 => absurd (rfl) c9)
  refine r_aload0 dX8_put_62 ?_
  refine r_getR dX8_put_63 fl_X8_12 rfl rfl ?_
  refine r_aload0 dX8_put_66 ?_
  refine r_getI dX8_put_67 fl_X8_57 rfl rfl ?_
  rw [e7]
  have fs : ∀ q j, q ≠ 8 → q ≠ 9 → (ptH h Kd Bh kc n N).1 q j = (tkH h N).1 q j := fun q j a b => sH_ne _ _ _ _ a b
  have mono : ∀ j, j ≤ 7 → sg (dgt N) j ≤ sg (dgt N) 7 := by
    intro j hj
    have : j = 0 ∨ j = 1 ∨ j = 2 ∨ j = 3 ∨ j = 4 ∨ j = 5 ∨ j = 6 ∨ j = 7 := by omega
    rcases this with rfl | rfl | rfl | rfl | rfl | rfl | rfl | rfl <;> simp only [sg] <;> omega
  have f2 : FR (tkH h N) (ptH h Kd Bh kc n N) := ⟨fun q j hq => fs q j (fun e => hq (Or.inl e)) (fun e => hq (Or.inr (Or.inl e))), rfl⟩
  have hRW : RW (ptH h Kd Bh kc n N) (dgt N) n := ⟨by rw [fs _ _ (by decide) (by decide), e1, hs], hn, by omega, fun j hj => by rw [fs _ _ (by decide) (by decide)]; simp [tkH, rowH, dgC, hj], fun j hj => by have := mono j hj; omega⟩
  have rh := c_X1_heldBy kc Kd Mk Bh (dgt N) n (ptH h Kd Bh kc n N) (f2.clm hC1) hRW
  have ev : hld (ptH h Kd Bh kc n N) Kd Mk (dgt N) n kc = hN1 h Kd Mk Bh kc n N := by
    unfold hld hN1 hbN
    apply lp_cong
    intro i b _ hi
    have hi : i < kc := by omega
    have e8' : (ptH h Kd Bh kc n N).1 8 i = (stl h Kd Bh (nI n) i).1 := by
      unfold ptH sH
      rw [pA_g, if_neg (by decide), pA_g, if_pos rfl, if_pos hi, fr.stlE]
    have e9' : (ptH h Kd Bh kc n N).1 9 i = (stl h Kd Bh (nI n) i).2 := by
      unfold ptH sH
      rw [pA_g, if_pos rfl, if_pos hi, fr.stlE]
    have ef' : figV (ptH h Kd Bh kc n N) Kd Mk (dgt N) n i = figN N n (Kd i) (Mk i) := by
      have g : ∀ j, (ptH h Kd Bh kc n N).1 10 j = (tkH h N).1 10 j := fun j => fs 10 j (by decide) (by decide)
      have g2 : ∀ j, (ptH h Kd Bh kc n N).1 11 j = (tkH h N).1 11 j := fun j => fs 11 j (by decide) (by decide)
      unfold figV figN
      rw [g, g, g, g, g, g, g2]
      by_cases h4 : Kd i = 4
      · have hm : Mk i < 7 := ((hC.2.2 i hi).2.2.2.2 (by omega)).2
        simp [h4, tkH, rowH, dgC, hm]
      · simp [h4, tkH, rowH]
    unfold hldF
    rw [e8', e9', ef']
  rw [ev] at rh
  refine r_cV1V dX8_put_70 mm_X1_settle im_X1_settle se_X1_settle ml_X8_109 rfl rfl rfl (c_X1_settle kc Kd Mk Bh (nI n) (tkH h N) hC1) (by decide) (Nat.le_of_ble_eq_true rfl) ?_
  refine r_aload0 dX8_put_73 ?_
  refine r_getR dX8_put_74 fl_X8_12 rfl rfl ?_
  refine r_aload0 dX8_put_77 ?_
  refine r_getR dX8_put_78 fl_X8_19 rfl rfl ?_
  refine r_cV1I dX8_put_81 mm_X1_heldBy im_X1_heldBy se_X1_heldBy ml_X8_112 rfl rfl rfl (rh) (by decide) (Nat.le_of_ble_eq_true rfl) ?_
  exact r_iretE dX8_put_84 rfl (rfl) (rfl)
-- what can be
def HsS (h : Hp) (Kd Mk Bh : Nat → Nat) (kc n t : Nat) : Nat → Int32 := Hs h Kd Mk Bh kc n t
theorem JP.bel {h h1 : Hp} {n t kc : Nat} {Kd Mk Bh : Nat → Nat} (j : JP h h1 n t kc Kd Mk Bh) : h1.1 0 9 = h.1 0 9 := j.1.1 0 9 (by unfold scr; omega)
theorem JP.n {h h1 : Hp} {n t kc : Nat} {Kd Mk Bh : Nat → Nat} (j : JP h h1 n t kc Kd Mk Bh) : h1.1 0 7 = h.1 0 7 := j.1.1 0 7 (by unfold scr; omega)
theorem c_X8_can_not (h : Hp) (hf : ¬ h.1 1 10 = -1) : Rn 1 MX8_can [.ref 0] h (EI (-3) h) := by
  refine rn_of mm_X8_can (le_b rfl) rfl ?_
  refine r_aload0 dX8_can_0 ?_
  refine r_cV0I dX8_can_1 mm_X8_faulty im_X8_faulty se_X8_faulty ml_X8_82 rfl rfl rfl (c_faulty_y h hf) (by decide) (Nat.le_of_ble_eq_true rfl) ?_
  refine r_ifeq (tgt := 10) dX8_can_4 (by decide) (fun c9 => absurd c9 (by decide)) (fun _ => ?_)
  refine r_bipush bv_m3 dX8_can_7 ?_
  exact r_iretE dX8_can_9 rfl (rfl) (rfl)
theorem fHM_cong {H H' : Nat → Int32} {b : Int32} {m : Nat} (h : ∀ k, k < m → H k = H' k) : fHM H b m = fHM H' b m := by
  unfold fHM
  apply lp_cong
  intro k a _ hk
  unfold hmF
  rw [h k (by omega)]
theorem c_X8_can {h : Hp} {n t kc : Nat} {Kd Mk Bh : Nat → Nat} (hK : KI h n t kc Kd Mk Bh) (hf : h.1 1 10 = -1) : ∃ h1, Rn 6 MX8_can [.ref 0] h (EI (fHM (Hs h Kd Mk Bh kc n t) (h.1 0 9) (NR n t)) h1) ∧ JP h h1 n t kc Kd Mk Bh := by
  obtain ⟨h1, r1, j⟩ := c_X8_judgeRows hK
  refine ⟨h1, ?_, j⟩
  have r := c_X5_howMany (NR n t) (h.1 0 9) h1 j.2.2.2.1.1 j.2.2.2.1.2.1
  rw [fHM_cong j.2.2.2.2] at r
  refine rn_of mm_X8_can (le_b rfl) rfl ?_
  refine r_aload0 dX8_can_0 ?_
  refine r_cV0I dX8_can_1 mm_X8_faulty im_X8_faulty se_X8_faulty ml_X8_82 rfl rfl rfl (c_faulty_n h hf) (by decide) (Nat.le_of_ble_eq_true rfl) ?_
  refine r_ifeq (tgt := 10) dX8_can_4 (by decide) (fun _ => ?_) (fun c9 => absurd (rfl) c9)
  refine r_aload0 dX8_can_10 ?_
  refine r_cV0V dX8_can_11 mm_X8_judgeRows im_X8_judgeRows se_X8_judgeRows ml_X8_120 rfl rfl rfl (r1) (by decide) (Nat.le_of_ble_eq_true rfl) ?_
  refine r_aload0 dX8_can_14 ?_
  refine r_getR dX8_can_15 fl_X8_26 rfl rfl ?_
  refine r_aload0 dX8_can_18 ?_
  refine r_getI dX8_can_19 fl_X8_97 rfl rfl ?_
  rw [j.bel]
  refine r_cV1I dX8_can_22 mm_X5_howMany im_X5_howMany se_X5_howMany ml_X8_123 rfl rfl rfl (r) (by decide) (Nat.le_of_ble_eq_true rfl) ?_
  exact r_iretE dX8_can_25 rfl (rfl) (rfl)
theorem rkF_cong {H H' Nb Nb' : Nat → Int32} {b i : Int32} : ∀ f k a, (∀ x, k ≤ x → x < k + f → H x = H' x ∧ Nb x = Nb' x) → rkF H Nb b i f k a = rkF H' Nb' b i f k a := by
  intro f
  induction f with
  | zero => intro k a _; rfl
  | succ f ih =>
    intro k a h
    obtain ⟨e1, e2⟩ := h k (by omega) (by omega)
    rw [rkF, rkF, e1, e2, ih (k + 1) (a + 1) (fun x h1 h2 => h x (by omega) (by omega)), ih (k + 1) a (fun x h1 h2 => h x (by omega) (by omega))]
theorem c_X8_ranked_bad (i : Int32) (h : Hp) (hi : i < 0) : Rn 1 MX8_ranked [.ref 0, .int i] h (EI (-2) h) := by
  refine rn_of mm_X8_ranked (le_b rfl) rfl ?_
  refine r_iload1 dX8_ranked_0 ?_
  refine r_ifge (tgt := 7) dX8_ranked_1 (by decide) (fun c9 => absurd c9 (fun q => absurd hi (Int32.not_lt.mpr q))) (fun _ => ?_)
  refine r_bipush bv_m2 dX8_ranked_4 ?_
  exact r_iretE dX8_ranked_6 rfl (rfl) (rfl)
theorem c_X8_ranked_not (i : Int32) (h : Hp) (hi : ¬ i < 0) (hf : ¬ h.1 1 10 = -1) : Rn 1 MX8_ranked [.ref 0, .int i] h (EI (-3) h) := by
  refine rn_of mm_X8_ranked (le_b rfl) rfl ?_
  refine r_iload1 dX8_ranked_0 ?_
  refine r_ifge (tgt := 7) dX8_ranked_1 (by decide) (fun _ => ?_) (fun c9 => absurd (Int32.not_lt.mp hi) c9)
  refine r_aload0 dX8_ranked_7 ?_
  refine r_cV0I dX8_ranked_8 mm_X8_faulty im_X8_faulty se_X8_faulty ml_X8_82 rfl rfl rfl (c_faulty_y h hf) (by decide) (Nat.le_of_ble_eq_true rfl) ?_
  refine r_ifeq (tgt := 17) dX8_ranked_11 (by decide) (fun c9 => absurd c9 (by decide)) (fun _ => ?_)
  refine r_bipush bv_m3 dX8_ranked_14 ?_
  exact r_iretE dX8_ranked_16 rfl (rfl) (rfl)
theorem c_X8_ranked {h : Hp} {n t kc : Nat} {Kd Mk Bh : Nat → Nat} (i : Int32) (hi : ¬ i < 0) (hK : KI h n t kc Kd Mk Bh) (hf : h.1 1 10 = -1) : ∃ h1, Rn 6 MX8_ranked [.ref 0, .int i] h (EI (rkF (Hs h Kd Mk Bh kc n t) (fun k => nI (rowN n t k)) (h.1 0 9) i (NR n t) 0 0) h1) ∧ JP h h1 n t kc Kd Mk Bh := by
  obtain ⟨h1, r1, j⟩ := c_X8_judgeRows hK
  refine ⟨h1, ?_, j⟩
  have r := c_X5_rankedNumber (NR n t) (h.1 0 9) i h1 j.2.2.2.1.1 j.2.2.2.1.2.1
  rw [rkF_cong (NR n t) 0 0 (fun x _ hx => ⟨j.2.2.2.2 x (by omega), (j.2.2.2.1.2.2 x (by omega)).1⟩)] at r
  refine rn_of mm_X8_ranked (le_b rfl) rfl ?_
  refine r_iload1 dX8_ranked_0 ?_
  refine r_ifge (tgt := 7) dX8_ranked_1 (by decide) (fun _ => ?_) (fun c9 => absurd (Int32.not_lt.mp hi) c9)
  refine r_aload0 dX8_ranked_7 ?_
  refine r_cV0I dX8_ranked_8 mm_X8_faulty im_X8_faulty se_X8_faulty ml_X8_82 rfl rfl rfl (c_faulty_n h hf) (by decide) (Nat.le_of_ble_eq_true rfl) ?_
  refine r_ifeq (tgt := 17) dX8_ranked_11 (by decide) (fun _ => ?_) (fun c9 => absurd (rfl) c9)
  refine r_aload0 dX8_ranked_17 ?_
  refine r_cV0V dX8_ranked_18 mm_X8_judgeRows im_X8_judgeRows se_X8_judgeRows ml_X8_120 rfl rfl rfl (r1) (by decide) (Nat.le_of_ble_eq_true rfl) ?_
  refine r_aload0 dX8_ranked_21 ?_
  refine r_getR dX8_ranked_22 fl_X8_26 rfl rfl ?_
  refine r_aload0 dX8_ranked_25 ?_
  refine r_getI dX8_ranked_26 fl_X8_97 rfl rfl ?_
  rw [j.bel]
  refine r_iload1 dX8_ranked_29 ?_
  refine r_cV2I dX8_ranked_30 mm_X5_rankedNumber im_X5_rankedNumber se_X5_rankedNumber ml_X8_127 rfl rfl rfl (r) (by decide) (Nat.le_of_ble_eq_true rfl) ?_
  exact r_iretE dX8_ranked_33 rfl (rfl) (rfl)
theorem c_X8_ways_not (h : Hp) (hf : ¬ h.1 1 10 = -1) : Rn 1 MX8_ways [.ref 0] h (EL (rfL (-3)) h) := by
  refine rn_of mm_X8_ways (le_b rfl) rfl ?_
  refine r_aload0 dX8_ways_0 ?_
  refine r_cV0I dX8_ways_1 mm_X8_faulty im_X8_faulty se_X8_faulty ml_X8_82 rfl rfl rfl (c_faulty_y h hf) (by decide) (Nat.le_of_ble_eq_true rfl) ?_
  refine r_ifeq (tgt := 13) dX8_ways_4 (by decide) (fun c9 => absurd c9 (by decide)) (fun _ => ?_)
  refine r_bipush bv_m3 dX8_ways_7 ?_
  refine r_cS1L dX8_ways_9 mm_X8_refusedLong st_X8_refusedLong ml_X8_130 (c_X8_refusedLong _ h) (by decide) (Nat.le_of_ble_eq_true rfl) ?_
  exact r_lretE dX8_ways_12 rfl (rfl) (rfl)
theorem fOr_cong {H H' : Nat → Int32} {Nf : Nat → Nat} {b : Int32} {n m : Nat} (h : ∀ k, k < m → H k = H' k) : fOr H Nf b n m = fOr H' Nf b n m := by
  unfold fOr
  apply lp_cong
  intro k a _ hk
  rw [h k (by omega)]
theorem c_X8_ways {h : Hp} {n t kc : Nat} {Kd Mk Bh : Nat → Nat} (hK : KI h n t kc Kd Mk Bh) (hf : h.1 1 10 = -1) : ∃ h1, Rn 6 MX8_ways [.ref 0] h (EL (fOr (Hs h Kd Mk Bh kc n t) (rowN n t) (h.1 0 9) n (NR n t)) h1) ∧ JP h h1 n t kc Kd Mk Bh := by
  obtain ⟨h1, r1, j⟩ := c_X8_judgeRows hK
  refine ⟨h1, ?_, j⟩
  have r := c_X5_orders (NR n t) n (rowN n t) (h.1 0 9) h1 j.2.2.2.1 hK.1.2.1
  rw [fOr_cong j.2.2.2.2] at r
  refine rn_of mm_X8_ways (le_b rfl) rfl ?_
  refine r_aload0 dX8_ways_0 ?_
  refine r_cV0I dX8_ways_1 mm_X8_faulty im_X8_faulty se_X8_faulty ml_X8_82 rfl rfl rfl (c_faulty_n h hf) (by decide) (Nat.le_of_ble_eq_true rfl) ?_
  refine r_ifeq (tgt := 13) dX8_ways_4 (by decide) (fun _ => ?_) (fun c9 => absurd (rfl) c9)
  refine r_aload0 dX8_ways_13 ?_
  refine r_cV0V dX8_ways_14 mm_X8_judgeRows im_X8_judgeRows se_X8_judgeRows ml_X8_120 rfl rfl rfl (r1) (by decide) (Nat.le_of_ble_eq_true rfl) ?_
  refine r_aload0 dX8_ways_17 ?_
  refine r_getR dX8_ways_18 fl_X8_26 rfl rfl ?_
  refine r_aload0 dX8_ways_21 ?_
  refine r_getI dX8_ways_22 fl_X8_97 rfl rfl ?_
  refine r_aload0 dX8_ways_25 ?_
  refine r_getI dX8_ways_26 fl_X8_57 rfl rfl ?_
  rw [j.bel, j.n, hK.1.2.2.2.1]
  refine r_cV2L dX8_ways_29 mm_X5_orders im_X5_orders se_X5_orders ml_X8_134 rfl rfl rfl (r) (by decide) (Nat.le_of_ble_eq_true rfl) ?_
  exact r_lretE dX8_ways_32 rfl (rfl) (rfl)
theorem c_X8_bound_bad (m e : Int32) (h : Hp) (hb : m < -1 ∨ 7 ≤ m ∨ e < 0 ∨ 1 < e) : Rn 1 MX8_bound [.ref 0, .int m, .int e] h (EI (-2) h) := by
  refine rn_of mm_X8_bound (le_b rfl) rfl ?_
  by_cases c1 : m < -1
  · refine r_iload1 dX8_bound_0 ?_
    refine r_iconst_m1 dX8_bound_1 ?_
    refine r_icmplt (tgt := 20) dX8_bound_2 (by decide) (fun _ => ?_) (fun c9 => absurd (c1) c9)
    refine r_bipush bv_m2 dX8_bound_20 ?_
    exact r_iretE dX8_bound_22 rfl (rfl) (rfl)
  · by_cases c2 : 7 ≤ m
    · refine r_iload1 dX8_bound_0 ?_
      refine r_iconst_m1 dX8_bound_1 ?_
      refine r_icmplt (tgt := 20) dX8_bound_2 (by decide) (fun c9 => absurd c9 (c1)) (fun _ => ?_)
      refine r_iload1 dX8_bound_5 ?_
      refine r_bipush bv_7 dX8_bound_6 ?_
      refine r_icmpge (tgt := 20) dX8_bound_8 (by decide) (fun _ => ?_) (fun c9 => absurd (c2) c9)
      refine r_bipush bv_m2 dX8_bound_20 ?_
      exact r_iretE dX8_bound_22 rfl (rfl) (rfl)
    · by_cases c3 : e < 0
      · refine r_iload1 dX8_bound_0 ?_
        refine r_iconst_m1 dX8_bound_1 ?_
        refine r_icmplt (tgt := 20) dX8_bound_2 (by decide) (fun c9 => absurd c9 (c1)) (fun _ => ?_)
        refine r_iload1 dX8_bound_5 ?_
        refine r_bipush bv_7 dX8_bound_6 ?_
        refine r_icmpge (tgt := 20) dX8_bound_8 (by decide) (fun c9 => absurd c9 (c2)) (fun _ => ?_)
        refine r_iload2 dX8_bound_11 ?_
        refine r_iflt (tgt := 20) dX8_bound_12 (by decide) (fun _ => ?_) (fun c9 => absurd (c3) c9)
        refine r_bipush bv_m2 dX8_bound_20 ?_
        exact r_iretE dX8_bound_22 rfl (rfl) (rfl)
      · refine r_iload1 dX8_bound_0 ?_
        refine r_iconst_m1 dX8_bound_1 ?_
        refine r_icmplt (tgt := 20) dX8_bound_2 (by decide) (fun c9 => absurd c9 (c1)) (fun _ => ?_)
        refine r_iload1 dX8_bound_5 ?_
        refine r_bipush bv_7 dX8_bound_6 ?_
        refine r_icmpge (tgt := 20) dX8_bound_8 (by decide) (fun c9 => absurd c9 (c2)) (fun _ => ?_)
        refine r_iload2 dX8_bound_11 ?_
        refine r_iflt (tgt := 20) dX8_bound_12 (by decide) (fun c9 => absurd c9 (c3)) (fun _ => ?_)
        refine r_iload2 dX8_bound_15 ?_
        refine r_iconst_1 dX8_bound_16 ?_
        refine r_icmple (tgt := 23) dX8_bound_17 (by decide) (fun c9 => absurd c9 (Int32.not_le.mpr (((hb.resolve_left c1).resolve_left c2).resolve_left c3))) (fun _ => ?_)
        refine r_bipush bv_m2 dX8_bound_20 ?_
        exact r_iretE dX8_bound_22 rfl (rfl) (rfl)
theorem c_X8_bound_not (m e : Int32) (h : Hp) (h1 : ¬ m < -1) (h2 : ¬ 7 ≤ m) (h3 : ¬ e < 0) (h4 : e ≤ 1) (hf : ¬ h.1 1 10 = -1) : Rn 1 MX8_bound [.ref 0, .int m, .int e] h (EI (-3) h) := by
  refine rn_of mm_X8_bound (le_b rfl) rfl ?_
  refine r_iload1 dX8_bound_0 ?_
  refine r_iconst_m1 dX8_bound_1 ?_
  refine r_icmplt (tgt := 20) dX8_bound_2 (by decide) (fun c9 => absurd c9 (h1)) (fun _ => ?_)
  refine r_iload1 dX8_bound_5 ?_
  refine r_bipush bv_7 dX8_bound_6 ?_
  refine r_icmpge (tgt := 20) dX8_bound_8 (by decide) (fun c9 => absurd c9 (h2)) (fun _ => ?_)
  refine r_iload2 dX8_bound_11 ?_
  refine r_iflt (tgt := 20) dX8_bound_12 (by decide) (fun c9 => absurd c9 (h3)) (fun _ => ?_)
  refine r_iload2 dX8_bound_15 ?_
  refine r_iconst_1 dX8_bound_16 ?_
  refine r_icmple (tgt := 23) dX8_bound_17 (by decide) (fun _ => ?_) (fun c9 => absurd (h4) c9)
  refine r_aload0 dX8_bound_23 ?_
  refine r_cV0I dX8_bound_24 mm_X8_faulty im_X8_faulty se_X8_faulty ml_X8_82 rfl rfl rfl (c_faulty_y h hf) (by decide) (Nat.le_of_ble_eq_true rfl) ?_
  refine r_ifeq (tgt := 33) dX8_bound_27 (by decide) (fun c9 => absurd c9 (by decide)) (fun _ => ?_)
  refine r_bipush bv_m3 dX8_bound_30 ?_
  exact r_iretE dX8_bound_32 rfl (rfl) (rfl)
theorem fOM_cong {H H' : Nat → Int32} {Nf : Nat → Nat} {b : Int32} {o : Option Nat} {g : Bool} {m : Nat} (h : ∀ k, k < m → H k = H' k) : fOM H Nf b o g m = fOM H' Nf b o g m := by
  unfold fOM
  apply lp_cong
  intro k a _ hk
  unfold omF
  rw [h k (by omega)]
theorem c_X8_bound {h : Hp} {n t kc : Nat} {Kd Mk Bh : Nat → Nat} (o : Option Nat) (g : Bool) (ho : ∀ j, o = some j → j < 7) (hK : KI h n t kc Kd Mk Bh) (hf : h.1 1 10 = -1) : ∃ h1, Rn 6 MX8_bound [.ref 0, .int (o2i o), .int (b2i g)] h (EI (fOM (Hs h Kd Mk Bh kc n t) (rowN n t) (h.1 0 9) o g (NR n t)) h1) ∧ JP h h1 n t kc Kd Mk Bh := by
  obtain ⟨h1, r1, j⟩ := c_X8_judgeRows hK
  refine ⟨h1, ?_, j⟩
  have r := c_X5_outermost (NR n t) (rowN n t) (h.1 0 9) o g h1 j.2.2.2.1 ho
  rw [fOM_cong j.2.2.2.2] at r
  have m1 : ¬ o2i o < -1 := by
    cases o with
    | none => decide
    | some d => have := ho d rfl; exact fun q => nI_pos (by omega) (Int32.lt_trans q (by decide))
  have m2 : ¬ 7 ≤ o2i o := by
    cases o with
    | none => decide
    | some d => have := ho d rfl; exact nI_ge (b := 7) this (by decide)
  refine rn_of mm_X8_bound (le_b rfl) rfl ?_
  refine r_iload1 dX8_bound_0 ?_
  refine r_iconst_m1 dX8_bound_1 ?_
  refine r_icmplt (tgt := 20) dX8_bound_2 (by decide) (fun c9 => absurd c9 (m1)) (fun _ => ?_)
  refine r_iload1 dX8_bound_5 ?_
  refine r_bipush bv_7 dX8_bound_6 ?_
  refine r_icmpge (tgt := 20) dX8_bound_8 (by decide) (fun c9 => absurd c9 (m2)) (fun _ => ?_)
  refine r_iload2 dX8_bound_11 ?_
  refine r_iflt (tgt := 20) dX8_bound_12 (by decide) (fun c9 => absurd c9 (by cases g <;> decide)) (fun _ => ?_)
  refine r_iload2 dX8_bound_15 ?_
  refine r_iconst_1 dX8_bound_16 ?_
  refine r_icmple (tgt := 23) dX8_bound_17 (by decide) (fun _ => ?_) (fun c9 => absurd (by cases g <;> decide) c9)
  refine r_aload0 dX8_bound_23 ?_
  refine r_cV0I dX8_bound_24 mm_X8_faulty im_X8_faulty se_X8_faulty ml_X8_82 rfl rfl rfl (c_faulty_n h hf) (by decide) (Nat.le_of_ble_eq_true rfl) ?_
  refine r_ifeq (tgt := 33) dX8_bound_27 (by decide) (fun _ => ?_) (fun c9 => absurd (rfl) c9)
  refine r_aload0 dX8_bound_33 ?_
  refine r_cV0V dX8_bound_34 mm_X8_judgeRows im_X8_judgeRows se_X8_judgeRows ml_X8_120 rfl rfl rfl (r1) (by decide) (Nat.le_of_ble_eq_true rfl) ?_
  refine r_aload0 dX8_bound_37 ?_
  refine r_getR dX8_bound_38 fl_X8_26 rfl rfl ?_
  refine r_aload0 dX8_bound_41 ?_
  refine r_getI dX8_bound_42 fl_X8_97 rfl rfl ?_
  rw [j.bel]
  cases g with
  | true => refine r_iload1 dX8_bound_45 ?_
            refine r_iload2 dX8_bound_46 ?_
            refine r_iconst_1 dX8_bound_47 ?_
            refine r_icmpne (tgt := 55) dX8_bound_48 (by decide) (fun c9 => absurd (rfl) c9) (fun _ => ?_)
            refine r_iconst_1 dX8_bound_51 ?_
            refine r_goto (tgt := 56) dX8_bound_52 (by decide) ?_
            refine r_cV3I dX8_bound_56 mm_X5_outermost im_X5_outermost se_X5_outermost ml_X8_138 rfl rfl rfl (r) (by decide) (Nat.le_of_ble_eq_true rfl) ?_
            exact r_iretE dX8_bound_59 rfl (rfl) (rfl)
  | false => refine r_iload1 dX8_bound_45 ?_
             refine r_iload2 dX8_bound_46 ?_
             refine r_iconst_1 dX8_bound_47 ?_
             refine r_icmpne (tgt := 55) dX8_bound_48 (by decide) (fun _ => ?_) (fun c9 => absurd c9 (by decide))
             refine r_iconst_0 dX8_bound_55 ?_
             refine r_cV3I dX8_bound_56 mm_X5_outermost im_X5_outermost se_X5_outermost ml_X8_138 rfl rfl rfl (r) (by decide) (Nat.le_of_ble_eq_true rfl) ?_
             exact r_iretE dX8_bound_59 rfl (rfl) (rfl)
theorem c_X8_alone_not (h : Hp) (hf : ¬ h.1 1 10 = -1) : Rn 1 MX8_alone [.ref 0] h (EI (-3) h) := by
  refine rn_of mm_X8_alone (le_b rfl) rfl ?_
  refine r_aload0 dX8_alone_0 ?_
  refine r_cV0I dX8_alone_1 mm_X8_faulty im_X8_faulty se_X8_faulty ml_X8_82 rfl rfl rfl (c_faulty_y h hf) (by decide) (Nat.le_of_ble_eq_true rfl) ?_
  refine r_ifeq (tgt := 10) dX8_alone_4 (by decide) (fun c9 => absurd c9 (by decide)) (fun _ => ?_)
  refine r_bipush bv_m3 dX8_alone_7 ?_
  exact r_iretE dX8_alone_9 rfl (rfl) (rfl)
theorem fEH_cong {H H' : Nat → Int32} {m : Nat} (h : ∀ k, k < m → H k = H' k) : fEH H m = fEH H' m := by
  unfold fEH
  apply lp_cong
  intro k a _ hk
  rw [h k (by omega)]
theorem c_X8_alone {h : Hp} {n t kc : Nat} {Kd Mk Bh : Nat → Nat} (hK : KI h n t kc Kd Mk Bh) (hf : h.1 1 10 = -1) : ∃ h1, Rn 6 MX8_alone [.ref 0] h (EI (fAll (nI kc) &&& (fEH (Hs h Kd Mk Bh kc n t) (NR n t) ^^^ (-1))) h1) ∧ JP h h1 n t kc Kd Mk Bh := by
  obtain ⟨h1, r1, j⟩ := c_X8_judgeRows hK
  refine ⟨h1, ?_, j⟩
  have r := c_X5_everHeld (NR n t) h1 j.2.2.2.1.1 j.2.2.2.1.2.1
  rw [fEH_cong j.2.2.2.2] at r
  have ra := c_X1_all h1
  rw [j.1.1 1 9 (nscr _ (by omega)), hK.2.1.1] at ra
  refine rn_of mm_X8_alone (le_b rfl) rfl ?_
  refine r_aload0 dX8_alone_0 ?_
  refine r_cV0I dX8_alone_1 mm_X8_faulty im_X8_faulty se_X8_faulty ml_X8_82 rfl rfl rfl (c_faulty_n h hf) (by decide) (Nat.le_of_ble_eq_true rfl) ?_
  refine r_ifeq (tgt := 10) dX8_alone_4 (by decide) (fun _ => ?_) (fun c9 => absurd (rfl) c9)
  refine r_aload0 dX8_alone_10 ?_
  refine r_cV0V dX8_alone_11 mm_X8_judgeRows im_X8_judgeRows se_X8_judgeRows ml_X8_120 rfl rfl rfl (r1) (by decide) (Nat.le_of_ble_eq_true rfl) ?_
  refine r_aload0 dX8_alone_14 ?_
  refine r_getR dX8_alone_15 fl_X8_12 rfl rfl ?_
  refine r_cV0I dX8_alone_18 mm_X1_all im_X1_all se_X1_all ml_X8_93 rfl rfl rfl (ra) (by decide) (Nat.le_of_ble_eq_true rfl) ?_
  refine r_aload0 dX8_alone_21 ?_
  refine r_getR dX8_alone_22 fl_X8_26 rfl rfl ?_
  refine r_cV0I dX8_alone_25 mm_X5_everHeld im_X5_everHeld se_X5_everHeld ml_X8_142 rfl rfl rfl (r) (by decide) (Nat.le_of_ble_eq_true rfl) ?_
  refine r_iconst_m1 dX8_alone_28 ?_
  refine r_ixor dX8_alone_29 ?_
  refine r_iand dX8_alone_30 ?_
  exact r_iretE dX8_alone_31 rfl (rfl) (rfl)
theorem c_X8_fewest_not (h : Hp) (hf : ¬ h.1 1 10 = -1) : Rn 1 MX8_fewest [.ref 0] h (EI (-3) h) := by
  refine rn_of mm_X8_fewest (le_b rfl) rfl ?_
  refine r_aload0 dX8_fewest_0 ?_
  refine r_cV0I dX8_fewest_1 mm_X8_faulty im_X8_faulty se_X8_faulty ml_X8_82 rfl rfl rfl (c_faulty_y h hf) (by decide) (Nat.le_of_ble_eq_true rfl) ?_
  refine r_ifeq (tgt := 10) dX8_fewest_4 (by decide) (fun c9 => absurd c9 (by decide)) (fun _ => ?_)
  refine r_bipush bv_m3 dX8_fewest_7 ?_
  exact r_iretE dX8_fewest_9 rfl (rfl) (rfl)
theorem fFD_cong {H H' : Nat → Int32} {b : Int32} {m : Nat} (h : ∀ k, k < m → H k = H' k) : fFD H b m = fFD H' b m := by
  unfold fFD
  apply lp_cong
  intro k a _ hk
  unfold fdF
  rw [h k (by omega)]
theorem c_X8_fewest {h : Hp} {n t kc : Nat} {Kd Mk Bh : Nat → Nat} (hK : KI h n t kc Kd Mk Bh) (hf : h.1 1 10 = -1) : ∃ h1, Rn 6 MX8_fewest [.ref 0] h (EI (fFD (Hs h Kd Mk Bh kc n t) (h.1 0 9) (NR n t)) h1) ∧ JP h h1 n t kc Kd Mk Bh := by
  obtain ⟨h1, r1, j⟩ := c_X8_judgeRows hK
  refine ⟨h1, ?_, j⟩
  have r := c_X5_fewestDoubts (NR n t) (h.1 0 9) h1 j.2.2.2.1.1 j.2.2.2.1.2.1
  rw [fFD_cong j.2.2.2.2] at r
  refine rn_of mm_X8_fewest (le_b rfl) rfl ?_
  refine r_aload0 dX8_fewest_0 ?_
  refine r_cV0I dX8_fewest_1 mm_X8_faulty im_X8_faulty se_X8_faulty ml_X8_82 rfl rfl rfl (c_faulty_n h hf) (by decide) (Nat.le_of_ble_eq_true rfl) ?_
  refine r_ifeq (tgt := 10) dX8_fewest_4 (by decide) (fun _ => ?_) (fun c9 => absurd (rfl) c9)
  refine r_aload0 dX8_fewest_10 ?_
  refine r_cV0V dX8_fewest_11 mm_X8_judgeRows im_X8_judgeRows se_X8_judgeRows ml_X8_120 rfl rfl rfl (r1) (by decide) (Nat.le_of_ble_eq_true rfl) ?_
  refine r_aload0 dX8_fewest_14 ?_
  refine r_getR dX8_fewest_15 fl_X8_26 rfl rfl ?_
  refine r_aload0 dX8_fewest_18 ?_
  refine r_getI dX8_fewest_19 fl_X8_97 rfl rfl ?_
  rw [j.bel]
  refine r_cV1I dX8_fewest_22 mm_X5_fewestDoubts im_X5_fewestDoubts se_X5_fewestDoubts ml_X8_145 rfl rfl rfl (r) (by decide) (Nat.le_of_ble_eq_true rfl) ?_
  exact r_iretE dX8_fewest_25 rfl (rfl) (rfl)
theorem c_X8_quarrel_not (h : Hp) (hf : ¬ h.1 1 10 = -1) : Rn 1 MX8_quarrel [.ref 0] h (EI (-3) h) := by
  refine rn_of mm_X8_quarrel (le_b rfl) rfl ?_
  refine r_aload0 dX8_quarrel_0 ?_
  refine r_cV0I dX8_quarrel_1 mm_X8_faulty im_X8_faulty se_X8_faulty ml_X8_82 rfl rfl rfl (c_faulty_y h hf) (by decide) (Nat.le_of_ble_eq_true rfl) ?_
  refine r_ifeq (tgt := 10) dX8_quarrel_4 (by decide) (fun c9 => absurd c9 (by decide)) (fun _ => ?_)
  refine r_bipush bv_m3 dX8_quarrel_7 ?_
  exact r_iretE dX8_quarrel_9 rfl (rfl) (rfl)
theorem c_X8_quarrel {h : Hp} {n t kc : Nat} {Kd Mk Bh : Nat → Nat} (hK : KI h n t kc Kd Mk Bh) (hf : h.1 1 10 = -1) : ∃ h1, Rn 6 MX8_quarrel [.ref 0] h (EI (fLQ (tog (h1.1 14) (NR n t) (z15 h1)) (h.1 0 9)) (pA h1 15 (tog (h1.1 14) (NR n t) (z15 h1)))) ∧ JP h h1 n t kc Kd Mk Bh := by
  obtain ⟨h1, r1, j⟩ := c_X8_judgeRows hK
  refine ⟨h1, ?_, j⟩
  have r := c_X5_leastQuarrel (NR n t) (h.1 0 9) h1 j.2.2.2.1.1 j.2.2.2.1.2.1
  refine rn_of mm_X8_quarrel (le_b rfl) rfl ?_
  refine r_aload0 dX8_quarrel_0 ?_
  refine r_cV0I dX8_quarrel_1 mm_X8_faulty im_X8_faulty se_X8_faulty ml_X8_82 rfl rfl rfl (c_faulty_n h hf) (by decide) (Nat.le_of_ble_eq_true rfl) ?_
  refine r_ifeq (tgt := 10) dX8_quarrel_4 (by decide) (fun _ => ?_) (fun c9 => absurd (rfl) c9)
  refine r_aload0 dX8_quarrel_10 ?_
  refine r_cV0V dX8_quarrel_11 mm_X8_judgeRows im_X8_judgeRows se_X8_judgeRows ml_X8_120 rfl rfl rfl (r1) (by decide) (Nat.le_of_ble_eq_true rfl) ?_
  refine r_aload0 dX8_quarrel_14 ?_
  refine r_getR dX8_quarrel_15 fl_X8_26 rfl rfl ?_
  refine r_aload0 dX8_quarrel_18 ?_
  refine r_getI dX8_quarrel_19 fl_X8_97 rfl rfl ?_
  rw [j.bel]
  refine r_cV1I dX8_quarrel_22 mm_X5_leastQuarrel im_X5_leastQuarrel se_X5_leastQuarrel ml_X8_148 rfl rfl rfl (r) (by decide) (Nat.le_of_ble_eq_true rfl) ?_
  exact r_iretE dX8_quarrel_25 rfl (rfl) (rfl)
theorem c_X8_ask_not (h : Hp) (hf : ¬ h.1 1 10 = -1) : Rn 1 MX8_ask [.ref 0] h (EI (-3) h) := by
  refine rn_of mm_X8_ask (le_b rfl) rfl ?_
  refine r_aload0 dX8_ask_0 ?_
  refine r_cV0I dX8_ask_1 mm_X8_faulty im_X8_faulty se_X8_faulty ml_X8_82 rfl rfl rfl (c_faulty_y h hf) (by decide) (Nat.le_of_ble_eq_true rfl) ?_
  refine r_ifeq (tgt := 10) dX8_ask_4 (by decide) (fun c9 => absurd c9 (by decide)) (fun _ => ?_)
  refine r_bipush bv_m3 dX8_ask_7 ?_
  exact r_iretE dX8_ask_9 rfl (rfl) (rfl)
theorem c_X8_ask {h : Hp} {n t kc : Nat} {Kd Mk Bh : Nat → Nat} (hK : KI h n t kc Kd Mk Bh) (hf : h.1 1 10 = -1) : ∃ h1, Rn 6 MX8_ask [.ref 0] h (EI (fBQ (h1.1 14) (rowN n t) (h.1 0 9) (NR n t) (z16 h1)) (if 2 ≤ fHM (h1.1 14) (h.1 0 9) (NR n t) then pA h1 16 (tly (h1.1 14) (rowN n t) (h.1 0 9) (NR n t) (z16 h1)) else h1)) ∧ JP h h1 n t kc Kd Mk Bh := by
  obtain ⟨h1, r1, j⟩ := c_X8_judgeRows hK
  refine ⟨h1, ?_, j⟩
  have r := c_X5_bestQuestion (NR n t) (rowN n t) (h.1 0 9) h1 j.2.2.2.1
  refine rn_of mm_X8_ask (le_b rfl) rfl ?_
  refine r_aload0 dX8_ask_0 ?_
  refine r_cV0I dX8_ask_1 mm_X8_faulty im_X8_faulty se_X8_faulty ml_X8_82 rfl rfl rfl (c_faulty_n h hf) (by decide) (Nat.le_of_ble_eq_true rfl) ?_
  refine r_ifeq (tgt := 10) dX8_ask_4 (by decide) (fun _ => ?_) (fun c9 => absurd (rfl) c9)
  refine r_aload0 dX8_ask_10 ?_
  refine r_cV0V dX8_ask_11 mm_X8_judgeRows im_X8_judgeRows se_X8_judgeRows ml_X8_120 rfl rfl rfl (r1) (by decide) (Nat.le_of_ble_eq_true rfl) ?_
  refine r_aload0 dX8_ask_14 ?_
  refine r_getR dX8_ask_15 fl_X8_26 rfl rfl ?_
  refine r_aload0 dX8_ask_18 ?_
  refine r_getI dX8_ask_19 fl_X8_97 rfl rfl ?_
  rw [j.bel]
  refine r_cV1I dX8_ask_22 mm_X5_bestQuestion im_X5_bestQuestion se_X5_bestQuestion ml_X8_151 rfl rfl rfl (r) (by decide) (Nat.le_of_ble_eq_true rfl) ?_
  exact r_iretE dX8_ask_25 rfl (rfl) (rfl)
theorem c_X8_write_bad (s : Int32) (h : Hp) (hb : ¬ okS s) : Rn 1 MX8_write [.ref 0, .int s] h (EI (-2) h) := by
  refine rn_of mm_X8_write (le_b rfl) rfl ?_
  refine r_iload1 dX8_write_0 ?_
  refine r_cS1I dX8_write_1 mm_X8_isSheet st_X8_isSheet ml_X8_154 (c_isS_n h hb) (by decide) (Nat.le_of_ble_eq_true rfl) ?_
  refine r_ifne (tgt := 10) dX8_write_4 (by decide) (fun c9 => absurd (rfl) c9) (fun _ => ?_)
  refine r_bipush bv_m2 dX8_write_7 ?_
  exact r_iretE dX8_write_9 rfl (rfl) (rfl)
theorem c_X8_write_null (j : Nat) (h : Hp) (hj : j < 4) (hl : h.1 (18 + j) 1 = 1) : Rn 2 MX8_write [.ref 0, .int (nI j)] h (EI (-11) (pI h 0 10 1)) := by
  refine rn_of mm_X8_write (le_b rfl) rfl ?_
  refine r_iload1 dX8_write_0 ?_
  refine r_cS1I dX8_write_1 mm_X8_isSheet st_X8_isSheet ml_X8_154 (c_isS_y h (okj hj)) (by decide) (Nat.le_of_ble_eq_true rfl) ?_
  refine r_ifne (tgt := 10) dX8_write_4 (by decide) (fun _ => ?_) (fun c9 => absurd c9 (by decide))
  refine r_aload0 dX8_write_10 ?_
  refine r_iload1 dX8_write_11 ?_
  refine r_cV1I dX8_write_12 mm_X8_isLost im_X8_isLost se_X8_isLost ml_X8_160 rfl rfl rfl (c_lost h hj hl) (by decide) (Nat.le_of_ble_eq_true rfl) ?_
  refine r_ifeq (tgt := 24) dX8_write_15 (by decide) (fun c9 => absurd c9 (by decide)) (fun _ => ?_)
  refine r_aload0 dX8_write_18 ?_
  refine r_iconst_1 dX8_write_19 ?_
  refine r_cV1I dX8_write_20 mm_X8_found im_X8_found se_X8_found ml_X8_163 rfl rfl rfl (c_X8_found 1 h) (by decide) (Nat.le_of_ble_eq_true rfl) ?_
  exact r_iretE dX8_write_23 rfl (rfl) (rfl)
theorem c_X8_write_not (j : Nat) (h : Hp) (hj : j < 4) (hl : h.1 (18 + j) 1 = 0) (hf : ¬ h.1 1 10 = -1) : Rn 2 MX8_write [.ref 0, .int (nI j)] h (EI (-3) h) := by
  refine rn_of mm_X8_write (le_b rfl) rfl ?_
  refine r_iload1 dX8_write_0 ?_
  refine r_cS1I dX8_write_1 mm_X8_isSheet st_X8_isSheet ml_X8_154 (c_isS_y h (okj hj)) (by decide) (Nat.le_of_ble_eq_true rfl) ?_
  refine r_ifne (tgt := 10) dX8_write_4 (by decide) (fun _ => ?_) (fun c9 => absurd c9 (by decide))
  refine r_aload0 dX8_write_10 ?_
  refine r_iload1 dX8_write_11 ?_
  refine r_cV1I dX8_write_12 mm_X8_isLost im_X8_isLost se_X8_isLost ml_X8_160 rfl rfl rfl (c_there h hj hl) (by decide) (Nat.le_of_ble_eq_true rfl) ?_
  refine r_ifeq (tgt := 24) dX8_write_15 (by decide) (fun _ => ?_) (fun c9 => absurd (rfl) c9)
  refine r_aload0 dX8_write_24 ?_
  refine r_cV0I dX8_write_25 mm_X8_faulty im_X8_faulty se_X8_faulty ml_X8_82 rfl rfl rfl (c_faulty_y h hf) (by decide) (Nat.le_of_ble_eq_true rfl) ?_
  refine r_ifeq (tgt := 34) dX8_write_28 (by decide) (fun c9 => absurd c9 (by decide)) (fun _ => ?_)
  refine r_bipush bv_m3 dX8_write_31 ?_
  exact r_iretE dX8_write_33 rfl (rfl) (rfl)
theorem c_X8_write {h : Hp} {n t kc : Nat} {Kd Mk Bh : Nat → Nat} (j : Nat) (hj : j < 4) (hl : h.1 (18 + j) 1 = 0) (hS : SH4 h) (hK : KI h n t kc Kd Mk Bh) (hf : h.1 1 10 = -1) : ∃ h1, Rn 6 MX8_write [.ref 0, .int (nI j)] h (EI (nI (wrF (h1.1 14) (h1.1 13) (h.1 0 9) (h.1 (18 + j) 2) (szN h (18 + j)) (NR n t) 0 0 (h.1 (18 + j + 4))).1) (pA h1 (18 + j + 4) (wrF (h1.1 14) (h1.1 13) (h.1 0 9) (h.1 (18 + j) 2) (szN h (18 + j)) (NR n t) 0 0 (h.1 (18 + j + 4))).2)) ∧ JP h h1 n t kc Kd Mk Bh := by
  obtain ⟨h1, r1, jp⟩ := c_X8_judgeRows hK
  refine ⟨h1, ?_, jp⟩
  have ho := oSh (shj hj)
  have e3 : h1.1 (18 + j) 3 = nI (szN h (18 + j)) := by rw [jp.1.1 _ _ (nscr _ (by omega))]; exact (hS j hj).1
  have r := c_X5_writeTo (NR n t) (18 + j) (szN h (18 + j)) (h.1 0 9) h1 jp.2.2.2.1.1 jp.2.2.2.1.2.1 (shj hj) (hS j hj).2.1 e3
  have e2 : h1.1 (18 + j) 2 = h.1 (18 + j) 2 := jp.1.1 _ _ (nscr _ (by omega))
  have e4 : h1.1 (18 + j + 4) = h.1 (18 + j + 4) := funext fun x => jp.1.1 _ _ (nscr _ (by omega))
  rw [e2, e4] at r
  refine rn_of mm_X8_write (le_b rfl) rfl ?_
  refine r_iload1 dX8_write_0 ?_
  refine r_cS1I dX8_write_1 mm_X8_isSheet st_X8_isSheet ml_X8_154 (c_isS_y h (okj hj)) (by decide) (Nat.le_of_ble_eq_true rfl) ?_
  refine r_ifne (tgt := 10) dX8_write_4 (by decide) (fun _ => ?_) (fun c9 => absurd c9 (by decide))
  refine r_aload0 dX8_write_10 ?_
  refine r_iload1 dX8_write_11 ?_
  refine r_cV1I dX8_write_12 mm_X8_isLost im_X8_isLost se_X8_isLost ml_X8_160 rfl rfl rfl (c_there h hj hl) (by decide) (Nat.le_of_ble_eq_true rfl) ?_
  refine r_ifeq (tgt := 24) dX8_write_15 (by decide) (fun _ => ?_) (fun c9 => absurd (rfl) c9)
  refine r_aload0 dX8_write_24 ?_
  refine r_cV0I dX8_write_25 mm_X8_faulty im_X8_faulty se_X8_faulty ml_X8_82 rfl rfl rfl (c_faulty_n h hf) (by decide) (Nat.le_of_ble_eq_true rfl) ?_
  refine r_ifeq (tgt := 34) dX8_write_28 (by decide) (fun _ => ?_) (fun c9 => absurd (rfl) c9)
  refine r_aload0 dX8_write_34 ?_
  refine r_cV0V dX8_write_35 mm_X8_judgeRows im_X8_judgeRows se_X8_judgeRows ml_X8_120 rfl rfl rfl (r1) (by decide) (Nat.le_of_ble_eq_true rfl) ?_
  refine r_aload0 dX8_write_38 ?_
  refine r_getR dX8_write_39 fl_X8_26 rfl rfl ?_
  refine r_aload0 dX8_write_42 ?_
  refine r_getR dX8_write_43 fl_X8_32 rfl rfl ?_
  refine r_iload1 dX8_write_46 ?_
  refine r_aaldN dX8_write_47 hj ?_
  refine r_aload0 dX8_write_48 ?_
  refine r_getI dX8_write_49 fl_X8_97 rfl rfl ?_
  rw [jp.bel]
  refine r_cV2I dX8_write_52 mm_X5_writeTo im_X5_writeTo se_X5_writeTo ml_X8_254 rfl rfl rfl (r) (by decide) (Nat.le_of_ble_eq_true rfl) ?_
  exact r_iretE dX8_write_55 rfl (rfl) (rfl)
theorem c_X8_count_bad (w : Int32) (h : Hp) (hw : w < 0 ∨ 8 < w ∨ w = 5 ∨ w = 6 ∨ w = 7) : Rn 0 MX8_count [.ref 0, .int w] h (EI (-2) h) := by
  refine rn_of mm_X8_count (le_b rfl) rfl ?_
  by_cases c : w < 0 ∨ 8 < w
  · have hx : w.toInt < 0 ∨ 8 < w.toInt := by
      rcases c with q | q
      · exact Or.inl (by have := Int32.lt_iff_toInt_lt.mp q; simpa using this)
      · exact Or.inr (by have := Int32.lt_iff_toInt_lt.mp q; simpa using this)
    refine r_iload1 dX8_count_0 ?_
    refine r_tabOut (tgt := 85) dX8_count_1 (hx) (by decide) ?_
    refine r_bipush bv_m2 dX8_count_85 ?_
    exact r_iretE dX8_count_87 rfl (rfl) (rfl)
  · have : w = 5 ∨ w = 6 ∨ w = 7 := by
      rcases hw with q | q | q
      · exact absurd (Or.inl q) c
      · exact absurd (Or.inr q) c
      · exact q
    rcases this with rfl | rfl | rfl
    · refine r_iload1 dX8_count_0 ?_
      refine r_tabIn (tgt := 85) dX8_count_1 (by decide) (by decide) (by rfl) (by decide) ?_
      refine r_bipush bv_m2 dX8_count_85 ?_
      exact r_iretE dX8_count_87 rfl (rfl) (rfl)
    · refine r_iload1 dX8_count_0 ?_
      refine r_tabIn (tgt := 85) dX8_count_1 (by decide) (by decide) (by rfl) (by decide) ?_
      refine r_bipush bv_m2 dX8_count_85 ?_
      exact r_iretE dX8_count_87 rfl (rfl) (rfl)
    · refine r_iload1 dX8_count_0 ?_
      refine r_tabIn (tgt := 85) dX8_count_1 (by decide) (by decide) (by rfl) (by decide) ?_
      refine r_bipush bv_m2 dX8_count_85 ?_
      exact r_iretE dX8_count_87 rfl (rfl) (rfl)
theorem c_X8_count0 (h : Hp) : Rn 0 MX8_count [.ref 0, .int 0] h (EI (h.1 0 7) h) := by
  refine rn_of mm_X8_count (le_b rfl) rfl ?_
  refine r_iload1 dX8_count_0 ?_
  refine r_tabIn (tgt := 52) dX8_count_1 (by decide) (by decide) (by rfl) (by decide) ?_
  refine r_aload0 dX8_count_52 ?_
  refine r_getI dX8_count_53 fl_X8_57 rfl rfl ?_
  exact r_iretE dX8_count_56 rfl (rfl) (rfl)
theorem c_X8_count1 (h : Hp) : Rn 0 MX8_count [.ref 0, .int 1] h (EI (h.1 0 8) h) := by
  refine rn_of mm_X8_count (le_b rfl) rfl ?_
  refine r_iload1 dX8_count_0 ?_
  refine r_tabIn (tgt := 57) dX8_count_1 (by decide) (by decide) (by rfl) (by decide) ?_
  refine r_aload0 dX8_count_57 ?_
  refine r_getI dX8_count_58 fl_X8_61 rfl rfl ?_
  exact r_iretE dX8_count_61 rfl (rfl) (rfl)
theorem c_X8_count2 (h : Hp) : Rn 0 MX8_count [.ref 0, .int 2] h (EI (h.1 1 8) h) := by
  refine rn_of mm_X8_count (le_b rfl) rfl ?_
  refine r_iload1 dX8_count_0 ?_
  refine r_tabIn (tgt := 62) dX8_count_1 (by decide) (by decide) (by rfl) (by decide) ?_
  refine r_aload0 dX8_count_62 ?_
  refine r_getR dX8_count_63 fl_X8_12 rfl rfl ?_
  refine r_getI dX8_count_66 fl_X8_76 rfl rfl ?_
  exact r_iretE dX8_count_69 rfl (rfl) (rfl)
theorem c_X8_count3 (h : Hp) : Rn 0 MX8_count [.ref 0, .int 3] h (EI (h.1 0 9) h) := by
  refine rn_of mm_X8_count (le_b rfl) rfl ?_
  refine r_iload1 dX8_count_0 ?_
  refine r_tabIn (tgt := 70) dX8_count_1 (by decide) (by decide) (by rfl) (by decide) ?_
  refine r_aload0 dX8_count_70 ?_
  refine r_getI dX8_count_71 fl_X8_97 rfl rfl ?_
  exact r_iretE dX8_count_74 rfl (rfl) (rfl)
theorem c_X8_count4 (h : Hp) (hS : SH4 h) : Rn 3 MX8_count [.ref 0, .int 4] h (EI (fThere h) h) := by
  refine rn_of mm_X8_count (le_b rfl) rfl ?_
  refine r_iload1 dX8_count_0 ?_
  refine r_tabIn (tgt := 75) dX8_count_1 (by decide) (by decide) (by rfl) (by decide) ?_
  refine r_aload0 dX8_count_75 ?_
  refine r_cV0I dX8_count_76 mm_X8_sheetsThere im_X8_sheetsThere se_X8_sheetsThere ml_X8_257 rfl rfl rfl (c_X8_sheetsThere h hS) (by decide) (Nat.le_of_ble_eq_true rfl) ?_
  exact r_iretE dX8_count_79 rfl (rfl) (rfl)
theorem c_X8_count8 (h : Hp) : Rn 0 MX8_count [.ref 0, .int 8] h (EI (h.1 0 10) h) := by
  refine rn_of mm_X8_count (le_b rfl) rfl ?_
  refine r_iload1 dX8_count_0 ?_
  refine r_tabIn (tgt := 80) dX8_count_1 (by decide) (by decide) (by rfl) (by decide) ?_
  refine r_aload0 dX8_count_80 ?_
  refine r_getI dX8_count_81 fl_X8_233 rfl rfl ?_
  exact r_iretE dX8_count_84 rfl (rfl) (rfl)
