/-! String.indexOf on the two constant texts -/
def txB (j : Nat) : List Int32 := ([cLE, cRU] : List (List Int32)).getD j []
def txN (j : Nat) : Nat := ([9, 3] : List Nat).getD j 0
/-- the first place from t on (k places left) that holds x -/
def iofA (j : Nat) (x : Int32) : Nat → Nat → Int32
  | 0, _ => -1
  | k + 1, t => if (txB j).getD t 0 = x then nI t else iofA j x k (t + 1)
def iof (j : Nat) (ch : Int32) : Int32 := iofA j ch.toInt8.toInt32 (txN j) 0
theorem txN_le {j : Nat} (hj : j < 2) : txN j ≤ 9 := by
  have : j = 0 ∨ j = 1 := by omega
  rcases this with rfl | rfl <;> decide
theorem c_J1_indexOfChar (j : Nat) (ch : Int32) (h : Hp) (hj : j < 2) : Rn 0 MJ1_indexOfChar_4cfef [.ref (66 + j), .int ch, .int 0, .int (nI (txN j))] h (EI (iof j ch) h) := by
  have hle := txN_le hj
  refine rn_of mm_J1_indexOfChar_4cfef (le_b rfl) rfl ?_
  refine r_iload1 dJ1_indexOfChar_4cfef_0 ?_
  refine r_i2b dJ1_indexOfChar_4cfef_1 ?_
  refine r_istore4 dJ1_indexOfChar_4cfef_2 rfl (by decide) ?_
  refine r_iload2 dJ1_indexOfChar_4cfef_4 ?_
  refine r_istore5 dJ1_indexOfChar_4cfef_5 rfl (by decide) ?_
  have key : ∀ k t, t + k = txN j → iofA j ch.toInt8.toInt32 k t = iof j ch → Aw 0 MJ1_indexOfChar_4cfef (Kp (EI (iof j ch) h)) 7 [some (.ref (66 + j)), some (.int ch), some (.int 0), some (.int (nI (txN j))), some (.int ch.toInt8.toInt32), some (.int (nI t))] [] h := by
    intro k
    induction k with
    | zero =>
      intro t ht he
      have : t = txN j := by omega
      subst this
      refine r_iload5 dJ1_indexOfChar_4cfef_7 ?_
      refine r_iload3 dJ1_indexOfChar_4cfef_9 ?_
      refine r_icmpge (tgt := 31) dJ1_indexOfChar_4cfef_10 (by decide) (fun _ => ?_) (fun c9 => absurd (Int32.le_refl _) c9)
      refine r_iconst_m1 dJ1_indexOfChar_4cfef_31 ?_
      exact r_iretE dJ1_indexOfChar_4cfef_32 rfl (he) (rfl)
    | succ k ih =>
      intro t ht he
      rw [iofA] at he
      refine r_iload5 dJ1_indexOfChar_4cfef_7 ?_
      refine r_iload3 dJ1_indexOfChar_4cfef_9 ?_
      refine r_icmpge (tgt := 31) dJ1_indexOfChar_4cfef_10 (by decide) (fun c9 => absurd c9 (nI_ge (by omega) (by omega))) (fun _ => ?_)
      refine r_aload0 dJ1_indexOfChar_4cfef_13 ?_
      refine r_iload5 dJ1_indexOfChar_4cfef_14 ?_
      refine r_bldT hj dJ1_indexOfChar_4cfef_16 (vp_in_nI (show t < txN j by omega) (show txN j < 2 ^ 31 by omega)) ?_
      rw [nI_clamp (by omega)]
      change Aw _ _ _ _ _ [.int ((txB j).getD t 0)] _
      refine r_iload4 dJ1_indexOfChar_4cfef_17 ?_
      refine r_icmpne (tgt := 25) dJ1_indexOfChar_4cfef_19 (by decide) (fun c => ?_) (fun c => ?_)
      · rw [if_neg c] at he
        refine r_iinc5_1 dJ1_indexOfChar_4cfef_25 rfl (by decide) ?_
        refine r_goto (tgt := 7) dJ1_indexOfChar_4cfef_28 (by decide) ?_
        rw [nI_1]
        exact ih (t + 1) (by omega) he
      · rw [if_pos c] at he
        refine r_iload5 dJ1_indexOfChar_4cfef_22 ?_
        exact r_iretE dJ1_indexOfChar_4cfef_24 rfl (he) (rfl)
  exact key (txN j) 0 (by omega) rfl
theorem c_J1_canEncode (ch : Int32) (h : Hp) (h1 : ¬ ch < 0) (h2 : ¬ 255 < ch) : Rn 0 MJ1_canEncode_9a6ad [.int ch] h (EI 1 h) := by
  refine rn_of mm_J1_canEncode_9a6ad (le_b rfl) rfl ?_
  refine r_iload0 dJ1_canEncode_9a6ad_0 ?_
  refine r_iflt (tgt := 15) dJ1_canEncode_9a6ad_1 (by decide) (fun c9 => absurd c9 (h1)) (fun _ => ?_)
  refine r_iload0 dJ1_canEncode_9a6ad_4 ?_
  refine r_sipush sv_255 dJ1_canEncode_9a6ad_5 ?_
  refine r_icmpgt (tgt := 15) dJ1_canEncode_9a6ad_8 (by decide) (fun c9 => absurd c9 (h2)) (fun _ => ?_)
  refine r_iconst_1 dJ1_canEncode_9a6ad_11 ?_
  refine r_goto (tgt := 16) dJ1_canEncode_9a6ad_12 (by decide) ?_
  exact r_zretE dJ1_canEncode_9a6ad_16 rfl (by decide) (rfl) (rfl)
theorem c_J0_isLatin1 (j : Nat) (h : Hp) (hj : j < 2) : Rn 0 MJ0_isLatin1_aae02 [.ref (64 + j)] h (EI 1 h) := by
  refine rn_of mm_J0_isLatin1_aae02 (le_b rfl) rfl ?_
  refine r_gsCS dJ0_isLatin1_aae02_0 sf_J0_38 ?_
  refine r_ifeq (tgt := 17) dJ0_isLatin1_aae02_3 (by decide) (fun c9 => absurd c9 (by decide)) (fun _ => ?_)
  refine r_aload0 dJ0_isLatin1_aae02_6 ?_
  refine r_scod hj dJ0_isLatin1_aae02_7 sf_J0_15 ?_
  refine r_ifne (tgt := 17) dJ0_isLatin1_aae02_10 (by decide) (fun c9 => absurd (rfl) c9) (fun _ => ?_)
  refine r_iconst_1 dJ0_isLatin1_aae02_13 ?_
  refine r_goto (tgt := 18) dJ0_isLatin1_aae02_14 (by decide) ?_
  exact r_zretE dJ0_isLatin1_aae02_18 rfl (by decide) (rfl) (rfl)
theorem c_J0_coder (j : Nat) (h : Hp) (hj : j < 2) : Rn 0 MJ0_coder_7d493 [.ref (64 + j)] h (EI 0 h) := by
  refine rn_of mm_J0_coder_7d493 (le_b rfl) rfl ?_
  refine r_gsCS dJ0_coder_7d493_0 sf_J0_38 ?_
  refine r_ifeq (tgt := 13) dJ0_coder_7d493_3 (by decide) (fun c9 => absurd c9 (by decide)) (fun _ => ?_)
  refine r_aload0 dJ0_coder_7d493_6 ?_
  refine r_scod hj dJ0_coder_7d493_7 sf_J0_15 ?_
  refine r_goto (tgt := 14) dJ0_coder_7d493_10 (by decide) ?_
  exact r_zret dJ0_coder_7d493_14 rfl (by decide) ⟨rfl, rfl⟩
theorem c_J0_length (j : Nat) (h : Hp) (hj : j < 2) : Rn 1 MJ0_length_8abf5 [.ref (64 + j)] h (EI (nI (txN j)) h) := by
  refine rn_of mm_J0_length_8abf5 (le_b rfl) rfl ?_
  refine r_aload0 dJ0_length_8abf5_0 ?_
  refine r_sval hj dJ0_length_8abf5_1 sf_J0_9 ?_
  refine r_alenT (v := nI (txN j)) hj dJ0_length_8abf5_4 rfl ?_
  refine r_aload0 dJ0_length_8abf5_5 ?_
  refine r_cT0I dJ0_length_8abf5_6 mm_J0_coder_7d493 im_J0_coder_7d493 se_J0_coder_7d493 ml_J0_335 hj rfl (c_J0_coder j h hj) (by decide) (Nat.le_of_ble_eq_true rfl) ?_
  refine r_ishr dJ0_length_8abf5_9 ?_
  have e : nI (txN j) >>> ((0 : Int32) &&& 31) = nI (txN j) := sb_shr0 _
  rw [e]
  exact r_iretE dJ0_length_8abf5_10 rfl (rfl) (rfl)
theorem c_J1_indexOf (j : Nat) (ch : Int32) (h : Hp) (hj : j < 2) (h1 : ¬ ch < 0) (h2 : ¬ 255 < ch) : Rn 1 MJ1_indexOf_4cfef [.ref (66 + j), .int ch, .int 0, .int (nI (txN j))] h (EI (iof j ch) h) := by
  refine rn_of mm_J1_indexOf_4cfef (le_b rfl) rfl ?_
  refine r_iload1 dJ1_indexOf_4cfef_0 ?_
  refine r_cS1I dJ1_indexOf_4cfef_1 mm_J1_canEncode_9a6ad st_J1_canEncode_9a6ad ml_J1_88 (c_J1_canEncode ch h h1 h2) (by decide) (Nat.le_of_ble_eq_true rfl) ?_
  refine r_ifne (tgt := 9) dJ1_indexOf_4cfef_4 (by decide) (fun _ => ?_) (fun c9 => absurd c9 (by decide))
  refine r_iload2 dJ1_indexOf_4cfef_9 ?_
  refine r_iconst_0 dJ1_indexOf_4cfef_10 ?_
  refine r_mmax dJ1_indexOf_4cfef_11 ml_J1_92 (by decide) (Nat.le_of_ble_eq_true rfl) ?_
  change Aw _ _ _ _ _ [.int 0] _
  refine r_istore2 dJ1_indexOf_4cfef_14 rfl (by decide) ?_
  refine r_iload3 dJ1_indexOf_4cfef_15 ?_
  refine r_aload0 dJ1_indexOf_4cfef_16 ?_
  refine r_alenT (v := nI (txN j)) hj dJ1_indexOf_4cfef_17 rfl ?_
  refine r_mmin dJ1_indexOf_4cfef_18 ml_J1_38 (by decide) (Nat.le_of_ble_eq_true rfl) ?_
  have e : (if nI (txN j) < nI (txN j) then nI (txN j) else nI (txN j)) = nI (txN j) := by split <;> rfl
  rw [e]
  have h3 : (0 : Int32) < nI (txN j) := by
    have : j = 0 ∨ j = 1 := by omega
    rcases this with rfl | rfl <;> decide
  refine r_istore3 dJ1_indexOf_4cfef_21 rfl (by decide) ?_
  refine r_iload2 dJ1_indexOf_4cfef_22 ?_
  refine r_iload3 dJ1_indexOf_4cfef_23 ?_
  refine r_icmplt (tgt := 29) dJ1_indexOf_4cfef_24 (by decide) (fun _ => ?_) (fun c9 => absurd (h3) c9)
  refine r_aload0 dJ1_indexOf_4cfef_29 ?_
  refine r_iload1 dJ1_indexOf_4cfef_30 ?_
  refine r_iload2 dJ1_indexOf_4cfef_31 ?_
  refine r_iload3 dJ1_indexOf_4cfef_32 ?_
  refine r_cS4I dJ1_indexOf_4cfef_33 mm_J1_indexOfChar_4cfef st_J1_indexOfChar_4cfef ml_J1_95 (c_J1_indexOfChar j ch h hj) (by decide) (Nat.le_of_ble_eq_true rfl) ?_
  exact r_iretE dJ1_indexOf_4cfef_36 rfl (rfl) (rfl)
theorem c_J0_indexOf2 (j : Nat) (ch : Int32) (h : Hp) (hj : j < 2) (h1 : ¬ ch < 0) (h2 : ¬ 255 < ch) : Rn 2 MJ0_indexOf_7cf53 [.ref (64 + j), .int ch, .int 0] h (EI (iof j ch) h) := by
  refine rn_of mm_J0_indexOf_7cf53 (le_b rfl) rfl ?_
  refine r_aload0 dJ0_indexOf_7cf53_0 ?_
  refine r_cT0I dJ0_indexOf_7cf53_1 mm_J0_isLatin1_aae02 im_J0_isLatin1_aae02 se_J0_isLatin1_aae02 ml_J0_492 hj rfl (c_J0_isLatin1 j h hj) (by decide) (Nat.le_of_ble_eq_true rfl) ?_
  refine r_ifeq (tgt := 23) dJ0_indexOf_7cf53_4 (by decide) (fun c9 => absurd c9 (by decide)) (fun _ => ?_)
  refine r_aload0 dJ0_indexOf_7cf53_7 ?_
  refine r_sval hj dJ0_indexOf_7cf53_8 sf_J0_9 ?_
  refine r_iload1 dJ0_indexOf_7cf53_11 ?_
  refine r_iload2 dJ0_indexOf_7cf53_12 ?_
  refine r_aload0 dJ0_indexOf_7cf53_13 ?_
  refine r_cT0I dJ0_indexOf_7cf53_14 mm_J0_length_8abf5 im_J0_length_8abf5 se_J0_length_8abf5 ml_J0_505 hj rfl (c_J0_length j h hj) (by decide) (Nat.le_of_ble_eq_true rfl) ?_
  refine r_cS4I dJ0_indexOf_7cf53_17 mm_J1_indexOf_4cfef st_J1_indexOf_4cfef ml_J0_637 (c_J1_indexOf j ch h hj h1 h2) (by decide) (Nat.le_of_ble_eq_true rfl) ?_
  refine r_goto (tgt := 36) dJ0_indexOf_7cf53_20 (by decide) ?_
  exact r_iretE dJ0_indexOf_7cf53_36 rfl (rfl) (rfl)
theorem c_J0_indexOf (j : Nat) (ch : Int32) (h : Hp) (hj : j < 2) (h1 : ¬ ch < 0) (h2 : ¬ 255 < ch) : Rn 3 MJ0_indexOf_0f7a4 [.ref (64 + j), .int ch] h (EI (iof j ch) h) := by
  refine rn_of mm_J0_indexOf_0f7a4 (le_b rfl) rfl ?_
  refine r_aload0 dJ0_indexOf_0f7a4_0 ?_
  refine r_iload1 dJ0_indexOf_0f7a4_1 ?_
  refine r_iconst_0 dJ0_indexOf_0f7a4_2 ?_
  refine r_cT2I dJ0_indexOf_0f7a4_3 mm_J0_indexOf_7cf53 im_J0_indexOf_7cf53 se_J0_indexOf_7cf53 ml_J0_633 hj rfl (c_J0_indexOf2 j ch h hj h1 h2) (by decide) (Nat.le_of_ble_eq_true rfl) ?_
  exact r_iretE dJ0_indexOf_0f7a4_6 rfl (rfl) (rfl)
