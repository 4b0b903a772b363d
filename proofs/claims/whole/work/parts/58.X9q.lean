/-! the reference: readsValue, readsClaim, reads -/
theorem rf_nI (bt : Nat → Nat) (n : Nat) : ∀ k a m, ∃ m', (rf bt n k a (nI m)).2 = nI m' ∧ m' + 1 ≤ (m + 1) * 10 ^ k := by
  intro k
  induction k with
  | zero => intro a m; exact ⟨m, rfl, by omega⟩
  | succ k ih =>
    intro a m
    rw [rf]
    cases hf : fgN bt n a with
    | none => exact ⟨m, rfl, by rw [Nat.pow_succ]; have : 0 < 10 ^ k := Nat.pow_pos (by decide); exact Nat.le_mul_of_pos_right _ (by omega)⟩
    | some d =>
      have hd := (fgN_le hf).2
      obtain ⟨m', e1, e2⟩ := ih (a + 1) (10 * m + d)
      have e : (10 : Int32) * nI m + nI d = nI (10 * m + d) := by
        rw [show (10 : Int32) = nI 10 from rfl, pk_mul, nI_add]
      refine ⟨m', ?_, ?_⟩
      · dsimp only
        rw [e]
        exact e1
      · rw [Nat.pow_succ]
        have : (10 * m + d + 1) * 10 ^ k ≤ ((m + 1) * 10) * 10 ^ k := Nat.mul_le_mul_right _ (by omega)
        have e3 : (m + 1) * (10 ^ k * 10) = (m + 1) * 10 * 10 ^ k := by rw [Nat.mul_comm (10 ^ k) 10, Nat.mul_assoc]
        omega
theorem b2i_01 (b : Bool) : b2i b = 0 ∨ b2i b = 1 := by
  cases b
  · exact Or.inl rfl
  · exact Or.inr rfl
theorem andF_f (c : CT) (f : CT → Bool × CT) : andF (false, c) f = (false, c) := rfl
theorem andF_t (c : CT) (f : CT → Bool × CT) : andF (true, c) f = f c := rfl
theorem rn_val (bt : Nat → Nat) (n i most : Nat) (c : CT) : rnF bt n i most c = (decide (0 < (rf bt n most (cAt c) 0).1), cA (cN c i (rf bt n most (cAt c) 0).2) (cAt c + (rf bt n most (cAt c) 0).1)) := by
  unfold rnF rfC
  have e : (cN c i 0).2.2.1 i = 0 := if_pos rfl
  rw [e]
  have e2 : cAt (cN c i 0) = cAt c := rfl
  rw [e2]
  unfold cN cA
  dsimp only
  rw [upd_upd]
theorem sk_t {bt : Nat → Nat} {n ch : Nat} {c : CT} (h : cAt c < n ∧ bt (cAt c) = ch) : skF bt n ch c = (true, cA c (cAt c + 1)) := if_pos h
theorem sk_n {bt : Nat → Nat} {n ch : Nat} {c : CT} (h : ¬ (cAt c < n ∧ bt (cAt c) = ch)) : skF bt n ch c = (false, c) := if_neg h
def vaF (bt : Nat → Nat) (n i : Nat) (c : CT) : Bool × CT := andF (andF (rnF bt n i 2 c) (rbF bt n i)) (fun x => (true, ruF bt n i x))
theorem c_X9_readsValue {h : Hp} {bt : Nat → Nat} {n : Nat} (hT : MTX h bt n) (c : CT) (i : Nat) (hc : cAt c < 2 ^ 28) (hi : i < 10) (h0 : c.2.2.2.2.1 i = 0) : ∃ c', cAt c' = cAt (vaF bt n i c).2 ∧ ((vaF bt n i c).1 = true → c' = (vaF bt n i c).2) ∧ Rn 2 MX9_readsValue [.ref 31] (mpH h c i) (EI (b2i (vaF bt n i c).1) (mpH h c' i)) := by
  unfold vaF
  rw [rn_val]
  have rg := c_X9_figures hT 2 0 c i (by omega) (by decide)
  obtain ⟨m1, hm1, bm1⟩ := rf_nI bt n 2 (cAt c) 0
  have hm1 : (rf bt n 2 (cAt c) 0).2 = nI m1 := hm1
  have hle : (rf bt n 2 (cAt c) 0).1 ≤ 2 := by
    have := rfC_1 (bt := bt) (n := n) (i := i) (most := 2) (c := cN c i 0)
    have e : (rfC bt n i 2 (cN c i 0)).1 = (rf bt n 2 (cAt c) 0).1 := by
      unfold rfC
      have e : (cN c i 0).2.2.1 i = 0 := if_pos rfl
      rw [e]
      rfl
    omega
  rw [hm1]
  rw [hm1] at rg
  generalize hk1 : (rf bt n 2 (cAt c) 0).1 = k1 at *
  by_cases z : k1 = 0
  · subst z
    rw [if_pos rfl] at rg
    refine ⟨cA c (cAt c + 0), rfl, fun q => Bool.noConfusion (show false = true from q), ?_⟩
    refine rn_of mm_X9_readsValue (le_b rfl) rfl ?_
    refine r_aload0 dX9_readsValue_0 ?_
    refine r_iconst_0 dX9_readsValue_1 ?_
    refine r_iconst_2 dX9_readsValue_2 ?_
    refine r_cV2I dX9_readsValue_3 mm_X9_figures im_X9_figures se_X9_figures ml_X9_125 rfl rfl rfl (rg) (by decide) (Nat.le_of_ble_eq_true rfl) ?_
    refine r_istore1 dX9_readsValue_6 rfl (by decide) ?_
    refine r_iload1 dX9_readsValue_7 ?_
    refine r_iconst_m1 dX9_readsValue_8 ?_
    refine r_icmpne (tgt := 14) dX9_readsValue_9 (by decide) (fun c9 => absurd (rfl) c9) (fun _ => ?_)
    refine r_iconst_0 dX9_readsValue_12 ?_
    exact r_zretE dX9_readsValue_13 rfl (by decide) (rfl) (rfl)
  · rw [if_neg z] at rg
    have hn1 := nI_nm1 (n := m1) (by omega)
    rw [show decide (0 < k1) = true from decide_eq_true (by omega), andF_t]
    have ea : cAt (cA c (cAt c + k1)) = cAt c + k1 := rfl
    have rm := c_X9_must hT 46 (cA c (cAt c + k1)) i (by rw [ea]; omega) (by decide)
    by_cases p : cAt c + k1 < n ∧ bt (cAt c + k1) = 46
    · rw [sk_t p] at rm
      have es : skF bt n 46 (cA (cN c i (nI m1)) (cAt c + k1)) = (true, cA (cN c i (nI m1)) (cAt c + k1 + 1)) := sk_t p
      have rg2 := c_X9_figures hT 2 (nI m1) (cA (cA c (cAt c + k1)) (cAt c + k1 + 1)) i (by show cAt c + k1 + 1 < 2 ^ 29; omega) (by decide)
      have ea2 : cAt (cA (cA c (cAt c + k1)) (cAt c + k1 + 1)) = cAt c + k1 + 1 := rfl
      rw [ea2] at rg2
      obtain ⟨m2, hm2, bm2⟩ := rf_nI bt n 2 (cAt c + k1 + 1) m1
      unfold rbF
      rw [es, if_pos rfl]
      dsimp only
      have er : rfC bt n i 2 (cA (cN c i (nI m1)) (cAt c + k1 + 1)) = ((rf bt n 2 (cAt c + k1 + 1) (nI m1)).1, cA (cN c i (nI m2)) (cAt c + k1 + 1 + (rf bt n 2 (cAt c + k1 + 1) (nI m1)).1)) := by
        unfold rfC
        have e : (cA (cN c i (nI m1)) (cAt c + k1 + 1)).2.2.1 i = nI m1 := if_pos rfl
        have e2 : cAt (cA (cN c i (nI m1)) (cAt c + k1 + 1)) = cAt c + k1 + 1 := rfl
        rw [e, e2, hm2]
        unfold cN cA
        dsimp only
        rw [upd_upd]
      have hk2 : (rf bt n 2 (cAt c + k1 + 1) (nI m1)).1 ≤ 2 := by
        have := rfC_1 (bt := bt) (n := n) (i := i) (most := 2) (c := cA (cN c i (nI m1)) (cAt c + k1 + 1))
        rw [er] at this
        exact this
      rw [er]
      rw [hm2] at rg2
      generalize (rf bt n 2 (cAt c + k1 + 1) (nI m1)).1 = k2 at *
      have hd : nI (cAt c + k1 + 1 + k2) - nI (cAt c + k1 + 1) = nI k2 := by rw [pk_sub (by omega)]; congr 1; omega
      have ebe : ∀ K v, Aw 2 MX9_readsValue K 50 [some (.ref 31), some (.int v), some (.int (nI (cAt c + k1 + 1)))] [] (mpH h (cB (cA c (cAt c + k1 + 1 + k2)) i (nI k2)) i) → Aw 2 MX9_readsValue K 35 [some (.ref 31), some (.int v), some (.int (nI (cAt c + k1 + 1)))] [] (mpH h (cA c (cAt c + k1 + 1 + k2)) i) := by
        intro K v kk
        refine r_aload0 dX9_readsValue_35 ?_
        refine r_getR dX9_readsValue_36 fl_X9_41 rfl rfl ?_
        refine r_aload0 dX9_readsValue_39 ?_
        refine r_getI dX9_readsValue_40 fl_X9_120 rfl rfl ?_
        rw [mp_cl]
        refine r_aload0 dX9_readsValue_43 ?_
        refine r_getI dX9_readsValue_44 fl_X9_109 rfl rfl ?_
        rw [mp_at]
        refine r_iload2 dX9_readsValue_47 ?_
        refine r_isub dX9_readsValue_48 ?_
        rw [show cAt (cA c (cAt c + k1 + 1 + k2)) = cAt c + k1 + 1 + k2 from rfl, hd]
        refine r_iastN dX9_readsValue_49 rfl hi ?_
        rw [mp_B]
        exact kk
      by_cases z2 : k2 = 0
      · subst z2
        rw [if_pos rfl] at rg2
        refine ⟨cB (cA c (cAt c + k1 + 1 + 0)) i (nI 0), rfl, fun q => Bool.noConfusion (show false = true from q), ?_⟩
        refine rn_of mm_X9_readsValue (le_b rfl) rfl ?_
        refine r_aload0 dX9_readsValue_0 ?_
        refine r_iconst_0 dX9_readsValue_1 ?_
        refine r_iconst_2 dX9_readsValue_2 ?_
        refine r_cV2I dX9_readsValue_3 mm_X9_figures im_X9_figures se_X9_figures ml_X9_125 rfl rfl rfl (rg) (by decide) (Nat.le_of_ble_eq_true rfl) ?_
        refine r_istore1 dX9_readsValue_6 rfl (by decide) ?_
        refine r_iload1 dX9_readsValue_7 ?_
        refine r_iconst_m1 dX9_readsValue_8 ?_
        refine r_icmpne (tgt := 14) dX9_readsValue_9 (by decide) (fun _ => ?_) (fun c9 => absurd c9 (hn1))
        refine r_aload0 dX9_readsValue_14 ?_
        refine r_bipush bv_46 dX9_readsValue_15 ?_
        refine r_cV1I dX9_readsValue_17 mm_X9_must im_X9_must se_X9_must ml_X9_128 rfl rfl rfl (rm) (by decide) (Nat.le_of_ble_eq_true rfl) ?_
        refine r_ifeq (tgt := 57) dX9_readsValue_20 (by decide) (fun c9 => absurd c9 ((by decide : ¬ (1 : Int32) = 0))) (fun _ => ?_)
        refine r_aload0 dX9_readsValue_23 ?_
        refine r_getI dX9_readsValue_24 fl_X9_109 rfl rfl ?_
        rw [mp_at]
        refine r_istore2 dX9_readsValue_27 rfl (by decide) ?_
        refine r_aload0 dX9_readsValue_28 ?_
        refine r_iload1 dX9_readsValue_29 ?_
        refine r_iconst_2 dX9_readsValue_30 ?_
        refine r_cV2I dX9_readsValue_31 mm_X9_figures im_X9_figures se_X9_figures ml_X9_125 rfl rfl rfl (rg2) (by decide) (Nat.le_of_ble_eq_true rfl) ?_
        refine r_istore1 dX9_readsValue_34 rfl (by decide) ?_
        refine ebe _ _ ?_
        refine r_iload1 dX9_readsValue_50 ?_
        refine r_iconst_m1 dX9_readsValue_51 ?_
        refine r_icmpne (tgt := 57) dX9_readsValue_52 (by decide) (fun c9 => absurd (rfl) c9) (fun _ => ?_)
        refine r_iconst_0 dX9_readsValue_55 ?_
        exact r_zretE dX9_readsValue_56 rfl (by decide) (rfl) (rfl)
      · rw [if_neg z2] at rg2
        have hn2 := nI_nm1 (n := m2) (by omega)
        rw [show decide (0 < k2) = true from decide_eq_true (by omega), andF_t]
        have hu : cAt (cB (cA (cN c i (nI m2)) (cAt c + k1 + 1 + k2)) i (nI k2)) = cAt c + k1 + 1 + k2 := rfl
        refine ⟨_, rfl, fun _ => rfl, ?_⟩
        refine rn_of mm_X9_readsValue (le_b rfl) rfl ?_
        refine r_aload0 dX9_readsValue_0 ?_
        refine r_iconst_0 dX9_readsValue_1 ?_
        refine r_iconst_2 dX9_readsValue_2 ?_
        refine r_cV2I dX9_readsValue_3 mm_X9_figures im_X9_figures se_X9_figures ml_X9_125 rfl rfl rfl (rg) (by decide) (Nat.le_of_ble_eq_true rfl) ?_
        refine r_istore1 dX9_readsValue_6 rfl (by decide) ?_
        refine r_iload1 dX9_readsValue_7 ?_
        refine r_iconst_m1 dX9_readsValue_8 ?_
        refine r_icmpne (tgt := 14) dX9_readsValue_9 (by decide) (fun _ => ?_) (fun c9 => absurd c9 (hn1))
        refine r_aload0 dX9_readsValue_14 ?_
        refine r_bipush bv_46 dX9_readsValue_15 ?_
        refine r_cV1I dX9_readsValue_17 mm_X9_must im_X9_must se_X9_must ml_X9_128 rfl rfl rfl (rm) (by decide) (Nat.le_of_ble_eq_true rfl) ?_
        refine r_ifeq (tgt := 57) dX9_readsValue_20 (by decide) (fun c9 => absurd c9 ((by decide : ¬ (1 : Int32) = 0))) (fun _ => ?_)
        refine r_aload0 dX9_readsValue_23 ?_
        refine r_getI dX9_readsValue_24 fl_X9_109 rfl rfl ?_
        rw [mp_at]
        refine r_istore2 dX9_readsValue_27 rfl (by decide) ?_
        refine r_aload0 dX9_readsValue_28 ?_
        refine r_iload1 dX9_readsValue_29 ?_
        refine r_iconst_2 dX9_readsValue_30 ?_
        refine r_cV2I dX9_readsValue_31 mm_X9_figures im_X9_figures se_X9_figures ml_X9_125 rfl rfl rfl (rg2) (by decide) (Nat.le_of_ble_eq_true rfl) ?_
        refine r_istore1 dX9_readsValue_34 rfl (by decide) ?_
        refine ebe _ _ ?_
        refine r_iload1 dX9_readsValue_50 ?_
        refine r_iconst_m1 dX9_readsValue_51 ?_
        refine r_icmpne (tgt := 57) dX9_readsValue_52 (by decide) (fun _ => ?_) (fun c9 => absurd c9 (hn2))
        refine r_aload0 dX9_readsValue_57 ?_
        refine r_getR dX9_readsValue_58 fl_X9_38 rfl rfl ?_
        refine r_aload0 dX9_readsValue_61 ?_
        refine r_getI dX9_readsValue_62 fl_X9_120 rfl rfl ?_
        rw [mp_cl]
        refine r_iload1 dX9_readsValue_65 ?_
        refine r_iastN dX9_readsValue_66 rfl hi ?_
        rw [mp_N]
        refine r_aload0 dX9_readsValue_67 ?_
        refine r_cV0V dX9_readsValue_68 mm_X9_readsRule im_X9_readsRule se_X9_readsRule ml_X9_131 rfl rfl rfl (c_X9_readsRule hT (cB (cA (cN c i (nI m2)) (cAt c + k1 + 1 + k2)) i (nI k2)) i (by rw [hu]; omega) hi h0) (by decide) (Nat.le_of_ble_eq_true rfl) ?_
        refine r_iconst_1 dX9_readsValue_71 ?_
        exact r_zretE dX9_readsValue_72 rfl (by decide) (rfl) (rfl)
    · rw [sk_n p] at rm
      have es : skF bt n 46 (cA (cN c i (nI m1)) (cAt c + k1)) = (false, cA (cN c i (nI m1)) (cAt c + k1)) := sk_n p
      unfold rbF
      rw [es, if_neg (show ¬ (false = true) by decide), andF_t]
      refine ⟨_, rfl, fun _ => rfl, ?_⟩
      refine rn_of mm_X9_readsValue (le_b rfl) rfl ?_
      refine r_aload0 dX9_readsValue_0 ?_
      refine r_iconst_0 dX9_readsValue_1 ?_
      refine r_iconst_2 dX9_readsValue_2 ?_
      refine r_cV2I dX9_readsValue_3 mm_X9_figures im_X9_figures se_X9_figures ml_X9_125 rfl rfl rfl (rg) (by decide) (Nat.le_of_ble_eq_true rfl) ?_
      refine r_istore1 dX9_readsValue_6 rfl (by decide) ?_
      refine r_iload1 dX9_readsValue_7 ?_
      refine r_iconst_m1 dX9_readsValue_8 ?_
      refine r_icmpne (tgt := 14) dX9_readsValue_9 (by decide) (fun _ => ?_) (fun c9 => absurd c9 (hn1))
      refine r_aload0 dX9_readsValue_14 ?_
      refine r_bipush bv_46 dX9_readsValue_15 ?_
      refine r_cV1I dX9_readsValue_17 mm_X9_must im_X9_must se_X9_must ml_X9_128 rfl rfl rfl (rm) (by decide) (Nat.le_of_ble_eq_true rfl) ?_
      refine r_ifeq (tgt := 57) dX9_readsValue_20 (by decide) (fun _ => ?_) (fun c9 => absurd (rfl) c9)
      refine r_aload0 dX9_readsValue_57 ?_
      refine r_getR dX9_readsValue_58 fl_X9_38 rfl rfl ?_
      refine r_aload0 dX9_readsValue_61 ?_
      refine r_getI dX9_readsValue_62 fl_X9_120 rfl rfl ?_
      rw [mp_cl]
      refine r_iload1 dX9_readsValue_65 ?_
      refine r_iastN dX9_readsValue_66 rfl hi ?_
      rw [mp_N]
      refine r_aload0 dX9_readsValue_67 ?_
      refine r_cV0V dX9_readsValue_68 mm_X9_readsRule im_X9_readsRule se_X9_readsRule ml_X9_131 rfl rfl rfl (c_X9_readsRule hT (cA (cN c i (nI m1)) (cAt c + k1)) i (by show cAt c + k1 < 2 ^ 29; omega) hi h0) (by decide) (Nat.le_of_ble_eq_true rfl) ?_
      refine r_iconst_1 dX9_readsValue_71 ?_
      exact r_zretE dX9_readsValue_72 rfl (by decide) (rfl) (rfl)
theorem mk_r {bt : Nat → Nat} {n i : Nat} {c : CT} : (mkF bt n i c).2.2.2.2.2.1 = c.2.2.2.2.1 := by
  unfold mkF
  split
  · split <;> rfl
  · rfl
theorem sk_r {bt : Nat → Nat} {n ch : Nat} {c : CT} : (skF bt n ch c).2.2.2.2.2.1 = c.2.2.2.2.1 := by
  unfold skF
  split <;> rfl

set_option maxHeartbeats 1000000 in
theorem c_X9_readsClaim {h : Hp} {bt : Nat → Nat} {n : Nat} (hT : MTX h bt n) (c : CT) (i : Nat) (hc : cAt c < 2 ^ 27) (hi : i < 10) : ∃ c', cAt c' = cAt (rcF bt n i c).2 ∧ ((rcF bt n i c).1 = true → c' = (rcF bt n i c).2) ∧ Rn 3 MX9_readsClaim [.ref 31] (mpH h c i) (EI (b2i (rcF bt n i c).1) (mpH h c' i)) := by
  have rk := c_X9_kindOf (bt := bt) (n := n) (a := cAt c) (mpH h c i) (hb_of hT _)
  have rh := c_X9_here hT c i (by omega)
  unfold rcF
  rcases ruN_d bt n 0 (cAt c) (by decide) (hb_of hT _) with hlt | ⟨d, hd, ed⟩
  · have em := ruN_m1 (by decide) (hb_of hT (cAt c)) hlt
    rw [if_pos hlt]
    refine ⟨c, rfl, fun q => Bool.noConfusion (show false = true from q), ?_⟩
    refine rn_of mm_X9_readsClaim (le_b rfl) rfl ?_
    refine r_aload0 dX9_readsClaim_0 ?_
    refine r_cV0I dX9_readsClaim_1 mm_X9_here im_X9_here se_X9_here ml_X9_112 rfl rfl rfl (rh) (by decide) (Nat.le_of_ble_eq_true rfl) ?_
    refine r_cS1I dX9_readsClaim_4 mm_X9_kindOf st_X9_kindOf ml_X9_134 (rk) (by decide) (Nat.le_of_ble_eq_true rfl) ?_
    refine r_istore1 dX9_readsClaim_7 rfl (by decide) ?_
    refine r_iload1 dX9_readsClaim_8 ?_
    refine r_iconst_m1 dX9_readsClaim_9 ?_
    refine r_icmpne (tgt := 15) dX9_readsClaim_10 (by decide) (fun c9 => absurd (em) c9) (fun _ => ?_)
    refine r_iconst_0 dX9_readsClaim_13 ?_
    exact r_zretE dX9_readsClaim_14 rfl (by decide) (rfl) (rfl)
  · rw [ed] at rk ⊢
    rw [if_neg (nI_pos (by omega))]
    generalize hc0 : c0F c i (nI d) = c0
    have h00 : c0.2.2.2.2.1 i = 0 := by rw [← hc0]; exact if_pos rfl
    have ha0 : cAt c0 = cAt c + 1 := by rw [← hc0]; rfl
    have pre : ∀ P, Aw 3 MX9_readsClaim P 75 [some (.ref 31), some (.int (nI d))] [] (mpH h c0 i) → Aw 3 MX9_readsClaim P 0 [some (.ref 31), none] [] (mpH h c i) := by
      intro P kk
      refine r_aload0 dX9_readsClaim_0 ?_
      refine r_cV0I dX9_readsClaim_1 mm_X9_here im_X9_here se_X9_here ml_X9_112 rfl rfl rfl (rh) (by decide) (Nat.le_of_ble_eq_true rfl) ?_
      refine r_cS1I dX9_readsClaim_4 mm_X9_kindOf st_X9_kindOf ml_X9_134 (rk) (by decide) (Nat.le_of_ble_eq_true rfl) ?_
      refine r_istore1 dX9_readsClaim_7 rfl (by decide) ?_
      refine r_iload1 dX9_readsClaim_8 ?_
      refine r_iconst_m1 dX9_readsClaim_9 ?_
      refine r_icmpne (tgt := 15) dX9_readsClaim_10 (by decide) (fun _ => ?_) (fun c9 => absurd c9 (nI_nm1 (by omega)))
      refine r_aload0 dX9_readsClaim_15 ?_
      refine r_dup rfl dX9_readsClaim_16 ?_
      refine r_getI dX9_readsClaim_17 fl_X9_109 rfl rfl ?_
      refine r_iconst_1 dX9_readsClaim_20 ?_
      refine r_iadd dX9_readsClaim_21 ?_
      rw [mp_at, nI_1]
      refine r_putI dX9_readsClaim_22 fw_X9_109 rfl rfl ?_
      rw [mp_A]
      refine r_aload0 dX9_readsClaim_25 ?_
      refine r_getR dX9_readsClaim_26 fl_X9_32 rfl rfl ?_
      refine r_aload0 dX9_readsClaim_29 ?_
      refine r_getI dX9_readsClaim_30 fl_X9_120 rfl rfl ?_
      rw [mp_cl]
      refine r_iload1 dX9_readsClaim_33 ?_
      refine r_iastN dX9_readsClaim_34 rfl hi ?_
      rw [mp_K]
      refine r_aload0 dX9_readsClaim_35 ?_
      refine r_getR dX9_readsClaim_36 fl_X9_35 rfl rfl ?_
      refine r_aload0 dX9_readsClaim_39 ?_
      refine r_getI dX9_readsClaim_40 fl_X9_120 rfl rfl ?_
      rw [mp_cl]
      refine r_iconst_m1 dX9_readsClaim_43 ?_
      refine r_iastN dX9_readsClaim_44 rfl hi ?_
      rw [mp_M]
      refine r_aload0 dX9_readsClaim_45 ?_
      refine r_getR dX9_readsClaim_46 fl_X9_38 rfl rfl ?_
      refine r_aload0 dX9_readsClaim_49 ?_
      refine r_getI dX9_readsClaim_50 fl_X9_120 rfl rfl ?_
      rw [mp_cl]
      refine r_iconst_m1 dX9_readsClaim_53 ?_
      refine r_iastN dX9_readsClaim_54 rfl hi ?_
      rw [mp_N]
      refine r_aload0 dX9_readsClaim_55 ?_
      refine r_getR dX9_readsClaim_56 fl_X9_41 rfl rfl ?_
      refine r_aload0 dX9_readsClaim_59 ?_
      refine r_getI dX9_readsClaim_60 fl_X9_120 rfl rfl ?_
      rw [mp_cl]
      refine r_iconst_0 dX9_readsClaim_63 ?_
      refine r_iastN dX9_readsClaim_64 rfl hi ?_
      rw [mp_B]
      refine r_aload0 dX9_readsClaim_65 ?_
      refine r_getR dX9_readsClaim_66 fl_X9_44 rfl rfl ?_
      refine r_aload0 dX9_readsClaim_69 ?_
      refine r_getI dX9_readsClaim_70 fl_X9_120 rfl rfl ?_
      rw [mp_cl]
      refine r_iconst_0 dX9_readsClaim_73 ?_
      refine r_iastN dX9_readsClaim_74 rfl hi ?_
      rw [mp_R]
      rw [← hc0] at kk
      exact kk
    have num : ∀ (most : Nat) (c2 : CT), most ≤ 3 → (d = 4 ∧ most = 2 ∨ d = 5 ∧ most = 3) → cAt c2 < 2 ^ 28 → ∃ v k, (rf bt n most (cAt c2) 0).1 = k ∧ (rf bt n most (cAt c2) 0).2 = nI v ∧ v < 2 ^ 31 ∧ k ≤ 3 ∧ ∀ P, ((k = 0 → Aw 3 MX9_readsClaim P 162 [some (.ref 31), some (.int (nI d))] [] (mpH h (cN (cA c2 (cAt c2 + k)) i (-1)) i)) → (¬ k = 0 → Aw 3 MX9_readsClaim P 164 [some (.ref 31), some (.int (nI d))] [] (mpH h (cN (cA c2 (cAt c2 + k)) i (nI v)) i)) → Aw 3 MX9_readsClaim P 125 [some (.ref 31), some (.int (nI d))] [] (mpH h c2 i)) := by
      intro most c2 hmo hdm hc2
      obtain ⟨v, hv, bv⟩ := rf_nI bt n most (cAt c2) 0
      have hv : (rf bt n most (cAt c2) 0).2 = nI v := hv
      have rg := c_X9_figures hT most 0 c2 i (by omega) (by omega)
      have hp : 10 ^ most ≤ 10 ^ 3 := Nat.pow_le_pow_right (by decide) hmo
      have hk : (rf bt n most (cAt c2) 0).1 ≤ most := by
        have := rfC_1 (bt := bt) (n := n) (i := i) (most := most) (c := cN c2 i 0)
        have e : (rfC bt n i most (cN c2 i 0)).1 = (rf bt n most (cAt c2) 0).1 := by
          unfold rfC
          have e : (cN c2 i 0).2.2.1 i = 0 := if_pos rfl
          rw [e]
          rfl
        omega
      refine ⟨v, _, rfl, hv, by omega, by omega, ?_⟩
      rw [hv] at rg
      generalize (rf bt n most (cAt c2) 0).1 = k at *
      intro P k1 k2
      have en : ∀ x, (mpH h (cN (cA c2 (cAt c2 + k)) i x) i).1 39 i = x := fun x => by rw [mp_num]; exact if_pos rfl
      have tail : ∀ x, (if k = 0 then -1 else nI v) = x → Aw 3 MX9_readsClaim P 148 [some (.ref 31), some (.int (nI d))] [.int x, .int (nI i), .ref 39] (mpH h (cA c2 (cAt c2 + k)) i) := by
        intro x hx
        refine r_iastN dX9_readsClaim_148 rfl hi ?_
        rw [mp_N]
        refine r_aload0 dX9_readsClaim_149 ?_
        refine r_getR dX9_readsClaim_150 fl_X9_38 rfl rfl ?_
        refine r_aload0 dX9_readsClaim_153 ?_
        refine r_getI dX9_readsClaim_154 fl_X9_120 rfl rfl ?_
        rw [mp_cl]
        refine r_ialdN dX9_readsClaim_157 rfl hi ?_
        rw [en]
        by_cases z : k = 0
        · rw [if_pos z] at hx
          subst hx
          refine r_iconst_m1 dX9_readsClaim_158 ?_
          refine r_icmpne (tgt := 164) dX9_readsClaim_159 (by decide) (fun c9 => absurd (rfl) c9) (fun _ => ?_)
          exact k1 z
        · rw [if_neg z] at hx
          subst hx
          refine r_iconst_m1 dX9_readsClaim_158 ?_
          refine r_icmpne (tgt := 164) dX9_readsClaim_159 (by decide) (fun _ => ?_) (fun c9 => absurd c9 (nI_nm1 (by omega)))
          exact k2 z
      refine r_aload0 dX9_readsClaim_125 ?_
      refine r_getR dX9_readsClaim_126 fl_X9_38 rfl rfl ?_
      refine r_aload0 dX9_readsClaim_129 ?_
      refine r_getI dX9_readsClaim_130 fl_X9_120 rfl rfl ?_
      rw [mp_cl]
      rcases hdm with ⟨rfl, rfl⟩ | ⟨rfl, rfl⟩
      · refine r_aload0 dX9_readsClaim_133 ?_
        refine r_iconst_0 dX9_readsClaim_134 ?_
        refine r_iload1 dX9_readsClaim_135 ?_
        refine r_iconst_4 dX9_readsClaim_136 ?_
        refine r_icmpne (tgt := 144) dX9_readsClaim_137 (by decide) (fun c9 => absurd (rfl) c9) (fun _ => ?_)
        refine r_iconst_2 dX9_readsClaim_140 ?_
        refine r_goto (tgt := 145) dX9_readsClaim_141 (by decide) ?_
        refine r_cV2I dX9_readsClaim_145 mm_X9_figures im_X9_figures se_X9_figures ml_X9_125 rfl rfl rfl (rg) (by decide) (Nat.le_of_ble_eq_true rfl) ?_
        exact tail _ rfl
      · refine r_aload0 dX9_readsClaim_133 ?_
        refine r_iconst_0 dX9_readsClaim_134 ?_
        refine r_iload1 dX9_readsClaim_135 ?_
        refine r_iconst_4 dX9_readsClaim_136 ?_
        refine r_icmpne (tgt := 144) dX9_readsClaim_137 (by decide) (fun _ => ?_) (fun c9 => absurd c9 (by decide))
        refine r_iconst_3 dX9_readsClaim_144 ?_
        refine r_cV2I dX9_readsClaim_145 mm_X9_figures im_X9_figures se_X9_figures ml_X9_125 rfl rfl rfl (rg) (by decide) (Nat.le_of_ble_eq_true rfl) ?_
        exact tail _ rfl
    by_cases d4 : d = 4
    · subst d4
      rw [if_pos (show nI 4 = 4 from rfl)]
      have rm := c_X9_readsMark hT c0 i (by omega) hi
      have am := mkF_at (bt := bt) (n := n) (i := i) (c := c0)
      generalize mkF bt n i c0 = X at *
      rcases X with ⟨_ | _, c1⟩
      · rw [andF_f, andF_f]
        refine ⟨c1, rfl, fun _ => rfl, ?_⟩
        refine rn_of mm_X9_readsClaim (le_b rfl) rfl (pre _ ?_)
        refine r_iload1 dX9_readsClaim_75 ?_
        refine r_iconst_4 dX9_readsClaim_76 ?_
        refine r_icmpeq (tgt := 85) dX9_readsClaim_77 (by decide) (fun _ => ?_) (fun c9 => absurd (rfl) c9)
        refine r_aload0 dX9_readsClaim_85 ?_
        refine r_cV0I dX9_readsClaim_86 mm_X9_readsMark im_X9_readsMark se_X9_readsMark ml_X9_137 rfl rfl rfl (rm) (by decide) (Nat.le_of_ble_eq_true rfl) ?_
        refine r_ifne (tgt := 94) dX9_readsClaim_89 (by decide) (fun c9 => absurd (rfl) c9) (fun _ => ?_)
        refine r_iconst_0 dX9_readsClaim_92 ?_
        exact r_zretE dX9_readsClaim_93 rfl (by decide) (rfl) (rfl)
      · have am : cAt c1 ≤ cAt c0 + 1 := am
        rw [andF_t]
        have rs := c_X9_must hT 61 c1 i (by omega) (by decide)
        have as := skF_at (bt := bt) (n := n) (ch := 61) (c := c1)
        generalize skF bt n 61 c1 = X at *
        rcases X with ⟨_ | _, c2⟩
        · rw [andF_f]
          refine ⟨c2, rfl, fun _ => rfl, ?_⟩
          refine rn_of mm_X9_readsClaim (le_b rfl) rfl (pre _ ?_)
          refine r_iload1 dX9_readsClaim_75 ?_
          refine r_iconst_4 dX9_readsClaim_76 ?_
          refine r_icmpeq (tgt := 85) dX9_readsClaim_77 (by decide) (fun _ => ?_) (fun c9 => absurd (rfl) c9)
          refine r_aload0 dX9_readsClaim_85 ?_
          refine r_cV0I dX9_readsClaim_86 mm_X9_readsMark im_X9_readsMark se_X9_readsMark ml_X9_137 rfl rfl rfl (rm) (by decide) (Nat.le_of_ble_eq_true rfl) ?_
          refine r_ifne (tgt := 94) dX9_readsClaim_89 (by decide) (fun _ => ?_) (fun c9 => absurd c9 ((by decide : ¬ (1 : Int32) = 0)))
          refine r_aload0 dX9_readsClaim_94 ?_
          refine r_bipush bv_61 dX9_readsClaim_95 ?_
          refine r_cV1I dX9_readsClaim_97 mm_X9_must im_X9_must se_X9_must ml_X9_128 rfl rfl rfl (rs) (by decide) (Nat.le_of_ble_eq_true rfl) ?_
          refine r_ifne (tgt := 105) dX9_readsClaim_100 (by decide) (fun c9 => absurd (rfl) c9) (fun _ => ?_)
          refine r_iconst_0 dX9_readsClaim_103 ?_
          exact r_zretE dX9_readsClaim_104 rfl (by decide) (rfl) (rfl)
        · have as : cAt c2 ≤ cAt c1 + 1 := as
          rw [andF_t, rn_val]
          obtain ⟨v, k, hk, hv, bv, bk, nu⟩ := num 2 c2 (by decide) (Or.inl ⟨rfl, rfl⟩) (by omega)
          rw [hk, hv]
          by_cases z : k = 0
          · subst z
            refine ⟨cN (cA c2 (cAt c2 + 0)) i (-1), rfl, fun q => Bool.noConfusion (show false = true from q), ?_⟩
            refine rn_of mm_X9_readsClaim (le_b rfl) rfl (pre _ ?_)
            refine r_iload1 dX9_readsClaim_75 ?_
            refine r_iconst_4 dX9_readsClaim_76 ?_
            refine r_icmpeq (tgt := 85) dX9_readsClaim_77 (by decide) (fun _ => ?_) (fun c9 => absurd (rfl) c9)
            refine r_aload0 dX9_readsClaim_85 ?_
            refine r_cV0I dX9_readsClaim_86 mm_X9_readsMark im_X9_readsMark se_X9_readsMark ml_X9_137 rfl rfl rfl (rm) (by decide) (Nat.le_of_ble_eq_true rfl) ?_
            refine r_ifne (tgt := 94) dX9_readsClaim_89 (by decide) (fun _ => ?_) (fun c9 => absurd c9 ((by decide : ¬ (1 : Int32) = 0)))
            refine r_aload0 dX9_readsClaim_94 ?_
            refine r_bipush bv_61 dX9_readsClaim_95 ?_
            refine r_cV1I dX9_readsClaim_97 mm_X9_must im_X9_must se_X9_must ml_X9_128 rfl rfl rfl (rs) (by decide) (Nat.le_of_ble_eq_true rfl) ?_
            refine r_ifne (tgt := 105) dX9_readsClaim_100 (by decide) (fun _ => ?_) (fun c9 => absurd c9 ((by decide : ¬ (1 : Int32) = 0)))
            refine r_iload1 dX9_readsClaim_105 ?_
            refine r_iconst_4 dX9_readsClaim_106 ?_
            refine r_icmpge (tgt := 115) dX9_readsClaim_107 (by decide) (fun _ => ?_) (fun c9 => absurd (by decide) c9)
            refine r_iload1 dX9_readsClaim_115 ?_
            refine r_iconst_5 dX9_readsClaim_116 ?_
            refine r_icmple (tgt := 125) dX9_readsClaim_117 (by decide) (fun _ => ?_) (fun c9 => absurd (by decide) c9)
            refine nu _ (fun _ => ?_) (fun q => absurd rfl q)
            refine r_iconst_0 dX9_readsClaim_162 ?_
            exact r_zretE dX9_readsClaim_163 rfl (by decide) (rfl) (rfl)
          · rw [show decide (0 < k) = true from decide_eq_true (by omega)]
            refine ⟨_, rfl, fun _ => rfl, ?_⟩
            refine rn_of mm_X9_readsClaim (le_b rfl) rfl (pre _ ?_)
            refine r_iload1 dX9_readsClaim_75 ?_
            refine r_iconst_4 dX9_readsClaim_76 ?_
            refine r_icmpeq (tgt := 85) dX9_readsClaim_77 (by decide) (fun _ => ?_) (fun c9 => absurd (rfl) c9)
            refine r_aload0 dX9_readsClaim_85 ?_
            refine r_cV0I dX9_readsClaim_86 mm_X9_readsMark im_X9_readsMark se_X9_readsMark ml_X9_137 rfl rfl rfl (rm) (by decide) (Nat.le_of_ble_eq_true rfl) ?_
            refine r_ifne (tgt := 94) dX9_readsClaim_89 (by decide) (fun _ => ?_) (fun c9 => absurd c9 ((by decide : ¬ (1 : Int32) = 0)))
            refine r_aload0 dX9_readsClaim_94 ?_
            refine r_bipush bv_61 dX9_readsClaim_95 ?_
            refine r_cV1I dX9_readsClaim_97 mm_X9_must im_X9_must se_X9_must ml_X9_128 rfl rfl rfl (rs) (by decide) (Nat.le_of_ble_eq_true rfl) ?_
            refine r_ifne (tgt := 105) dX9_readsClaim_100 (by decide) (fun _ => ?_) (fun c9 => absurd c9 ((by decide : ¬ (1 : Int32) = 0)))
            refine r_iload1 dX9_readsClaim_105 ?_
            refine r_iconst_4 dX9_readsClaim_106 ?_
            refine r_icmpge (tgt := 115) dX9_readsClaim_107 (by decide) (fun _ => ?_) (fun c9 => absurd (by decide) c9)
            refine r_iload1 dX9_readsClaim_115 ?_
            refine r_iconst_5 dX9_readsClaim_116 ?_
            refine r_icmple (tgt := 125) dX9_readsClaim_117 (by decide) (fun _ => ?_) (fun c9 => absurd (by decide) c9)
            refine nu _ (fun q => absurd q z) (fun _ => ?_)
            refine r_iload1 dX9_readsClaim_164 ?_
            refine r_iconst_5 dX9_readsClaim_165 ?_
            refine r_icmpne (tgt := 184) dX9_readsClaim_166 (by decide) (fun _ => ?_) (fun c9 => absurd c9 (by decide))
            refine r_iconst_1 dX9_readsClaim_184 ?_
            exact r_zretE dX9_readsClaim_185 rfl (by decide) (rfl) (rfl)
    · have nd4 : ¬ nI d = 4 := fun q => d4 ((nI_eq (b := 4) (by omega) (by decide)).mp q)
      rw [if_neg nd4]
      by_cases d5 : d = 5
      · subst d5
        rw [if_pos (show nI 5 = 5 from rfl)]
        have rm := c_X9_readsMark hT c0 i (by omega) hi
        have am := mkF_at (bt := bt) (n := n) (i := i) (c := c0)
        have ur := mk_r (bt := bt) (n := n) (i := i) (c := c0)
        generalize mkF bt n i c0 = X at *
        rcases X with ⟨_ | _, c1⟩
        · rw [andF_f, andF_f, andF_f, andF_f]
          refine ⟨c1, rfl, fun _ => rfl, ?_⟩
          refine rn_of mm_X9_readsClaim (le_b rfl) rfl (pre _ ?_)
          refine r_iload1 dX9_readsClaim_75 ?_
          refine r_iconst_4 dX9_readsClaim_76 ?_
          refine r_icmpeq (tgt := 85) dX9_readsClaim_77 (by decide) (fun c9 => absurd c9 (by decide)) (fun _ => ?_)
          refine r_iload1 dX9_readsClaim_80 ?_
          refine r_iconst_5 dX9_readsClaim_81 ?_
          refine r_icmpne (tgt := 94) dX9_readsClaim_82 (by decide) (fun c9 => absurd (rfl) c9) (fun _ => ?_)
          refine r_aload0 dX9_readsClaim_85 ?_
          refine r_cV0I dX9_readsClaim_86 mm_X9_readsMark im_X9_readsMark se_X9_readsMark ml_X9_137 rfl rfl rfl (rm) (by decide) (Nat.le_of_ble_eq_true rfl) ?_
          refine r_ifne (tgt := 94) dX9_readsClaim_89 (by decide) (fun c9 => absurd (rfl) c9) (fun _ => ?_)
          refine r_iconst_0 dX9_readsClaim_92 ?_
          exact r_zretE dX9_readsClaim_93 rfl (by decide) (rfl) (rfl)
        · have am : cAt c1 ≤ cAt c0 + 1 := am
          have ur : c1.2.2.2.2.1 = c0.2.2.2.2.1 := ur
          rw [andF_t]
          have rs := c_X9_must hT 61 c1 i (by omega) (by decide)
          have as := skF_at (bt := bt) (n := n) (ch := 61) (c := c1)
          have us := sk_r (bt := bt) (n := n) (ch := 61) (c := c1)
          generalize skF bt n 61 c1 = X at *
          rcases X with ⟨_ | _, c2⟩
          · rw [andF_f, andF_f, andF_f]
            refine ⟨c2, rfl, fun _ => rfl, ?_⟩
            refine rn_of mm_X9_readsClaim (le_b rfl) rfl (pre _ ?_)
            refine r_iload1 dX9_readsClaim_75 ?_
            refine r_iconst_4 dX9_readsClaim_76 ?_
            refine r_icmpeq (tgt := 85) dX9_readsClaim_77 (by decide) (fun c9 => absurd c9 (by decide)) (fun _ => ?_)
            refine r_iload1 dX9_readsClaim_80 ?_
            refine r_iconst_5 dX9_readsClaim_81 ?_
            refine r_icmpne (tgt := 94) dX9_readsClaim_82 (by decide) (fun c9 => absurd (rfl) c9) (fun _ => ?_)
            refine r_aload0 dX9_readsClaim_85 ?_
            refine r_cV0I dX9_readsClaim_86 mm_X9_readsMark im_X9_readsMark se_X9_readsMark ml_X9_137 rfl rfl rfl (rm) (by decide) (Nat.le_of_ble_eq_true rfl) ?_
            refine r_ifne (tgt := 94) dX9_readsClaim_89 (by decide) (fun _ => ?_) (fun c9 => absurd c9 ((by decide : ¬ (1 : Int32) = 0)))
            refine r_aload0 dX9_readsClaim_94 ?_
            refine r_bipush bv_61 dX9_readsClaim_95 ?_
            refine r_cV1I dX9_readsClaim_97 mm_X9_must im_X9_must se_X9_must ml_X9_128 rfl rfl rfl (rs) (by decide) (Nat.le_of_ble_eq_true rfl) ?_
            refine r_ifne (tgt := 105) dX9_readsClaim_100 (by decide) (fun c9 => absurd (rfl) c9) (fun _ => ?_)
            refine r_iconst_0 dX9_readsClaim_103 ?_
            exact r_zretE dX9_readsClaim_104 rfl (by decide) (rfl) (rfl)
          · have as : cAt c2 ≤ cAt c1 + 1 := as
            have us : c2.2.2.2.2.1 = c1.2.2.2.2.1 := us
            rw [andF_t, rn_val]
            obtain ⟨v, k, hk, hv, bv, bk, nu⟩ := num 3 c2 (by decide) (Or.inr ⟨rfl, rfl⟩) (by omega)
            rw [hk, hv]
            by_cases z : k = 0
            · subst z
              refine ⟨cN (cA c2 (cAt c2 + 0)) i (-1), rfl, fun q => Bool.noConfusion (show false = true from q), ?_⟩
              refine rn_of mm_X9_readsClaim (le_b rfl) rfl (pre _ ?_)
              refine r_iload1 dX9_readsClaim_75 ?_
              refine r_iconst_4 dX9_readsClaim_76 ?_
              refine r_icmpeq (tgt := 85) dX9_readsClaim_77 (by decide) (fun c9 => absurd c9 (by decide)) (fun _ => ?_)
              refine r_iload1 dX9_readsClaim_80 ?_
              refine r_iconst_5 dX9_readsClaim_81 ?_
              refine r_icmpne (tgt := 94) dX9_readsClaim_82 (by decide) (fun c9 => absurd (rfl) c9) (fun _ => ?_)
              refine r_aload0 dX9_readsClaim_85 ?_
              refine r_cV0I dX9_readsClaim_86 mm_X9_readsMark im_X9_readsMark se_X9_readsMark ml_X9_137 rfl rfl rfl (rm) (by decide) (Nat.le_of_ble_eq_true rfl) ?_
              refine r_ifne (tgt := 94) dX9_readsClaim_89 (by decide) (fun _ => ?_) (fun c9 => absurd c9 ((by decide : ¬ (1 : Int32) = 0)))
              refine r_aload0 dX9_readsClaim_94 ?_
              refine r_bipush bv_61 dX9_readsClaim_95 ?_
              refine r_cV1I dX9_readsClaim_97 mm_X9_must im_X9_must se_X9_must ml_X9_128 rfl rfl rfl (rs) (by decide) (Nat.le_of_ble_eq_true rfl) ?_
              refine r_ifne (tgt := 105) dX9_readsClaim_100 (by decide) (fun _ => ?_) (fun c9 => absurd c9 ((by decide : ¬ (1 : Int32) = 0)))
              refine r_iload1 dX9_readsClaim_105 ?_
              refine r_iconst_4 dX9_readsClaim_106 ?_
              refine r_icmpge (tgt := 115) dX9_readsClaim_107 (by decide) (fun _ => ?_) (fun c9 => absurd (by decide) c9)
              refine r_iload1 dX9_readsClaim_115 ?_
              refine r_iconst_5 dX9_readsClaim_116 ?_
              refine r_icmple (tgt := 125) dX9_readsClaim_117 (by decide) (fun _ => ?_) (fun c9 => absurd (by decide) c9)
              refine nu _ (fun _ => ?_) (fun q => absurd rfl q)
              refine r_iconst_0 dX9_readsClaim_162 ?_
              exact r_zretE dX9_readsClaim_163 rfl (by decide) (rfl) (rfl)
            · rw [show decide (0 < k) = true from decide_eq_true (by omega), andF_t]
              have a3 : cAt (cA (cN c2 i (nI v)) (cAt c2 + k)) = cAt c2 + k := rfl
              have rp := c_X9_must hT 37 (cA (cN c2 i (nI v)) (cAt c2 + k)) i (by rw [a3]; omega) (by decide)
              have ap := skF_at (bt := bt) (n := n) (ch := 37) (c := cA (cN c2 i (nI v)) (cAt c2 + k))
              have up := sk_r (bt := bt) (n := n) (ch := 37) (c := cA (cN c2 i (nI v)) (cAt c2 + k))
              rw [a3] at ap
              generalize skF bt n 37 (cA (cN c2 i (nI v)) (cAt c2 + k)) = X at *
              rcases X with ⟨_ | _, c4⟩
              · rw [andF_f]
                refine ⟨c4, rfl, fun _ => rfl, ?_⟩
                refine rn_of mm_X9_readsClaim (le_b rfl) rfl (pre _ ?_)
                refine r_iload1 dX9_readsClaim_75 ?_
                refine r_iconst_4 dX9_readsClaim_76 ?_
                refine r_icmpeq (tgt := 85) dX9_readsClaim_77 (by decide) (fun c9 => absurd c9 (by decide)) (fun _ => ?_)
                refine r_iload1 dX9_readsClaim_80 ?_
                refine r_iconst_5 dX9_readsClaim_81 ?_
                refine r_icmpne (tgt := 94) dX9_readsClaim_82 (by decide) (fun c9 => absurd (rfl) c9) (fun _ => ?_)
                refine r_aload0 dX9_readsClaim_85 ?_
                refine r_cV0I dX9_readsClaim_86 mm_X9_readsMark im_X9_readsMark se_X9_readsMark ml_X9_137 rfl rfl rfl (rm) (by decide) (Nat.le_of_ble_eq_true rfl) ?_
                refine r_ifne (tgt := 94) dX9_readsClaim_89 (by decide) (fun _ => ?_) (fun c9 => absurd c9 ((by decide : ¬ (1 : Int32) = 0)))
                refine r_aload0 dX9_readsClaim_94 ?_
                refine r_bipush bv_61 dX9_readsClaim_95 ?_
                refine r_cV1I dX9_readsClaim_97 mm_X9_must im_X9_must se_X9_must ml_X9_128 rfl rfl rfl (rs) (by decide) (Nat.le_of_ble_eq_true rfl) ?_
                refine r_ifne (tgt := 105) dX9_readsClaim_100 (by decide) (fun _ => ?_) (fun c9 => absurd c9 ((by decide : ¬ (1 : Int32) = 0)))
                refine r_iload1 dX9_readsClaim_105 ?_
                refine r_iconst_4 dX9_readsClaim_106 ?_
                refine r_icmpge (tgt := 115) dX9_readsClaim_107 (by decide) (fun _ => ?_) (fun c9 => absurd (by decide) c9)
                refine r_iload1 dX9_readsClaim_115 ?_
                refine r_iconst_5 dX9_readsClaim_116 ?_
                refine r_icmple (tgt := 125) dX9_readsClaim_117 (by decide) (fun _ => ?_) (fun c9 => absurd (by decide) c9)
                refine nu _ (fun q => absurd q z) (fun _ => ?_)
                refine r_iload1 dX9_readsClaim_164 ?_
                refine r_iconst_5 dX9_readsClaim_165 ?_
                refine r_icmpne (tgt := 184) dX9_readsClaim_166 (by decide) (fun c9 => absurd (rfl) c9) (fun _ => ?_)
                refine r_aload0 dX9_readsClaim_169 ?_
                refine r_bipush bv_37 dX9_readsClaim_170 ?_
                refine r_cV1I dX9_readsClaim_172 mm_X9_must im_X9_must se_X9_must ml_X9_128 rfl rfl rfl (rp) (by decide) (Nat.le_of_ble_eq_true rfl) ?_
                refine r_ifne (tgt := 180) dX9_readsClaim_175 (by decide) (fun c9 => absurd (rfl) c9) (fun _ => ?_)
                refine r_iconst_0 dX9_readsClaim_178 ?_
                exact r_zretE dX9_readsClaim_179 rfl (by decide) (rfl) (rfl)
              · have ap : cAt c4 ≤ cAt c2 + k + 1 := ap
                have up : c4.2.2.2.2.1 = c2.2.2.2.2.1 := up
                rw [andF_t]
                refine ⟨_, rfl, fun _ => rfl, ?_⟩
                refine rn_of mm_X9_readsClaim (le_b rfl) rfl (pre _ ?_)
                refine r_iload1 dX9_readsClaim_75 ?_
                refine r_iconst_4 dX9_readsClaim_76 ?_
                refine r_icmpeq (tgt := 85) dX9_readsClaim_77 (by decide) (fun c9 => absurd c9 (by decide)) (fun _ => ?_)
                refine r_iload1 dX9_readsClaim_80 ?_
                refine r_iconst_5 dX9_readsClaim_81 ?_
                refine r_icmpne (tgt := 94) dX9_readsClaim_82 (by decide) (fun c9 => absurd (rfl) c9) (fun _ => ?_)
                refine r_aload0 dX9_readsClaim_85 ?_
                refine r_cV0I dX9_readsClaim_86 mm_X9_readsMark im_X9_readsMark se_X9_readsMark ml_X9_137 rfl rfl rfl (rm) (by decide) (Nat.le_of_ble_eq_true rfl) ?_
                refine r_ifne (tgt := 94) dX9_readsClaim_89 (by decide) (fun _ => ?_) (fun c9 => absurd c9 ((by decide : ¬ (1 : Int32) = 0)))
                refine r_aload0 dX9_readsClaim_94 ?_
                refine r_bipush bv_61 dX9_readsClaim_95 ?_
                refine r_cV1I dX9_readsClaim_97 mm_X9_must im_X9_must se_X9_must ml_X9_128 rfl rfl rfl (rs) (by decide) (Nat.le_of_ble_eq_true rfl) ?_
                refine r_ifne (tgt := 105) dX9_readsClaim_100 (by decide) (fun _ => ?_) (fun c9 => absurd c9 ((by decide : ¬ (1 : Int32) = 0)))
                refine r_iload1 dX9_readsClaim_105 ?_
                refine r_iconst_4 dX9_readsClaim_106 ?_
                refine r_icmpge (tgt := 115) dX9_readsClaim_107 (by decide) (fun _ => ?_) (fun c9 => absurd (by decide) c9)
                refine r_iload1 dX9_readsClaim_115 ?_
                refine r_iconst_5 dX9_readsClaim_116 ?_
                refine r_icmple (tgt := 125) dX9_readsClaim_117 (by decide) (fun _ => ?_) (fun c9 => absurd (by decide) c9)
                refine nu _ (fun q => absurd q z) (fun _ => ?_)
                refine r_iload1 dX9_readsClaim_164 ?_
                refine r_iconst_5 dX9_readsClaim_165 ?_
                refine r_icmpne (tgt := 184) dX9_readsClaim_166 (by decide) (fun c9 => absurd (rfl) c9) (fun _ => ?_)
                refine r_aload0 dX9_readsClaim_169 ?_
                refine r_bipush bv_37 dX9_readsClaim_170 ?_
                refine r_cV1I dX9_readsClaim_172 mm_X9_must im_X9_must se_X9_must ml_X9_128 rfl rfl rfl (rp) (by decide) (Nat.le_of_ble_eq_true rfl) ?_
                refine r_ifne (tgt := 180) dX9_readsClaim_175 (by decide) (fun _ => ?_) (fun c9 => absurd c9 ((by decide : ¬ (1 : Int32) = 0)))
                refine r_aload0 dX9_readsClaim_180 ?_
                refine r_cV0V dX9_readsClaim_181 mm_X9_readsRule im_X9_readsRule se_X9_readsRule ml_X9_131 rfl rfl rfl (c_X9_readsRule hT c4 i (by omega) hi (by rw [up, us, ur, h00])) (by decide) (Nat.le_of_ble_eq_true rfl) ?_
                refine r_iconst_1 dX9_readsClaim_184 ?_
                exact r_zretE dX9_readsClaim_185 rfl (by decide) (rfl) (rfl)
      · have nd5 : ¬ nI d = 5 := fun q => d5 ((nI_eq (b := 5) (by omega) (by decide)).mp q)
        rw [if_neg nd5]
        have rs := c_X9_must hT 61 c0 i (by omega) (by decide)
        have as := skF_at (bt := bt) (n := n) (ch := 61) (c := c0)
        have us := sk_r (bt := bt) (n := n) (ch := 61) (c := c0)
        by_cases d6 : 6 ≤ d
        · rw [if_pos (show (6 : Int32) ≤ nI d from nI_le (a := 6) d6 (by omega))]
          generalize skF bt n 61 c0 = X at *
          rcases X with ⟨_ | _, c2⟩
          · rw [andF_f]
            refine ⟨c2, rfl, fun _ => rfl, ?_⟩
            refine rn_of mm_X9_readsClaim (le_b rfl) rfl (pre _ ?_)
            refine r_iload1 dX9_readsClaim_75 ?_
            refine r_iconst_4 dX9_readsClaim_76 ?_
            refine r_icmpeq (tgt := 85) dX9_readsClaim_77 (by decide) (fun c9 => absurd c9 (nd4)) (fun _ => ?_)
            refine r_iload1 dX9_readsClaim_80 ?_
            refine r_iconst_5 dX9_readsClaim_81 ?_
            refine r_icmpne (tgt := 94) dX9_readsClaim_82 (by decide) (fun _ => ?_) (fun c9 => absurd c9 (nd5))
            refine r_aload0 dX9_readsClaim_94 ?_
            refine r_bipush bv_61 dX9_readsClaim_95 ?_
            refine r_cV1I dX9_readsClaim_97 mm_X9_must im_X9_must se_X9_must ml_X9_128 rfl rfl rfl (rs) (by decide) (Nat.le_of_ble_eq_true rfl) ?_
            refine r_ifne (tgt := 105) dX9_readsClaim_100 (by decide) (fun c9 => absurd (rfl) c9) (fun _ => ?_)
            refine r_iconst_0 dX9_readsClaim_103 ?_
            exact r_zretE dX9_readsClaim_104 rfl (by decide) (rfl) (rfl)
          · have as : cAt c2 ≤ cAt c0 + 1 := as
            rw [andF_t]
            have rm := c_X9_readsMark hT c2 i (by omega) hi
            refine ⟨_, rfl, fun _ => rfl, ?_⟩
            refine rn_of mm_X9_readsClaim (le_b rfl) rfl (pre _ ?_)
            refine r_iload1 dX9_readsClaim_75 ?_
            refine r_iconst_4 dX9_readsClaim_76 ?_
            refine r_icmpeq (tgt := 85) dX9_readsClaim_77 (by decide) (fun c9 => absurd c9 (nd4)) (fun _ => ?_)
            refine r_iload1 dX9_readsClaim_80 ?_
            refine r_iconst_5 dX9_readsClaim_81 ?_
            refine r_icmpne (tgt := 94) dX9_readsClaim_82 (by decide) (fun _ => ?_) (fun c9 => absurd c9 (nd5))
            refine r_aload0 dX9_readsClaim_94 ?_
            refine r_bipush bv_61 dX9_readsClaim_95 ?_
            refine r_cV1I dX9_readsClaim_97 mm_X9_must im_X9_must se_X9_must ml_X9_128 rfl rfl rfl (rs) (by decide) (Nat.le_of_ble_eq_true rfl) ?_
            refine r_ifne (tgt := 105) dX9_readsClaim_100 (by decide) (fun _ => ?_) (fun c9 => absurd c9 ((by decide : ¬ (1 : Int32) = 0)))
            refine r_iload1 dX9_readsClaim_105 ?_
            refine r_iconst_4 dX9_readsClaim_106 ?_
            refine r_icmpge (tgt := 115) dX9_readsClaim_107 (by decide) (fun _ => ?_) (fun c9 => absurd (nI_le (a := 4) (by omega) (by omega)) c9)
            refine r_iload1 dX9_readsClaim_115 ?_
            refine r_iconst_5 dX9_readsClaim_116 ?_
            refine r_icmple (tgt := 125) dX9_readsClaim_117 (by decide) (fun c9 => absurd c9 (nI_ge (a := 5) (by omega) (by omega))) (fun _ => ?_)
            refine r_aload0 dX9_readsClaim_120 ?_
            refine r_cV0I dX9_readsClaim_121 mm_X9_readsMark im_X9_readsMark se_X9_readsMark ml_X9_137 rfl rfl rfl (rm) (by decide) (Nat.le_of_ble_eq_true rfl) ?_
            exact r_zretE dX9_readsClaim_124 rfl (b2i_01 _) rfl rfl
        · rw [if_neg (show ¬ (6 : Int32) ≤ nI d from nI_ge (b := 6) (by omega) (by decide))]
          generalize skF bt n 61 c0 = X at *
          rcases X with ⟨_ | _, c2⟩
          · rw [andF_f, andF_f, andF_f]
            refine ⟨c2, rfl, fun _ => rfl, ?_⟩
            refine rn_of mm_X9_readsClaim (le_b rfl) rfl (pre _ ?_)
            refine r_iload1 dX9_readsClaim_75 ?_
            refine r_iconst_4 dX9_readsClaim_76 ?_
            refine r_icmpeq (tgt := 85) dX9_readsClaim_77 (by decide) (fun c9 => absurd c9 (nd4)) (fun _ => ?_)
            refine r_iload1 dX9_readsClaim_80 ?_
            refine r_iconst_5 dX9_readsClaim_81 ?_
            refine r_icmpne (tgt := 94) dX9_readsClaim_82 (by decide) (fun _ => ?_) (fun c9 => absurd c9 (nd5))
            refine r_aload0 dX9_readsClaim_94 ?_
            refine r_bipush bv_61 dX9_readsClaim_95 ?_
            refine r_cV1I dX9_readsClaim_97 mm_X9_must im_X9_must se_X9_must ml_X9_128 rfl rfl rfl (rs) (by decide) (Nat.le_of_ble_eq_true rfl) ?_
            refine r_ifne (tgt := 105) dX9_readsClaim_100 (by decide) (fun c9 => absurd (rfl) c9) (fun _ => ?_)
            refine r_iconst_0 dX9_readsClaim_103 ?_
            exact r_zretE dX9_readsClaim_104 rfl (by decide) (rfl) (rfl)
          · have as : cAt c2 ≤ cAt c0 + 1 := as
            have us : c2.2.2.2.2.1 = c0.2.2.2.2.1 := us
            rw [andF_t]
            obtain ⟨c', e1, e2, rv⟩ := c_X9_readsValue hT c2 i (by omega) hi (by rw [us, h00])
            refine ⟨c', e1, e2, ?_⟩
            refine rn_of mm_X9_readsClaim (le_b rfl) rfl (pre _ ?_)
            refine r_iload1 dX9_readsClaim_75 ?_
            refine r_iconst_4 dX9_readsClaim_76 ?_
            refine r_icmpeq (tgt := 85) dX9_readsClaim_77 (by decide) (fun c9 => absurd c9 (nd4)) (fun _ => ?_)
            refine r_iload1 dX9_readsClaim_80 ?_
            refine r_iconst_5 dX9_readsClaim_81 ?_
            refine r_icmpne (tgt := 94) dX9_readsClaim_82 (by decide) (fun _ => ?_) (fun c9 => absurd c9 (nd5))
            refine r_aload0 dX9_readsClaim_94 ?_
            refine r_bipush bv_61 dX9_readsClaim_95 ?_
            refine r_cV1I dX9_readsClaim_97 mm_X9_must im_X9_must se_X9_must ml_X9_128 rfl rfl rfl (rs) (by decide) (Nat.le_of_ble_eq_true rfl) ?_
            refine r_ifne (tgt := 105) dX9_readsClaim_100 (by decide) (fun _ => ?_) (fun c9 => absurd c9 ((by decide : ¬ (1 : Int32) = 0)))
            refine r_iload1 dX9_readsClaim_105 ?_
            refine r_iconst_4 dX9_readsClaim_106 ?_
            refine r_icmpge (tgt := 115) dX9_readsClaim_107 (by decide) (fun c9 => absurd c9 (nI_ge (b := 4) (by omega) (by decide))) (fun _ => ?_)
            refine r_aload0 dX9_readsClaim_110 ?_
            refine r_cV0I dX9_readsClaim_111 mm_X9_readsValue im_X9_readsValue se_X9_readsValue ml_X9_141 rfl rfl rfl (rv) (by decide) (Nat.le_of_ble_eq_true rfl) ?_
            exact r_zretE dX9_readsClaim_114 rfl (b2i_01 _) rfl rfl
