/-! the reference: reads, claims, believe -/
def c0M (h : Hp) : CT := (h.1 37, h.1 38, h.1 39, h.1 40, h.1 41, 0)
theorem mp_c0 (h : Hp) : pI (pI h 31 9 0) 31 10 0 = mpH h (c0M h) 0 := by
  refine hp_ext (fun q j => ?_) (fun q j => rfl)
  simp only [pI_g, mpH, c0M]
  by_cases e : q = 37
  · subst e; simp
  · by_cases e2 : q = 38
    · subst e2; simp
    · by_cases e3 : q = 39
      · subst e3; simp
      · by_cases e4 : q = 40
        · subst e4; simp
        · by_cases e5 : q = 41
          · subst e5; simp
          · simp only [if_neg e, if_neg e2, if_neg e3, if_neg e4, if_neg e5]
            by_cases e6 : q = 31 ∧ j = 10
            · obtain ⟨rfl, rfl⟩ := e6; rfl
            · rw [if_neg e6]
              by_cases e7 : q = 31 ∧ j = 9
              · rw [if_pos e7, if_pos e7]; rfl
              · rw [if_neg e7, if_neg e7, if_neg e6]
theorem c_X9_reads {h : Hp} {bt : Nat → Nat} {n : Nat} (hT : MTX h bt n) : ∃ c' i', i' ≤ 10 ∧ (∀ k, (rdR bt n (c0M h)).1 = some k → c' = (rdR bt n (c0M h)).2 ∧ i' = k) ∧ Rn 4 MX9_reads [.ref 31] h (EI (rFl (rdR bt n (c0M h))) (mpH h c' i')) := by
  obtain ⟨hl, hn, hB⟩ := id hT
  have key : ∀ f i c, i + f = 10 → 1 ≤ f → cAt c ≤ 9 * i → ∃ c' i', i' ≤ 10 ∧ (∀ k, (rdL bt n f i c).1 = some k → c' = (rdL bt n f i c).2 ∧ i' = k) ∧ Aw 4 MX9_reads (Kp (EI (rFl (rdL bt n f i c)) (mpH h c' i'))) 23 [some (.ref 31), some (.int 1)] [] (mpH h c i) := by
    intro f
    induction f with
    | zero => intro i c _ h1; exact absurd h1 (by decide)
    | succ f ih =>
      intro i c hi _ hc
      obtain ⟨c1, e1, e2, rc⟩ := c_X9_readsClaim hT c i (by omega) (by omega)
      have ha := rcF_at (bt := bt) (n := n) (i := i) (c := c)
      rw [rdL]
      generalize rcF bt n i c = R at *
      rcases R with ⟨_ | _, cc⟩
      · have e1 : cAt c1 = cAt cc := e1
        rw [if_pos rfl]
        refine ⟨c1, i, by omega, fun k q => absurd (show (none : Option Nat) = some k from q) (fun z => nomatch z), ?_⟩
        refine r_iload1 dX9_reads_23 ?_
        refine r_ifeq (tgt := 114) dX9_reads_24 (by decide) (fun c9 => absurd c9 (by decide)) (fun _ => ?_)
        refine r_aload0 dX9_reads_27 ?_
        refine r_cV0I dX9_reads_28 mm_X9_readsClaim im_X9_readsClaim se_X9_readsClaim ml_X9_144 rfl rfl rfl (rc) (by decide) (Nat.le_of_ble_eq_true rfl) ?_
        refine r_ifne (tgt := 39) dX9_reads_31 (by decide) (fun c9 => absurd (rfl) c9) (fun _ => ?_)
        refine r_aload0 dX9_reads_34 ?_
        refine r_getI dX9_reads_35 fl_X9_109 rfl rfl ?_
        exact r_iretE dX9_reads_38 rfl (by rw [mp_at, e1]; rfl) (rfl)
      · have e2 : c1 = cc := e2 rfl
        subst e2
        have ha : cAt c1 ≤ cAt c + 8 := ha
        rw [if_neg (show ¬ (true = false) by decide)]
        dsimp only
        have pre : ∀ P, Aw 4 MX9_reads P 49 [some (.ref 31), some (.int 1)] [] (mpH h c1 (i + 1)) → Aw 4 MX9_reads P 23 [some (.ref 31), some (.int 1)] [] (mpH h c i) := by
          intro P kk
          refine r_iload1 dX9_reads_23 ?_
          refine r_ifeq (tgt := 114) dX9_reads_24 (by decide) (fun c9 => absurd c9 (by decide)) (fun _ => ?_)
          refine r_aload0 dX9_reads_27 ?_
          refine r_cV0I dX9_reads_28 mm_X9_readsClaim im_X9_readsClaim se_X9_readsClaim ml_X9_144 rfl rfl rfl (rc) (by decide) (Nat.le_of_ble_eq_true rfl) ?_
          refine r_ifne (tgt := 39) dX9_reads_31 (by decide) (fun _ => ?_) (fun c9 => absurd c9 ((by decide : ¬ (1 : Int32) = 0)))
          refine r_aload0 dX9_reads_39 ?_
          refine r_dup rfl dX9_reads_40 ?_
          refine r_getI dX9_reads_41 fl_X9_120 rfl rfl ?_
          refine r_iconst_1 dX9_reads_44 ?_
          refine r_iadd dX9_reads_45 ?_
          rw [mp_cl, nI_1]
          refine r_putI dX9_reads_46 fw_X9_120 rfl rfl ?_
          rw [mp_C]
          exact kk
        by_cases q1 : n ≤ cAt c1
        · rw [if_pos q1]
          refine ⟨c1, i + 1, by omega, fun k q => ⟨rfl, Option.some.inj (show some (i + 1) = some k from q)⟩, ?_⟩
          refine pre _ ?_
          refine r_aload0 dX9_reads_49 ?_
          refine r_getI dX9_reads_50 fl_X9_109 rfl rfl ?_
          refine r_aload0 dX9_reads_53 ?_
          refine r_getI dX9_reads_54 fl_X9_103 rfl rfl ?_
          rw [mp_at, mp_len, hl]
          refine r_icmpge (tgt := 64) dX9_reads_57 (by decide) (fun _ => ?_) (fun c9 => absurd (nI_le q1 (by omega)) c9)
          refine r_iconst_0 dX9_reads_64 ?_
          refine r_istore1 dX9_reads_65 rfl (by decide) ?_
          refine r_iload1 dX9_reads_66 ?_
          refine r_ifeq (tgt := 93) dX9_reads_67 (by decide) (fun _ => ?_) (fun c9 => absurd (rfl) c9)
          refine r_aload0 dX9_reads_93 ?_
          refine r_dup rfl dX9_reads_94 ?_
          refine r_getI dX9_reads_95 fl_X9_109 rfl rfl ?_
          refine r_iload1 dX9_reads_98 ?_
          refine r_ifeq (tgt := 106) dX9_reads_99 (by decide) (fun _ => ?_) (fun c9 => absurd (rfl) c9)
          refine r_iconst_0 dX9_reads_106 ?_
          refine r_iadd dX9_reads_107 ?_
          rw [mp_at, i32_add0]
          refine r_putI dX9_reads_108 fw_X9_109 rfl rfl ?_
          rw [mp_A]
          refine r_goto (tgt := 23) dX9_reads_111 (by decide) ?_
          refine r_iload1 dX9_reads_23 ?_
          refine r_ifeq (tgt := 114) dX9_reads_24 (by decide) (fun _ => ?_) (fun c9 => absurd (rfl) c9)
          refine r_iconst_m1 dX9_reads_114 ?_
          exact r_iretE dX9_reads_115 rfl (rfl) (rfl)
        · rw [if_neg q1]
          have rh := c_X9_here hT c1 (i + 1) (by omega)
          have mid : ∀ P, Aw 4 MX9_reads P 70 [some (.ref 31), some (.int 1)] [] (mpH h c1 (i + 1)) → Aw 4 MX9_reads P 49 [some (.ref 31), some (.int 1)] [] (mpH h c1 (i + 1)) := by
            intro P kk
            refine r_aload0 dX9_reads_49 ?_
            refine r_getI dX9_reads_50 fl_X9_109 rfl rfl ?_
            refine r_aload0 dX9_reads_53 ?_
            refine r_getI dX9_reads_54 fl_X9_103 rfl rfl ?_
            rw [mp_at, mp_len, hl]
            refine r_icmpge (tgt := 64) dX9_reads_57 (by decide) (fun c9 => absurd c9 (nI_ge (by omega) (by omega))) (fun _ => ?_)
            refine r_iconst_1 dX9_reads_60 ?_
            refine r_goto (tgt := 65) dX9_reads_61 (by decide) ?_
            refine r_istore1 dX9_reads_65 rfl (by decide) ?_
            refine r_iload1 dX9_reads_66 ?_
            refine r_ifeq (tgt := 93) dX9_reads_67 (by decide) (fun c9 => absurd c9 (by decide)) (fun _ => ?_)
            exact kk
          have hs : hrV bt n (cAt c1) = nI 59 ↔ cAt c1 < n ∧ bt (cAt c1) = 59 := hrV_eq (hb_of hT _) (by decide)
          by_cases q2 : i = 9
          · rw [if_pos q2]
            refine ⟨c1, i + 1, by omega, fun k q => absurd (show (none : Option Nat) = some k from q) (fun z => nomatch z), ?_⟩
            refine pre _ (mid _ ?_)
            by_cases q3 : hrV bt n (cAt c1) = nI 59
            · refine r_aload0 dX9_reads_70 ?_
              refine r_cV0I dX9_reads_71 mm_X9_here im_X9_here se_X9_here ml_X9_112 rfl rfl rfl (rh) (by decide) (Nat.le_of_ble_eq_true rfl) ?_
              refine r_bipush bv_59 dX9_reads_74 ?_
              refine r_icmpne (tgt := 88) dX9_reads_76 (by decide) (fun c9 => absurd (q3) c9) (fun _ => ?_)
              refine r_aload0 dX9_reads_79 ?_
              refine r_getI dX9_reads_80 fl_X9_120 rfl rfl ?_
              rw [mp_cl, q2]
              refine r_bipush bv_10 dX9_reads_83 ?_
              refine r_icmpne (tgt := 93) dX9_reads_85 (by decide) (fun c9 => absurd (rfl) c9) (fun _ => ?_)
              refine r_aload0 dX9_reads_88 ?_
              refine r_getI dX9_reads_89 fl_X9_109 rfl rfl ?_
              exact r_iretE dX9_reads_92 rfl (by rw [mp_at]; rfl) (rfl)
            · refine r_aload0 dX9_reads_70 ?_
              refine r_cV0I dX9_reads_71 mm_X9_here im_X9_here se_X9_here ml_X9_112 rfl rfl rfl (rh) (by decide) (Nat.le_of_ble_eq_true rfl) ?_
              refine r_bipush bv_59 dX9_reads_74 ?_
              refine r_icmpne (tgt := 88) dX9_reads_76 (by decide) (fun _ => ?_) (fun c9 => absurd c9 (q3))
              refine r_aload0 dX9_reads_88 ?_
              refine r_getI dX9_reads_89 fl_X9_109 rfl rfl ?_
              exact r_iretE dX9_reads_92 rfl (by rw [mp_at]; rfl) (rfl)
          · rw [if_neg q2]
            by_cases q3 : cAt c1 < n ∧ bt (cAt c1) = 59
            · rw [sk_t q3, if_neg (show ¬ (true = false) by decide)]
              obtain ⟨c', i', k1, k2, k3⟩ := ih (i + 1) (cA c1 (cAt c1 + 1)) (by omega) (by omega) (by show cAt c1 + 1 ≤ _; omega)
              refine ⟨c', i', k1, k2, ?_⟩
              refine pre _ (mid _ ?_)
              refine r_aload0 dX9_reads_70 ?_
              refine r_cV0I dX9_reads_71 mm_X9_here im_X9_here se_X9_here ml_X9_112 rfl rfl rfl (rh) (by decide) (Nat.le_of_ble_eq_true rfl) ?_
              refine r_bipush bv_59 dX9_reads_74 ?_
              refine r_icmpne (tgt := 88) dX9_reads_76 (by decide) (fun c9 => absurd (hs.mpr q3) c9) (fun _ => ?_)
              refine r_aload0 dX9_reads_79 ?_
              refine r_getI dX9_reads_80 fl_X9_120 rfl rfl ?_
              rw [mp_cl]
              refine r_bipush bv_10 dX9_reads_83 ?_
              refine r_icmpne (tgt := 93) dX9_reads_85 (by decide) (fun _ => ?_) (fun c9 => absurd c9 (fun z => q2 (by have := (nI_eq (a := i + 1) (b := 10) (by omega) (by decide)).mp z; omega)))
              refine r_aload0 dX9_reads_93 ?_
              refine r_dup rfl dX9_reads_94 ?_
              refine r_getI dX9_reads_95 fl_X9_109 rfl rfl ?_
              refine r_iload1 dX9_reads_98 ?_
              refine r_ifeq (tgt := 106) dX9_reads_99 (by decide) (fun c9 => absurd c9 (by decide)) (fun _ => ?_)
              refine r_iconst_1 dX9_reads_102 ?_
              refine r_goto (tgt := 107) dX9_reads_103 (by decide) ?_
              refine r_iadd dX9_reads_107 ?_
              rw [mp_at, nI_1]
              refine r_putI dX9_reads_108 fw_X9_109 rfl rfl ?_
              rw [mp_A]
              refine r_goto (tgt := 23) dX9_reads_111 (by decide) ?_
              exact k3
            · rw [sk_n q3, if_pos rfl]
              refine ⟨c1, i + 1, by omega, fun k q => absurd (show (none : Option Nat) = some k from q) (fun z => nomatch z), ?_⟩
              refine pre _ (mid _ ?_)
              refine r_aload0 dX9_reads_70 ?_
              refine r_cV0I dX9_reads_71 mm_X9_here im_X9_here se_X9_here ml_X9_112 rfl rfl rfl (rh) (by decide) (Nat.le_of_ble_eq_true rfl) ?_
              refine r_bipush bv_59 dX9_reads_74 ?_
              refine r_icmpne (tgt := 88) dX9_reads_76 (by decide) (fun _ => ?_) (fun c9 => absurd c9 (fun z => q3 (hs.mp z)))
              refine r_aload0 dX9_reads_88 ?_
              refine r_getI dX9_reads_89 fl_X9_109 rfl rfl ?_
              exact r_iretE dX9_reads_92 rfl (by rw [mp_at]; rfl) (rfl)
  have pre : ∀ P, Aw 4 MX9_reads P 10 [some (.ref 31), none] [] (mpH h (c0M h) 0) → Aw 4 MX9_reads P 0 [some (.ref 31), none] [] h := by
    intro P kk
    refine r_aload0 dX9_reads_0 ?_
    refine r_iconst_0 dX9_reads_1 ?_
    refine r_putI dX9_reads_2 fw_X9_109 rfl rfl ?_
    refine r_aload0 dX9_reads_5 ?_
    refine r_iconst_0 dX9_reads_6 ?_
    refine r_putI dX9_reads_7 fw_X9_120 rfl rfl ?_
    rw [mp_c0]
    exact kk
  unfold rdR
  by_cases z : n = 0
  · rw [if_pos z]
    refine ⟨c0M h, 0, by omega, fun k q => ⟨rfl, Option.some.inj (show some 0 = some k from q)⟩, ?_⟩
    refine rn_of mm_X9_reads (le_b rfl) rfl (pre _ ?_)
    refine r_aload0 dX9_reads_10 ?_
    refine r_getI dX9_reads_11 fl_X9_103 rfl rfl ?_
    rw [mp_len, hl, z]
    refine r_ifle (tgt := 21) dX9_reads_14 (by decide) (fun _ => ?_) (fun c9 => absurd (by decide) c9)
    refine r_iconst_0 dX9_reads_21 ?_
    refine r_istore1 dX9_reads_22 rfl (by decide) ?_
    refine r_iload1 dX9_reads_23 ?_
    refine r_ifeq (tgt := 114) dX9_reads_24 (by decide) (fun _ => ?_) (fun c9 => absurd (rfl) c9)
    refine r_iconst_m1 dX9_reads_114 ?_
    exact r_iretE dX9_reads_115 rfl (rfl) (rfl)
  · rw [if_neg z]
    obtain ⟨c', i', k1, k2, k3⟩ := key 10 0 (c0M h) (by omega) (by omega) (Nat.le_refl _)
    refine ⟨c', i', k1, k2, ?_⟩
    refine rn_of mm_X9_reads (le_b rfl) rfl (pre _ ?_)
    refine r_aload0 dX9_reads_10 ?_
    refine r_getI dX9_reads_11 fl_X9_103 rfl rfl ?_
    rw [mp_len, hl]
    refine r_ifle (tgt := 21) dX9_reads_14 (by decide) (fun c9 => absurd c9 (nI_nle (by omega) (by omega))) (fun _ => ?_)
    refine r_iconst_1 dX9_reads_17 ?_
    refine r_goto (tgt := 22) dX9_reads_18 (by decide) ?_
    refine r_istore1 dX9_reads_22 rfl (by decide) ?_
    exact k3
/-- reading went well: k claims, arrays of c -/
theorem c_X9_fault {v : Int32} {h h1 : Hp} (r : Rn 4 MX9_reads [.ref 31] h (EI v h1)) : Rn 5 MX9_fault [.ref 31] h (EI v h1) := by
  refine rn_of mm_X9_fault (le_b rfl) rfl ?_
  refine r_aload0 dX9_fault_0 ?_
  refine r_cV0I dX9_fault_1 mm_X9_reads im_X9_reads se_X9_reads ml_X9_147 rfl rfl rfl (r) (by decide) (Nat.le_of_ble_eq_true rfl) ?_
  exact r_iretE dX9_fault_4 rfl (rfl) (rfl)
theorem c_X9_claims_y {h h1 : Hp} (r : Rn 4 MX9_reads [.ref 31] h (EI (-1) h1)) : Rn 5 MX9_claims [.ref 31] h (EI (h1.1 31 10) h1) := by
  refine rn_of mm_X9_claims (le_b rfl) rfl ?_
  refine r_aload0 dX9_claims_0 ?_
  refine r_cV0I dX9_claims_1 mm_X9_reads im_X9_reads se_X9_reads ml_X9_147 rfl rfl rfl (r) (by decide) (Nat.le_of_ble_eq_true rfl) ?_
  refine r_iconst_m1 dX9_claims_4 ?_
  refine r_icmpne (tgt := 15) dX9_claims_5 (by decide) (fun c9 => absurd (rfl) c9) (fun _ => ?_)
  refine r_aload0 dX9_claims_8 ?_
  refine r_getI dX9_claims_9 fl_X9_120 rfl rfl ?_
  refine r_goto (tgt := 17) dX9_claims_12 (by decide) ?_
  exact r_iretE dX9_claims_17 rfl (rfl) (rfl)
theorem c_X9_claims_n {v : Int32} {h h1 : Hp} (r : Rn 4 MX9_reads [.ref 31] h (EI v h1)) (hv : ¬ v = -1) : Rn 5 MX9_claims [.ref 31] h (EI (-3) h1) := by
  refine rn_of mm_X9_claims (le_b rfl) rfl ?_
  refine r_aload0 dX9_claims_0 ?_
  refine r_cV0I dX9_claims_1 mm_X9_reads im_X9_reads se_X9_reads ml_X9_147 rfl rfl rfl (r) (by decide) (Nat.le_of_ble_eq_true rfl) ?_
  refine r_iconst_m1 dX9_claims_4 ?_
  refine r_icmpne (tgt := 15) dX9_claims_5 (by decide) (fun _ => ?_) (fun c9 => absurd c9 (hv))
  refine r_bipush bv_m3 dX9_claims_15 ?_
  exact r_iretE dX9_claims_17 rfl (rfl) (rfl)
theorem c_X9_claimOf (i w : Nat) (h : Hp) (hi : i < 10) (hw : w ≤ 4) : Rn 0 MX9_claimOf [.ref 31, .int (nI i), .int (nI w)] h (EI (h.1 (37 + w) i) h) := by
  refine rn_of mm_X9_claimOf (le_b rfl) rfl ?_
  have : w = 0 ∨ w = 1 ∨ w = 2 ∨ w = 3 ∨ w = 4 := by omega
  rcases this with rfl | rfl | rfl | rfl | rfl
  · refine r_iload2 dX9_claimOf_0 ?_
    refine r_tabIn (tgt := 32) dX9_claimOf_1 (by decide) (by decide) (by rfl) (by decide) ?_
    refine r_aload0 dX9_claimOf_32 ?_
    refine r_getR dX9_claimOf_33 fl_X9_32 rfl rfl ?_
    refine r_iload1 dX9_claimOf_36 ?_
    refine r_ialdN dX9_claimOf_37 rfl hi ?_
    exact r_iretE dX9_claimOf_38 rfl (rfl) (rfl)
  · refine r_iload2 dX9_claimOf_0 ?_
    refine r_tabIn (tgt := 39) dX9_claimOf_1 (by decide) (by decide) (by rfl) (by decide) ?_
    refine r_aload0 dX9_claimOf_39 ?_
    refine r_getR dX9_claimOf_40 fl_X9_35 rfl rfl ?_
    refine r_iload1 dX9_claimOf_43 ?_
    refine r_ialdN dX9_claimOf_44 rfl hi ?_
    exact r_iretE dX9_claimOf_45 rfl (rfl) (rfl)
  · refine r_iload2 dX9_claimOf_0 ?_
    refine r_tabIn (tgt := 46) dX9_claimOf_1 (by decide) (by decide) (by rfl) (by decide) ?_
    refine r_aload0 dX9_claimOf_46 ?_
    refine r_getR dX9_claimOf_47 fl_X9_38 rfl rfl ?_
    refine r_iload1 dX9_claimOf_50 ?_
    refine r_ialdN dX9_claimOf_51 rfl hi ?_
    exact r_iretE dX9_claimOf_52 rfl (rfl) (rfl)
  · refine r_iload2 dX9_claimOf_0 ?_
    refine r_tabIn (tgt := 53) dX9_claimOf_1 (by decide) (by decide) (by rfl) (by decide) ?_
    refine r_aload0 dX9_claimOf_53 ?_
    refine r_getR dX9_claimOf_54 fl_X9_41 rfl rfl ?_
    refine r_iload1 dX9_claimOf_57 ?_
    refine r_ialdN dX9_claimOf_58 rfl hi ?_
    exact r_iretE dX9_claimOf_59 rfl (rfl) (rfl)
  · refine r_iload2 dX9_claimOf_0 ?_
    refine r_tabOut (tgt := 60) dX9_claimOf_1 (by decide) (by decide) ?_
    refine r_aload0 dX9_claimOf_60 ?_
    refine r_getR dX9_claimOf_61 fl_X9_44 rfl rfl ?_
    refine r_iload1 dX9_claimOf_64 ?_
    refine r_ialdN dX9_claimOf_65 rfl hi ?_
    exact r_iretE dX9_claimOf_66 rfl (rfl) (rfl)
theorem c_X9_claim_bad (i w : Int32) (h : Hp) (hb : i < 0 ∨ w < 0 ∨ 4 < w) : Rn 1 MX9_claim [.ref 31, .int i, .int w] h (EI (-2) h) := by
  refine rn_of mm_X9_claim (le_b rfl) rfl ?_
  by_cases c : i < 0
  · refine r_iload1 dX9_claim_0 ?_
    refine r_iflt (tgt := 16) dX9_claim_1 (by decide) (fun _ => ?_) (fun c9 => absurd (c) c9)
    refine r_bipush bv_m2 dX9_claim_16 ?_
    exact r_iretE dX9_claim_18 rfl (rfl) (rfl)
  · refine r_iload1 dX9_claim_0 ?_
    refine r_iflt (tgt := 16) dX9_claim_1 (by decide) (fun c9 => absurd c9 (c)) (fun _ => ?_)
    refine r_iload2 dX9_claim_4 ?_
    refine r_i2l dX9_claim_5 ?_
    refine r_lconst_0 dX9_claim_6 ?_
    refine r_ldc2 ct_X9_150 dX9_claim_7 ?_
    refine r_cS3I dX9_claim_10 mm_X9_in st_X9_in ml_X9_74 (c_inI_n (lo := 0) (hi := 4) h (by decide) (by decide) (hb.resolve_left c)) (by decide) (Nat.le_of_ble_eq_true rfl) ?_
    refine r_ifne (tgt := 19) dX9_claim_13 (by decide) (fun c9 => absurd (rfl) c9) (fun _ => ?_)
    refine r_bipush bv_m2 dX9_claim_16 ?_
    exact r_iretE dX9_claim_18 rfl (rfl) (rfl)
theorem c_X9_claim_not {v : Int32} {h h1 : Hp} (i w : Int32) (hi : ¬ i < 0) (w1 : ¬ w < 0) (w2 : ¬ 4 < w) (r : Rn 4 MX9_reads [.ref 31] h (EI v h1)) (hv : ¬ v = -1) : Rn 5 MX9_claim [.ref 31, .int i, .int w] h (EI (-3) h1) := by
  refine rn_of mm_X9_claim (le_b rfl) rfl ?_
  refine r_iload1 dX9_claim_0 ?_
  refine r_iflt (tgt := 16) dX9_claim_1 (by decide) (fun c9 => absurd c9 (hi)) (fun _ => ?_)
  refine r_iload2 dX9_claim_4 ?_
  refine r_i2l dX9_claim_5 ?_
  refine r_lconst_0 dX9_claim_6 ?_
  refine r_ldc2 ct_X9_150 dX9_claim_7 ?_
  refine r_cS3I dX9_claim_10 mm_X9_in st_X9_in ml_X9_74 (c_inI_y (lo := 0) (hi := 4) h (by decide) (by decide) w1 w2) (by decide) (Nat.le_of_ble_eq_true rfl) ?_
  refine r_ifne (tgt := 19) dX9_claim_13 (by decide) (fun _ => ?_) (fun c9 => absurd c9 (by decide))
  refine r_aload0 dX9_claim_19 ?_
  refine r_cV0I dX9_claim_20 mm_X9_reads im_X9_reads se_X9_reads ml_X9_147 rfl rfl rfl (r) (by decide) (Nat.le_of_ble_eq_true rfl) ?_
  refine r_iconst_m1 dX9_claim_23 ?_
  refine r_icmpeq (tgt := 30) dX9_claim_24 (by decide) (fun c9 => absurd c9 (hv)) (fun _ => ?_)
  refine r_bipush bv_m3 dX9_claim_27 ?_
  exact r_iretE dX9_claim_29 rfl (rfl) (rfl)
theorem c_X9_claim_out {h h1 : Hp} (i w : Int32) (hi : ¬ i < 0) (w1 : ¬ w < 0) (w2 : ¬ 4 < w) (r : Rn 4 MX9_reads [.ref 31] h (EI (-1) h1)) (ho : h1.1 31 10 ≤ i) : Rn 5 MX9_claim [.ref 31, .int i, .int w] h (EI (-2) h1) := by
  refine rn_of mm_X9_claim (le_b rfl) rfl ?_
  refine r_iload1 dX9_claim_0 ?_
  refine r_iflt (tgt := 16) dX9_claim_1 (by decide) (fun c9 => absurd c9 (hi)) (fun _ => ?_)
  refine r_iload2 dX9_claim_4 ?_
  refine r_i2l dX9_claim_5 ?_
  refine r_lconst_0 dX9_claim_6 ?_
  refine r_ldc2 ct_X9_150 dX9_claim_7 ?_
  refine r_cS3I dX9_claim_10 mm_X9_in st_X9_in ml_X9_74 (c_inI_y (lo := 0) (hi := 4) h (by decide) (by decide) w1 w2) (by decide) (Nat.le_of_ble_eq_true rfl) ?_
  refine r_ifne (tgt := 19) dX9_claim_13 (by decide) (fun _ => ?_) (fun c9 => absurd c9 (by decide))
  refine r_aload0 dX9_claim_19 ?_
  refine r_cV0I dX9_claim_20 mm_X9_reads im_X9_reads se_X9_reads ml_X9_147 rfl rfl rfl (r) (by decide) (Nat.le_of_ble_eq_true rfl) ?_
  refine r_iconst_m1 dX9_claim_23 ?_
  refine r_icmpeq (tgt := 30) dX9_claim_24 (by decide) (fun _ => ?_) (fun c9 => absurd (rfl) c9)
  refine r_iload1 dX9_claim_30 ?_
  refine r_aload0 dX9_claim_31 ?_
  refine r_getI dX9_claim_32 fl_X9_120 rfl rfl ?_
  refine r_icmpge (tgt := 47) dX9_claim_35 (by decide) (fun _ => ?_) (fun c9 => absurd (ho) c9)
  refine r_bipush bv_m2 dX9_claim_47 ?_
  exact r_iretE dX9_claim_49 rfl (rfl) (rfl)
theorem c_X9_claim {h h1 : Hp} (i w k : Nat) (w2 : w ≤ 4) (r : Rn 4 MX9_reads [.ref 31] h (EI (-1) h1)) (hk : h1.1 31 10 = nI k) (hk2 : k ≤ 10) (hi : i < k) : Rn 5 MX9_claim [.ref 31, .int (nI i), .int (nI w)] h (EI (h1.1 (37 + w) i) h1) := by
  refine rn_of mm_X9_claim (le_b rfl) rfl ?_
  refine r_iload1 dX9_claim_0 ?_
  refine r_iflt (tgt := 16) dX9_claim_1 (by decide) (fun c9 => absurd c9 (nI_pos (by omega))) (fun _ => ?_)
  refine r_iload2 dX9_claim_4 ?_
  refine r_i2l dX9_claim_5 ?_
  refine r_lconst_0 dX9_claim_6 ?_
  refine r_ldc2 ct_X9_150 dX9_claim_7 ?_
  refine r_cS3I dX9_claim_10 mm_X9_in st_X9_in ml_X9_74 (c_inI_y (lo := 0) (hi := 4) h (by decide) (by decide) (nI_pos (by omega)) (nI_nlt (a := 4) w2 (by decide))) (by decide) (Nat.le_of_ble_eq_true rfl) ?_
  refine r_ifne (tgt := 19) dX9_claim_13 (by decide) (fun _ => ?_) (fun c9 => absurd c9 (by decide))
  refine r_aload0 dX9_claim_19 ?_
  refine r_cV0I dX9_claim_20 mm_X9_reads im_X9_reads se_X9_reads ml_X9_147 rfl rfl rfl (r) (by decide) (Nat.le_of_ble_eq_true rfl) ?_
  refine r_iconst_m1 dX9_claim_23 ?_
  refine r_icmpeq (tgt := 30) dX9_claim_24 (by decide) (fun _ => ?_) (fun c9 => absurd (rfl) c9)
  refine r_iload1 dX9_claim_30 ?_
  refine r_aload0 dX9_claim_31 ?_
  refine r_getI dX9_claim_32 fl_X9_120 rfl rfl ?_
  refine r_icmpge (tgt := 47) dX9_claim_35 (by decide) (fun c9 => absurd c9 (by rw [hk]; exact nI_ge hi (by omega))) (fun _ => ?_)
  refine r_aload0 dX9_claim_38 ?_
  refine r_iload1 dX9_claim_39 ?_
  refine r_iload2 dX9_claim_40 ?_
  refine r_cV2I dX9_claim_41 mm_X9_claimOf im_X9_claimOf se_X9_claimOf ml_X9_152 rfl rfl rfl (c_X9_claimOf i w h1 (by omega) w2) (by decide) (Nat.le_of_ble_eq_true rfl) ?_
  refine r_goto (tgt := 49) dX9_claim_44 (by decide) ?_
  exact r_iretE dX9_claim_49 rfl (rfl) (rfl)
theorem c_X9_allBits (h : Hp) : Rn 0 MX9_allBits [.ref 31] h (EI (fAll (h.1 31 10)) h) := by
  refine rn_of mm_X9_allBits (le_b rfl) rfl ?_
  refine r_iconst_1 dX9_allBits_0 ?_
  refine r_aload0 dX9_allBits_1 ?_
  refine r_getI dX9_allBits_2 fl_X9_120 rfl rfl ?_
  refine r_ishl dX9_allBits_5 ?_
  refine r_iconst_1 dX9_allBits_6 ?_
  refine r_isub dX9_allBits_7 ?_
  exact r_iretE dX9_allBits_8 rfl (rfl) (rfl)
theorem c_X9_believe_bad (b : Int32) (h : Hp) (hb : b < 0) : Rn 1 MX9_believe [.ref 31, .int b] h (EI (-2) h) := by
  refine rn_of mm_X9_believe (le_b rfl) rfl ?_
  refine r_iload1 dX9_believe_0 ?_
  refine r_ifge (tgt := 7) dX9_believe_1 (by decide) (fun c9 => absurd c9 (fun q => absurd hb (Int32.not_lt.mpr q))) (fun _ => ?_)
  refine r_bipush bv_m2 dX9_believe_4 ?_
  exact r_iretE dX9_believe_6 rfl (rfl) (rfl)
theorem c_X9_believe_not {v : Int32} {h h1 : Hp} (b : Int32) (hb : ¬ b < 0) (r : Rn 4 MX9_reads [.ref 31] h (EI v h1)) (hv : ¬ v = -1) : Rn 5 MX9_believe [.ref 31, .int b] h (EI (-3) h1) := by
  refine rn_of mm_X9_believe (le_b rfl) rfl ?_
  refine r_iload1 dX9_believe_0 ?_
  refine r_ifge (tgt := 7) dX9_believe_1 (by decide) (fun _ => ?_) (fun c9 => absurd (Int32.not_lt.mp hb) c9)
  refine r_aload0 dX9_believe_7 ?_
  refine r_cV0I dX9_believe_8 mm_X9_reads im_X9_reads se_X9_reads ml_X9_147 rfl rfl rfl (r) (by decide) (Nat.le_of_ble_eq_true rfl) ?_
  refine r_iconst_m1 dX9_believe_11 ?_
  refine r_icmpeq (tgt := 18) dX9_believe_12 (by decide) (fun c9 => absurd c9 (hv)) (fun _ => ?_)
  refine r_bipush bv_m3 dX9_believe_15 ?_
  exact r_iretE dX9_believe_17 rfl (rfl) (rfl)
theorem c_X9_believe_big {h h1 : Hp} (b : Int32) (hb : ¬ b < 0) (r : Rn 4 MX9_reads [.ref 31] h (EI (-1) h1)) (ho : ¬ b ≤ fAll (h1.1 31 10)) : Rn 5 MX9_believe [.ref 31, .int b] h (EI (-2) h1) := by
  refine rn_of mm_X9_believe (le_b rfl) rfl ?_
  refine r_iload1 dX9_believe_0 ?_
  refine r_ifge (tgt := 7) dX9_believe_1 (by decide) (fun _ => ?_) (fun c9 => absurd (Int32.not_lt.mp hb) c9)
  refine r_aload0 dX9_believe_7 ?_
  refine r_cV0I dX9_believe_8 mm_X9_reads im_X9_reads se_X9_reads ml_X9_147 rfl rfl rfl (r) (by decide) (Nat.le_of_ble_eq_true rfl) ?_
  refine r_iconst_m1 dX9_believe_11 ?_
  refine r_icmpeq (tgt := 18) dX9_believe_12 (by decide) (fun _ => ?_) (fun c9 => absurd (rfl) c9)
  refine r_iload1 dX9_believe_18 ?_
  refine r_aload0 dX9_believe_19 ?_
  refine r_cV0I dX9_believe_20 mm_X9_allBits im_X9_allBits se_X9_allBits ml_X9_155 rfl rfl rfl (c_X9_allBits h1) (by decide) (Nat.le_of_ble_eq_true rfl) ?_
  refine r_icmple (tgt := 29) dX9_believe_23 (by decide) (fun c9 => absurd c9 (ho)) (fun _ => ?_)
  refine r_bipush bv_m2 dX9_believe_26 ?_
  exact r_iretE dX9_believe_28 rfl (rfl) (rfl)
def mBel (h : Hp) : Int32 := fAll (h.1 31 10) &&& (h.1 31 16 ^^^ -1)
theorem c_X9_believe {h h1 : Hp} (b : Int32) (hb : ¬ b < 0) (r : Rn 4 MX9_reads [.ref 31] h (EI (-1) h1)) (ho : b ≤ fAll (h1.1 31 10)) : Rn 5 MX9_believe [.ref 31, .int b] h (EI (mBel h1) (pI h1 31 16 (fAll (h1.1 31 10) &&& (b ^^^ -1)))) := by
  refine rn_of mm_X9_believe (le_b rfl) rfl ?_
  refine r_iload1 dX9_believe_0 ?_
  refine r_ifge (tgt := 7) dX9_believe_1 (by decide) (fun _ => ?_) (fun c9 => absurd (Int32.not_lt.mp hb) c9)
  refine r_aload0 dX9_believe_7 ?_
  refine r_cV0I dX9_believe_8 mm_X9_reads im_X9_reads se_X9_reads ml_X9_147 rfl rfl rfl (r) (by decide) (Nat.le_of_ble_eq_true rfl) ?_
  refine r_iconst_m1 dX9_believe_11 ?_
  refine r_icmpeq (tgt := 18) dX9_believe_12 (by decide) (fun _ => ?_) (fun c9 => absurd (rfl) c9)
  refine r_iload1 dX9_believe_18 ?_
  refine r_aload0 dX9_believe_19 ?_
  refine r_cV0I dX9_believe_20 mm_X9_allBits im_X9_allBits se_X9_allBits ml_X9_155 rfl rfl rfl (c_X9_allBits h1) (by decide) (Nat.le_of_ble_eq_true rfl) ?_
  refine r_icmple (tgt := 29) dX9_believe_23 (by decide) (fun _ => ?_) (fun c9 => absurd (ho) c9)
  refine r_aload0 dX9_believe_29 ?_
  refine r_cV0I dX9_believe_30 mm_X9_allBits im_X9_allBits se_X9_allBits ml_X9_155 rfl rfl rfl (c_X9_allBits h1) (by decide) (Nat.le_of_ble_eq_true rfl) ?_
  refine r_aload0 dX9_believe_33 ?_
  refine r_getI dX9_believe_34 fl_X9_106 rfl rfl ?_
  refine r_iconst_m1 dX9_believe_37 ?_
  refine r_ixor dX9_believe_38 ?_
  refine r_iand dX9_believe_39 ?_
  refine r_istore2 dX9_believe_40 rfl (by decide) ?_
  refine r_aload0 dX9_believe_41 ?_
  refine r_aload0 dX9_believe_42 ?_
  refine r_cV0I dX9_believe_43 mm_X9_allBits im_X9_allBits se_X9_allBits ml_X9_155 rfl rfl rfl (c_X9_allBits h1) (by decide) (Nat.le_of_ble_eq_true rfl) ?_
  refine r_iload1 dX9_believe_46 ?_
  refine r_iconst_m1 dX9_believe_47 ?_
  refine r_ixor dX9_believe_48 ?_
  refine r_iand dX9_believe_49 ?_
  refine r_putI dX9_believe_50 fw_X9_106 rfl rfl ?_
  refine r_iload2 dX9_believe_53 ?_
  exact r_iretE dX9_believe_54 rfl (rfl) (rfl)
theorem c_X9_believed (h : Hp) : Rn 1 MX9_believed [.ref 31] h (EI (mBel h) h) := by
  refine rn_of mm_X9_believed (le_b rfl) rfl ?_
  refine r_aload0 dX9_believed_0 ?_
  refine r_cV0I dX9_believed_1 mm_X9_allBits im_X9_allBits se_X9_allBits ml_X9_155 rfl rfl rfl (c_X9_allBits h) (by decide) (Nat.le_of_ble_eq_true rfl) ?_
  refine r_aload0 dX9_believed_4 ?_
  refine r_getI dX9_believed_5 fl_X9_106 rfl rfl ?_
  refine r_iconst_m1 dX9_believed_8 ?_
  refine r_ixor dX9_believed_9 ?_
  refine r_iand dX9_believed_10 ?_
  exact r_iretE dX9_believed_11 rfl (rfl) (rfl)
