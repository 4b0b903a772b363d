/-! ToldFigures.digest -/
theorem digc_5 {P : KQT} {h : Hp} (hS : SH4 h) (kk : Aw 7 MX8_digest P 30 [some (.ref 0), some (.long (dg (dg (dg (dg (dg 17 (h.1 0 7)) (h.1 0 8)) (h.1 1 8)) (h.1 0 9)) (fThere h))), none, some (.int (nI 5)), none] [] h) : Aw 7 MX8_digest P 0 [some (.ref 0), none, none, none, none] [] h := by
  refine r_ldc2 ct_X8_260 dX8_digest_0 ?_
  refine r_lstore1 dX8_digest_3 rfl (by decide) ?_
  refine r_iconst_0 dX8_digest_4 ?_
  refine r_istore3 dX8_digest_5 rfl (by decide) ?_
  refine r_iload3 dX8_digest_6 ?_
  refine r_iconst_4 dX8_digest_7 ?_
  refine r_icmpgt (tgt := 30) dX8_digest_8 (by decide) (fun c9 => absurd c9 (by decide)) (fun _ => ?_)
  refine r_ldc2 ct_X8_262 dX8_digest_11 ?_
  refine r_lload1 dX8_digest_14 ?_
  refine r_lmul dX8_digest_15 ?_
  refine r_aload0 dX8_digest_16 ?_
  refine r_iload3 dX8_digest_17 ?_
  refine r_cV1I dX8_digest_18 mm_X8_count im_X8_count se_X8_count ml_X8_264 rfl rfl rfl (c_X8_count0 h) (by decide) (Nat.le_of_ble_eq_true rfl) ?_
  refine r_i2l dX8_digest_21 ?_
  refine r_ladd dX8_digest_22 ?_
  refine r_lstore1 dX8_digest_23 rfl (by decide) ?_
  refine r_iinc3_1 dX8_digest_24 rfl (by decide) ?_
  refine r_goto (tgt := 6) dX8_digest_27 (by decide) ?_
  refine r_iload3 dX8_digest_6 ?_
  refine r_iconst_4 dX8_digest_7 ?_
  refine r_icmpgt (tgt := 30) dX8_digest_8 (by decide) (fun c9 => absurd c9 (by decide)) (fun _ => ?_)
  refine r_ldc2 ct_X8_262 dX8_digest_11 ?_
  refine r_lload1 dX8_digest_14 ?_
  refine r_lmul dX8_digest_15 ?_
  refine r_aload0 dX8_digest_16 ?_
  refine r_iload3 dX8_digest_17 ?_
  refine r_cV1I dX8_digest_18 mm_X8_count im_X8_count se_X8_count ml_X8_264 rfl rfl rfl (c_X8_count1 h) (by decide) (Nat.le_of_ble_eq_true rfl) ?_
  refine r_i2l dX8_digest_21 ?_
  refine r_ladd dX8_digest_22 ?_
  refine r_lstore1 dX8_digest_23 rfl (by decide) ?_
  refine r_iinc3_1 dX8_digest_24 rfl (by decide) ?_
  refine r_goto (tgt := 6) dX8_digest_27 (by decide) ?_
  refine r_iload3 dX8_digest_6 ?_
  refine r_iconst_4 dX8_digest_7 ?_
  refine r_icmpgt (tgt := 30) dX8_digest_8 (by decide) (fun c9 => absurd c9 (by decide)) (fun _ => ?_)
  refine r_ldc2 ct_X8_262 dX8_digest_11 ?_
  refine r_lload1 dX8_digest_14 ?_
  refine r_lmul dX8_digest_15 ?_
  refine r_aload0 dX8_digest_16 ?_
  refine r_iload3 dX8_digest_17 ?_
  refine r_cV1I dX8_digest_18 mm_X8_count im_X8_count se_X8_count ml_X8_264 rfl rfl rfl (c_X8_count2 h) (by decide) (Nat.le_of_ble_eq_true rfl) ?_
  refine r_i2l dX8_digest_21 ?_
  refine r_ladd dX8_digest_22 ?_
  refine r_lstore1 dX8_digest_23 rfl (by decide) ?_
  refine r_iinc3_1 dX8_digest_24 rfl (by decide) ?_
  refine r_goto (tgt := 6) dX8_digest_27 (by decide) ?_
  refine r_iload3 dX8_digest_6 ?_
  refine r_iconst_4 dX8_digest_7 ?_
  refine r_icmpgt (tgt := 30) dX8_digest_8 (by decide) (fun c9 => absurd c9 (by decide)) (fun _ => ?_)
  refine r_ldc2 ct_X8_262 dX8_digest_11 ?_
  refine r_lload1 dX8_digest_14 ?_
  refine r_lmul dX8_digest_15 ?_
  refine r_aload0 dX8_digest_16 ?_
  refine r_iload3 dX8_digest_17 ?_
  refine r_cV1I dX8_digest_18 mm_X8_count im_X8_count se_X8_count ml_X8_264 rfl rfl rfl (c_X8_count3 h) (by decide) (Nat.le_of_ble_eq_true rfl) ?_
  refine r_i2l dX8_digest_21 ?_
  refine r_ladd dX8_digest_22 ?_
  refine r_lstore1 dX8_digest_23 rfl (by decide) ?_
  refine r_iinc3_1 dX8_digest_24 rfl (by decide) ?_
  refine r_goto (tgt := 6) dX8_digest_27 (by decide) ?_
  refine r_iload3 dX8_digest_6 ?_
  refine r_iconst_4 dX8_digest_7 ?_
  refine r_icmpgt (tgt := 30) dX8_digest_8 (by decide) (fun c9 => absurd c9 (by decide)) (fun _ => ?_)
  refine r_ldc2 ct_X8_262 dX8_digest_11 ?_
  refine r_lload1 dX8_digest_14 ?_
  refine r_lmul dX8_digest_15 ?_
  refine r_aload0 dX8_digest_16 ?_
  refine r_iload3 dX8_digest_17 ?_
  refine r_cV1I dX8_digest_18 mm_X8_count im_X8_count se_X8_count ml_X8_264 rfl rfl rfl (c_X8_count4 h hS) (by decide) (Nat.le_of_ble_eq_true rfl) ?_
  refine r_i2l dX8_digest_21 ?_
  refine r_ladd dX8_digest_22 ?_
  refine r_lstore1 dX8_digest_23 rfl (by decide) ?_
  refine r_iinc3_1 dX8_digest_24 rfl (by decide) ?_
  refine r_goto (tgt := 6) dX8_digest_27 (by decide) ?_
  refine r_iload3 dX8_digest_6 ?_
  refine r_iconst_4 dX8_digest_7 ?_
  refine r_icmpgt (tgt := 30) dX8_digest_8 (by decide) (fun _ => ?_) (fun c9 => absurd (by decide) c9)
  exact kk
theorem digc_last {v : Int64} {h2 h3 h4 h5 h6 : Hp} {y1 y2 y3 y4 : Int32} {x3 x4 : Option Value} (r1 : Rn 6 MX8_can [.ref 0] h2 (EI y1 h3)) (r2 : Rn 6 MX8_alone [.ref 0] h3 (EI y2 h4)) (r3 : Rn 6 MX8_fewest [.ref 0] h4 (EI y3 h5)) (r4 : Rn 6 MX8_ask [.ref 0] h5 (EI y4 h6)) : Aw 7 MX8_digest (Kp (EL (dg (dg (dg (dg v y1) y2) y3) y4) h6)) 100 [some (.ref 0), some (.long v), none, x3, x4] [] h2 := by
  refine r_ldc2 ct_X8_262 dX8_digest_100 ?_
  refine r_lload1 dX8_digest_103 ?_
  refine r_lmul dX8_digest_104 ?_
  refine r_aload0 dX8_digest_105 ?_
  refine r_cV0I dX8_digest_106 mm_X8_can im_X8_can se_X8_can ml_X8_275 rfl rfl rfl (r1) (by decide) (Nat.le_of_ble_eq_true rfl) ?_
  refine r_i2l dX8_digest_109 ?_
  refine r_ladd dX8_digest_110 ?_
  refine r_lstore1 dX8_digest_111 rfl (by decide) ?_
  refine r_ldc2 ct_X8_262 dX8_digest_112 ?_
  refine r_lload1 dX8_digest_115 ?_
  refine r_lmul dX8_digest_116 ?_
  refine r_aload0 dX8_digest_117 ?_
  refine r_cV0I dX8_digest_118 mm_X8_alone im_X8_alone se_X8_alone ml_X8_278 rfl rfl rfl (r2) (by decide) (Nat.le_of_ble_eq_true rfl) ?_
  refine r_i2l dX8_digest_121 ?_
  refine r_ladd dX8_digest_122 ?_
  refine r_lstore1 dX8_digest_123 rfl (by decide) ?_
  refine r_ldc2 ct_X8_262 dX8_digest_124 ?_
  refine r_lload1 dX8_digest_127 ?_
  refine r_lmul dX8_digest_128 ?_
  refine r_aload0 dX8_digest_129 ?_
  refine r_cV0I dX8_digest_130 mm_X8_fewest im_X8_fewest se_X8_fewest ml_X8_281 rfl rfl rfl (r3) (by decide) (Nat.le_of_ble_eq_true rfl) ?_
  refine r_i2l dX8_digest_133 ?_
  refine r_ladd dX8_digest_134 ?_
  refine r_lstore1 dX8_digest_135 rfl (by decide) ?_
  refine r_ldc2 ct_X8_262 dX8_digest_136 ?_
  refine r_lload1 dX8_digest_139 ?_
  refine r_lmul dX8_digest_140 ?_
  refine r_aload0 dX8_digest_141 ?_
  refine r_cV0I dX8_digest_142 mm_X8_ask im_X8_ask se_X8_ask ml_X8_284 rfl rfl rfl (r4) (by decide) (Nat.le_of_ble_eq_true rfl) ?_
  refine r_i2l dX8_digest_145 ?_
  refine r_ladd dX8_digest_146 ?_
  refine r_lstore1 dX8_digest_147 rfl (by decide) ?_
  refine r_lload1 dX8_digest_148 ?_
  exact r_lretE dX8_digest_149 rfl (rfl) (rfl)
theorem c_X8_digest_y {h h3 h4 h5 h6 : Hp} {y1 y2 y3 y4 : Int32} (kc : Nat) (hS : SH4 h) (hf : h.1 1 10 = -1) (hk : h.1 1 9 = nI kc) (hk2 : kc ≤ 10) (q1 : Rn 6 MX8_can [.ref 0] h (EI y1 h3)) (q2 : Rn 6 MX8_alone [.ref 0] h3 (EI y2 h4)) (q3 : Rn 6 MX8_fewest [.ref 0] h4 (EI y3 h5)) (q4 : Rn 6 MX8_ask [.ref 0] h5 (EI y4 h6)) : Rn 7 MX8_digest [.ref 0] h (EL (dg (dg (dg (dg (dgCl (fun k i => h.1 (3 + k) i) kc (dg (dg (dg (dg (dg (dg (dg 17 (h.1 0 7)) (h.1 0 8)) (h.1 1 8)) (h.1 0 9)) (fThere h)) (-1)) (nI kc))) y1) y2) y3) y4) h6) := by
  have rc := c_X8_claims_y h hf
  rw [hk] at rc
  have rf := c_X8_fault h
  rw [hf] at rf
  refine rn_of mm_X8_digest (le_b rfl) rfl ?_
  refine digc_5 hS ?_
  generalize dg (dg (dg (dg (dg 17 (h.1 0 7)) (h.1 0 8)) (h.1 1 8)) (h.1 0 9)) (fThere h) = v0
  refine r_ldc2 ct_X8_262 dX8_digest_30 ?_
  refine r_lload1 dX8_digest_33 ?_
  refine r_lmul dX8_digest_34 ?_
  refine r_aload0 dX8_digest_35 ?_
  refine r_cV0I dX8_digest_36 mm_X8_fault im_X8_fault se_X8_fault ml_X8_267 rfl rfl rfl (rf) (by decide) (Nat.le_of_ble_eq_true rfl) ?_
  refine r_i2l dX8_digest_39 ?_
  refine r_ladd dX8_digest_40 ?_
  refine r_lstore1 dX8_digest_41 rfl (by decide) ?_
  refine r_ldc2 ct_X8_262 dX8_digest_42 ?_
  refine r_lload1 dX8_digest_45 ?_
  refine r_lmul dX8_digest_46 ?_
  refine r_aload0 dX8_digest_47 ?_
  refine r_cV0I dX8_digest_48 mm_X8_claims im_X8_claims se_X8_claims ml_X8_269 rfl rfl rfl (rc) (by decide) (Nat.le_of_ble_eq_true rfl) ?_
  refine r_i2l dX8_digest_51 ?_
  refine r_ladd dX8_digest_52 ?_
  refine r_lstore1 dX8_digest_53 rfl (by decide) ?_
  refine r_iconst_0 dX8_digest_54 ?_
  refine r_istore3 dX8_digest_55 rfl (by decide) ?_
  have key : ∀ f i v x4, i + f = kc → lp (dgK (fun k i => h.1 (3 + k) i)) i f v = dgCl (fun k i => h.1 (3 + k) i) kc (dg (dg v0 (-1)) (nI kc)) → Aw 7 MX8_digest (Kp (EL (dg (dg (dg (dg (dgCl (fun k i => h.1 (3 + k) i) kc (dg (dg v0 (-1)) (nI kc))) y1) y2) y3) y4) h6)) 56 [some (.ref 0), some (.long v), none, some (.int (nI i)), x4] [] h := by
    intro f
    induction f with
    | zero =>
      intro i v x4 hi he
      have : i = kc := by omega
      subst this
      have he : v = _ := he
      refine r_iload3 dX8_digest_56 ?_
      refine r_aload0 dX8_digest_57 ?_
      refine r_cV0I dX8_digest_58 mm_X8_claims im_X8_claims se_X8_claims ml_X8_269 rfl rfl rfl (rc) (by decide) (Nat.le_of_ble_eq_true rfl) ?_
      refine r_icmpge (tgt := 100) dX8_digest_61 (by decide) (fun _ => ?_) (fun c9 => absurd (Int32.le_refl _) c9)
      rw [← he]
      exact digc_last q1 q2 q3 q4
    | succ f ih =>
      intro i v x4 hi he
      rw [lp_s] at he
      refine r_iload3 dX8_digest_56 ?_
      refine r_aload0 dX8_digest_57 ?_
      refine r_cV0I dX8_digest_58 mm_X8_claims im_X8_claims se_X8_claims ml_X8_269 rfl rfl rfl (rc) (by decide) (Nat.le_of_ble_eq_true rfl) ?_
      refine r_icmpge (tgt := 100) dX8_digest_61 (by decide) (fun c9 => absurd c9 (nI_ge (by omega) (by omega))) (fun _ => ?_)
      refine r_iconst_0 dX8_digest_64 ?_
      refine r_istore4 dX8_digest_65 rfl (by decide) ?_
      generalize hR : dgCl (fun k i => h.1 (3 + k) i) kc (dg (dg v0 (-1)) (nI kc)) = R at *
      have hj : ∀ g k u, k + g = 5 → lp (fun k v => dg v (h.1 (3 + k) i)) k g u = dgK (fun k i => h.1 (3 + k) i) i v → Aw 7 MX8_digest (Kp (EL (dg (dg (dg (dg R y1) y2) y3) y4) h6)) 67 [some (.ref 0), some (.long u), none, some (.int (nI i)), some (.int (nI k))] [] h := by
        intro g
        induction g with
        | zero =>
          intro k u hk5 he2
          have : k = 5 := by omega
          subst this
          have he2 : u = dgK (fun k i => h.1 (3 + k) i) i v := he2
          refine r_iload4 dX8_digest_67 ?_
          refine r_iconst_5 dX8_digest_69 ?_
          refine r_icmpge (tgt := 94) dX8_digest_70 (by decide) (fun _ => ?_) (fun c9 => absurd (by decide) c9)
          refine r_iinc3_1 dX8_digest_94 rfl (by decide) ?_
          refine r_goto (tgt := 56) dX8_digest_97 (by decide) ?_
          rw [nI_1, he2]
          exact ih (i + 1) _ _ (by omega) he
        | succ g ihg =>
          intro k u hk5 he2
          rw [lp_s] at he2
          refine r_iload4 dX8_digest_67 ?_
          refine r_iconst_5 dX8_digest_69 ?_
          refine r_icmpge (tgt := 94) dX8_digest_70 (by decide) (fun c9 => absurd c9 (nI_ge (b := 5) (by omega) (by decide))) (fun _ => ?_)
          refine r_ldc2 ct_X8_262 dX8_digest_73 ?_
          refine r_lload1 dX8_digest_76 ?_
          refine r_lmul dX8_digest_77 ?_
          refine r_aload0 dX8_digest_78 ?_
          refine r_iload3 dX8_digest_79 ?_
          refine r_iload4 dX8_digest_80 ?_
          refine r_cV2I dX8_digest_82 mm_X8_claim im_X8_claim se_X8_claim ml_X8_272 rfl rfl rfl (c_X8_claim i k kc h (by omega) hf hk hk2 (by omega)) (by decide) (Nat.le_of_ble_eq_true rfl) ?_
          refine r_i2l dX8_digest_85 ?_
          refine r_ladd dX8_digest_86 ?_
          refine r_lstore1 dX8_digest_87 rfl (by decide) ?_
          refine r_iinc4_1 dX8_digest_88 rfl (by decide) ?_
          refine r_goto (tgt := 67) dX8_digest_91 (by decide) ?_
          rw [nI_1]
          exact ihg (k + 1) _ (by omega) he2
      exact hj 5 0 v rfl rfl
  exact key kc 0 _ none (by omega) rfl
theorem c_X8_digest_n {h h3 h4 h5 h6 : Hp} {y1 y2 y3 y4 : Int32} (hS : SH4 h) (hf : ¬ h.1 1 10 = -1) (q1 : Rn 6 MX8_can [.ref 0] h (EI y1 h3)) (q2 : Rn 6 MX8_alone [.ref 0] h3 (EI y2 h4)) (q3 : Rn 6 MX8_fewest [.ref 0] h4 (EI y3 h5)) (q4 : Rn 6 MX8_ask [.ref 0] h5 (EI y4 h6)) : Rn 7 MX8_digest [.ref 0] h (EL (dg (dg (dg (dg (dg (dg (dg (dg (dg (dg (dg 17 (h.1 0 7)) (h.1 0 8)) (h.1 1 8)) (h.1 0 9)) (fThere h)) (h.1 1 10)) (-3)) y1) y2) y3) y4) h6) := by
  have rc := c_X8_claims_n h hf
  refine rn_of mm_X8_digest (le_b rfl) rfl ?_
  refine digc_5 hS ?_
  generalize dg (dg (dg (dg (dg 17 (h.1 0 7)) (h.1 0 8)) (h.1 1 8)) (h.1 0 9)) (fThere h) = v0
  refine r_ldc2 ct_X8_262 dX8_digest_30 ?_
  refine r_lload1 dX8_digest_33 ?_
  refine r_lmul dX8_digest_34 ?_
  refine r_aload0 dX8_digest_35 ?_
  refine r_cV0I dX8_digest_36 mm_X8_fault im_X8_fault se_X8_fault ml_X8_267 rfl rfl rfl (c_X8_fault h) (by decide) (Nat.le_of_ble_eq_true rfl) ?_
  refine r_i2l dX8_digest_39 ?_
  refine r_ladd dX8_digest_40 ?_
  refine r_lstore1 dX8_digest_41 rfl (by decide) ?_
  refine r_ldc2 ct_X8_262 dX8_digest_42 ?_
  refine r_lload1 dX8_digest_45 ?_
  refine r_lmul dX8_digest_46 ?_
  refine r_aload0 dX8_digest_47 ?_
  refine r_cV0I dX8_digest_48 mm_X8_claims im_X8_claims se_X8_claims ml_X8_269 rfl rfl rfl (rc) (by decide) (Nat.le_of_ble_eq_true rfl) ?_
  refine r_i2l dX8_digest_51 ?_
  refine r_ladd dX8_digest_52 ?_
  refine r_lstore1 dX8_digest_53 rfl (by decide) ?_
  refine r_iconst_0 dX8_digest_54 ?_
  refine r_istore3 dX8_digest_55 rfl (by decide) ?_
  refine r_iload3 dX8_digest_56 ?_
  refine r_aload0 dX8_digest_57 ?_
  refine r_cV0I dX8_digest_58 mm_X8_claims im_X8_claims se_X8_claims ml_X8_269 rfl rfl rfl (rc) (by decide) (Nat.le_of_ble_eq_true rfl) ?_
  refine r_icmpge (tgt := 100) dX8_digest_61 (by decide) (fun _ => ?_) (fun c9 => absurd (by decide) c9)
  exact digc_last q1 q2 q3 q4
