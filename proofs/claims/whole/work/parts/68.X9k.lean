/-! the reference: count, digest -/
theorem c_X9_count_bad (w : Int32) (h : Hp) (hw : w < 0 ∨ 8 < w ∨ w = 5 ∨ w = 6 ∨ w = 7) : Rn 0 MX9_count [.ref 31, .int w] h (EI (-2) h) := by
  refine rn_of mm_X9_count (le_b rfl) rfl ?_
  rcases hw with q | q | rfl | rfl | rfl
  · have q := (fa_lt _ _).mp q
    have e : (0 : Int32).toInt = 0 := by decide
    refine r_iload1 dX9_count_0 ?_
    refine r_tabOut (tgt := 123) dX9_count_1 (by omega) (by decide) ?_
    refine r_bipush bv_m2 dX9_count_123 ?_
    exact r_iretE dX9_count_125 rfl (rfl) (rfl)
  · have q := (fa_lt _ _).mp q
    have e : (8 : Int32).toInt = 8 := by decide
    refine r_iload1 dX9_count_0 ?_
    refine r_tabOut (tgt := 123) dX9_count_1 (by omega) (by decide) ?_
    refine r_bipush bv_m2 dX9_count_123 ?_
    exact r_iretE dX9_count_125 rfl (rfl) (rfl)
  · refine r_iload1 dX9_count_0 ?_
    refine r_tabIn (tgt := 123) dX9_count_1 (by decide) (by decide) (by rfl) (by decide) ?_
    refine r_bipush bv_m2 dX9_count_123 ?_
    exact r_iretE dX9_count_125 rfl (rfl) (rfl)
  · refine r_iload1 dX9_count_0 ?_
    refine r_tabIn (tgt := 123) dX9_count_1 (by decide) (by decide) (by rfl) (by decide) ?_
    refine r_bipush bv_m2 dX9_count_123 ?_
    exact r_iretE dX9_count_125 rfl (rfl) (rfl)
  · refine r_iload1 dX9_count_0 ?_
    refine r_tabIn (tgt := 123) dX9_count_1 (by decide) (by decide) (by rfl) (by decide) ?_
    refine r_bipush bv_m2 dX9_count_123 ?_
    exact r_iretE dX9_count_125 rfl (rfl) (rfl)
theorem c_X9_count0 (h : Hp) : Rn 0 MX9_count [.ref 31, .int (nI 0)] h (EI (h.1 31 5) h) := by
  refine rn_of mm_X9_count (le_b rfl) rfl ?_
  refine r_iload1 dX9_count_0 ?_
  refine r_tabIn (tgt := 52) dX9_count_1 (by decide) (by decide) (by rfl) (by decide) ?_
  refine r_aload0 dX9_count_52 ?_
  refine r_getI dX9_count_53 fl_X9_22 rfl rfl ?_
  exact r_iretE dX9_count_56 rfl (rfl) (rfl)
theorem c_X9_count1 (h : Hp) : Rn 0 MX9_count [.ref 31, .int (nI 1)] h (EI (h.1 31 6) h) := by
  refine rn_of mm_X9_count (le_b rfl) rfl ?_
  refine r_iload1 dX9_count_0 ?_
  refine r_tabIn (tgt := 57) dX9_count_1 (by decide) (by decide) (by rfl) (by decide) ?_
  refine r_aload0 dX9_count_57 ?_
  refine r_getI dX9_count_58 fl_X9_26 rfl rfl ?_
  exact r_iretE dX9_count_61 rfl (rfl) (rfl)
theorem c_X9_count2 (h : Hp) : Rn 0 MX9_count [.ref 31, .int (nI 2)] h (EI (h.1 31 8) h) := by
  refine rn_of mm_X9_count (le_b rfl) rfl ?_
  refine r_iload1 dX9_count_0 ?_
  refine r_tabIn (tgt := 62) dX9_count_1 (by decide) (by decide) (by rfl) (by decide) ?_
  refine r_aload0 dX9_count_62 ?_
  refine r_getI dX9_count_63 fl_X9_103 rfl rfl ?_
  exact r_iretE dX9_count_66 rfl (rfl) (rfl)
theorem c_X9_count8 (h : Hp) : Rn 0 MX9_count [.ref 31, .int (nI 8)] h (EI (h.1 31 4) h) := by
  refine rn_of mm_X9_count (le_b rfl) rfl ?_
  refine r_iload1 dX9_count_0 ?_
  refine r_tabIn (tgt := 118) dX9_count_1 (by decide) (by decide) (by rfl) (by decide) ?_
  refine r_aload0 dX9_count_118 ?_
  refine r_getI dX9_count_119 fl_X9_69 rfl rfl ?_
  exact r_iretE dX9_count_122 rfl (rfl) (rfl)
theorem c_X9_count3_y {h h1 : Hp} (r : Rn 4 MX9_reads [.ref 31] h (EI (-1) h1)) : Rn 5 MX9_count [.ref 31, .int (nI 3)] h (EI (mBel h1) h1) := by
  refine rn_of mm_X9_count (le_b rfl) rfl ?_
  refine r_iload1 dX9_count_0 ?_
  refine r_tabIn (tgt := 67) dX9_count_1 (by decide) (by decide) (by rfl) (by decide) ?_
  refine r_aload0 dX9_count_67 ?_
  refine r_cV0I dX9_count_68 mm_X9_reads im_X9_reads se_X9_reads ml_X9_147 rfl rfl rfl (r) (by decide) (Nat.le_of_ble_eq_true rfl) ?_
  refine r_iconst_m1 dX9_count_71 ?_
  refine r_icmpne (tgt := 82) dX9_count_72 (by decide) (fun c9 => absurd (rfl) c9) (fun _ => ?_)
  refine r_aload0 dX9_count_75 ?_
  refine r_cV0I dX9_count_76 mm_X9_believed im_X9_believed se_X9_believed ml_X9_195 rfl rfl rfl (c_X9_believed h1) (by decide) (Nat.le_of_ble_eq_true rfl) ?_
  refine r_goto (tgt := 83) dX9_count_79 (by decide) ?_
  exact r_iretE dX9_count_83 rfl (rfl) (rfl)
theorem c_X9_count3_n {v : Int32} {h h1 : Hp} (r : Rn 4 MX9_reads [.ref 31] h (EI v h1)) (hv : ¬ v = -1) : Rn 5 MX9_count [.ref 31, .int (nI 3)] h (EI 0 h1) := by
  refine rn_of mm_X9_count (le_b rfl) rfl ?_
  refine r_iload1 dX9_count_0 ?_
  refine r_tabIn (tgt := 67) dX9_count_1 (by decide) (by decide) (by rfl) (by decide) ?_
  refine r_aload0 dX9_count_67 ?_
  refine r_cV0I dX9_count_68 mm_X9_reads im_X9_reads se_X9_reads ml_X9_147 rfl rfl rfl (r) (by decide) (Nat.le_of_ble_eq_true rfl) ?_
  refine r_iconst_m1 dX9_count_71 ?_
  refine r_icmpne (tgt := 82) dX9_count_72 (by decide) (fun _ => ?_) (fun c9 => absurd c9 (hv))
  refine r_iconst_0 dX9_count_82 ?_
  exact r_iretE dX9_count_83 rfl (rfl) (rfl)
def mTh (h : Hp) : Int32 := lp (fun j a => if h.1 32 j < 0 then a else a + 1) 0 4 0
theorem c_X9_count4 (h : Hp) : Rn 0 MX9_count [.ref 31, .int (nI 4)] h (EI (mTh h) h) := by
  refine rn_of mm_X9_count (le_b rfl) rfl ?_
  refine r_iload1 dX9_count_0 ?_
  refine r_tabIn (tgt := 84) dX9_count_1 (by decide) (by decide) (by rfl) (by decide) ?_
  refine r_iconst_0 dX9_count_84 ?_
  refine r_istore2 dX9_count_85 rfl (by decide) ?_
  refine r_iconst_0 dX9_count_86 ?_
  refine r_istore3 dX9_count_87 rfl (by decide) ?_
  refine lpA (fun j a => if h.1 32 j < 0 then a else a + 1) (fun j a => Aw 0 MX9_count (Kp (EI (mTh h) h)) 88 [some (.ref 31), some (.int (nI 4)), some (.int a), some (.int (nI j))] [] h) 4 ?_ 0 ?_
  · intro j a hj k
    by_cases c : h.1 32 j < 0
    · rw [if_pos c] at k
      refine r_iload3 dX9_count_88 ?_
      refine r_iconst_4 dX9_count_89 ?_
      refine r_icmpge (tgt := 116) dX9_count_90 (by decide) (fun c9 => absurd c9 (nI_ge (b := 4) hj (by decide))) (fun _ => ?_)
      refine r_iload2 dX9_count_93 ?_
      refine r_aload0 dX9_count_94 ?_
      refine r_getR dX9_count_95 fl_X9_7 rfl rfl ?_
      refine r_iload3 dX9_count_98 ?_
      refine r_ialdN dX9_count_99 rfl hj ?_
      refine r_ifge (tgt := 107) dX9_count_100 (by decide) (fun c9 => absurd c9 (fun q => absurd c (Int32.not_lt.mpr q))) (fun _ => ?_)
      refine r_iconst_0 dX9_count_103 ?_
      refine r_goto (tgt := 108) dX9_count_104 (by decide) ?_
      refine r_iadd dX9_count_108 ?_
      refine r_istore2 dX9_count_109 rfl (by decide) ?_
      refine r_iinc3_1 dX9_count_110 rfl (by decide) ?_
      refine r_goto (tgt := 88) dX9_count_113 (by decide) ?_
      rw [i32_add0, nI_1]
      exact k
    · rw [if_neg c] at k
      refine r_iload3 dX9_count_88 ?_
      refine r_iconst_4 dX9_count_89 ?_
      refine r_icmpge (tgt := 116) dX9_count_90 (by decide) (fun c9 => absurd c9 (nI_ge (b := 4) hj (by decide))) (fun _ => ?_)
      refine r_iload2 dX9_count_93 ?_
      refine r_aload0 dX9_count_94 ?_
      refine r_getR dX9_count_95 fl_X9_7 rfl rfl ?_
      refine r_iload3 dX9_count_98 ?_
      refine r_ialdN dX9_count_99 rfl hj ?_
      refine r_ifge (tgt := 107) dX9_count_100 (by decide) (fun _ => ?_) (fun c9 => absurd (Int32.not_lt.mp c) c9)
      refine r_iconst_1 dX9_count_107 ?_
      refine r_iadd dX9_count_108 ?_
      refine r_istore2 dX9_count_109 rfl (by decide) ?_
      refine r_iinc3_1 dX9_count_110 rfl (by decide) ?_
      refine r_goto (tgt := 88) dX9_count_113 (by decide) ?_
      rw [nI_1]
      exact k
  · refine r_iload3 dX9_count_88 ?_
    refine r_iconst_4 dX9_count_89 ?_
    refine r_icmpge (tgt := 116) dX9_count_90 (by decide) (fun _ => ?_) (fun c9 => absurd (by decide) c9)
    refine r_iload2 dX9_count_116 ?_
    exact r_iretE dX9_count_117 rfl (rfl) (rfl)
def dg (v : Int64) (x : Int32) : Int64 := 31 * v + x.toInt64
def dgK (A : Nat → Nat → Int32) (i : Nat) (v : Int64) : Int64 := lp (fun k v => dg v (A k i)) 0 5 v
def dgCl (A : Nat → Nat → Int32) (kc : Nat) (v : Int64) : Int64 := lp (dgK A) 0 kc v
theorem dig_5 {P : KQT} {h : Hp} {x3 : Int32} {h1 : Hp} (r3 : Rn 5 MX9_count [.ref 31, .int (nI 3)] h (EI x3 h1)) (kk : Aw 8 MX9_digest P 30 [some (.ref 31), some (.long (dg (dg (dg (dg (dg 17 (h.1 31 5)) (h.1 31 6)) (h.1 31 8)) x3) (mTh h1))), none, some (.int (nI 5)), none, none] [] h1) : Aw 8 MX9_digest P 0 [some (.ref 31), none, none, none, none, none] [] h := by
  refine r_ldc2 ct_X9_314 dX9_digest_0 ?_
  refine r_lstore1 dX9_digest_3 rfl (by decide) ?_
  refine r_iconst_0 dX9_digest_4 ?_
  refine r_istore3 dX9_digest_5 rfl (by decide) ?_
  refine r_iload3 dX9_digest_6 ?_
  refine r_iconst_5 dX9_digest_7 ?_
  refine r_icmpge (tgt := 30) dX9_digest_8 (by decide) (fun c9 => absurd c9 (by decide)) (fun _ => ?_)
  refine r_ldc2 ct_X9_316 dX9_digest_11 ?_
  refine r_lload1 dX9_digest_14 ?_
  refine r_lmul dX9_digest_15 ?_
  refine r_aload0 dX9_digest_16 ?_
  refine r_iload3 dX9_digest_17 ?_
  refine r_cV1I dX9_digest_18 mm_X9_count im_X9_count se_X9_count ml_X9_318 rfl rfl rfl (c_X9_count0 h) (by decide) (Nat.le_of_ble_eq_true rfl) ?_
  refine r_i2l dX9_digest_21 ?_
  refine r_ladd dX9_digest_22 ?_
  refine r_lstore1 dX9_digest_23 rfl (by decide) ?_
  refine r_iinc3_1 dX9_digest_24 rfl (by decide) ?_
  refine r_goto (tgt := 6) dX9_digest_27 (by decide) ?_
  refine r_iload3 dX9_digest_6 ?_
  refine r_iconst_5 dX9_digest_7 ?_
  refine r_icmpge (tgt := 30) dX9_digest_8 (by decide) (fun c9 => absurd c9 (by decide)) (fun _ => ?_)
  refine r_ldc2 ct_X9_316 dX9_digest_11 ?_
  refine r_lload1 dX9_digest_14 ?_
  refine r_lmul dX9_digest_15 ?_
  refine r_aload0 dX9_digest_16 ?_
  refine r_iload3 dX9_digest_17 ?_
  refine r_cV1I dX9_digest_18 mm_X9_count im_X9_count se_X9_count ml_X9_318 rfl rfl rfl (c_X9_count1 h) (by decide) (Nat.le_of_ble_eq_true rfl) ?_
  refine r_i2l dX9_digest_21 ?_
  refine r_ladd dX9_digest_22 ?_
  refine r_lstore1 dX9_digest_23 rfl (by decide) ?_
  refine r_iinc3_1 dX9_digest_24 rfl (by decide) ?_
  refine r_goto (tgt := 6) dX9_digest_27 (by decide) ?_
  refine r_iload3 dX9_digest_6 ?_
  refine r_iconst_5 dX9_digest_7 ?_
  refine r_icmpge (tgt := 30) dX9_digest_8 (by decide) (fun c9 => absurd c9 (by decide)) (fun _ => ?_)
  refine r_ldc2 ct_X9_316 dX9_digest_11 ?_
  refine r_lload1 dX9_digest_14 ?_
  refine r_lmul dX9_digest_15 ?_
  refine r_aload0 dX9_digest_16 ?_
  refine r_iload3 dX9_digest_17 ?_
  refine r_cV1I dX9_digest_18 mm_X9_count im_X9_count se_X9_count ml_X9_318 rfl rfl rfl (c_X9_count2 h) (by decide) (Nat.le_of_ble_eq_true rfl) ?_
  refine r_i2l dX9_digest_21 ?_
  refine r_ladd dX9_digest_22 ?_
  refine r_lstore1 dX9_digest_23 rfl (by decide) ?_
  refine r_iinc3_1 dX9_digest_24 rfl (by decide) ?_
  refine r_goto (tgt := 6) dX9_digest_27 (by decide) ?_
  refine r_iload3 dX9_digest_6 ?_
  refine r_iconst_5 dX9_digest_7 ?_
  refine r_icmpge (tgt := 30) dX9_digest_8 (by decide) (fun c9 => absurd c9 (by decide)) (fun _ => ?_)
  refine r_ldc2 ct_X9_316 dX9_digest_11 ?_
  refine r_lload1 dX9_digest_14 ?_
  refine r_lmul dX9_digest_15 ?_
  refine r_aload0 dX9_digest_16 ?_
  refine r_iload3 dX9_digest_17 ?_
  refine r_cV1I dX9_digest_18 mm_X9_count im_X9_count se_X9_count ml_X9_318 rfl rfl rfl (r3) (by decide) (Nat.le_of_ble_eq_true rfl) ?_
  refine r_i2l dX9_digest_21 ?_
  refine r_ladd dX9_digest_22 ?_
  refine r_lstore1 dX9_digest_23 rfl (by decide) ?_
  refine r_iinc3_1 dX9_digest_24 rfl (by decide) ?_
  refine r_goto (tgt := 6) dX9_digest_27 (by decide) ?_
  refine r_iload3 dX9_digest_6 ?_
  refine r_iconst_5 dX9_digest_7 ?_
  refine r_icmpge (tgt := 30) dX9_digest_8 (by decide) (fun c9 => absurd c9 (by decide)) (fun _ => ?_)
  refine r_ldc2 ct_X9_316 dX9_digest_11 ?_
  refine r_lload1 dX9_digest_14 ?_
  refine r_lmul dX9_digest_15 ?_
  refine r_aload0 dX9_digest_16 ?_
  refine r_iload3 dX9_digest_17 ?_
  refine r_cV1I dX9_digest_18 mm_X9_count im_X9_count se_X9_count ml_X9_318 rfl rfl rfl (c_X9_count4 h1) (by decide) (Nat.le_of_ble_eq_true rfl) ?_
  refine r_i2l dX9_digest_21 ?_
  refine r_ladd dX9_digest_22 ?_
  refine r_lstore1 dX9_digest_23 rfl (by decide) ?_
  refine r_iinc3_1 dX9_digest_24 rfl (by decide) ?_
  refine r_goto (tgt := 6) dX9_digest_27 (by decide) ?_
  refine r_iload3 dX9_digest_6 ?_
  refine r_iconst_5 dX9_digest_7 ?_
  refine r_icmpge (tgt := 30) dX9_digest_8 (by decide) (fun _ => ?_) (fun c9 => absurd (by decide) c9)
  exact kk
theorem dig_last {v : Int64} {h2 h3 h4 h5 h6 : Hp} {y1 y2 y3 y4 : Int32} {x3 x4 x5 : Option Value} (r1 : Rn 6 MX9_canNow [.ref 31] h2 (EI y1 h3)) (r2 : Rn 6 MX9_aloneNow [.ref 31] h3 (EI y2 h4)) (r3 : Rn 6 MX9_fewestNow [.ref 31] h4 (EI y3 h5)) (r4 : Rn 7 MX9_askNow [.ref 31] h5 (EI y4 h6)) : Aw 8 MX9_digest (Kp (EL (dg (dg (dg (dg v y1) y2) y3) y4) h6)) 120 [some (.ref 31), some (.long v), none, x3, x4, x5] [] h2 := by
  refine r_ldc2 ct_X9_316 dX9_digest_120 ?_
  refine r_lload1 dX9_digest_123 ?_
  refine r_lmul dX9_digest_124 ?_
  refine r_aload0 dX9_digest_125 ?_
  refine r_cV0I dX9_digest_126 mm_X9_canNow im_X9_canNow se_X9_canNow ml_X9_213 rfl rfl rfl (r1) (by decide) (Nat.le_of_ble_eq_true rfl) ?_
  refine r_i2l dX9_digest_129 ?_
  refine r_ladd dX9_digest_130 ?_
  refine r_lstore1 dX9_digest_131 rfl (by decide) ?_
  refine r_ldc2 ct_X9_316 dX9_digest_132 ?_
  refine r_lload1 dX9_digest_135 ?_
  refine r_lmul dX9_digest_136 ?_
  refine r_aload0 dX9_digest_137 ?_
  refine r_cV0I dX9_digest_138 mm_X9_aloneNow im_X9_aloneNow se_X9_aloneNow ml_X9_230 rfl rfl rfl (r2) (by decide) (Nat.le_of_ble_eq_true rfl) ?_
  refine r_i2l dX9_digest_141 ?_
  refine r_ladd dX9_digest_142 ?_
  refine r_lstore1 dX9_digest_143 rfl (by decide) ?_
  refine r_ldc2 ct_X9_316 dX9_digest_144 ?_
  refine r_lload1 dX9_digest_147 ?_
  refine r_lmul dX9_digest_148 ?_
  refine r_aload0 dX9_digest_149 ?_
  refine r_cV0I dX9_digest_150 mm_X9_fewestNow im_X9_fewestNow se_X9_fewestNow ml_X9_236 rfl rfl rfl (r3) (by decide) (Nat.le_of_ble_eq_true rfl) ?_
  refine r_i2l dX9_digest_153 ?_
  refine r_ladd dX9_digest_154 ?_
  refine r_lstore1 dX9_digest_155 rfl (by decide) ?_
  refine r_ldc2 ct_X9_316 dX9_digest_156 ?_
  refine r_lload1 dX9_digest_159 ?_
  refine r_lmul dX9_digest_160 ?_
  refine r_aload0 dX9_digest_161 ?_
  refine r_cV0I dX9_digest_162 mm_X9_askNow im_X9_askNow se_X9_askNow ml_X9_239 rfl rfl rfl (r4) (by decide) (Nat.le_of_ble_eq_true rfl) ?_
  refine r_i2l dX9_digest_165 ?_
  refine r_ladd dX9_digest_166 ?_
  exact r_lretE dX9_digest_167 rfl (rfl) (rfl)
theorem c_X9_digest_y {h h1 h2 h3 h4 h5 h6 : Hp} {x3 y1 y2 y3 y4 : Int32} (kc : Nat) (r3 : Rn 5 MX9_count [.ref 31, .int (nI 3)] h (EI x3 h1)) (rr : Rn 4 MX9_reads [.ref 31] h1 (EI (-1) h2)) (hk : h2.1 31 10 = nI kc) (hk2 : kc ≤ 10) (q1 : Rn 6 MX9_canNow [.ref 31] h2 (EI y1 h3)) (q2 : Rn 6 MX9_aloneNow [.ref 31] h3 (EI y2 h4)) (q3 : Rn 6 MX9_fewestNow [.ref 31] h4 (EI y3 h5)) (q4 : Rn 7 MX9_askNow [.ref 31] h5 (EI y4 h6)) : Rn 8 MX9_digest [.ref 31] h (EL (dg (dg (dg (dg (dgCl (fun k i => h2.1 (37 + k) i) kc (dg (dg (dg (dg (dg (dg (dg 17 (h.1 31 5)) (h.1 31 6)) (h.1 31 8)) x3) (mTh h1)) (-1)) (nI kc))) y1) y2) y3) y4) h6) := by
  refine rn_of mm_X9_digest (le_b rfl) rfl ?_
  refine dig_5 r3 ?_
  generalize dg (dg (dg (dg (dg 17 (h.1 31 5)) (h.1 31 6)) (h.1 31 8)) x3) (mTh h1) = v0
  refine r_aload0 dX9_digest_30 ?_
  refine r_cV0I dX9_digest_31 mm_X9_reads im_X9_reads se_X9_reads ml_X9_147 rfl rfl rfl (rr) (by decide) (Nat.le_of_ble_eq_true rfl) ?_
  refine r_istore3 dX9_digest_34 rfl (by decide) ?_
  refine r_ldc2 ct_X9_316 dX9_digest_35 ?_
  refine r_lload1 dX9_digest_38 ?_
  refine r_lmul dX9_digest_39 ?_
  refine r_iload3 dX9_digest_40 ?_
  refine r_i2l dX9_digest_41 ?_
  refine r_ladd dX9_digest_42 ?_
  refine r_lstore1 dX9_digest_43 rfl (by decide) ?_
  refine r_ldc2 ct_X9_316 dX9_digest_44 ?_
  refine r_lload1 dX9_digest_47 ?_
  refine r_lmul dX9_digest_48 ?_
  refine r_iload3 dX9_digest_49 ?_
  refine r_iconst_m1 dX9_digest_50 ?_
  refine r_icmpne (tgt := 61) dX9_digest_51 (by decide) (fun c9 => absurd (rfl) c9) (fun _ => ?_)
  refine r_aload0 dX9_digest_54 ?_
  refine r_getI dX9_digest_55 fl_X9_120 rfl rfl ?_
  rw [hk]
  refine r_goto (tgt := 63) dX9_digest_58 (by decide) ?_
  refine r_i2l dX9_digest_63 ?_
  refine r_ladd dX9_digest_64 ?_
  refine r_lstore1 dX9_digest_65 rfl (by decide) ?_
  refine r_iconst_0 dX9_digest_66 ?_
  refine r_istore4 dX9_digest_67 rfl (by decide) ?_
  have key : ∀ f i v x5, i + f = kc → lp (dgK (fun k i => h2.1 (37 + k) i)) i f v = dgCl (fun k i => h2.1 (37 + k) i) kc (dg (dg v0 (-1)) (nI kc)) → Aw 8 MX9_digest (Kp (EL (dg (dg (dg (dg (dgCl (fun k i => h2.1 (37 + k) i) kc (dg (dg v0 (-1)) (nI kc))) y1) y2) y3) y4) h6)) 69 [some (.ref 31), some (.long v), none, some (.int (-1)), some (.int (nI i)), x5] [] h2 := by
    intro f
    induction f with
    | zero =>
      intro i v x5 hi he
      have : i = kc := by omega
      subst this
      have he : v = _ := he
      refine r_iload4 dX9_digest_69 ?_
      refine r_aload0 dX9_digest_71 ?_
      refine r_getI dX9_digest_72 fl_X9_120 rfl rfl ?_
      refine r_icmpge (tgt := 120) dX9_digest_75 (by decide) (fun _ => ?_) (fun c9 => absurd (by rw [hk]; exact Int32.le_refl _) c9)
      rw [← he]
      exact dig_last q1 q2 q3 q4
    | succ f ih =>
      intro i v x5 hi he
      rw [lp_s] at he
      refine r_iload4 dX9_digest_69 ?_
      refine r_aload0 dX9_digest_71 ?_
      refine r_getI dX9_digest_72 fl_X9_120 rfl rfl ?_
      refine r_icmpge (tgt := 120) dX9_digest_75 (by decide) (fun c9 => absurd c9 (by rw [hk]; exact nI_ge (by omega) (by omega))) (fun _ => ?_)
      refine r_iload3 dX9_digest_78 ?_
      refine r_iconst_m1 dX9_digest_79 ?_
      refine r_icmpne (tgt := 120) dX9_digest_80 (by decide) (fun c9 => absurd (rfl) c9) (fun _ => ?_)
      refine r_iconst_0 dX9_digest_83 ?_
      refine r_istore5 dX9_digest_84 rfl (by decide) ?_
      generalize hR : dgCl (fun k i => h2.1 (37 + k) i) kc (dg (dg v0 (-1)) (nI kc)) = R at *
      have hj : ∀ g k u, k + g = 5 → lp (fun k v => dg v (h2.1 (37 + k) i)) k g u = dgK (fun k i => h2.1 (37 + k) i) i v → Aw 8 MX9_digest (Kp (EL (dg (dg (dg (dg R y1) y2) y3) y4) h6)) 86 [some (.ref 31), some (.long u), none, some (.int (-1)), some (.int (nI i)), some (.int (nI k))] [] h2 := by
        intro g
        induction g with
        | zero =>
          intro k u hk5 he2
          have : k = 5 := by omega
          subst this
          have he2 : u = dgK (fun k i => h2.1 (37 + k) i) i v := he2
          refine r_iload5 dX9_digest_86 ?_
          refine r_iconst_5 dX9_digest_88 ?_
          refine r_icmpge (tgt := 114) dX9_digest_89 (by decide) (fun _ => ?_) (fun c9 => absurd (by decide) c9)
          refine r_iinc4_1 dX9_digest_114 rfl (by decide) ?_
          refine r_goto (tgt := 69) dX9_digest_117 (by decide) ?_
          rw [nI_1, he2]
          exact ih (i + 1) _ _ (by omega) he
        | succ g ihg =>
          intro k u hk5 he2
          rw [lp_s] at he2
          refine r_iload5 dX9_digest_86 ?_
          refine r_iconst_5 dX9_digest_88 ?_
          refine r_icmpge (tgt := 114) dX9_digest_89 (by decide) (fun c9 => absurd c9 (nI_ge (b := 5) (by omega) (by decide))) (fun _ => ?_)
          refine r_ldc2 ct_X9_316 dX9_digest_92 ?_
          refine r_lload1 dX9_digest_95 ?_
          refine r_lmul dX9_digest_96 ?_
          refine r_aload0 dX9_digest_97 ?_
          refine r_iload4 dX9_digest_98 ?_
          refine r_iload5 dX9_digest_100 ?_
          refine r_cV2I dX9_digest_102 mm_X9_claimOf im_X9_claimOf se_X9_claimOf ml_X9_152 rfl rfl rfl (c_X9_claimOf i k h2 (by omega) (by omega)) (by decide) (Nat.le_of_ble_eq_true rfl) ?_
          refine r_i2l dX9_digest_105 ?_
          refine r_ladd dX9_digest_106 ?_
          refine r_lstore1 dX9_digest_107 rfl (by decide) ?_
          refine r_iinc5_1 dX9_digest_108 rfl (by decide) ?_
          refine r_goto (tgt := 86) dX9_digest_111 (by decide) ?_
          rw [nI_1]
          exact ihg (k + 1) _ (by omega) he2
      exact hj 5 0 v rfl rfl
  exact key kc 0 _ none (by omega) rfl
theorem c_X9_digest_n {h h1 h2 h3 h4 h5 h6 : Hp} {F x3 y1 y2 y3 y4 : Int32} (r3 : Rn 5 MX9_count [.ref 31, .int (nI 3)] h (EI x3 h1)) (rr : Rn 4 MX9_reads [.ref 31] h1 (EI F h2)) (hF : ¬ F = -1) (q1 : Rn 6 MX9_canNow [.ref 31] h2 (EI y1 h3)) (q2 : Rn 6 MX9_aloneNow [.ref 31] h3 (EI y2 h4)) (q3 : Rn 6 MX9_fewestNow [.ref 31] h4 (EI y3 h5)) (q4 : Rn 7 MX9_askNow [.ref 31] h5 (EI y4 h6)) : Rn 8 MX9_digest [.ref 31] h (EL (dg (dg (dg (dg (dg (dg (dg (dg (dg (dg (dg 17 (h.1 31 5)) (h.1 31 6)) (h.1 31 8)) x3) (mTh h1)) F) (-3)) y1) y2) y3) y4) h6) := by
  refine rn_of mm_X9_digest (le_b rfl) rfl ?_
  refine dig_5 r3 ?_
  generalize dg (dg (dg (dg (dg 17 (h.1 31 5)) (h.1 31 6)) (h.1 31 8)) x3) (mTh h1) = v0
  refine r_aload0 dX9_digest_30 ?_
  refine r_cV0I dX9_digest_31 mm_X9_reads im_X9_reads se_X9_reads ml_X9_147 rfl rfl rfl (rr) (by decide) (Nat.le_of_ble_eq_true rfl) ?_
  refine r_istore3 dX9_digest_34 rfl (by decide) ?_
  refine r_ldc2 ct_X9_316 dX9_digest_35 ?_
  refine r_lload1 dX9_digest_38 ?_
  refine r_lmul dX9_digest_39 ?_
  refine r_iload3 dX9_digest_40 ?_
  refine r_i2l dX9_digest_41 ?_
  refine r_ladd dX9_digest_42 ?_
  refine r_lstore1 dX9_digest_43 rfl (by decide) ?_
  refine r_ldc2 ct_X9_316 dX9_digest_44 ?_
  refine r_lload1 dX9_digest_47 ?_
  refine r_lmul dX9_digest_48 ?_
  refine r_iload3 dX9_digest_49 ?_
  refine r_iconst_m1 dX9_digest_50 ?_
  refine r_icmpne (tgt := 61) dX9_digest_51 (by decide) (fun _ => ?_) (fun c9 => absurd c9 (hF))
  refine r_bipush bv_m3 dX9_digest_61 ?_
  refine r_i2l dX9_digest_63 ?_
  refine r_ladd dX9_digest_64 ?_
  refine r_lstore1 dX9_digest_65 rfl (by decide) ?_
  refine r_iconst_0 dX9_digest_66 ?_
  refine r_istore4 dX9_digest_67 rfl (by decide) ?_
  by_cases c : h2.1 31 10 ≤ 0
  · refine r_iload4 dX9_digest_69 ?_
    refine r_aload0 dX9_digest_71 ?_
    refine r_getI dX9_digest_72 fl_X9_120 rfl rfl ?_
    refine r_icmpge (tgt := 120) dX9_digest_75 (by decide) (fun _ => ?_) (fun c9 => absurd (c) c9)
    exact dig_last q1 q2 q3 q4
  · refine r_iload4 dX9_digest_69 ?_
    refine r_aload0 dX9_digest_71 ?_
    refine r_getI dX9_digest_72 fl_X9_120 rfl rfl ?_
    refine r_icmpge (tgt := 120) dX9_digest_75 (by decide) (fun c9 => absurd c9 (c)) (fun _ => ?_)
    refine r_iload3 dX9_digest_78 ?_
    refine r_iconst_m1 dX9_digest_79 ?_
    refine r_icmpne (tgt := 120) dX9_digest_80 (by decide) (fun _ => ?_) (fun c9 => absurd c9 (hF))
    exact dig_last q1 q2 q3 q4
