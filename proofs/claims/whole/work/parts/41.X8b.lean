/-! ToldFigures: shares, figures, copies, twice -/
def cbtF (a : Nat → Int32) (r T : Int32) : Nat → Nat → Int32 → Int32 → Int32
  | 0, _, lo, hi => if T < lo then 0 else if hi < T then 0 else 1
  | f + 1, i, lo, hi => if fLeast (a i) r 100 T ≤ fMost (a i) r 100 T then cbtF a r T f (i + 1) (lo + fLeast (a i) r 100 T) (hi + fMost (a i) r 100 T) else 0
def cbt (a : Nat → Int32) (r T : Int32) (n : Nat) : Int32 := cbtF a r T n 0 0 0
theorem cbtF_01 (a : Nat → Int32) (r T : Int32) : ∀ f i lo hi, cbtF a r T f i lo hi = 0 ∨ cbtF a r T f i lo hi = 1 := by
  intro f
  induction f with
  | zero =>
    intro i lo hi
    rw [cbtF]
    split
    · exact Or.inl rfl
    · split
      · exact Or.inl rfl
      · exact Or.inr rfl
  | succ f ih =>
    intro i lo hi
    rw [cbtF]
    split
    · exact ih _ _ _
    · exact Or.inl rfl
theorem c_X8_canBeTotal (p n : Nat) (r T : Int32) (h : Hp) (hp : isSh p) (hn : n ≤ 60) (hs : h.1 p 3 = nI n) : Rn 3 MX8_canBeTotal [.ref p, .int r, .int T] h (EI (cbt (h.1 (p + 4)) r T n) h) := by
  have ho := oSh hp
  refine rn_of mm_X8_canBeTotal (le_b rfl) rfl ?_
  refine r_iconst_0 dX8_canBeTotal_0 ?_
  refine r_istore3 dX8_canBeTotal_1 rfl (by decide) ?_
  refine r_iconst_0 dX8_canBeTotal_2 ?_
  refine r_istore4 dX8_canBeTotal_3 rfl (by decide) ?_
  refine r_iconst_0 dX8_canBeTotal_5 ?_
  refine r_istore5 dX8_canBeTotal_6 rfl (by decide) ?_
  have key : ∀ f i lo hi (x6 x7 x8 : Option Value), nl1 x6 = true → nl1 x7 = true → i + f = n → Aw 3 MX8_canBeTotal (Kp (EI (cbtF (h.1 (p + 4)) r T f i lo hi) h)) 8 [some (.ref p), some (.int r), some (.int T), some (.int lo), some (.int hi), some (.int (nI i)), x6, x7, x8] [] h := by
    intro f
    induction f with
    | zero =>
      intro i lo hi x6 x7 x8 _ _ hi'
      have : i = n := by omega
      subst this
      rw [cbtF]
      refine r_iload5 dX8_canBeTotal_8 ?_
      refine r_aload0 dX8_canBeTotal_10 ?_
      refine r_getI dX8_canBeTotal_11 fl_X8_184 ho rfl ?_
      refine r_icmpge (tgt := 74) dX8_canBeTotal_14 (by decide) (fun _ => ?_) (fun c9 => absurd (by rw [hs]; exact Int32.le_refl _) c9)
      refine r_iload3 dX8_canBeTotal_74 ?_
      refine r_iload2 dX8_canBeTotal_75 ?_
      refine r_icmpgt (tgt := 89) dX8_canBeTotal_76 (by decide) (fun c => ?_) (fun c => ?_)
      · refine r_iconst_0 dX8_canBeTotal_89 ?_
        exact r_zretE dX8_canBeTotal_90 rfl (by decide) (by rw [if_pos c]) (rfl)
      · refine r_iload2 dX8_canBeTotal_79 ?_
        refine r_iload4 dX8_canBeTotal_80 ?_
        refine r_icmpgt (tgt := 89) dX8_canBeTotal_82 (by decide) (fun c2 => ?_) (fun c2 => ?_)
        · refine r_iconst_0 dX8_canBeTotal_89 ?_
          exact r_zretE dX8_canBeTotal_90 rfl (by decide) (by rw [if_neg c, if_pos c2]) (rfl)
        · refine r_iconst_1 dX8_canBeTotal_85 ?_
          refine r_goto (tgt := 90) dX8_canBeTotal_86 (by decide) ?_
          exact r_zretE dX8_canBeTotal_90 rfl (by decide) (by rw [if_neg c, if_neg c2]) (rfl)
    | succ f ih =>
      intro i lo hi x6 x7 x8 y6 y7 hi'
      have ri := c_X6_item p n (nI i) h hp hn hs
      rw [fItem_at hs (by omega) hn] at ri
      rw [cbtF]
      refine r_iload5 dX8_canBeTotal_8 ?_
      refine r_aload0 dX8_canBeTotal_10 ?_
      refine r_getI dX8_canBeTotal_11 fl_X8_184 ho rfl ?_
      refine r_icmpge (tgt := 74) dX8_canBeTotal_14 (by decide) (fun c9 => absurd c9 (by rw [hs]; exact nI_ge (by omega) (by omega))) (fun _ => ?_)
      refine r_aload0 dX8_canBeTotal_17 ?_
      refine r_iload5 dX8_canBeTotal_18 ?_
      refine r_cV1I dX8_canBeTotal_20 mm_X6_item im_X6_item se_X6_item ml_X8_236 ho rfl rfl (ri) (by decide) (Nat.le_of_ble_eq_true rfl) ?_
      refine r_istore6 dX8_canBeTotal_23 rfl (by decide) ?_
      refine r_iload6 dX8_canBeTotal_25 ?_
      refine r_iload1 dX8_canBeTotal_27 ?_
      refine r_bipush bv_100 dX8_canBeTotal_28 ?_
      refine r_iload2 dX8_canBeTotal_30 ?_
      refine r_cS4I dX8_canBeTotal_31 mm_X3_least st_X3_least ml_X8_303 (c_X3_least _ _ _ _ _) (by decide) (Nat.le_of_ble_eq_true rfl) ?_
      refine r_istore7 dX8_canBeTotal_34 rfl (by decide) ?_
      refine r_iload6 dX8_canBeTotal_36 ?_
      refine r_iload1 dX8_canBeTotal_38 ?_
      refine r_bipush bv_100 dX8_canBeTotal_39 ?_
      refine r_iload2 dX8_canBeTotal_41 ?_
      refine r_cS4I dX8_canBeTotal_42 mm_X3_most st_X3_most ml_X8_309 (c_X3_most _ _ _ _ _) (by decide) (Nat.le_of_ble_eq_true rfl) ?_
      refine r_istore8 dX8_canBeTotal_45 rfl (by decide) ?_
      refine r_iload7 dX8_canBeTotal_47 ?_
      refine r_iload8 dX8_canBeTotal_49 ?_
      refine r_icmple (tgt := 56) dX8_canBeTotal_51 (by decide) (fun c => ?_) (fun c => ?_)
      · rw [if_pos c]
        refine r_iload3 dX8_canBeTotal_56 ?_
        refine r_iload7 dX8_canBeTotal_57 ?_
        refine r_iadd dX8_canBeTotal_59 ?_
        refine r_istore3 dX8_canBeTotal_60 rfl (by decide) ?_
        refine r_iload4 dX8_canBeTotal_61 ?_
        refine r_iload8 dX8_canBeTotal_63 ?_
        refine r_iadd dX8_canBeTotal_65 ?_
        refine r_istore4 dX8_canBeTotal_66 rfl (by decide) ?_
        refine r_iinc5_1 dX8_canBeTotal_68 rfl (by decide) ?_
        refine r_goto (tgt := 8) dX8_canBeTotal_71 (by decide) ?_
        rw [nI_1]
        exact ih (i + 1) _ _ _ _ _ rfl rfl (by omega)
      · rw [if_neg c]
        refine r_iconst_0 dX8_canBeTotal_54 ?_
        exact r_zretE dX8_canBeTotal_55 rfl (by decide) (rfl) (rfl)
  exact key n 0 0 0 none none none rfl rfl (by omega)
def fHT (a : Nat → Int32) (r : Int32) (n : Nat) : Int32 := lp (fun T c => if cbt a r (nI T) n = 0 then c else c + 1) 1 300 0
theorem c_X8_howManyTotals (p n : Nat) (r : Int32) (h : Hp) (hp : isSh p) (hn : n ≤ 60) (hs : h.1 p 3 = nI n) : Rn 4 MX8_howManyTotals [.ref p, .int r] h (EI (fHT (h.1 (p + 4)) r n) h) := by
  refine rn_of mm_X8_howManyTotals (le_b rfl) rfl ?_
  refine r_iconst_0 dX8_howManyTotals_0 ?_
  refine r_istore2 dX8_howManyTotals_1 rfl (by decide) ?_
  refine r_iconst_1 dX8_howManyTotals_2 ?_
  refine r_istore3 dX8_howManyTotals_3 rfl (by decide) ?_
  refine lpI (fun T c => if cbt (h.1 (p + 4)) r (nI T) n = 0 then c else c + 1) (fun T c => Aw 4 MX8_howManyTotals (Kp (EI (fHT (h.1 (p + 4)) r n) h)) 4 [some (.ref p), some (.int r), some (.int c), some (.int (nI T))] [] h) (fun _ _ => True) 301 (fun _ _ _ _ => trivial) ?_ 300 1 0 rfl trivial (fun _ => ?_)
  · intro T c hT _ k
    refine r_iload3 dX8_howManyTotals_4 ?_
    refine r_sipush sv_300 dX8_howManyTotals_5 ?_
    refine r_icmpgt (tgt := 29) dX8_howManyTotals_8 (by decide) (fun c9 => absurd c9 (nI_nlt (a := 300) (by omega) (by decide))) (fun _ => ?_)
    refine r_aload0 dX8_howManyTotals_11 ?_
    refine r_iload1 dX8_howManyTotals_12 ?_
    refine r_iload3 dX8_howManyTotals_13 ?_
    refine r_cS3I dX8_howManyTotals_14 mm_X8_canBeTotal st_X8_canBeTotal ml_X8_177 (c_X8_canBeTotal p n r (nI T) h hp hn hs) (by decide) (Nat.le_of_ble_eq_true rfl) ?_
    refine r_ifeq (tgt := 23) dX8_howManyTotals_17 (by decide) (fun c1 => ?_) (fun c1 => ?_)
    · rw [if_pos c1] at k
      refine r_iinc3_1 dX8_howManyTotals_23 rfl (by decide) ?_
      refine r_goto (tgt := 4) dX8_howManyTotals_26 (by decide) ?_
      rw [nI_1]
      exact k
    · rw [if_neg c1] at k
      refine r_iinc2_1 dX8_howManyTotals_20 rfl (by decide) ?_
      refine r_iinc3_1 dX8_howManyTotals_23 rfl (by decide) ?_
      refine r_goto (tgt := 4) dX8_howManyTotals_26 (by decide) ?_
      rw [nI_1]
      exact k
  · refine r_iload3 dX8_howManyTotals_4 ?_
    refine r_sipush sv_300 dX8_howManyTotals_5 ?_
    refine r_icmpgt (tgt := 29) dX8_howManyTotals_8 (by decide) (fun _ => ?_) (fun c9 => absurd (by decide) c9)
    refine r_iload2 dX8_howManyTotals_29 ?_
    exact r_iretE dX8_howManyTotals_30 rfl (rfl) (rfl)
def fLT (a : Nat → Int32) (r : Int32) (n : Nat) : Nat → Nat → Int32
  | 0, _ => -1
  | f + 1, T => if cbt a r (nI T) n = 0 then fLT a r n f (T + 1) else nI T
theorem c_X8_leastTotal (p n : Nat) (r : Int32) (h : Hp) (hp : isSh p) (hn : n ≤ 60) (hs : h.1 p 3 = nI n) : Rn 4 MX8_leastTotal [.ref p, .int r] h (EI (fLT (h.1 (p + 4)) r n 300 1) h) := by
  refine rn_of mm_X8_leastTotal (le_b rfl) rfl ?_
  refine r_iconst_1 dX8_leastTotal_0 ?_
  refine r_istore2 dX8_leastTotal_1 rfl (by decide) ?_
  have key : ∀ f T, T + f = 301 → Aw 4 MX8_leastTotal (Kp (EI (fLT (h.1 (p + 4)) r n f T) h)) 2 [some (.ref p), some (.int r), some (.int (nI T))] [] h := by
    intro f
    induction f with
    | zero =>
      intro T hT
      have : T = 301 := by omega
      subst this
      refine r_iload2 dX8_leastTotal_2 ?_
      refine r_sipush sv_300 dX8_leastTotal_3 ?_
      refine r_icmpgt (tgt := 26) dX8_leastTotal_6 (by decide) (fun _ => ?_) (fun c9 => absurd (by decide) c9)
      refine r_iconst_m1 dX8_leastTotal_26 ?_
      exact r_iretE dX8_leastTotal_27 rfl (rfl) (rfl)
    | succ f ih =>
      intro T hT
      rw [fLT]
      refine r_iload2 dX8_leastTotal_2 ?_
      refine r_sipush sv_300 dX8_leastTotal_3 ?_
      refine r_icmpgt (tgt := 26) dX8_leastTotal_6 (by decide) (fun c9 => absurd c9 (nI_nlt (a := 300) (by omega) (by decide))) (fun _ => ?_)
      refine r_aload0 dX8_leastTotal_9 ?_
      refine r_iload1 dX8_leastTotal_10 ?_
      refine r_iload2 dX8_leastTotal_11 ?_
      refine r_cS3I dX8_leastTotal_12 mm_X8_canBeTotal st_X8_canBeTotal ml_X8_177 (c_X8_canBeTotal p n r (nI T) h hp hn hs) (by decide) (Nat.le_of_ble_eq_true rfl) ?_
      refine r_ifeq (tgt := 20) dX8_leastTotal_15 (by decide) (fun c1 => ?_) (fun c1 => ?_)
      · rw [if_pos c1]
        refine r_iinc2_1 dX8_leastTotal_20 rfl (by decide) ?_
        refine r_goto (tgt := 2) dX8_leastTotal_23 (by decide) ?_
        rw [nI_1]
        exact ih (T + 1) (by omega)
      · rw [if_neg c1]
        refine r_iload2 dX8_leastTotal_18 ?_
        exact r_iretE dX8_leastTotal_19 rfl (rfl) (rfl)
  exact key 300 1 rfl
theorem okj {j : Nat} (hj : j < 4) : okS (nI j) := ⟨nI_pos (by omega), nI_ge (b := 4) hj (by decide)⟩
theorem c_X8_shares_bad (s r w : Int32) (h : Hp) (hb : ¬ okS s ∨ ¬ okRu r ∨ w < 0 ∨ 1 < w) : Rn 1 MX8_shares [.ref 0, .int s, .int r, .int w] h (EI (-2) h) := by
  refine rn_of mm_X8_shares (le_b rfl) rfl ?_
  by_cases c : okS s
  · by_cases c2 : okRu r
    · by_cases c3 : w < 0
      · refine r_iload1 dX8_shares_0 ?_
        refine r_cS1I dX8_shares_1 mm_X8_isSheet st_X8_isSheet ml_X8_154 (c_isS_y h c) (by decide) (Nat.le_of_ble_eq_true rfl) ?_
        refine r_ifeq (tgt := 23) dX8_shares_4 (by decide) (fun c9 => absurd c9 (by decide)) (fun _ => ?_)
        refine r_iload2 dX8_shares_7 ?_
        refine r_cS1I dX8_shares_8 mm_X8_isRule st_X8_isRule ml_X8_157 (c_isR_y h c2) (by decide) (Nat.le_of_ble_eq_true rfl) ?_
        refine r_ifeq (tgt := 23) dX8_shares_11 (by decide) (fun c9 => absurd c9 (by decide)) (fun _ => ?_)
        refine r_iload3 dX8_shares_14 ?_
        refine r_iflt (tgt := 23) dX8_shares_15 (by decide) (fun _ => ?_) (fun c9 => absurd (c3) c9)
        refine r_bipush bv_m2 dX8_shares_23 ?_
        exact r_iretE dX8_shares_25 rfl (rfl) (rfl)
      · have c4 : 1 < w := ((hb.resolve_left (fun q => q c)).resolve_left (fun q => q c2)).resolve_left c3
        refine r_iload1 dX8_shares_0 ?_
        refine r_cS1I dX8_shares_1 mm_X8_isSheet st_X8_isSheet ml_X8_154 (c_isS_y h c) (by decide) (Nat.le_of_ble_eq_true rfl) ?_
        refine r_ifeq (tgt := 23) dX8_shares_4 (by decide) (fun c9 => absurd c9 (by decide)) (fun _ => ?_)
        refine r_iload2 dX8_shares_7 ?_
        refine r_cS1I dX8_shares_8 mm_X8_isRule st_X8_isRule ml_X8_157 (c_isR_y h c2) (by decide) (Nat.le_of_ble_eq_true rfl) ?_
        refine r_ifeq (tgt := 23) dX8_shares_11 (by decide) (fun c9 => absurd c9 (by decide)) (fun _ => ?_)
        refine r_iload3 dX8_shares_14 ?_
        refine r_iflt (tgt := 23) dX8_shares_15 (by decide) (fun c9 => absurd c9 (c3)) (fun _ => ?_)
        refine r_iload3 dX8_shares_18 ?_
        refine r_iconst_1 dX8_shares_19 ?_
        refine r_icmple (tgt := 26) dX8_shares_20 (by decide) (fun c9 => absurd c9 (Int32.not_le.mpr c4)) (fun _ => ?_)
        refine r_bipush bv_m2 dX8_shares_23 ?_
        exact r_iretE dX8_shares_25 rfl (rfl) (rfl)
    · refine r_iload1 dX8_shares_0 ?_
      refine r_cS1I dX8_shares_1 mm_X8_isSheet st_X8_isSheet ml_X8_154 (c_isS_y h c) (by decide) (Nat.le_of_ble_eq_true rfl) ?_
      refine r_ifeq (tgt := 23) dX8_shares_4 (by decide) (fun c9 => absurd c9 (by decide)) (fun _ => ?_)
      refine r_iload2 dX8_shares_7 ?_
      refine r_cS1I dX8_shares_8 mm_X8_isRule st_X8_isRule ml_X8_157 (c_isR_n h c2) (by decide) (Nat.le_of_ble_eq_true rfl) ?_
      refine r_ifeq (tgt := 23) dX8_shares_11 (by decide) (fun _ => ?_) (fun c9 => absurd (rfl) c9)
      refine r_bipush bv_m2 dX8_shares_23 ?_
      exact r_iretE dX8_shares_25 rfl (rfl) (rfl)
  · refine r_iload1 dX8_shares_0 ?_
    refine r_cS1I dX8_shares_1 mm_X8_isSheet st_X8_isSheet ml_X8_154 (c_isS_n h c) (by decide) (Nat.le_of_ble_eq_true rfl) ?_
    refine r_ifeq (tgt := 23) dX8_shares_4 (by decide) (fun _ => ?_) (fun c9 => absurd (rfl) c9)
    refine r_bipush bv_m2 dX8_shares_23 ?_
    exact r_iretE dX8_shares_25 rfl (rfl) (rfl)
theorem c_X8_shares_null (j : Nat) (r w : Int32) (h : Hp) (hj : j < 4) (hr : okRu r) (h1 : ¬ w < 0) (h2 : w ≤ 1) (hl : h.1 (18 + j) 1 = 1) : Rn 2 MX8_shares [.ref 0, .int (nI j), .int r, .int w] h (EI (-11) (pI h 0 10 1)) := by
  refine rn_of mm_X8_shares (le_b rfl) rfl ?_
  refine r_iload1 dX8_shares_0 ?_
  refine r_cS1I dX8_shares_1 mm_X8_isSheet st_X8_isSheet ml_X8_154 (c_isS_y h (okj hj)) (by decide) (Nat.le_of_ble_eq_true rfl) ?_
  refine r_ifeq (tgt := 23) dX8_shares_4 (by decide) (fun c9 => absurd c9 (by decide)) (fun _ => ?_)
  refine r_iload2 dX8_shares_7 ?_
  refine r_cS1I dX8_shares_8 mm_X8_isRule st_X8_isRule ml_X8_157 (c_isR_y h hr) (by decide) (Nat.le_of_ble_eq_true rfl) ?_
  refine r_ifeq (tgt := 23) dX8_shares_11 (by decide) (fun c9 => absurd c9 (by decide)) (fun _ => ?_)
  refine r_iload3 dX8_shares_14 ?_
  refine r_iflt (tgt := 23) dX8_shares_15 (by decide) (fun c9 => absurd c9 (h1)) (fun _ => ?_)
  refine r_iload3 dX8_shares_18 ?_
  refine r_iconst_1 dX8_shares_19 ?_
  refine r_icmple (tgt := 26) dX8_shares_20 (by decide) (fun _ => ?_) (fun c9 => absurd (h2) c9)
  refine r_aload0 dX8_shares_26 ?_
  refine r_iload1 dX8_shares_27 ?_
  refine r_cV1I dX8_shares_28 mm_X8_isLost im_X8_isLost se_X8_isLost ml_X8_160 rfl rfl rfl (c_lost h hj hl) (by decide) (Nat.le_of_ble_eq_true rfl) ?_
  refine r_ifeq (tgt := 40) dX8_shares_31 (by decide) (fun c9 => absurd c9 (by decide)) (fun _ => ?_)
  refine r_aload0 dX8_shares_34 ?_
  refine r_iconst_1 dX8_shares_35 ?_
  refine r_cV1I dX8_shares_36 mm_X8_found im_X8_found se_X8_found ml_X8_163 rfl rfl rfl (c_X8_found 1 h) (by decide) (Nat.le_of_ble_eq_true rfl) ?_
  exact r_iretE dX8_shares_39 rfl (rfl) (rfl)
theorem c_X8_shares (j : Nat) (r w : Int32) (h : Hp) (hj : j < 4) (hr : okRu r) (h1 : ¬ w < 0) (h2 : w ≤ 1) (hS : SH4 h) (hl : h.1 (18 + j) 1 = 0) : Rn 5 MX8_shares [.ref 0, .int (nI j), .int r, .int w] h (EI (if fWithin (h.1 (18 + j + 4)) 0 100 (szN h (18 + j)) = 0 then -3 else if w = 0 then fHT (h.1 (18 + j + 4)) r (szN h (18 + j)) else fLT (h.1 (18 + j + 4)) r (szN h (18 + j)) 300 1) h) := by
  obtain ⟨z1, z2, z3⟩ := hS j hj
  have ho := oSh (shj hj)
  refine rn_of mm_X8_shares (le_b rfl) rfl ?_
  refine r_iload1 dX8_shares_0 ?_
  refine r_cS1I dX8_shares_1 mm_X8_isSheet st_X8_isSheet ml_X8_154 (c_isS_y h (okj hj)) (by decide) (Nat.le_of_ble_eq_true rfl) ?_
  refine r_ifeq (tgt := 23) dX8_shares_4 (by decide) (fun c9 => absurd c9 (by decide)) (fun _ => ?_)
  refine r_iload2 dX8_shares_7 ?_
  refine r_cS1I dX8_shares_8 mm_X8_isRule st_X8_isRule ml_X8_157 (c_isR_y h hr) (by decide) (Nat.le_of_ble_eq_true rfl) ?_
  refine r_ifeq (tgt := 23) dX8_shares_11 (by decide) (fun c9 => absurd c9 (by decide)) (fun _ => ?_)
  refine r_iload3 dX8_shares_14 ?_
  refine r_iflt (tgt := 23) dX8_shares_15 (by decide) (fun c9 => absurd c9 (h1)) (fun _ => ?_)
  refine r_iload3 dX8_shares_18 ?_
  refine r_iconst_1 dX8_shares_19 ?_
  refine r_icmple (tgt := 26) dX8_shares_20 (by decide) (fun _ => ?_) (fun c9 => absurd (h2) c9)
  refine r_aload0 dX8_shares_26 ?_
  refine r_iload1 dX8_shares_27 ?_
  refine r_cV1I dX8_shares_28 mm_X8_isLost im_X8_isLost se_X8_isLost ml_X8_160 rfl rfl rfl (c_there h hj hl) (by decide) (Nat.le_of_ble_eq_true rfl) ?_
  refine r_ifeq (tgt := 40) dX8_shares_31 (by decide) (fun _ => ?_) (fun c9 => absurd (rfl) c9)
  refine r_aload0 dX8_shares_40 ?_
  refine r_getR dX8_shares_41 fl_X8_32 rfl rfl ?_
  refine r_iload1 dX8_shares_44 ?_
  refine r_aaldN dX8_shares_45 hj ?_
  refine r_iconst_0 dX8_shares_46 ?_
  refine r_bipush bv_100 dX8_shares_47 ?_
  refine r_cV2I dX8_shares_49 mm_X6_isWithin im_X6_isWithin se_X6_isWithin ml_X8_166 ho rfl rfl (c_X6_isWithin (18 + j) _ 0 100 h (shj hj) z2 z1) (by decide) (Nat.le_of_ble_eq_true rfl) ?_
  by_cases c : fWithin (h.1 (18 + j + 4)) 0 100 (szN h (18 + j)) = 0
  · rw [if_pos c]
    refine r_ifne (tgt := 58) dX8_shares_52 (by decide) (fun c9 => absurd (c) c9) (fun _ => ?_)
    refine r_bipush bv_m3 dX8_shares_55 ?_
    exact r_iretE dX8_shares_57 rfl (rfl) (rfl)
  · rw [if_neg c]
    refine r_ifne (tgt := 58) dX8_shares_52 (by decide) (fun _ => ?_) (fun c9 => absurd c9 (c))
    refine r_iload3 dX8_shares_58 ?_
    refine r_ifne (tgt := 75) dX8_shares_59 (by decide) (fun c2 => ?_) (fun c2 => ?_)
    · rw [if_neg c2]
      refine r_aload0 dX8_shares_75 ?_
      refine r_getR dX8_shares_76 fl_X8_32 rfl rfl ?_
      refine r_iload1 dX8_shares_79 ?_
      refine r_aaldN dX8_shares_80 hj ?_
      refine r_iload2 dX8_shares_81 ?_
      refine r_cS2I dX8_shares_82 mm_X8_leastTotal st_X8_leastTotal ml_X8_174 (c_X8_leastTotal (18 + j) _ r h (shj hj) z2 z1) (by decide) (Nat.le_of_ble_eq_true rfl) ?_
      exact r_iretE dX8_shares_85 rfl (rfl) (rfl)
    · rw [if_pos c2]
      refine r_aload0 dX8_shares_62 ?_
      refine r_getR dX8_shares_63 fl_X8_32 rfl rfl ?_
      refine r_iload1 dX8_shares_66 ?_
      refine r_aaldN dX8_shares_67 hj ?_
      refine r_iload2 dX8_shares_68 ?_
      refine r_cS2I dX8_shares_69 mm_X8_howManyTotals st_X8_howManyTotals ml_X8_170 (c_X8_howManyTotals (18 + j) _ r h (shj hj) z2 z1) (by decide) (Nat.le_of_ble_eq_true rfl) ?_
      refine r_goto (tgt := 85) dX8_shares_72 (by decide) ?_
      exact r_iretE dX8_shares_85 rfl (rfl) (rfl)
theorem c_X8_share_bad (s r w : Int32) (h : Hp) (hb : ¬ okS s ∨ ¬ okRu r ∨ w < 1 ∨ 300 < w) : Rn 1 MX8_share [.ref 0, .int s, .int r, .int w] h (EI (-2) h) := by
  refine rn_of mm_X8_share (le_b rfl) rfl ?_
  by_cases c : okS s
  · by_cases c2 : okRu r
    · by_cases c3 : w < 1
      · refine r_iload1 dX8_share_0 ?_
        refine r_cS1I dX8_share_1 mm_X8_isSheet st_X8_isSheet ml_X8_154 (c_isS_y h c) (by decide) (Nat.le_of_ble_eq_true rfl) ?_
        refine r_ifeq (tgt := 26) dX8_share_4 (by decide) (fun c9 => absurd c9 (by decide)) (fun _ => ?_)
        refine r_iload2 dX8_share_7 ?_
        refine r_cS1I dX8_share_8 mm_X8_isRule st_X8_isRule ml_X8_157 (c_isR_y h c2) (by decide) (Nat.le_of_ble_eq_true rfl) ?_
        refine r_ifeq (tgt := 26) dX8_share_11 (by decide) (fun c9 => absurd c9 (by decide)) (fun _ => ?_)
        refine r_iload3 dX8_share_14 ?_
        refine r_iconst_1 dX8_share_15 ?_
        refine r_icmplt (tgt := 26) dX8_share_16 (by decide) (fun _ => ?_) (fun c9 => absurd (c3) c9)
        refine r_bipush bv_m2 dX8_share_26 ?_
        exact r_iretE dX8_share_28 rfl (rfl) (rfl)
      · have c4 : 300 < w := ((hb.resolve_left (fun q => q c)).resolve_left (fun q => q c2)).resolve_left c3
        refine r_iload1 dX8_share_0 ?_
        refine r_cS1I dX8_share_1 mm_X8_isSheet st_X8_isSheet ml_X8_154 (c_isS_y h c) (by decide) (Nat.le_of_ble_eq_true rfl) ?_
        refine r_ifeq (tgt := 26) dX8_share_4 (by decide) (fun c9 => absurd c9 (by decide)) (fun _ => ?_)
        refine r_iload2 dX8_share_7 ?_
        refine r_cS1I dX8_share_8 mm_X8_isRule st_X8_isRule ml_X8_157 (c_isR_y h c2) (by decide) (Nat.le_of_ble_eq_true rfl) ?_
        refine r_ifeq (tgt := 26) dX8_share_11 (by decide) (fun c9 => absurd c9 (by decide)) (fun _ => ?_)
        refine r_iload3 dX8_share_14 ?_
        refine r_iconst_1 dX8_share_15 ?_
        refine r_icmplt (tgt := 26) dX8_share_16 (by decide) (fun c9 => absurd c9 (c3)) (fun _ => ?_)
        refine r_iload3 dX8_share_19 ?_
        refine r_sipush sv_300 dX8_share_20 ?_
        refine r_icmple (tgt := 29) dX8_share_23 (by decide) (fun c9 => absurd c9 (Int32.not_le.mpr c4)) (fun _ => ?_)
        refine r_bipush bv_m2 dX8_share_26 ?_
        exact r_iretE dX8_share_28 rfl (rfl) (rfl)
    · refine r_iload1 dX8_share_0 ?_
      refine r_cS1I dX8_share_1 mm_X8_isSheet st_X8_isSheet ml_X8_154 (c_isS_y h c) (by decide) (Nat.le_of_ble_eq_true rfl) ?_
      refine r_ifeq (tgt := 26) dX8_share_4 (by decide) (fun c9 => absurd c9 (by decide)) (fun _ => ?_)
      refine r_iload2 dX8_share_7 ?_
      refine r_cS1I dX8_share_8 mm_X8_isRule st_X8_isRule ml_X8_157 (c_isR_n h c2) (by decide) (Nat.le_of_ble_eq_true rfl) ?_
      refine r_ifeq (tgt := 26) dX8_share_11 (by decide) (fun _ => ?_) (fun c9 => absurd (rfl) c9)
      refine r_bipush bv_m2 dX8_share_26 ?_
      exact r_iretE dX8_share_28 rfl (rfl) (rfl)
  · refine r_iload1 dX8_share_0 ?_
    refine r_cS1I dX8_share_1 mm_X8_isSheet st_X8_isSheet ml_X8_154 (c_isS_n h c) (by decide) (Nat.le_of_ble_eq_true rfl) ?_
    refine r_ifeq (tgt := 26) dX8_share_4 (by decide) (fun _ => ?_) (fun c9 => absurd (rfl) c9)
    refine r_bipush bv_m2 dX8_share_26 ?_
    exact r_iretE dX8_share_28 rfl (rfl) (rfl)
theorem c_X8_share_null (j : Nat) (r w : Int32) (h : Hp) (hj : j < 4) (hr : okRu r) (h1 : ¬ w < 1) (h2 : w ≤ 300) (hl : h.1 (18 + j) 1 = 1) : Rn 2 MX8_share [.ref 0, .int (nI j), .int r, .int w] h (EI (-11) (pI h 0 10 1)) := by
  refine rn_of mm_X8_share (le_b rfl) rfl ?_
  refine r_iload1 dX8_share_0 ?_
  refine r_cS1I dX8_share_1 mm_X8_isSheet st_X8_isSheet ml_X8_154 (c_isS_y h (okj hj)) (by decide) (Nat.le_of_ble_eq_true rfl) ?_
  refine r_ifeq (tgt := 26) dX8_share_4 (by decide) (fun c9 => absurd c9 (by decide)) (fun _ => ?_)
  refine r_iload2 dX8_share_7 ?_
  refine r_cS1I dX8_share_8 mm_X8_isRule st_X8_isRule ml_X8_157 (c_isR_y h hr) (by decide) (Nat.le_of_ble_eq_true rfl) ?_
  refine r_ifeq (tgt := 26) dX8_share_11 (by decide) (fun c9 => absurd c9 (by decide)) (fun _ => ?_)
  refine r_iload3 dX8_share_14 ?_
  refine r_iconst_1 dX8_share_15 ?_
  refine r_icmplt (tgt := 26) dX8_share_16 (by decide) (fun c9 => absurd c9 (h1)) (fun _ => ?_)
  refine r_iload3 dX8_share_19 ?_
  refine r_sipush sv_300 dX8_share_20 ?_
  refine r_icmple (tgt := 29) dX8_share_23 (by decide) (fun _ => ?_) (fun c9 => absurd (h2) c9)
  refine r_aload0 dX8_share_29 ?_
  refine r_iload1 dX8_share_30 ?_
  refine r_cV1I dX8_share_31 mm_X8_isLost im_X8_isLost se_X8_isLost ml_X8_160 rfl rfl rfl (c_lost h hj hl) (by decide) (Nat.le_of_ble_eq_true rfl) ?_
  refine r_ifeq (tgt := 43) dX8_share_34 (by decide) (fun c9 => absurd c9 (by decide)) (fun _ => ?_)
  refine r_aload0 dX8_share_37 ?_
  refine r_iconst_1 dX8_share_38 ?_
  refine r_cV1I dX8_share_39 mm_X8_found im_X8_found se_X8_found ml_X8_163 rfl rfl rfl (c_X8_found 1 h) (by decide) (Nat.le_of_ble_eq_true rfl) ?_
  exact r_iretE dX8_share_42 rfl (rfl) (rfl)
theorem c_X8_share (j : Nat) (r w : Int32) (h : Hp) (hj : j < 4) (hr : okRu r) (h1 : ¬ w < 1) (h2 : w ≤ 300) (hS : SH4 h) (hl : h.1 (18 + j) 1 = 0) : Rn 4 MX8_share [.ref 0, .int (nI j), .int r, .int w] h (EI (if fWithin (h.1 (18 + j + 4)) 0 100 (szN h (18 + j)) = 0 then -3 else cbt (h.1 (18 + j + 4)) r w (szN h (18 + j))) h) := by
  obtain ⟨z1, z2, z3⟩ := hS j hj
  have ho := oSh (shj hj)
  refine rn_of mm_X8_share (le_b rfl) rfl ?_
  refine r_iload1 dX8_share_0 ?_
  refine r_cS1I dX8_share_1 mm_X8_isSheet st_X8_isSheet ml_X8_154 (c_isS_y h (okj hj)) (by decide) (Nat.le_of_ble_eq_true rfl) ?_
  refine r_ifeq (tgt := 26) dX8_share_4 (by decide) (fun c9 => absurd c9 (by decide)) (fun _ => ?_)
  refine r_iload2 dX8_share_7 ?_
  refine r_cS1I dX8_share_8 mm_X8_isRule st_X8_isRule ml_X8_157 (c_isR_y h hr) (by decide) (Nat.le_of_ble_eq_true rfl) ?_
  refine r_ifeq (tgt := 26) dX8_share_11 (by decide) (fun c9 => absurd c9 (by decide)) (fun _ => ?_)
  refine r_iload3 dX8_share_14 ?_
  refine r_iconst_1 dX8_share_15 ?_
  refine r_icmplt (tgt := 26) dX8_share_16 (by decide) (fun c9 => absurd c9 (h1)) (fun _ => ?_)
  refine r_iload3 dX8_share_19 ?_
  refine r_sipush sv_300 dX8_share_20 ?_
  refine r_icmple (tgt := 29) dX8_share_23 (by decide) (fun _ => ?_) (fun c9 => absurd (h2) c9)
  refine r_aload0 dX8_share_29 ?_
  refine r_iload1 dX8_share_30 ?_
  refine r_cV1I dX8_share_31 mm_X8_isLost im_X8_isLost se_X8_isLost ml_X8_160 rfl rfl rfl (c_there h hj hl) (by decide) (Nat.le_of_ble_eq_true rfl) ?_
  refine r_ifeq (tgt := 43) dX8_share_34 (by decide) (fun _ => ?_) (fun c9 => absurd (rfl) c9)
  refine r_aload0 dX8_share_43 ?_
  refine r_getR dX8_share_44 fl_X8_32 rfl rfl ?_
  refine r_iload1 dX8_share_47 ?_
  refine r_aaldN dX8_share_48 hj ?_
  refine r_iconst_0 dX8_share_49 ?_
  refine r_bipush bv_100 dX8_share_50 ?_
  refine r_cV2I dX8_share_52 mm_X6_isWithin im_X6_isWithin se_X6_isWithin ml_X8_166 ho rfl rfl (c_X6_isWithin (18 + j) _ 0 100 h (shj hj) z2 z1) (by decide) (Nat.le_of_ble_eq_true rfl) ?_
  by_cases c : fWithin (h.1 (18 + j + 4)) 0 100 (szN h (18 + j)) = 0
  · rw [if_pos c]
    refine r_ifne (tgt := 61) dX8_share_55 (by decide) (fun c9 => absurd (c) c9) (fun _ => ?_)
    refine r_bipush bv_m3 dX8_share_58 ?_
    exact r_iretE dX8_share_60 rfl (rfl) (rfl)
  · rw [if_neg c]
    refine r_ifne (tgt := 61) dX8_share_55 (by decide) (fun _ => ?_) (fun c9 => absurd c9 (c))
    refine r_aload0 dX8_share_61 ?_
    refine r_getR dX8_share_62 fl_X8_32 rfl rfl ?_
    refine r_iload1 dX8_share_65 ?_
    refine r_aaldN dX8_share_66 hj ?_
    refine r_iload2 dX8_share_67 ?_
    refine r_iload3 dX8_share_68 ?_
    refine r_cS3I dX8_share_69 mm_X8_canBeTotal st_X8_canBeTotal ml_X8_177 (c_X8_canBeTotal (18 + j) _ r w h (shj hj) z2 z1) (by decide) (Nat.le_of_ble_eq_true rfl) ?_
    rcases cbtF_01 (h.1 (18 + j + 4)) r w (szN h (18 + j)) 0 0 0 with q | q
    · refine r_ifeq (tgt := 79) dX8_share_72 (by decide) (fun _ => ?_) (fun c9 => absurd (q) c9)
      refine r_iconst_0 dX8_share_79 ?_
      exact r_iretE dX8_share_80 rfl (q.symm) (rfl)
    · refine r_ifeq (tgt := 79) dX8_share_72 (by decide) (fun c9 => absurd c9 (fun z => absurd (q.symm.trans z) (by decide))) (fun _ => ?_)
      refine r_iconst_1 dX8_share_75 ?_
      refine r_goto (tgt := 80) dX8_share_76 (by decide) ?_
      exact r_iretE dX8_share_80 rfl (q.symm) (rfl)
theorem c_X8_last_bad (s f : Int32) (h : Hp) (hb : ¬ okS s ∨ f < 0 ∨ 9 < f) : Rn 1 MX8_last [.ref 0, .int s, .int f] h (EI (-2) h) := by
  refine rn_of mm_X8_last (le_b rfl) rfl ?_
  by_cases c : okS s
  · by_cases c3 : f < 0
    · refine r_iload1 dX8_last_0 ?_
      refine r_cS1I dX8_last_1 mm_X8_isSheet st_X8_isSheet ml_X8_154 (c_isS_y h c) (by decide) (Nat.le_of_ble_eq_true rfl) ?_
      refine r_ifeq (tgt := 17) dX8_last_4 (by decide) (fun c9 => absurd c9 (by decide)) (fun _ => ?_)
      refine r_iload2 dX8_last_7 ?_
      refine r_iflt (tgt := 17) dX8_last_8 (by decide) (fun _ => ?_) (fun c9 => absurd (c3) c9)
      refine r_bipush bv_m2 dX8_last_17 ?_
      exact r_iretE dX8_last_19 rfl (rfl) (rfl)
    · have c4 : 9 < f := (hb.resolve_left (fun q => q c)).resolve_left c3
      refine r_iload1 dX8_last_0 ?_
      refine r_cS1I dX8_last_1 mm_X8_isSheet st_X8_isSheet ml_X8_154 (c_isS_y h c) (by decide) (Nat.le_of_ble_eq_true rfl) ?_
      refine r_ifeq (tgt := 17) dX8_last_4 (by decide) (fun c9 => absurd c9 (by decide)) (fun _ => ?_)
      refine r_iload2 dX8_last_7 ?_
      refine r_iflt (tgt := 17) dX8_last_8 (by decide) (fun c9 => absurd c9 (c3)) (fun _ => ?_)
      refine r_iload2 dX8_last_11 ?_
      refine r_bipush bv_9 dX8_last_12 ?_
      refine r_icmple (tgt := 20) dX8_last_14 (by decide) (fun c9 => absurd c9 (Int32.not_le.mpr c4)) (fun _ => ?_)
      refine r_bipush bv_m2 dX8_last_17 ?_
      exact r_iretE dX8_last_19 rfl (rfl) (rfl)
  · refine r_iload1 dX8_last_0 ?_
    refine r_cS1I dX8_last_1 mm_X8_isSheet st_X8_isSheet ml_X8_154 (c_isS_n h c) (by decide) (Nat.le_of_ble_eq_true rfl) ?_
    refine r_ifeq (tgt := 17) dX8_last_4 (by decide) (fun _ => ?_) (fun c9 => absurd (rfl) c9)
    refine r_bipush bv_m2 dX8_last_17 ?_
    exact r_iretE dX8_last_19 rfl (rfl) (rfl)
theorem c_X8_last_null (j : Nat) (f : Int32) (h : Hp) (hj : j < 4) (h1 : ¬ f < 0) (h2 : f ≤ 9) (hl : h.1 (18 + j) 1 = 1) : Rn 2 MX8_last [.ref 0, .int (nI j), .int f] h (EI (-11) (pI h 0 10 1)) := by
  refine rn_of mm_X8_last (le_b rfl) rfl ?_
  refine r_iload1 dX8_last_0 ?_
  refine r_cS1I dX8_last_1 mm_X8_isSheet st_X8_isSheet ml_X8_154 (c_isS_y h (okj hj)) (by decide) (Nat.le_of_ble_eq_true rfl) ?_
  refine r_ifeq (tgt := 17) dX8_last_4 (by decide) (fun c9 => absurd c9 (by decide)) (fun _ => ?_)
  refine r_iload2 dX8_last_7 ?_
  refine r_iflt (tgt := 17) dX8_last_8 (by decide) (fun c9 => absurd c9 (h1)) (fun _ => ?_)
  refine r_iload2 dX8_last_11 ?_
  refine r_bipush bv_9 dX8_last_12 ?_
  refine r_icmple (tgt := 20) dX8_last_14 (by decide) (fun _ => ?_) (fun c9 => absurd (h2) c9)
  refine r_aload0 dX8_last_20 ?_
  refine r_iload1 dX8_last_21 ?_
  refine r_cV1I dX8_last_22 mm_X8_isLost im_X8_isLost se_X8_isLost ml_X8_160 rfl rfl rfl (c_lost h hj hl) (by decide) (Nat.le_of_ble_eq_true rfl) ?_
  refine r_ifeq (tgt := 36) dX8_last_25 (by decide) (fun c9 => absurd c9 (by decide)) (fun _ => ?_)
  refine r_aload0 dX8_last_28 ?_
  refine r_iconst_1 dX8_last_29 ?_
  refine r_cV1I dX8_last_30 mm_X8_found im_X8_found se_X8_found ml_X8_163 rfl rfl rfl (c_X8_found 1 h) (by decide) (Nat.le_of_ble_eq_true rfl) ?_
  refine r_goto (tgt := 46) dX8_last_33 (by decide) ?_
  exact r_iretE dX8_last_46 rfl (rfl) (rfl)
theorem c_X8_last (j : Nat) (f : Int32) (h : Hp) (hj : j < 4) (h1 : ¬ f < 0) (h2 : f ≤ 9) (hS : SH4 h) (hl : h.1 (18 + j) 1 = 0) : Rn 2 MX8_last [.ref 0, .int (nI j), .int f] h (EI (cntF fEnd f (h.1 (18 + j + 4)) (szN h (18 + j))) h) := by
  obtain ⟨z1, z2, z3⟩ := hS j hj
  have ho := oSh (shj hj)
  refine rn_of mm_X8_last (le_b rfl) rfl ?_
  refine r_iload1 dX8_last_0 ?_
  refine r_cS1I dX8_last_1 mm_X8_isSheet st_X8_isSheet ml_X8_154 (c_isS_y h (okj hj)) (by decide) (Nat.le_of_ble_eq_true rfl) ?_
  refine r_ifeq (tgt := 17) dX8_last_4 (by decide) (fun c9 => absurd c9 (by decide)) (fun _ => ?_)
  refine r_iload2 dX8_last_7 ?_
  refine r_iflt (tgt := 17) dX8_last_8 (by decide) (fun c9 => absurd c9 (h1)) (fun _ => ?_)
  refine r_iload2 dX8_last_11 ?_
  refine r_bipush bv_9 dX8_last_12 ?_
  refine r_icmple (tgt := 20) dX8_last_14 (by decide) (fun _ => ?_) (fun c9 => absurd (h2) c9)
  refine r_aload0 dX8_last_20 ?_
  refine r_iload1 dX8_last_21 ?_
  refine r_cV1I dX8_last_22 mm_X8_isLost im_X8_isLost se_X8_isLost ml_X8_160 rfl rfl rfl (c_there h hj hl) (by decide) (Nat.le_of_ble_eq_true rfl) ?_
  refine r_ifeq (tgt := 36) dX8_last_25 (by decide) (fun _ => ?_) (fun c9 => absurd (rfl) c9)
  refine r_aload0 dX8_last_36 ?_
  refine r_getR dX8_last_37 fl_X8_32 rfl rfl ?_
  refine r_iload1 dX8_last_40 ?_
  refine r_aaldN dX8_last_41 hj ?_
  refine r_iload2 dX8_last_42 ?_
  refine r_cV1I dX8_last_43 mm_X6_howManyEndIn im_X6_howManyEndIn se_X6_howManyEndIn ml_X8_181 ho rfl rfl (c_X6_howManyEndIn (18 + j) _ f h (shj hj) z2 z1) (by decide) (Nat.le_of_ble_eq_true rfl) ?_
  exact r_iretE dX8_last_46 rfl (rfl) (rfl)
theorem c_X8_first_bad (s f : Int32) (h : Hp) (hb : ¬ okS s ∨ f < 1 ∨ 9 < f) : Rn 1 MX8_first [.ref 0, .int s, .int f] h (EI (-2) h) := by
  refine rn_of mm_X8_first (le_b rfl) rfl ?_
  by_cases c : okS s
  · by_cases c3 : f < 1
    · refine r_iload1 dX8_first_0 ?_
      refine r_cS1I dX8_first_1 mm_X8_isSheet st_X8_isSheet ml_X8_154 (c_isS_y h c) (by decide) (Nat.le_of_ble_eq_true rfl) ?_
      refine r_ifeq (tgt := 18) dX8_first_4 (by decide) (fun c9 => absurd c9 (by decide)) (fun _ => ?_)
      refine r_iload2 dX8_first_7 ?_
      refine r_iconst_1 dX8_first_8 ?_
      refine r_icmplt (tgt := 18) dX8_first_9 (by decide) (fun _ => ?_) (fun c9 => absurd (c3) c9)
      refine r_bipush bv_m2 dX8_first_18 ?_
      exact r_iretE dX8_first_20 rfl (rfl) (rfl)
    · have c4 : 9 < f := (hb.resolve_left (fun q => q c)).resolve_left c3
      refine r_iload1 dX8_first_0 ?_
      refine r_cS1I dX8_first_1 mm_X8_isSheet st_X8_isSheet ml_X8_154 (c_isS_y h c) (by decide) (Nat.le_of_ble_eq_true rfl) ?_
      refine r_ifeq (tgt := 18) dX8_first_4 (by decide) (fun c9 => absurd c9 (by decide)) (fun _ => ?_)
      refine r_iload2 dX8_first_7 ?_
      refine r_iconst_1 dX8_first_8 ?_
      refine r_icmplt (tgt := 18) dX8_first_9 (by decide) (fun c9 => absurd c9 (c3)) (fun _ => ?_)
      refine r_iload2 dX8_first_12 ?_
      refine r_bipush bv_9 dX8_first_13 ?_
      refine r_icmple (tgt := 21) dX8_first_15 (by decide) (fun c9 => absurd c9 (Int32.not_le.mpr c4)) (fun _ => ?_)
      refine r_bipush bv_m2 dX8_first_18 ?_
      exact r_iretE dX8_first_20 rfl (rfl) (rfl)
  · refine r_iload1 dX8_first_0 ?_
    refine r_cS1I dX8_first_1 mm_X8_isSheet st_X8_isSheet ml_X8_154 (c_isS_n h c) (by decide) (Nat.le_of_ble_eq_true rfl) ?_
    refine r_ifeq (tgt := 18) dX8_first_4 (by decide) (fun _ => ?_) (fun c9 => absurd (rfl) c9)
    refine r_bipush bv_m2 dX8_first_18 ?_
    exact r_iretE dX8_first_20 rfl (rfl) (rfl)
theorem c_X8_first_null (j : Nat) (f : Int32) (h : Hp) (hj : j < 4) (h1 : ¬ f < 1) (h2 : f ≤ 9) (hl : h.1 (18 + j) 1 = 1) : Rn 2 MX8_first [.ref 0, .int (nI j), .int f] h (EI (-11) (pI h 0 10 1)) := by
  refine rn_of mm_X8_first (le_b rfl) rfl ?_
  refine r_iload1 dX8_first_0 ?_
  refine r_cS1I dX8_first_1 mm_X8_isSheet st_X8_isSheet ml_X8_154 (c_isS_y h (okj hj)) (by decide) (Nat.le_of_ble_eq_true rfl) ?_
  refine r_ifeq (tgt := 18) dX8_first_4 (by decide) (fun c9 => absurd c9 (by decide)) (fun _ => ?_)
  refine r_iload2 dX8_first_7 ?_
  refine r_iconst_1 dX8_first_8 ?_
  refine r_icmplt (tgt := 18) dX8_first_9 (by decide) (fun c9 => absurd c9 (h1)) (fun _ => ?_)
  refine r_iload2 dX8_first_12 ?_
  refine r_bipush bv_9 dX8_first_13 ?_
  refine r_icmple (tgt := 21) dX8_first_15 (by decide) (fun _ => ?_) (fun c9 => absurd (h2) c9)
  refine r_aload0 dX8_first_21 ?_
  refine r_iload1 dX8_first_22 ?_
  refine r_cV1I dX8_first_23 mm_X8_isLost im_X8_isLost se_X8_isLost ml_X8_160 rfl rfl rfl (c_lost h hj hl) (by decide) (Nat.le_of_ble_eq_true rfl) ?_
  refine r_ifeq (tgt := 37) dX8_first_26 (by decide) (fun c9 => absurd c9 (by decide)) (fun _ => ?_)
  refine r_aload0 dX8_first_29 ?_
  refine r_iconst_1 dX8_first_30 ?_
  refine r_cV1I dX8_first_31 mm_X8_found im_X8_found se_X8_found ml_X8_163 rfl rfl rfl (c_X8_found 1 h) (by decide) (Nat.le_of_ble_eq_true rfl) ?_
  refine r_goto (tgt := 47) dX8_first_34 (by decide) ?_
  exact r_iretE dX8_first_47 rfl (rfl) (rfl)
theorem c_X8_first (j : Nat) (f : Int32) (h : Hp) (hj : j < 4) (h1 : ¬ f < 1) (h2 : f ≤ 9) (hS : SH4 h) (hl : h.1 (18 + j) 1 = 0) : Rn 3 MX8_first [.ref 0, .int (nI j), .int f] h (EI (cntF fFirst f (h.1 (18 + j + 4)) (szN h (18 + j))) h) := by
  obtain ⟨z1, z2, z3⟩ := hS j hj
  have ho := oSh (shj hj)
  refine rn_of mm_X8_first (le_b rfl) rfl ?_
  refine r_iload1 dX8_first_0 ?_
  refine r_cS1I dX8_first_1 mm_X8_isSheet st_X8_isSheet ml_X8_154 (c_isS_y h (okj hj)) (by decide) (Nat.le_of_ble_eq_true rfl) ?_
  refine r_ifeq (tgt := 18) dX8_first_4 (by decide) (fun c9 => absurd c9 (by decide)) (fun _ => ?_)
  refine r_iload2 dX8_first_7 ?_
  refine r_iconst_1 dX8_first_8 ?_
  refine r_icmplt (tgt := 18) dX8_first_9 (by decide) (fun c9 => absurd c9 (h1)) (fun _ => ?_)
  refine r_iload2 dX8_first_12 ?_
  refine r_bipush bv_9 dX8_first_13 ?_
  refine r_icmple (tgt := 21) dX8_first_15 (by decide) (fun _ => ?_) (fun c9 => absurd (h2) c9)
  refine r_aload0 dX8_first_21 ?_
  refine r_iload1 dX8_first_22 ?_
  refine r_cV1I dX8_first_23 mm_X8_isLost im_X8_isLost se_X8_isLost ml_X8_160 rfl rfl rfl (c_there h hj hl) (by decide) (Nat.le_of_ble_eq_true rfl) ?_
  refine r_ifeq (tgt := 37) dX8_first_26 (by decide) (fun _ => ?_) (fun c9 => absurd (rfl) c9)
  refine r_aload0 dX8_first_37 ?_
  refine r_getR dX8_first_38 fl_X8_32 rfl rfl ?_
  refine r_iload1 dX8_first_41 ?_
  refine r_aaldN dX8_first_42 hj ?_
  refine r_iload2 dX8_first_43 ?_
  refine r_cV1I dX8_first_44 mm_X6_howManyBeginWith im_X6_howManyBeginWith se_X6_howManyBeginWith ml_X8_193 ho rfl rfl (c_X6_howManyBeginWith (18 + j) _ f h (shj hj) z2 z1) (by decide) (Nat.le_of_ble_eq_true rfl) ?_
  exact r_iretE dX8_first_47 rfl (rfl) (rfl)
theorem c_X0_ofSome0 (o : Int32) (h : Hp) : Rn 2 MX0_ofSomeFigure [.ref 26, .int 0, .int o] h (EI 1000000 h) := by
  refine rn_of mm_X0_ofSomeFigure (le_b rfl) rfl ?_
  refine r_iload1 dX0_ofSomeFigure_0 ?_
  refine r_ifle (tgt := 14) dX0_ofSomeFigure_1 (by decide) (fun _ => ?_) (fun c9 => absurd (by decide) c9)
  refine r_ldc ct_X0_15 dX0_ofSomeFigure_14 ?_
  exact r_iretE dX0_ofSomeFigure_16 rfl (rfl) (rfl)
/-- the most often last figure comes -/
def fMostE (a : Nat → Int32) (n : Nat) : Int32 := lp (fun f m => if m < cntF fEnd (nI f) a n then cntF fEnd (nI f) a n else m) 0 10 0
theorem c_X8_lastChance_bad (s : Int32) (h : Hp) (hb : ¬ okS s) : Rn 1 MX8_lastChance [.ref 0, .int s] h (EI (-2) h) := by
  refine rn_of mm_X8_lastChance (le_b rfl) rfl ?_
  refine r_iload1 dX8_lastChance_0 ?_
  refine r_cS1I dX8_lastChance_1 mm_X8_isSheet st_X8_isSheet ml_X8_154 (c_isS_n h hb) (by decide) (Nat.le_of_ble_eq_true rfl) ?_
  refine r_ifne (tgt := 10) dX8_lastChance_4 (by decide) (fun c9 => absurd (rfl) c9) (fun _ => ?_)
  refine r_bipush bv_m2 dX8_lastChance_7 ?_
  exact r_iretE dX8_lastChance_9 rfl (rfl) (rfl)
theorem c_X8_lastChance_null (j : Nat) (h : Hp) (hj : j < 4) (hl : h.1 (18 + j) 1 = 1) : Rn 2 MX8_lastChance [.ref 0, .int (nI j)] h (EI (-11) (pI h 0 10 1)) := by
  refine rn_of mm_X8_lastChance (le_b rfl) rfl ?_
  refine r_iload1 dX8_lastChance_0 ?_
  refine r_cS1I dX8_lastChance_1 mm_X8_isSheet st_X8_isSheet ml_X8_154 (c_isS_y h (okj hj)) (by decide) (Nat.le_of_ble_eq_true rfl) ?_
  refine r_ifne (tgt := 10) dX8_lastChance_4 (by decide) (fun _ => ?_) (fun c9 => absurd c9 (by decide))
  refine r_aload0 dX8_lastChance_10 ?_
  refine r_iload1 dX8_lastChance_11 ?_
  refine r_cV1I dX8_lastChance_12 mm_X8_isLost im_X8_isLost se_X8_isLost ml_X8_160 rfl rfl rfl (c_lost h hj hl) (by decide) (Nat.le_of_ble_eq_true rfl) ?_
  refine r_ifeq (tgt := 24) dX8_lastChance_15 (by decide) (fun c9 => absurd c9 (by decide)) (fun _ => ?_)
  refine r_aload0 dX8_lastChance_18 ?_
  refine r_iconst_1 dX8_lastChance_19 ?_
  refine r_cV1I dX8_lastChance_20 mm_X8_found im_X8_found se_X8_found ml_X8_163 rfl rfl rfl (c_X8_found 1 h) (by decide) (Nat.le_of_ble_eq_true rfl) ?_
  exact r_iretE dX8_lastChance_23 rfl (rfl) (rfl)
theorem c_X8_lastChance_full (j : Nat) (h : Hp) (hj : j < 4) (hS : SH4 h) (hl : h.1 (18 + j) 1 = 0) (hf : 12 < szN h (18 + j)) : Rn 2 MX8_lastChance [.ref 0, .int (nI j)] h (EI (-4) h) := by
  obtain ⟨z1, z2, z3⟩ := hS j hj
  have ho := oSh (shj hj)
  refine rn_of mm_X8_lastChance (le_b rfl) rfl ?_
  refine r_iload1 dX8_lastChance_0 ?_
  refine r_cS1I dX8_lastChance_1 mm_X8_isSheet st_X8_isSheet ml_X8_154 (c_isS_y h (okj hj)) (by decide) (Nat.le_of_ble_eq_true rfl) ?_
  refine r_ifne (tgt := 10) dX8_lastChance_4 (by decide) (fun _ => ?_) (fun c9 => absurd c9 (by decide))
  refine r_aload0 dX8_lastChance_10 ?_
  refine r_iload1 dX8_lastChance_11 ?_
  refine r_cV1I dX8_lastChance_12 mm_X8_isLost im_X8_isLost se_X8_isLost ml_X8_160 rfl rfl rfl (c_there h hj hl) (by decide) (Nat.le_of_ble_eq_true rfl) ?_
  refine r_ifeq (tgt := 24) dX8_lastChance_15 (by decide) (fun _ => ?_) (fun c9 => absurd (rfl) c9)
  refine r_aload0 dX8_lastChance_24 ?_
  refine r_getR dX8_lastChance_25 fl_X8_32 rfl rfl ?_
  refine r_iload1 dX8_lastChance_28 ?_
  refine r_aaldN dX8_lastChance_29 hj ?_
  refine r_astore2 dX8_lastChance_30 rfl (by decide) ?_
  refine r_aload2 dX8_lastChance_31 ?_
  refine r_getI dX8_lastChance_32 fl_X8_184 ho rfl ?_
  refine r_bipush bv_12 dX8_lastChance_35 ?_
  refine r_icmple (tgt := 43) dX8_lastChance_37 (by decide) (fun c9 => absurd c9 (by rw [z1]; exact nI_ge (a := 12) hf (by omega))) (fun _ => ?_)
  refine r_bipush bv_m4 dX8_lastChance_40 ?_
  exact r_iretE dX8_lastChance_42 rfl (rfl) (rfl)
theorem c_X8_lastChance (j : Nat) (v : Int32) (h h1 : Hp) (hj : j < 4) (hS : SH4 h) (hl : h.1 (18 + j) 1 = 0) (hf : szN h (18 + j) ≤ 12) (hR : Rn 2 MX0_ofSomeFigure [.ref 26, .int (nI (szN h (18 + j))), .int (fMostE (h.1 (18 + j + 4)) (szN h (18 + j)))] h (EI v h1)) : Rn 3 MX8_lastChance [.ref 0, .int (nI j)] h (EI v h1) := by
  obtain ⟨z1, z2, z3⟩ := hS j hj
  have ho := oSh (shj hj)
  refine rn_of mm_X8_lastChance (le_b rfl) rfl ?_
  refine r_iload1 dX8_lastChance_0 ?_
  refine r_cS1I dX8_lastChance_1 mm_X8_isSheet st_X8_isSheet ml_X8_154 (c_isS_y h (okj hj)) (by decide) (Nat.le_of_ble_eq_true rfl) ?_
  refine r_ifne (tgt := 10) dX8_lastChance_4 (by decide) (fun _ => ?_) (fun c9 => absurd c9 (by decide))
  refine r_aload0 dX8_lastChance_10 ?_
  refine r_iload1 dX8_lastChance_11 ?_
  refine r_cV1I dX8_lastChance_12 mm_X8_isLost im_X8_isLost se_X8_isLost ml_X8_160 rfl rfl rfl (c_there h hj hl) (by decide) (Nat.le_of_ble_eq_true rfl) ?_
  refine r_ifeq (tgt := 24) dX8_lastChance_15 (by decide) (fun _ => ?_) (fun c9 => absurd (rfl) c9)
  refine r_aload0 dX8_lastChance_24 ?_
  refine r_getR dX8_lastChance_25 fl_X8_32 rfl rfl ?_
  refine r_iload1 dX8_lastChance_28 ?_
  refine r_aaldN dX8_lastChance_29 hj ?_
  refine r_astore2 dX8_lastChance_30 rfl (by decide) ?_
  refine r_aload2 dX8_lastChance_31 ?_
  refine r_getI dX8_lastChance_32 fl_X8_184 ho rfl ?_
  refine r_bipush bv_12 dX8_lastChance_35 ?_
  refine r_icmple (tgt := 43) dX8_lastChance_37 (by decide) (fun _ => ?_) (fun c9 => absurd (by rw [z1]; exact nI_le (b := 12) hf (by decide)) c9)
  refine r_iconst_0 dX8_lastChance_43 ?_
  refine r_istore3 dX8_lastChance_44 rfl (by decide) ?_
  refine r_iconst_0 dX8_lastChance_45 ?_
  refine r_istore4 dX8_lastChance_46 rfl (by decide) ?_
  refine lpA (fun f m => if m < cntF fEnd (nI f) (h.1 (18 + j + 4)) (szN h (18 + j)) then cntF fEnd (nI f) (h.1 (18 + j + 4)) (szN h (18 + j)) else m) (fun f m => Aw 3 MX8_lastChance (Kp (EI v h1)) 48 [some (.ref 0), some (.int (nI j)), some (.ref (18 + j)), some (.int m), some (.int (nI f))] [] h) 10 ?_ 0 ?_
  · intro f m hf k
    refine r_iload4 dX8_lastChance_48 ?_
    refine r_bipush bv_9 dX8_lastChance_50 ?_
    refine r_icmpgt (tgt := 72) dX8_lastChance_52 (by decide) (fun c9 => absurd c9 (nI_nlt (a := 9) (by omega) (by decide))) (fun _ => ?_)
    refine r_iload3 dX8_lastChance_55 ?_
    refine r_aload2 dX8_lastChance_56 ?_
    refine r_iload4 dX8_lastChance_57 ?_
    refine r_cV1I dX8_lastChance_59 mm_X6_howManyEndIn im_X6_howManyEndIn se_X6_howManyEndIn ml_X8_181 ho rfl rfl (c_X6_howManyEndIn (18 + j) _ (nI f) h (shj hj) z2 z1) (by decide) (Nat.le_of_ble_eq_true rfl) ?_
    refine r_mmax dX8_lastChance_62 ml_X8_185 (by decide) (Nat.le_of_ble_eq_true rfl) ?_
    refine r_istore3 dX8_lastChance_65 rfl (by decide) ?_
    refine r_iinc4_1 dX8_lastChance_66 rfl (by decide) ?_
    refine r_goto (tgt := 48) dX8_lastChance_69 (by decide) ?_
    rw [nI_1]
    exact k
  · refine r_iload4 dX8_lastChance_48 ?_
    refine r_bipush bv_9 dX8_lastChance_50 ?_
    refine r_icmpgt (tgt := 72) dX8_lastChance_52 (by decide) (fun _ => ?_) (fun c9 => absurd (by decide) c9)
    refine r_aload0 dX8_lastChance_72 ?_
    refine r_getR dX8_lastChance_73 fl_X8_39 rfl rfl ?_
    refine r_aload2 dX8_lastChance_76 ?_
    refine r_getI dX8_lastChance_77 fl_X8_184 ho rfl ?_
    rw [z1]
    refine r_iload3 dX8_lastChance_80 ?_
    refine r_cV2I dX8_lastChance_81 mm_X0_ofSomeFigure im_X0_ofSomeFigure se_X0_ofSomeFigure ml_X8_190 rfl rfl rfl (hR) (by decide) (Nat.le_of_ble_eq_true rfl) ?_
    exact r_iretE dX8_lastChance_84 rfl (rfl) (rfl)
theorem c_X8_firstChance_bad (s f : Int32) (h : Hp) (hb : ¬ okS s ∨ f < 1 ∨ 9 < f) : Rn 1 MX8_firstChance [.ref 0, .int s, .int f] h (EI (-2) h) := by
  refine rn_of mm_X8_firstChance (le_b rfl) rfl ?_
  by_cases c : okS s
  · by_cases c3 : f < 1
    · refine r_iload1 dX8_firstChance_0 ?_
      refine r_cS1I dX8_firstChance_1 mm_X8_isSheet st_X8_isSheet ml_X8_154 (c_isS_y h c) (by decide) (Nat.le_of_ble_eq_true rfl) ?_
      refine r_ifeq (tgt := 18) dX8_firstChance_4 (by decide) (fun c9 => absurd c9 (by decide)) (fun _ => ?_)
      refine r_iload2 dX8_firstChance_7 ?_
      refine r_iconst_1 dX8_firstChance_8 ?_
      refine r_icmplt (tgt := 18) dX8_firstChance_9 (by decide) (fun _ => ?_) (fun c9 => absurd (c3) c9)
      refine r_bipush bv_m2 dX8_firstChance_18 ?_
      exact r_iretE dX8_firstChance_20 rfl (rfl) (rfl)
    · have c4 : 9 < f := (hb.resolve_left (fun q => q c)).resolve_left c3
      refine r_iload1 dX8_firstChance_0 ?_
      refine r_cS1I dX8_firstChance_1 mm_X8_isSheet st_X8_isSheet ml_X8_154 (c_isS_y h c) (by decide) (Nat.le_of_ble_eq_true rfl) ?_
      refine r_ifeq (tgt := 18) dX8_firstChance_4 (by decide) (fun c9 => absurd c9 (by decide)) (fun _ => ?_)
      refine r_iload2 dX8_firstChance_7 ?_
      refine r_iconst_1 dX8_firstChance_8 ?_
      refine r_icmplt (tgt := 18) dX8_firstChance_9 (by decide) (fun c9 => absurd c9 (c3)) (fun _ => ?_)
      refine r_iload2 dX8_firstChance_12 ?_
      refine r_bipush bv_9 dX8_firstChance_13 ?_
      refine r_icmple (tgt := 21) dX8_firstChance_15 (by decide) (fun c9 => absurd c9 (Int32.not_le.mpr c4)) (fun _ => ?_)
      refine r_bipush bv_m2 dX8_firstChance_18 ?_
      exact r_iretE dX8_firstChance_20 rfl (rfl) (rfl)
  · refine r_iload1 dX8_firstChance_0 ?_
    refine r_cS1I dX8_firstChance_1 mm_X8_isSheet st_X8_isSheet ml_X8_154 (c_isS_n h c) (by decide) (Nat.le_of_ble_eq_true rfl) ?_
    refine r_ifeq (tgt := 18) dX8_firstChance_4 (by decide) (fun _ => ?_) (fun c9 => absurd (rfl) c9)
    refine r_bipush bv_m2 dX8_firstChance_18 ?_
    exact r_iretE dX8_firstChance_20 rfl (rfl) (rfl)
theorem c_X8_firstChance_null (j : Nat) (f : Int32) (h : Hp) (hj : j < 4) (h1 : ¬ f < 1) (h2 : f ≤ 9) (hl : h.1 (18 + j) 1 = 1) : Rn 2 MX8_firstChance [.ref 0, .int (nI j), .int f] h (EI (-11) (pI h 0 10 1)) := by
  refine rn_of mm_X8_firstChance (le_b rfl) rfl ?_
  refine r_iload1 dX8_firstChance_0 ?_
  refine r_cS1I dX8_firstChance_1 mm_X8_isSheet st_X8_isSheet ml_X8_154 (c_isS_y h (okj hj)) (by decide) (Nat.le_of_ble_eq_true rfl) ?_
  refine r_ifeq (tgt := 18) dX8_firstChance_4 (by decide) (fun c9 => absurd c9 (by decide)) (fun _ => ?_)
  refine r_iload2 dX8_firstChance_7 ?_
  refine r_iconst_1 dX8_firstChance_8 ?_
  refine r_icmplt (tgt := 18) dX8_firstChance_9 (by decide) (fun c9 => absurd c9 (h1)) (fun _ => ?_)
  refine r_iload2 dX8_firstChance_12 ?_
  refine r_bipush bv_9 dX8_firstChance_13 ?_
  refine r_icmple (tgt := 21) dX8_firstChance_15 (by decide) (fun _ => ?_) (fun c9 => absurd (h2) c9)
  refine r_aload0 dX8_firstChance_21 ?_
  refine r_iload1 dX8_firstChance_22 ?_
  refine r_cV1I dX8_firstChance_23 mm_X8_isLost im_X8_isLost se_X8_isLost ml_X8_160 rfl rfl rfl (c_lost h hj hl) (by decide) (Nat.le_of_ble_eq_true rfl) ?_
  refine r_ifeq (tgt := 35) dX8_firstChance_26 (by decide) (fun c9 => absurd c9 (by decide)) (fun _ => ?_)
  refine r_aload0 dX8_firstChance_29 ?_
  refine r_iconst_1 dX8_firstChance_30 ?_
  refine r_cV1I dX8_firstChance_31 mm_X8_found im_X8_found se_X8_found ml_X8_163 rfl rfl rfl (c_X8_found 1 h) (by decide) (Nat.le_of_ble_eq_true rfl) ?_
  exact r_iretE dX8_firstChance_34 rfl (rfl) (rfl)
/-- the items that are not 0 are k -/
theorem c_X8_firstChance_full (j k : Nat) (f : Int32) (h : Hp) (hj : j < 4) (h1 : ¬ f < 1) (h2 : f ≤ 9) (hS : SH4 h) (hl : h.1 (18 + j) 1 = 0) (hk : nI (szN h (18 + j)) - cntF fFirst 0 (h.1 (18 + j + 4)) (szN h (18 + j)) = nI k) (hf : 6 < k) (hk2 : k < 2 ^ 31) : Rn 3 MX8_firstChance [.ref 0, .int (nI j), .int f] h (EI (-4) h) := by
  obtain ⟨z1, z2, z3⟩ := hS j hj
  have ho := oSh (shj hj)
  refine rn_of mm_X8_firstChance (le_b rfl) rfl ?_
  refine r_iload1 dX8_firstChance_0 ?_
  refine r_cS1I dX8_firstChance_1 mm_X8_isSheet st_X8_isSheet ml_X8_154 (c_isS_y h (okj hj)) (by decide) (Nat.le_of_ble_eq_true rfl) ?_
  refine r_ifeq (tgt := 18) dX8_firstChance_4 (by decide) (fun c9 => absurd c9 (by decide)) (fun _ => ?_)
  refine r_iload2 dX8_firstChance_7 ?_
  refine r_iconst_1 dX8_firstChance_8 ?_
  refine r_icmplt (tgt := 18) dX8_firstChance_9 (by decide) (fun c9 => absurd c9 (h1)) (fun _ => ?_)
  refine r_iload2 dX8_firstChance_12 ?_
  refine r_bipush bv_9 dX8_firstChance_13 ?_
  refine r_icmple (tgt := 21) dX8_firstChance_15 (by decide) (fun _ => ?_) (fun c9 => absurd (h2) c9)
  refine r_aload0 dX8_firstChance_21 ?_
  refine r_iload1 dX8_firstChance_22 ?_
  refine r_cV1I dX8_firstChance_23 mm_X8_isLost im_X8_isLost se_X8_isLost ml_X8_160 rfl rfl rfl (c_there h hj hl) (by decide) (Nat.le_of_ble_eq_true rfl) ?_
  refine r_ifeq (tgt := 35) dX8_firstChance_26 (by decide) (fun _ => ?_) (fun c9 => absurd (rfl) c9)
  refine r_aload0 dX8_firstChance_35 ?_
  refine r_getR dX8_firstChance_36 fl_X8_32 rfl rfl ?_
  refine r_iload1 dX8_firstChance_39 ?_
  refine r_aaldN dX8_firstChance_40 hj ?_
  refine r_astore3 dX8_firstChance_41 rfl (by decide) ?_
  refine r_aload3 dX8_firstChance_42 ?_
  refine r_getI dX8_firstChance_43 fl_X8_184 ho rfl ?_
  refine r_aload3 dX8_firstChance_46 ?_
  refine r_iconst_0 dX8_firstChance_47 ?_
  refine r_cV1I dX8_firstChance_48 mm_X6_howManyBeginWith im_X6_howManyBeginWith se_X6_howManyBeginWith ml_X8_193 ho rfl rfl (c_X6_howManyBeginWith (18 + j) _ 0 h (shj hj) z2 z1) (by decide) (Nat.le_of_ble_eq_true rfl) ?_
  refine r_isub dX8_firstChance_51 ?_
  rw [z1, hk]
  refine r_istore4 dX8_firstChance_52 rfl (by decide) ?_
  refine r_iload4 dX8_firstChance_54 ?_
  refine r_bipush bv_6 dX8_firstChance_56 ?_
  refine r_icmple (tgt := 64) dX8_firstChance_58 (by decide) (fun c9 => absurd c9 (nI_ge (a := 6) hf hk2)) (fun _ => ?_)
  refine r_bipush bv_m4 dX8_firstChance_61 ?_
  exact r_iretE dX8_firstChance_63 rfl (rfl) (rfl)
theorem c_X8_firstChance (j k f o : Nat) (h : Hp) (hj : j < 4) (h1 : 1 ≤ f) (h2 : f ≤ 9) (hS : SH4 h) (hl : h.1 (18 + j) 1 = 0) (hk : nI (szN h (18 + j)) - cntF fFirst 0 (h.1 (18 + j + 4)) (szN h (18 + j)) = nI k) (hf : k ≤ 6) (ho2 : cntF fFirst (nI f) (h.1 (18 + j + 4)) (szN h (18 + j)) = nI o) (ho3 : o < 2 ^ 30) (p1 : ∀ e, e ≤ 6 → ¬ powL (cFI (f - 1)).toInt64 e < 1) (p2 : ∀ e, e ≤ 6 → ¬ powL (1000 - cFI (f - 1)).toInt64 e < 1) : Rn 3 MX8_firstChance [.ref 0, .int (nI j), .int (nI f)] h (EI (fFC k o (cFI (f - 1))) h) := by
  obtain ⟨z1, z2, z3⟩ := hS j hj
  have ho := oSh (shj hj)
  refine rn_of mm_X8_firstChance (le_b rfl) rfl ?_
  refine r_iload1 dX8_firstChance_0 ?_
  refine r_cS1I dX8_firstChance_1 mm_X8_isSheet st_X8_isSheet ml_X8_154 (c_isS_y h (okj hj)) (by decide) (Nat.le_of_ble_eq_true rfl) ?_
  refine r_ifeq (tgt := 18) dX8_firstChance_4 (by decide) (fun c9 => absurd c9 (by decide)) (fun _ => ?_)
  refine r_iload2 dX8_firstChance_7 ?_
  refine r_iconst_1 dX8_firstChance_8 ?_
  refine r_icmplt (tgt := 18) dX8_firstChance_9 (by decide) (fun c9 => absurd c9 (nI_nlt (b := 1) h1 (by omega))) (fun _ => ?_)
  refine r_iload2 dX8_firstChance_12 ?_
  refine r_bipush bv_9 dX8_firstChance_13 ?_
  refine r_icmple (tgt := 21) dX8_firstChance_15 (by decide) (fun _ => ?_) (fun c9 => absurd (nI_le (b := 9) h2 (by decide)) c9)
  refine r_aload0 dX8_firstChance_21 ?_
  refine r_iload1 dX8_firstChance_22 ?_
  refine r_cV1I dX8_firstChance_23 mm_X8_isLost im_X8_isLost se_X8_isLost ml_X8_160 rfl rfl rfl (c_there h hj hl) (by decide) (Nat.le_of_ble_eq_true rfl) ?_
  refine r_ifeq (tgt := 35) dX8_firstChance_26 (by decide) (fun _ => ?_) (fun c9 => absurd (rfl) c9)
  refine r_aload0 dX8_firstChance_35 ?_
  refine r_getR dX8_firstChance_36 fl_X8_32 rfl rfl ?_
  refine r_iload1 dX8_firstChance_39 ?_
  refine r_aaldN dX8_firstChance_40 hj ?_
  refine r_astore3 dX8_firstChance_41 rfl (by decide) ?_
  refine r_aload3 dX8_firstChance_42 ?_
  refine r_getI dX8_firstChance_43 fl_X8_184 ho rfl ?_
  refine r_aload3 dX8_firstChance_46 ?_
  refine r_iconst_0 dX8_firstChance_47 ?_
  refine r_cV1I dX8_firstChance_48 mm_X6_howManyBeginWith im_X6_howManyBeginWith se_X6_howManyBeginWith ml_X8_193 ho rfl rfl (c_X6_howManyBeginWith (18 + j) _ 0 h (shj hj) z2 z1) (by decide) (Nat.le_of_ble_eq_true rfl) ?_
  refine r_isub dX8_firstChance_51 ?_
  rw [z1, hk]
  have rb := c_X6_howManyBeginWith (18 + j) _ (nI f) h (shj hj) z2 z1
  rw [ho2] at rb
  refine r_istore4 dX8_firstChance_52 rfl (by decide) ?_
  refine r_iload4 dX8_firstChance_54 ?_
  refine r_bipush bv_6 dX8_firstChance_56 ?_
  refine r_icmple (tgt := 64) dX8_firstChance_58 (by decide) (fun _ => ?_) (fun c9 => absurd (nI_le (b := 6) hf (by decide)) c9)
  refine r_aload0 dX8_firstChance_64 ?_
  refine r_getR dX8_firstChance_65 fl_X8_39 rfl rfl ?_
  refine r_iload4 dX8_firstChance_68 ?_
  refine r_aload3 dX8_firstChance_70 ?_
  refine r_iload2 dX8_firstChance_71 ?_
  refine r_cV1I dX8_firstChance_72 mm_X6_howManyBeginWith im_X6_howManyBeginWith se_X6_howManyBeginWith ml_X8_193 ho rfl rfl (rb) (by decide) (Nat.le_of_ble_eq_true rfl) ?_
  refine r_gs62 dX8_firstChance_75 sf_X8_196 ?_
  refine r_iload2 dX8_firstChance_78 ?_
  refine r_iconst_1 dX8_firstChance_79 ?_
  refine r_isub dX8_firstChance_80 ?_
  have e1 : nI f - 1 = nI (f - 1) := pk_sub (b := 1) h1
  rw [e1]
  refine r_ildFI dX8_firstChance_81 (vp_in_nI (by omega) (by decide)) ?_
  rw [nI_clamp (by omega)]
  refine r_cV3I dX8_firstChance_82 mm_X0_ofFirstFigure im_X0_ofFirstFigure se_X0_ofFirstFigure ml_X8_200 rfl rfl rfl (c_X0_ofFirstFigure k o _ h hf ho3 p1 p2) (by decide) (Nat.le_of_ble_eq_true rfl) ?_
  exact r_iretE dX8_firstChance_85 rfl (rfl) (rfl)
theorem c_X8_copies_bad (s t w : Int32) (h : Hp) (hb : ¬ okS s ∨ ¬ okS t ∨ w < 0 ∨ 3 < w) : Rn 1 MX8_copies [.ref 0, .int s, .int t, .int w] h (EL (rfL (-2)) h) := by
  refine rn_of mm_X8_copies (le_b rfl) rfl ?_
  by_cases c : okS s
  · by_cases c2 : okS t
    · by_cases c3 : w < 0
      · refine r_iload1 dX8_copies_0 ?_
        refine r_cS1I dX8_copies_1 mm_X8_isSheet st_X8_isSheet ml_X8_154 (c_isS_y h c) (by decide) (Nat.le_of_ble_eq_true rfl) ?_
        refine r_ifeq (tgt := 23) dX8_copies_4 (by decide) (fun c9 => absurd c9 (by decide)) (fun _ => ?_)
        refine r_iload2 dX8_copies_7 ?_
        refine r_cS1I dX8_copies_8 mm_X8_isSheet st_X8_isSheet ml_X8_154 (c_isS_y h c2) (by decide) (Nat.le_of_ble_eq_true rfl) ?_
        refine r_ifeq (tgt := 23) dX8_copies_11 (by decide) (fun c9 => absurd c9 (by decide)) (fun _ => ?_)
        refine r_iload3 dX8_copies_14 ?_
        refine r_iflt (tgt := 23) dX8_copies_15 (by decide) (fun _ => ?_) (fun c9 => absurd (c3) c9)
        refine r_bipush bv_m2 dX8_copies_23 ?_
        refine r_cS1L dX8_copies_25 mm_X8_refusedLong st_X8_refusedLong ml_X8_130 (c_X8_refusedLong _ h) (by decide) (Nat.le_of_ble_eq_true rfl) ?_
        exact r_lretE dX8_copies_28 rfl (rfl) (rfl)
      · have c4 : 3 < w := ((hb.resolve_left (fun q => q c)).resolve_left (fun q => q c2)).resolve_left c3
        refine r_iload1 dX8_copies_0 ?_
        refine r_cS1I dX8_copies_1 mm_X8_isSheet st_X8_isSheet ml_X8_154 (c_isS_y h c) (by decide) (Nat.le_of_ble_eq_true rfl) ?_
        refine r_ifeq (tgt := 23) dX8_copies_4 (by decide) (fun c9 => absurd c9 (by decide)) (fun _ => ?_)
        refine r_iload2 dX8_copies_7 ?_
        refine r_cS1I dX8_copies_8 mm_X8_isSheet st_X8_isSheet ml_X8_154 (c_isS_y h c2) (by decide) (Nat.le_of_ble_eq_true rfl) ?_
        refine r_ifeq (tgt := 23) dX8_copies_11 (by decide) (fun c9 => absurd c9 (by decide)) (fun _ => ?_)
        refine r_iload3 dX8_copies_14 ?_
        refine r_iflt (tgt := 23) dX8_copies_15 (by decide) (fun c9 => absurd c9 (c3)) (fun _ => ?_)
        refine r_iload3 dX8_copies_18 ?_
        refine r_iconst_3 dX8_copies_19 ?_
        refine r_icmple (tgt := 29) dX8_copies_20 (by decide) (fun c9 => absurd c9 (Int32.not_le.mpr c4)) (fun _ => ?_)
        refine r_bipush bv_m2 dX8_copies_23 ?_
        refine r_cS1L dX8_copies_25 mm_X8_refusedLong st_X8_refusedLong ml_X8_130 (c_X8_refusedLong _ h) (by decide) (Nat.le_of_ble_eq_true rfl) ?_
        exact r_lretE dX8_copies_28 rfl (rfl) (rfl)
    · refine r_iload1 dX8_copies_0 ?_
      refine r_cS1I dX8_copies_1 mm_X8_isSheet st_X8_isSheet ml_X8_154 (c_isS_y h c) (by decide) (Nat.le_of_ble_eq_true rfl) ?_
      refine r_ifeq (tgt := 23) dX8_copies_4 (by decide) (fun c9 => absurd c9 (by decide)) (fun _ => ?_)
      refine r_iload2 dX8_copies_7 ?_
      refine r_cS1I dX8_copies_8 mm_X8_isSheet st_X8_isSheet ml_X8_154 (c_isS_n h c2) (by decide) (Nat.le_of_ble_eq_true rfl) ?_
      refine r_ifeq (tgt := 23) dX8_copies_11 (by decide) (fun _ => ?_) (fun c9 => absurd (rfl) c9)
      refine r_bipush bv_m2 dX8_copies_23 ?_
      refine r_cS1L dX8_copies_25 mm_X8_refusedLong st_X8_refusedLong ml_X8_130 (c_X8_refusedLong _ h) (by decide) (Nat.le_of_ble_eq_true rfl) ?_
      exact r_lretE dX8_copies_28 rfl (rfl) (rfl)
  · refine r_iload1 dX8_copies_0 ?_
    refine r_cS1I dX8_copies_1 mm_X8_isSheet st_X8_isSheet ml_X8_154 (c_isS_n h c) (by decide) (Nat.le_of_ble_eq_true rfl) ?_
    refine r_ifeq (tgt := 23) dX8_copies_4 (by decide) (fun _ => ?_) (fun c9 => absurd (rfl) c9)
    refine r_bipush bv_m2 dX8_copies_23 ?_
    refine r_cS1L dX8_copies_25 mm_X8_refusedLong st_X8_refusedLong ml_X8_130 (c_X8_refusedLong _ h) (by decide) (Nat.le_of_ble_eq_true rfl) ?_
    exact r_lretE dX8_copies_28 rfl (rfl) (rfl)
theorem c_X8_copies_null (a b : Nat) (w : Int32) (h : Hp) (ha : a < 4) (hb : b < 4) (h1 : ¬ w < 0) (h2 : w ≤ 3) (hS : SH4 h) (hl : h.1 (18 + a) 1 = 1 ∨ h.1 (18 + b) 1 = 1) : Rn 2 MX8_copies [.ref 0, .int (nI a), .int (nI b), .int w] h (EL (rfL (-11)) (pI h 0 10 1)) := by
  refine rn_of mm_X8_copies (le_b rfl) rfl ?_
  rcases (hS a ha).2.2 with q | q
  · have q2 : h.1 (18 + b) 1 = 1 := hl.resolve_left (fun z => by rw [q] at z; exact absurd z (by decide))
    refine r_iload1 dX8_copies_0 ?_
    refine r_cS1I dX8_copies_1 mm_X8_isSheet st_X8_isSheet ml_X8_154 (c_isS_y h (okj ha)) (by decide) (Nat.le_of_ble_eq_true rfl) ?_
    refine r_ifeq (tgt := 23) dX8_copies_4 (by decide) (fun c9 => absurd c9 (by decide)) (fun _ => ?_)
    refine r_iload2 dX8_copies_7 ?_
    refine r_cS1I dX8_copies_8 mm_X8_isSheet st_X8_isSheet ml_X8_154 (c_isS_y h (okj hb)) (by decide) (Nat.le_of_ble_eq_true rfl) ?_
    refine r_ifeq (tgt := 23) dX8_copies_11 (by decide) (fun c9 => absurd c9 (by decide)) (fun _ => ?_)
    refine r_iload3 dX8_copies_14 ?_
    refine r_iflt (tgt := 23) dX8_copies_15 (by decide) (fun c9 => absurd c9 (h1)) (fun _ => ?_)
    refine r_iload3 dX8_copies_18 ?_
    refine r_iconst_3 dX8_copies_19 ?_
    refine r_icmple (tgt := 29) dX8_copies_20 (by decide) (fun _ => ?_) (fun c9 => absurd (h2) c9)
    refine r_aload0 dX8_copies_29 ?_
    refine r_iload1 dX8_copies_30 ?_
    refine r_cV1I dX8_copies_31 mm_X8_isLost im_X8_isLost se_X8_isLost ml_X8_160 rfl rfl rfl (c_there h ha q) (by decide) (Nat.le_of_ble_eq_true rfl) ?_
    refine r_ifne (tgt := 45) dX8_copies_34 (by decide) (fun c9 => absurd (rfl) c9) (fun _ => ?_)
    refine r_aload0 dX8_copies_37 ?_
    refine r_iload2 dX8_copies_38 ?_
    refine r_cV1I dX8_copies_39 mm_X8_isLost im_X8_isLost se_X8_isLost ml_X8_160 rfl rfl rfl (c_lost h hb q2) (by decide) (Nat.le_of_ble_eq_true rfl) ?_
    refine r_ifeq (tgt := 54) dX8_copies_42 (by decide) (fun c9 => absurd c9 (by decide)) (fun _ => ?_)
    refine r_aload0 dX8_copies_45 ?_
    refine r_iconst_1 dX8_copies_46 ?_
    refine r_cV1I dX8_copies_47 mm_X8_found im_X8_found se_X8_found ml_X8_163 rfl rfl rfl (c_X8_found 1 h) (by decide) (Nat.le_of_ble_eq_true rfl) ?_
    refine r_cS1L dX8_copies_50 mm_X8_refusedLong st_X8_refusedLong ml_X8_130 (c_X8_refusedLong _ _) (by decide) (Nat.le_of_ble_eq_true rfl) ?_
    exact r_lretE dX8_copies_53 rfl (rfl) (rfl)
  · refine r_iload1 dX8_copies_0 ?_
    refine r_cS1I dX8_copies_1 mm_X8_isSheet st_X8_isSheet ml_X8_154 (c_isS_y h (okj ha)) (by decide) (Nat.le_of_ble_eq_true rfl) ?_
    refine r_ifeq (tgt := 23) dX8_copies_4 (by decide) (fun c9 => absurd c9 (by decide)) (fun _ => ?_)
    refine r_iload2 dX8_copies_7 ?_
    refine r_cS1I dX8_copies_8 mm_X8_isSheet st_X8_isSheet ml_X8_154 (c_isS_y h (okj hb)) (by decide) (Nat.le_of_ble_eq_true rfl) ?_
    refine r_ifeq (tgt := 23) dX8_copies_11 (by decide) (fun c9 => absurd c9 (by decide)) (fun _ => ?_)
    refine r_iload3 dX8_copies_14 ?_
    refine r_iflt (tgt := 23) dX8_copies_15 (by decide) (fun c9 => absurd c9 (h1)) (fun _ => ?_)
    refine r_iload3 dX8_copies_18 ?_
    refine r_iconst_3 dX8_copies_19 ?_
    refine r_icmple (tgt := 29) dX8_copies_20 (by decide) (fun _ => ?_) (fun c9 => absurd (h2) c9)
    refine r_aload0 dX8_copies_29 ?_
    refine r_iload1 dX8_copies_30 ?_
    refine r_cV1I dX8_copies_31 mm_X8_isLost im_X8_isLost se_X8_isLost ml_X8_160 rfl rfl rfl (c_lost h ha q) (by decide) (Nat.le_of_ble_eq_true rfl) ?_
    refine r_ifne (tgt := 45) dX8_copies_34 (by decide) (fun _ => ?_) (fun c9 => absurd c9 (by decide))
    refine r_aload0 dX8_copies_45 ?_
    refine r_iconst_1 dX8_copies_46 ?_
    refine r_cV1I dX8_copies_47 mm_X8_found im_X8_found se_X8_found ml_X8_163 rfl rfl rfl (c_X8_found 1 h) (by decide) (Nat.le_of_ble_eq_true rfl) ?_
    refine r_cS1L dX8_copies_50 mm_X8_refusedLong st_X8_refusedLong ml_X8_130 (c_X8_refusedLong _ _) (by decide) (Nat.le_of_ble_eq_true rfl) ?_
    exact r_lretE dX8_copies_53 rfl (rfl) (rfl)
theorem c_X8_copies_not (a b : Nat) (w : Int32) (h : Hp) (ha : a < 4) (hb : b < 4) (h1 : ¬ w < 0) (h2 : w ≤ 3) (hS : SH4 h) (hla : h.1 (18 + a) 1 = 0) (hlb : h.1 (18 + b) 1 = 0) (hz : szN h (18 + a) = 0 ∨ szN h (18 + b) = 0) : Rn 2 MX8_copies [.ref 0, .int (nI a), .int (nI b), .int w] h (EL (rfL (-3)) h) := by
  have hoa := oSh (shj ha)
  have hob := oSh (shj hb)
  refine rn_of mm_X8_copies (le_b rfl) rfl ?_
  refine r_iload1 dX8_copies_0 ?_
  refine r_cS1I dX8_copies_1 mm_X8_isSheet st_X8_isSheet ml_X8_154 (c_isS_y h (okj ha)) (by decide) (Nat.le_of_ble_eq_true rfl) ?_
  refine r_ifeq (tgt := 23) dX8_copies_4 (by decide) (fun c9 => absurd c9 (by decide)) (fun _ => ?_)
  refine r_iload2 dX8_copies_7 ?_
  refine r_cS1I dX8_copies_8 mm_X8_isSheet st_X8_isSheet ml_X8_154 (c_isS_y h (okj hb)) (by decide) (Nat.le_of_ble_eq_true rfl) ?_
  refine r_ifeq (tgt := 23) dX8_copies_11 (by decide) (fun c9 => absurd c9 (by decide)) (fun _ => ?_)
  refine r_iload3 dX8_copies_14 ?_
  refine r_iflt (tgt := 23) dX8_copies_15 (by decide) (fun c9 => absurd c9 (h1)) (fun _ => ?_)
  refine r_iload3 dX8_copies_18 ?_
  refine r_iconst_3 dX8_copies_19 ?_
  refine r_icmple (tgt := 29) dX8_copies_20 (by decide) (fun _ => ?_) (fun c9 => absurd (h2) c9)
  refine r_aload0 dX8_copies_29 ?_
  refine r_iload1 dX8_copies_30 ?_
  refine r_cV1I dX8_copies_31 mm_X8_isLost im_X8_isLost se_X8_isLost ml_X8_160 rfl rfl rfl (c_there h ha hla) (by decide) (Nat.le_of_ble_eq_true rfl) ?_
  refine r_ifne (tgt := 45) dX8_copies_34 (by decide) (fun c9 => absurd (rfl) c9) (fun _ => ?_)
  refine r_aload0 dX8_copies_37 ?_
  refine r_iload2 dX8_copies_38 ?_
  refine r_cV1I dX8_copies_39 mm_X8_isLost im_X8_isLost se_X8_isLost ml_X8_160 rfl rfl rfl (c_there h hb hlb) (by decide) (Nat.le_of_ble_eq_true rfl) ?_
  refine r_ifeq (tgt := 54) dX8_copies_42 (by decide) (fun _ => ?_) (fun c9 => absurd (rfl) c9)
  refine r_aload0 dX8_copies_54 ?_
  refine r_getR dX8_copies_55 fl_X8_32 rfl rfl ?_
  refine r_iload1 dX8_copies_58 ?_
  refine r_aaldN dX8_copies_59 ha ?_
  refine r_getI dX8_copies_60 fl_X8_184 hoa rfl ?_
  rw [(hS a ha).1]
  by_cases c : szN h (18 + a) = 0
  · refine r_ifeq (tgt := 78) dX8_copies_63 (by decide) (fun _ => ?_) (fun c9 => absurd (by rw [c]; rfl) c9)
    refine r_bipush bv_m3 dX8_copies_78 ?_
    refine r_cS1L dX8_copies_80 mm_X8_refusedLong st_X8_refusedLong ml_X8_130 (c_X8_refusedLong _ h) (by decide) (Nat.le_of_ble_eq_true rfl) ?_
    exact r_lretE dX8_copies_83 rfl (rfl) (rfl)
  · have c2 : szN h (18 + b) = 0 := hz.resolve_left c
    refine r_ifeq (tgt := 78) dX8_copies_63 (by decide) (fun c9 => absurd c9 (nI_ne (by omega) (by have := (hS a ha).2.1; omega))) (fun _ => ?_)
    refine r_aload0 dX8_copies_66 ?_
    refine r_getR dX8_copies_67 fl_X8_32 rfl rfl ?_
    refine r_iload2 dX8_copies_70 ?_
    refine r_aaldN dX8_copies_71 hb ?_
    refine r_getI dX8_copies_72 fl_X8_184 hob rfl ?_
    rw [(hS b hb).1]
    refine r_ifne (tgt := 84) dX8_copies_75 (by decide) (fun c9 => absurd (by rw [c2]; rfl) c9) (fun _ => ?_)
    refine r_bipush bv_m3 dX8_copies_78 ?_
    refine r_cS1L dX8_copies_80 mm_X8_refusedLong st_X8_refusedLong ml_X8_130 (c_X8_refusedLong _ h) (by decide) (Nat.le_of_ble_eq_true rfl) ?_
    exact r_lretE dX8_copies_83 rfl (rfl) (rfl)
def cpH (h : Hp) (a b : Nat) : Hp := stH h (rowA (stD h (18 + a) (18 + b)) (szN h (18 + a)) (szN h (18 + b)) (h.1 29) 0) (bsD (stD h (18 + a) (18 + b)) (szN h (18 + a)) (szN h (18 + b)) (szN h (18 + b)) (0, h.1 28 2, h.1 28 3, h.2 28 4))
theorem c_X8_copies (a b w : Nat) (h : Hp) (ha : a < 4) (hb : b < 4) (hw : w ≤ 3) (hS : SH4 h) (hla : h.1 (18 + a) 1 = 0) (hlb : h.1 (18 + b) 1 = 0) (hza : 1 ≤ szN h (18 + a)) (hzb : 1 ≤ szN h (18 + b)) : Rn 4 MX8_copies [.ref 0, .int (nI a), .int (nI b), .int (nI w)] h (EL (if w < 3 then ((cpH h a b).1 28 (w + 1)).toInt64 else (cpH h a b).2 28 4) (cpH h a b)) := by
  have hoa := oSh (shj ha)
  have hob := oSh (shj hb)
  obtain ⟨z1, z2, z3⟩ := hS a ha
  obtain ⟨y1, y2, y3⟩ := hS b hb
  refine rn_of mm_X8_copies (le_b rfl) rfl ?_
  refine r_iload1 dX8_copies_0 ?_
  refine r_cS1I dX8_copies_1 mm_X8_isSheet st_X8_isSheet ml_X8_154 (c_isS_y h (okj ha)) (by decide) (Nat.le_of_ble_eq_true rfl) ?_
  refine r_ifeq (tgt := 23) dX8_copies_4 (by decide) (fun c9 => absurd c9 (by decide)) (fun _ => ?_)
  refine r_iload2 dX8_copies_7 ?_
  refine r_cS1I dX8_copies_8 mm_X8_isSheet st_X8_isSheet ml_X8_154 (c_isS_y h (okj hb)) (by decide) (Nat.le_of_ble_eq_true rfl) ?_
  refine r_ifeq (tgt := 23) dX8_copies_11 (by decide) (fun c9 => absurd c9 (by decide)) (fun _ => ?_)
  refine r_iload3 dX8_copies_14 ?_
  refine r_iflt (tgt := 23) dX8_copies_15 (by decide) (fun c9 => absurd c9 (nI_pos (by omega))) (fun _ => ?_)
  refine r_iload3 dX8_copies_18 ?_
  refine r_iconst_3 dX8_copies_19 ?_
  refine r_icmple (tgt := 29) dX8_copies_20 (by decide) (fun _ => ?_) (fun c9 => absurd (nI_le (b := 3) hw (by decide)) c9)
  refine r_aload0 dX8_copies_29 ?_
  refine r_iload1 dX8_copies_30 ?_
  refine r_cV1I dX8_copies_31 mm_X8_isLost im_X8_isLost se_X8_isLost ml_X8_160 rfl rfl rfl (c_there h ha hla) (by decide) (Nat.le_of_ble_eq_true rfl) ?_
  refine r_ifne (tgt := 45) dX8_copies_34 (by decide) (fun c9 => absurd (rfl) c9) (fun _ => ?_)
  refine r_aload0 dX8_copies_37 ?_
  refine r_iload2 dX8_copies_38 ?_
  refine r_cV1I dX8_copies_39 mm_X8_isLost im_X8_isLost se_X8_isLost ml_X8_160 rfl rfl rfl (c_there h hb hlb) (by decide) (Nat.le_of_ble_eq_true rfl) ?_
  refine r_ifeq (tgt := 54) dX8_copies_42 (by decide) (fun _ => ?_) (fun c9 => absurd (rfl) c9)
  refine r_aload0 dX8_copies_54 ?_
  refine r_getR dX8_copies_55 fl_X8_32 rfl rfl ?_
  refine r_iload1 dX8_copies_58 ?_
  refine r_aaldN dX8_copies_59 ha ?_
  refine r_getI dX8_copies_60 fl_X8_184 hoa rfl ?_
  rw [z1]
  refine r_ifeq (tgt := 78) dX8_copies_63 (by decide) (fun c9 => absurd c9 (nI_ne (by omega) (by omega))) (fun _ => ?_)
  refine r_aload0 dX8_copies_66 ?_
  refine r_getR dX8_copies_67 fl_X8_32 rfl rfl ?_
  refine r_iload2 dX8_copies_70 ?_
  refine r_aaldN dX8_copies_71 hb ?_
  refine r_getI dX8_copies_72 fl_X8_184 hob rfl ?_
  rw [y1]
  refine r_ifne (tgt := 84) dX8_copies_75 (by decide) (fun _ => ?_) (fun c9 => absurd c9 (nI_ne (by omega) (by omega)))
  refine r_aload0 dX8_copies_84 ?_
  refine r_getR dX8_copies_85 fl_X8_46 rfl rfl ?_
  refine r_aload0 dX8_copies_88 ?_
  refine r_getR dX8_copies_89 fl_X8_32 rfl rfl ?_
  refine r_iload1 dX8_copies_92 ?_
  refine r_aaldN dX8_copies_93 ha ?_
  refine r_aload0 dX8_copies_94 ?_
  refine r_getR dX8_copies_95 fl_X8_32 rfl rfl ?_
  refine r_iload2 dX8_copies_98 ?_
  refine r_aaldN dX8_copies_99 hb ?_
  refine r_cV2V dX8_copies_100 mm_X7_find im_X7_find se_X7_find ml_X8_204 rfl rfl rfl (c_X7_find (18 + a) (18 + b) _ _ h (shj ha) (shj hb) z2 y2 z1 y1 hza) (by decide) (Nat.le_of_ble_eq_true rfl) ?_
  refine r_aload0 dX8_copies_103 ?_
  refine r_getR dX8_copies_104 fl_X8_46 rfl rfl ?_
  refine r_iload3 dX8_copies_107 ?_
  refine r_cV1L dX8_copies_108 mm_X7_told im_X7_told se_X7_told ml_X8_208 rfl rfl rfl (c_X7_told w _ hw) (by decide) (Nat.le_of_ble_eq_true rfl) ?_
  exact r_lretE dX8_copies_111 rfl (rfl) (rfl)
theorem c_X8_twice_bad (s w : Int32) (h : Hp) (hb : ¬ okS s ∨ w < 0 ∨ 4 < w) : Rn 1 MX8_twice [.ref 0, .int s, .int w] h (EL (rfL (-2)) h) := by
  refine rn_of mm_X8_twice (le_b rfl) rfl ?_
  by_cases c : okS s
  · by_cases c3 : w < 0
    · refine r_iload1 dX8_twice_0 ?_
      refine r_cS1I dX8_twice_1 mm_X8_isSheet st_X8_isSheet ml_X8_154 (c_isS_y h c) (by decide) (Nat.le_of_ble_eq_true rfl) ?_
      refine r_ifeq (tgt := 16) dX8_twice_4 (by decide) (fun c9 => absurd c9 (by decide)) (fun _ => ?_)
      refine r_iload2 dX8_twice_7 ?_
      refine r_iflt (tgt := 16) dX8_twice_8 (by decide) (fun _ => ?_) (fun c9 => absurd (c3) c9)
      refine r_bipush bv_m2 dX8_twice_16 ?_
      refine r_cS1L dX8_twice_18 mm_X8_refusedLong st_X8_refusedLong ml_X8_130 (c_X8_refusedLong _ h) (by decide) (Nat.le_of_ble_eq_true rfl) ?_
      exact r_lretE dX8_twice_21 rfl (rfl) (rfl)
    · have c4 : 4 < w := (hb.resolve_left (fun q => q c)).resolve_left c3
      refine r_iload1 dX8_twice_0 ?_
      refine r_cS1I dX8_twice_1 mm_X8_isSheet st_X8_isSheet ml_X8_154 (c_isS_y h c) (by decide) (Nat.le_of_ble_eq_true rfl) ?_
      refine r_ifeq (tgt := 16) dX8_twice_4 (by decide) (fun c9 => absurd c9 (by decide)) (fun _ => ?_)
      refine r_iload2 dX8_twice_7 ?_
      refine r_iflt (tgt := 16) dX8_twice_8 (by decide) (fun c9 => absurd c9 (c3)) (fun _ => ?_)
      refine r_iload2 dX8_twice_11 ?_
      refine r_iconst_4 dX8_twice_12 ?_
      refine r_icmple (tgt := 22) dX8_twice_13 (by decide) (fun c9 => absurd c9 (Int32.not_le.mpr c4)) (fun _ => ?_)
      refine r_bipush bv_m2 dX8_twice_16 ?_
      refine r_cS1L dX8_twice_18 mm_X8_refusedLong st_X8_refusedLong ml_X8_130 (c_X8_refusedLong _ h) (by decide) (Nat.le_of_ble_eq_true rfl) ?_
      exact r_lretE dX8_twice_21 rfl (rfl) (rfl)
  · refine r_iload1 dX8_twice_0 ?_
    refine r_cS1I dX8_twice_1 mm_X8_isSheet st_X8_isSheet ml_X8_154 (c_isS_n h c) (by decide) (Nat.le_of_ble_eq_true rfl) ?_
    refine r_ifeq (tgt := 16) dX8_twice_4 (by decide) (fun _ => ?_) (fun c9 => absurd (rfl) c9)
    refine r_bipush bv_m2 dX8_twice_16 ?_
    refine r_cS1L dX8_twice_18 mm_X8_refusedLong st_X8_refusedLong ml_X8_130 (c_X8_refusedLong _ h) (by decide) (Nat.le_of_ble_eq_true rfl) ?_
    exact r_lretE dX8_twice_21 rfl (rfl) (rfl)
theorem c_X8_twice_null (j : Nat) (w : Int32) (h : Hp) (hj : j < 4) (h1 : ¬ w < 0) (h2 : w ≤ 4) (hl : h.1 (18 + j) 1 = 1) : Rn 2 MX8_twice [.ref 0, .int (nI j), .int w] h (EL (rfL (-11)) (pI h 0 10 1)) := by
  refine rn_of mm_X8_twice (le_b rfl) rfl ?_
  refine r_iload1 dX8_twice_0 ?_
  refine r_cS1I dX8_twice_1 mm_X8_isSheet st_X8_isSheet ml_X8_154 (c_isS_y h (okj hj)) (by decide) (Nat.le_of_ble_eq_true rfl) ?_
  refine r_ifeq (tgt := 16) dX8_twice_4 (by decide) (fun c9 => absurd c9 (by decide)) (fun _ => ?_)
  refine r_iload2 dX8_twice_7 ?_
  refine r_iflt (tgt := 16) dX8_twice_8 (by decide) (fun c9 => absurd c9 (h1)) (fun _ => ?_)
  refine r_iload2 dX8_twice_11 ?_
  refine r_iconst_4 dX8_twice_12 ?_
  refine r_icmple (tgt := 22) dX8_twice_13 (by decide) (fun _ => ?_) (fun c9 => absurd (h2) c9)
  refine r_aload0 dX8_twice_22 ?_
  refine r_iload1 dX8_twice_23 ?_
  refine r_cV1I dX8_twice_24 mm_X8_isLost im_X8_isLost se_X8_isLost ml_X8_160 rfl rfl rfl (c_lost h hj hl) (by decide) (Nat.le_of_ble_eq_true rfl) ?_
  refine r_ifeq (tgt := 39) dX8_twice_27 (by decide) (fun c9 => absurd c9 (by decide)) (fun _ => ?_)
  refine r_aload0 dX8_twice_30 ?_
  refine r_iconst_1 dX8_twice_31 ?_
  refine r_cV1I dX8_twice_32 mm_X8_found im_X8_found se_X8_found ml_X8_163 rfl rfl rfl (c_X8_found 1 h) (by decide) (Nat.le_of_ble_eq_true rfl) ?_
  refine r_cS1L dX8_twice_35 mm_X8_refusedLong st_X8_refusedLong ml_X8_130 (c_X8_refusedLong _ _) (by decide) (Nat.le_of_ble_eq_true rfl) ?_
  exact r_lretE dX8_twice_38 rfl (rfl) (rfl)
theorem c_X8_twice_not (j : Nat) (w : Int32) (h : Hp) (hj : j < 4) (h1 : ¬ w < 0) (h2 : w ≤ 4) (hS : SH4 h) (hl : h.1 (18 + j) 1 = 0) (hz : szN h (18 + j) = 0 ∨ szN h (18 + j) % 2 = 1 ∨ fWithin (h.1 (18 + j + 4)) (-10000) 10000 (szN h (18 + j)) = 0) : Rn 2 MX8_twice [.ref 0, .int (nI j), .int w] h (EL (rfL (-3)) h) := by
  have ho := oSh (shj hj)
  obtain ⟨z1, z2, z3⟩ := hS j hj
  refine rn_of mm_X8_twice (le_b rfl) rfl ?_
  refine r_iload1 dX8_twice_0 ?_
  refine r_cS1I dX8_twice_1 mm_X8_isSheet st_X8_isSheet ml_X8_154 (c_isS_y h (okj hj)) (by decide) (Nat.le_of_ble_eq_true rfl) ?_
  refine r_ifeq (tgt := 16) dX8_twice_4 (by decide) (fun c9 => absurd c9 (by decide)) (fun _ => ?_)
  refine r_iload2 dX8_twice_7 ?_
  refine r_iflt (tgt := 16) dX8_twice_8 (by decide) (fun c9 => absurd c9 (h1)) (fun _ => ?_)
  refine r_iload2 dX8_twice_11 ?_
  refine r_iconst_4 dX8_twice_12 ?_
  refine r_icmple (tgt := 22) dX8_twice_13 (by decide) (fun _ => ?_) (fun c9 => absurd (h2) c9)
  refine r_aload0 dX8_twice_22 ?_
  refine r_iload1 dX8_twice_23 ?_
  refine r_cV1I dX8_twice_24 mm_X8_isLost im_X8_isLost se_X8_isLost ml_X8_160 rfl rfl rfl (c_there h hj hl) (by decide) (Nat.le_of_ble_eq_true rfl) ?_
  refine r_ifeq (tgt := 39) dX8_twice_27 (by decide) (fun _ => ?_) (fun c9 => absurd (rfl) c9)
  refine r_aload0 dX8_twice_39 ?_
  refine r_getR dX8_twice_40 fl_X8_32 rfl rfl ?_
  refine r_iload1 dX8_twice_43 ?_
  refine r_aaldN dX8_twice_44 hj ?_
  refine r_astore3 dX8_twice_45 rfl (by decide) ?_
  refine r_aload3 dX8_twice_46 ?_
  refine r_getI dX8_twice_47 fl_X8_184 ho rfl ?_
  rw [z1]
  by_cases c : szN h (18 + j) = 0
  · refine r_ifle (tgt := 66) dX8_twice_50 (by decide) (fun _ => ?_) (fun c9 => absurd (by rw [c]; decide) c9)
    refine r_iconst_0 dX8_twice_66 ?_
    refine r_istore4 dX8_twice_67 rfl (by decide) ?_
    refine r_iload4 dX8_twice_69 ?_
    refine r_ifeq (tgt := 87) dX8_twice_71 (by decide) (fun _ => ?_) (fun c9 => absurd (rfl) c9)
    refine r_bipush bv_m3 dX8_twice_87 ?_
    refine r_cS1L dX8_twice_89 mm_X8_refusedLong st_X8_refusedLong ml_X8_130 (c_X8_refusedLong _ h) (by decide) (Nat.le_of_ble_eq_true rfl) ?_
    exact r_lretE dX8_twice_92 rfl (rfl) (rfl)
  · refine r_ifle (tgt := 66) dX8_twice_50 (by decide) (fun c9 => absurd c9 (nI_nle (by omega) (by omega))) (fun _ => ?_)
    refine r_aload3 dX8_twice_53 ?_
    refine r_getI dX8_twice_54 fl_X8_184 ho rfl ?_
    refine r_iconst_2 dX8_twice_57 ?_
    refine r_irem (by decide) dX8_twice_58 ?_
    rw [z1]
    have e : rem32 (nI (szN h (18 + j))) 2 = nI (szN h (18 + j) % 2) := nI_rem (d := 2) (by omega) (by decide) (by decide)
    rw [e]
    by_cases c2 : szN h (18 + j) % 2 = 1
    · refine r_ifne (tgt := 66) dX8_twice_59 (by decide) (fun _ => ?_) (fun c9 => absurd c9 (by rw [c2]; decide))
      refine r_iconst_0 dX8_twice_66 ?_
      refine r_istore4 dX8_twice_67 rfl (by decide) ?_
      refine r_iload4 dX8_twice_69 ?_
      refine r_ifeq (tgt := 87) dX8_twice_71 (by decide) (fun _ => ?_) (fun c9 => absurd (rfl) c9)
      refine r_bipush bv_m3 dX8_twice_87 ?_
      refine r_cS1L dX8_twice_89 mm_X8_refusedLong st_X8_refusedLong ml_X8_130 (c_X8_refusedLong _ h) (by decide) (Nat.le_of_ble_eq_true rfl) ?_
      exact r_lretE dX8_twice_92 rfl (rfl) (rfl)
    · have c3 := (hz.resolve_left c).resolve_left c2
      refine r_ifne (tgt := 66) dX8_twice_59 (by decide) (fun c9 => absurd (by rw [show szN h (18 + j) % 2 = 0 by omega]; rfl) c9) (fun _ => ?_)
      refine r_iconst_1 dX8_twice_62 ?_
      refine r_goto (tgt := 67) dX8_twice_63 (by decide) ?_
      refine r_istore4 dX8_twice_67 rfl (by decide) ?_
      refine r_iload4 dX8_twice_69 ?_
      refine r_ifeq (tgt := 87) dX8_twice_71 (by decide) (fun c9 => absurd c9 (by decide)) (fun _ => ?_)
      refine r_aload3 dX8_twice_74 ?_
      refine r_sipush sv_m10000 dX8_twice_75 ?_
      refine r_sipush sv_10000 dX8_twice_78 ?_
      refine r_cV2I dX8_twice_81 mm_X6_isWithin im_X6_isWithin se_X6_isWithin ml_X8_166 ho rfl rfl (c_X6_isWithin (18 + j) _ (-10000) 10000 h (shj hj) z2 z1) (by decide) (Nat.le_of_ble_eq_true rfl) ?_
      refine r_ifne (tgt := 93) dX8_twice_84 (by decide) (fun c9 => absurd (c3) c9) (fun _ => ?_)
      refine r_bipush bv_m3 dX8_twice_87 ?_
      refine r_cS1L dX8_twice_89 mm_X8_refusedLong st_X8_refusedLong ml_X8_130 (c_X8_refusedLong _ h) (by decide) (Nat.le_of_ble_eq_true rfl) ?_
      exact r_lretE dX8_twice_92 rfl (rfl) (rfl)
theorem c_X8_twice (j w n : Nat) (h : Hp) (hj : j < 4) (hw : w ≤ 4) (hS : SH4 h) (hl : h.1 (18 + j) 1 = 0) (hn : szN h (18 + j) = 2 * n) (hn1 : 1 ≤ n) (hi : fWithin (h.1 (18 + j + 4)) (-10000) 10000 (szN h (18 + j)) = 1) : Rn 3 MX8_twice [.ref 0, .int (nI j), .int (nI w)] h (EL (if w < 4 then (cmpH h (18 + j + 4) n).2 30 w else ((cmpH h (18 + j + 4) n).1 30 4).toInt64) (cmpH h (18 + j + 4) n)) := by
  have ho := oSh (shj hj)
  obtain ⟨z1, z2, z3⟩ := hS j hj
  refine rn_of mm_X8_twice (le_b rfl) rfl ?_
  refine r_iload1 dX8_twice_0 ?_
  refine r_cS1I dX8_twice_1 mm_X8_isSheet st_X8_isSheet ml_X8_154 (c_isS_y h (okj hj)) (by decide) (Nat.le_of_ble_eq_true rfl) ?_
  refine r_ifeq (tgt := 16) dX8_twice_4 (by decide) (fun c9 => absurd c9 (by decide)) (fun _ => ?_)
  refine r_iload2 dX8_twice_7 ?_
  refine r_iflt (tgt := 16) dX8_twice_8 (by decide) (fun c9 => absurd c9 (nI_pos (by omega))) (fun _ => ?_)
  refine r_iload2 dX8_twice_11 ?_
  refine r_iconst_4 dX8_twice_12 ?_
  refine r_icmple (tgt := 22) dX8_twice_13 (by decide) (fun _ => ?_) (fun c9 => absurd (nI_le (b := 4) hw (by decide)) c9)
  refine r_aload0 dX8_twice_22 ?_
  refine r_iload1 dX8_twice_23 ?_
  refine r_cV1I dX8_twice_24 mm_X8_isLost im_X8_isLost se_X8_isLost ml_X8_160 rfl rfl rfl (c_there h hj hl) (by decide) (Nat.le_of_ble_eq_true rfl) ?_
  refine r_ifeq (tgt := 39) dX8_twice_27 (by decide) (fun _ => ?_) (fun c9 => absurd (rfl) c9)
  refine r_aload0 dX8_twice_39 ?_
  refine r_getR dX8_twice_40 fl_X8_32 rfl rfl ?_
  refine r_iload1 dX8_twice_43 ?_
  refine r_aaldN dX8_twice_44 hj ?_
  refine r_astore3 dX8_twice_45 rfl (by decide) ?_
  refine r_aload3 dX8_twice_46 ?_
  refine r_getI dX8_twice_47 fl_X8_184 ho rfl ?_
  rw [z1]
  refine r_ifle (tgt := 66) dX8_twice_50 (by decide) (fun c9 => absurd c9 (nI_nle (by omega) (by omega))) (fun _ => ?_)
  refine r_aload3 dX8_twice_53 ?_
  refine r_getI dX8_twice_54 fl_X8_184 ho rfl ?_
  refine r_iconst_2 dX8_twice_57 ?_
  refine r_irem (by decide) dX8_twice_58 ?_
  rw [z1]
  have e : rem32 (nI (szN h (18 + j))) 2 = nI (szN h (18 + j) % 2) := nI_rem (d := 2) (by omega) (by decide) (by decide)
  rw [e]
  have rw1 := c_X6_isWithin (18 + j) _ (-10000) 10000 h (shj hj) z2 z1
  rw [hi] at rw1
  refine r_ifne (tgt := 66) dX8_twice_59 (by decide) (fun c9 => absurd (by rw [hn, Nat.mul_mod_right]; rfl) c9) (fun _ => ?_)
  refine r_iconst_1 dX8_twice_62 ?_
  refine r_goto (tgt := 67) dX8_twice_63 (by decide) ?_
  refine r_istore4 dX8_twice_67 rfl (by decide) ?_
  refine r_iload4 dX8_twice_69 ?_
  refine r_ifeq (tgt := 87) dX8_twice_71 (by decide) (fun c9 => absurd c9 (by decide)) (fun _ => ?_)
  refine r_aload3 dX8_twice_74 ?_
  refine r_sipush sv_m10000 dX8_twice_75 ?_
  refine r_sipush sv_10000 dX8_twice_78 ?_
  refine r_cV2I dX8_twice_81 mm_X6_isWithin im_X6_isWithin se_X6_isWithin ml_X8_166 ho rfl rfl (rw1) (by decide) (Nat.le_of_ble_eq_true rfl) ?_
  refine r_ifne (tgt := 93) dX8_twice_84 (by decide) (fun _ => ?_) (fun c9 => absurd c9 (by decide))
  refine r_aload0 dX8_twice_93 ?_
  refine r_getR dX8_twice_94 fl_X8_53 rfl rfl ?_
  refine r_aload3 dX8_twice_97 ?_
  refine r_cV1V dX8_twice_98 mm_X2_compare im_X2_compare se_X2_compare ml_X8_210 rfl rfl rfl (c_X2_compare (18 + j) n h (shj hj) (by omega) (by rw [z1, hn])) (by decide) (Nat.le_of_ble_eq_true rfl) ?_
  refine r_aload0 dX8_twice_101 ?_
  refine r_getR dX8_twice_102 fl_X8_53 rfl rfl ?_
  refine r_iload2 dX8_twice_105 ?_
  refine r_cV1L dX8_twice_106 mm_X2_told im_X2_told se_X2_told ml_X8_214 rfl rfl rfl (c_X2_told w _ hw) (by decide) (Nat.le_of_ble_eq_true rfl) ?_
  exact r_lretE dX8_twice_109 rfl (rfl) (rfl)
