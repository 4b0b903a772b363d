/-! class Rounding -/
def fLow (v r : Int32) : Int32 := if r = 2 then 2 * v else (if 2 * v - 1 < 0 then 0 else 2 * v - 1)
def fHigh (v r : Int32) : Int32 := if r = 2 then 2 * v + 2 else 2 * v + 1
def fIn (v r : Int32) : Int32 := if r = 1 ∧ rem32 v 2 = 0 then 1 else 0
def fOut (v r : Int32) : Int32 := if r = 1 ∧ ¬ rem32 v 2 = 0 then 1 else 0
def fStep (u : Int64) : Int64 := if 1 < u then u else 1
def fLeastFrom (lo u : Int64) (b : Int32) : Int32 := ((if b = 0 then lo + fStep u - 1 else lo + fStep u) / fStep u).toInt32
def fMostTo (hi u : Int64) (b : Int32) : Int32 := ((if b = 0 then hi - 1 else hi) / fStep u).toInt32
def fLeast (v r f dv : Int32) : Int32 := fLeastFrom ((fLow v r).toInt64 * dv.toInt64) (2 * f.toInt64) (fOut v r)
def fMost (v r f dv : Int32) : Int32 := fMostTo ((fHigh v r).toInt64 * dv.toInt64) (2 * f.toInt64) (fIn v r)
def fLeastR (v r f dv : Int32) : Int32 := fLeastFrom ((fLow v r).toInt64 * (fLow v r).toInt64 * dv.toInt64) (4 * f.toInt64 * f.toInt64) (fOut v r)
def fMostR (v r f dv : Int32) : Int32 := fMostTo ((fHigh v r).toInt64 * (fHigh v r).toInt64 * dv.toInt64) (4 * f.toInt64 * f.toInt64) (fIn v r)
theorem fStep_ne (u : Int64) : ¬ fStep u = 0 := by
  unfold fStep
  split
  · rename_i h
    intro e
    rw [e] at h
    exact absurd h (by decide)
  · decide
theorem c_X3_lowEndTwice (v r : Int32) (h : Hp) : Rn 1 MX3_lowEndTwice [.int v, .int r] h (EI (fLow v r) h) := by
  refine rn_of mm_X3_lowEndTwice (le_b rfl) rfl ?_
  refine r_iload1 dX3_lowEndTwice_0 ?_
  refine r_iconst_2 dX3_lowEndTwice_1 ?_
  refine r_icmpne (tgt := 11) dX3_lowEndTwice_2 (by decide) (fun c => ?_) (fun c => ?_)
  · refine r_iconst_2 dX3_lowEndTwice_11 ?_
    refine r_iload0 dX3_lowEndTwice_12 ?_
    refine r_imul dX3_lowEndTwice_13 ?_
    refine r_iconst_1 dX3_lowEndTwice_14 ?_
    refine r_isub dX3_lowEndTwice_15 ?_
    refine r_iconst_0 dX3_lowEndTwice_16 ?_
    refine r_mmax dX3_lowEndTwice_17 ml_X3_36 (by decide) (Nat.le_of_ble_eq_true rfl) ?_
    exact r_iretE dX3_lowEndTwice_20 rfl (by simp [fLow, c]) (rfl)
  · refine r_iconst_2 dX3_lowEndTwice_5 ?_
    refine r_iload0 dX3_lowEndTwice_6 ?_
    refine r_imul dX3_lowEndTwice_7 ?_
    refine r_goto (tgt := 20) dX3_lowEndTwice_8 (by decide) ?_
    exact r_iretE dX3_lowEndTwice_20 rfl (by simp [fLow, c]) (rfl)
theorem c_X3_highEndTwice (v r : Int32) (h : Hp) : Rn 0 MX3_highEndTwice [.int v, .int r] h (EI (fHigh v r) h) := by
  refine rn_of mm_X3_highEndTwice (le_b rfl) rfl ?_
  refine r_iload1 dX3_highEndTwice_0 ?_
  refine r_iconst_2 dX3_highEndTwice_1 ?_
  refine r_icmpne (tgt := 13) dX3_highEndTwice_2 (by decide) (fun c => ?_) (fun c => ?_)
  · refine r_iconst_2 dX3_highEndTwice_13 ?_
    refine r_iload0 dX3_highEndTwice_14 ?_
    refine r_imul dX3_highEndTwice_15 ?_
    refine r_iconst_1 dX3_highEndTwice_16 ?_
    refine r_iadd dX3_highEndTwice_17 ?_
    exact r_iretE dX3_highEndTwice_18 rfl (by simp [fHigh, c]) (rfl)
  · refine r_iconst_2 dX3_highEndTwice_5 ?_
    refine r_iload0 dX3_highEndTwice_6 ?_
    refine r_imul dX3_highEndTwice_7 ?_
    refine r_iconst_2 dX3_highEndTwice_8 ?_
    refine r_iadd dX3_highEndTwice_9 ?_
    refine r_goto (tgt := 18) dX3_highEndTwice_10 (by decide) ?_
    exact r_iretE dX3_highEndTwice_18 rfl (by simp [fHigh, c]) (rfl)
theorem c_X3_endsAreIn (v r : Int32) (h : Hp) : Rn 0 MX3_endsAreIn [.int v, .int r] h (EI (fIn v r) h) := by
  refine rn_of mm_X3_endsAreIn (le_b rfl) rfl ?_
  refine r_iload1 dX3_endsAreIn_0 ?_
  refine r_iconst_1 dX3_endsAreIn_1 ?_
  refine r_icmpne (tgt := 15) dX3_endsAreIn_2 (by decide) (fun c => ?_) (fun c => ?_)
  · refine r_iconst_0 dX3_endsAreIn_15 ?_
    exact r_zretE dX3_endsAreIn_16 rfl (by decide) (by simp [fIn, c]) (rfl)
  · refine r_iload0 dX3_endsAreIn_5 ?_
    refine r_iconst_2 dX3_endsAreIn_6 ?_
    refine r_irem (by decide) dX3_endsAreIn_7 ?_
    refine r_ifne (tgt := 15) dX3_endsAreIn_8 (by decide) (fun c2 => ?_) (fun c2 => ?_)
    · refine r_iconst_0 dX3_endsAreIn_15 ?_
      exact r_zretE dX3_endsAreIn_16 rfl (by decide) (by simp [fIn, c2]) (rfl)
    · refine r_iconst_1 dX3_endsAreIn_11 ?_
      refine r_goto (tgt := 16) dX3_endsAreIn_12 (by decide) ?_
      exact r_zretE dX3_endsAreIn_16 rfl (by decide) (by simp [fIn, c, c2]) (rfl)
theorem c_X3_endsAreOut (v r : Int32) (h : Hp) : Rn 0 MX3_endsAreOut [.int v, .int r] h (EI (fOut v r) h) := by
  refine rn_of mm_X3_endsAreOut (le_b rfl) rfl ?_
  refine r_iload1 dX3_endsAreOut_0 ?_
  refine r_iconst_1 dX3_endsAreOut_1 ?_
  refine r_icmpne (tgt := 15) dX3_endsAreOut_2 (by decide) (fun c => ?_) (fun c => ?_)
  · refine r_iconst_0 dX3_endsAreOut_15 ?_
    exact r_zretE dX3_endsAreOut_16 rfl (by decide) (by simp [fOut, c]) (rfl)
  · refine r_iload0 dX3_endsAreOut_5 ?_
    refine r_iconst_2 dX3_endsAreOut_6 ?_
    refine r_irem (by decide) dX3_endsAreOut_7 ?_
    refine r_ifeq (tgt := 15) dX3_endsAreOut_8 (by decide) (fun c2 => ?_) (fun c2 => ?_)
    · refine r_iconst_0 dX3_endsAreOut_15 ?_
      exact r_zretE dX3_endsAreOut_16 rfl (by decide) (by simp [fOut, c2]) (rfl)
    · refine r_iconst_1 dX3_endsAreOut_11 ?_
      refine r_goto (tgt := 16) dX3_endsAreOut_12 (by decide) ?_
      exact r_zretE dX3_endsAreOut_16 rfl (by decide) (by simp [fOut, c, c2]) (rfl)
theorem c_X3_leastFrom (lo u : Int64) (b : Int32) (h : Hp) : Rn 1 MX3_leastFrom [.long lo, .long u, .int b] h (EI (fLeastFrom lo u b) h) := by
  refine rn_of mm_X3_leastFrom (le_b rfl) rfl ?_
  have hs := fStep_ne u
  refine r_lload2 dX3_leastFrom_0 ?_
  refine r_lconst_1 dX3_leastFrom_1 ?_
  refine r_mmaxL dX3_leastFrom_2 ml_X3_41 (by decide) (Nat.le_of_ble_eq_true rfl) ?_
  change Aw _ _ _ _ _ [.long (fStep u)] _
  refine r_lstore5 dX3_leastFrom_5 rfl (by decide) ?_
  refine r_iload4 dX3_leastFrom_7 ?_
  refine r_ifeq (tgt := 19) dX3_leastFrom_9 (by decide) (fun c => ?_) (fun c => ?_)
  · refine r_lload0 dX3_leastFrom_19 ?_
    refine r_lload5 dX3_leastFrom_20 ?_
    refine r_ladd dX3_leastFrom_22 ?_
    refine r_lconst_1 dX3_leastFrom_23 ?_
    refine r_lsub dX3_leastFrom_24 ?_
    refine r_lload5 dX3_leastFrom_25 ?_
    refine r_ldiv hs dX3_leastFrom_27 ?_
    refine r_l2i dX3_leastFrom_28 ?_
    exact r_iretE dX3_leastFrom_29 rfl (by simp [fLeastFrom, c]) (rfl)
  · refine r_lload0 dX3_leastFrom_12 ?_
    refine r_lload5 dX3_leastFrom_13 ?_
    refine r_ladd dX3_leastFrom_15 ?_
    refine r_goto (tgt := 25) dX3_leastFrom_16 (by decide) ?_
    refine r_lload5 dX3_leastFrom_25 ?_
    refine r_ldiv hs dX3_leastFrom_27 ?_
    refine r_l2i dX3_leastFrom_28 ?_
    exact r_iretE dX3_leastFrom_29 rfl (by simp [fLeastFrom, c]) (rfl)
theorem c_X3_mostTo (hi u : Int64) (b : Int32) (h : Hp) : Rn 1 MX3_mostTo [.long hi, .long u, .int b] h (EI (fMostTo hi u b) h) := by
  refine rn_of mm_X3_mostTo (le_b rfl) rfl ?_
  have hs := fStep_ne u
  refine r_lload2 dX3_mostTo_0 ?_
  refine r_lconst_1 dX3_mostTo_1 ?_
  refine r_mmaxL dX3_mostTo_2 ml_X3_41 (by decide) (Nat.le_of_ble_eq_true rfl) ?_
  change Aw _ _ _ _ _ [.long (fStep u)] _
  refine r_lstore5 dX3_mostTo_5 rfl (by decide) ?_
  refine r_iload4 dX3_mostTo_7 ?_
  refine r_ifeq (tgt := 16) dX3_mostTo_9 (by decide) (fun c => ?_) (fun c => ?_)
  · refine r_lload0 dX3_mostTo_16 ?_
    refine r_lconst_1 dX3_mostTo_17 ?_
    refine r_lsub dX3_mostTo_18 ?_
    refine r_lload5 dX3_mostTo_19 ?_
    refine r_ldiv hs dX3_mostTo_21 ?_
    refine r_l2i dX3_mostTo_22 ?_
    exact r_iretE dX3_mostTo_23 rfl (by simp [fMostTo, c]) (rfl)
  · refine r_lload0 dX3_mostTo_12 ?_
    refine r_goto (tgt := 19) dX3_mostTo_13 (by decide) ?_
    refine r_lload5 dX3_mostTo_19 ?_
    refine r_ldiv hs dX3_mostTo_21 ?_
    refine r_l2i dX3_mostTo_22 ?_
    exact r_iretE dX3_mostTo_23 rfl (by simp [fMostTo, c]) (rfl)
theorem c_X3_least (v r f dv : Int32) (h : Hp) : Rn 2 MX3_least [.int v, .int r, .int f, .int dv] h (EI (fLeast v r f dv) h) := by
  refine rn_of mm_X3_least (le_b rfl) rfl ?_
  refine r_iload0 dX3_least_0 ?_
  refine r_iload1 dX3_least_1 ?_
  refine r_cS2I dX3_least_2 mm_X3_lowEndTwice st_X3_lowEndTwice ml_X3_9 (c_X3_lowEndTwice v r h) (by decide) (Nat.le_of_ble_eq_true rfl) ?_
  refine r_i2l dX3_least_5 ?_
  refine r_lstore4 dX3_least_6 rfl (by decide) ?_
  refine r_lload4 dX3_least_8 ?_
  refine r_iload3 dX3_least_10 ?_
  refine r_i2l dX3_least_11 ?_
  refine r_lmul dX3_least_12 ?_
  refine r_ldc2 ct_X3_15 dX3_least_13 ?_
  refine r_iload2 dX3_least_16 ?_
  refine r_i2l dX3_least_17 ?_
  refine r_lmul dX3_least_18 ?_
  refine r_iload0 dX3_least_19 ?_
  refine r_iload1 dX3_least_20 ?_
  refine r_cS2I dX3_least_21 mm_X3_endsAreOut st_X3_endsAreOut ml_X3_17 (c_X3_endsAreOut v r h) (by decide) (Nat.le_of_ble_eq_true rfl) ?_
  refine r_cS3I dX3_least_24 mm_X3_leastFrom st_X3_leastFrom ml_X3_21 (c_X3_leastFrom _ _ _ h) (by decide) (Nat.le_of_ble_eq_true rfl) ?_
  exact r_iretE dX3_least_27 rfl (rfl) (rfl)
theorem c_X3_most (v r f dv : Int32) (h : Hp) : Rn 2 MX3_most [.int v, .int r, .int f, .int dv] h (EI (fMost v r f dv) h) := by
  refine rn_of mm_X3_most (le_b rfl) rfl ?_
  refine r_iload0 dX3_most_0 ?_
  refine r_iload1 dX3_most_1 ?_
  refine r_cS2I dX3_most_2 mm_X3_highEndTwice st_X3_highEndTwice ml_X3_25 (c_X3_highEndTwice v r h) (by decide) (Nat.le_of_ble_eq_true rfl) ?_
  refine r_i2l dX3_most_5 ?_
  refine r_lstore4 dX3_most_6 rfl (by decide) ?_
  refine r_lload4 dX3_most_8 ?_
  refine r_iload3 dX3_most_10 ?_
  refine r_i2l dX3_most_11 ?_
  refine r_lmul dX3_most_12 ?_
  refine r_ldc2 ct_X3_15 dX3_most_13 ?_
  refine r_iload2 dX3_most_16 ?_
  refine r_i2l dX3_most_17 ?_
  refine r_lmul dX3_most_18 ?_
  refine r_iload0 dX3_most_19 ?_
  refine r_iload1 dX3_most_20 ?_
  refine r_cS2I dX3_most_21 mm_X3_endsAreIn st_X3_endsAreIn ml_X3_28 (c_X3_endsAreIn v r h) (by decide) (Nat.le_of_ble_eq_true rfl) ?_
  refine r_cS3I dX3_most_24 mm_X3_mostTo st_X3_mostTo ml_X3_31 (c_X3_mostTo _ _ _ h) (by decide) (Nat.le_of_ble_eq_true rfl) ?_
  exact r_iretE dX3_most_27 rfl (rfl) (rfl)
theorem c_X3_leastOfRoot (v r f dv : Int32) (h : Hp) : Rn 2 MX3_leastOfRoot [.int v, .int r, .int f, .int dv] h (EI (fLeastR v r f dv) h) := by
  refine rn_of mm_X3_leastOfRoot (le_b rfl) rfl ?_
  refine r_iload0 dX3_leastOfRoot_0 ?_
  refine r_iload1 dX3_leastOfRoot_1 ?_
  refine r_cS2I dX3_leastOfRoot_2 mm_X3_lowEndTwice st_X3_lowEndTwice ml_X3_9 (c_X3_lowEndTwice v r h) (by decide) (Nat.le_of_ble_eq_true rfl) ?_
  refine r_i2l dX3_leastOfRoot_5 ?_
  refine r_lstore4 dX3_leastOfRoot_6 rfl (by decide) ?_
  refine r_lload4 dX3_leastOfRoot_8 ?_
  refine r_lload4 dX3_leastOfRoot_10 ?_
  refine r_lmul dX3_leastOfRoot_12 ?_
  refine r_iload3 dX3_leastOfRoot_13 ?_
  refine r_i2l dX3_leastOfRoot_14 ?_
  refine r_lmul dX3_leastOfRoot_15 ?_
  refine r_ldc2 ct_X3_34 dX3_leastOfRoot_16 ?_
  refine r_iload2 dX3_leastOfRoot_19 ?_
  refine r_i2l dX3_leastOfRoot_20 ?_
  refine r_lmul dX3_leastOfRoot_21 ?_
  refine r_iload2 dX3_leastOfRoot_22 ?_
  refine r_i2l dX3_leastOfRoot_23 ?_
  refine r_lmul dX3_leastOfRoot_24 ?_
  refine r_iload0 dX3_leastOfRoot_25 ?_
  refine r_iload1 dX3_leastOfRoot_26 ?_
  refine r_cS2I dX3_leastOfRoot_27 mm_X3_endsAreOut st_X3_endsAreOut ml_X3_17 (c_X3_endsAreOut v r h) (by decide) (Nat.le_of_ble_eq_true rfl) ?_
  refine r_cS3I dX3_leastOfRoot_30 mm_X3_leastFrom st_X3_leastFrom ml_X3_21 (c_X3_leastFrom _ _ _ h) (by decide) (Nat.le_of_ble_eq_true rfl) ?_
  exact r_iretE dX3_leastOfRoot_33 rfl (rfl) (rfl)
theorem c_X3_mostOfRoot (v r f dv : Int32) (h : Hp) : Rn 2 MX3_mostOfRoot [.int v, .int r, .int f, .int dv] h (EI (fMostR v r f dv) h) := by
  refine rn_of mm_X3_mostOfRoot (le_b rfl) rfl ?_
  refine r_iload0 dX3_mostOfRoot_0 ?_
  refine r_iload1 dX3_mostOfRoot_1 ?_
  refine r_cS2I dX3_mostOfRoot_2 mm_X3_highEndTwice st_X3_highEndTwice ml_X3_25 (c_X3_highEndTwice v r h) (by decide) (Nat.le_of_ble_eq_true rfl) ?_
  refine r_i2l dX3_mostOfRoot_5 ?_
  refine r_lstore4 dX3_mostOfRoot_6 rfl (by decide) ?_
  refine r_lload4 dX3_mostOfRoot_8 ?_
  refine r_lload4 dX3_mostOfRoot_10 ?_
  refine r_lmul dX3_mostOfRoot_12 ?_
  refine r_iload3 dX3_mostOfRoot_13 ?_
  refine r_i2l dX3_mostOfRoot_14 ?_
  refine r_lmul dX3_mostOfRoot_15 ?_
  refine r_ldc2 ct_X3_34 dX3_mostOfRoot_16 ?_
  refine r_iload2 dX3_mostOfRoot_19 ?_
  refine r_i2l dX3_mostOfRoot_20 ?_
  refine r_lmul dX3_mostOfRoot_21 ?_
  refine r_iload2 dX3_mostOfRoot_22 ?_
  refine r_i2l dX3_mostOfRoot_23 ?_
  refine r_lmul dX3_mostOfRoot_24 ?_
  refine r_iload0 dX3_mostOfRoot_25 ?_
  refine r_iload1 dX3_mostOfRoot_26 ?_
  refine r_cS2I dX3_mostOfRoot_27 mm_X3_endsAreIn st_X3_endsAreIn ml_X3_28 (c_X3_endsAreIn v r h) (by decide) (Nat.le_of_ble_eq_true rfl) ?_
  refine r_cS3I dX3_mostOfRoot_30 mm_X3_mostTo st_X3_mostTo ml_X3_31 (c_X3_mostTo _ _ _ h) (by decide) (Nat.le_of_ble_eq_true rfl) ?_
  exact r_iretE dX3_mostOfRoot_33 rfl (rfl) (rfl)
