/-! RowTable: the questions over its rows -/
def bc1 (x : Int32) : Int32 := x - (ush32 x 1 &&& 1431655765)
def bc2 (x : Int32) : Int32 := (x &&& 858993459) + (ush32 x 2 &&& 858993459)
def bc3 (x : Int32) : Int32 := x + ush32 x 4 &&& 252645135
def bc4 (x : Int32) : Int32 := x + ush32 x 8
def bc5 (x : Int32) : Int32 := x + ush32 x 16
def bitc (x : Int32) : Int32 := bc5 (bc4 (bc3 (bc2 (bc1 x)))) &&& 63
theorem c_bitCount (x : Int32) (h : Hp) : Rn 0 MJ6_bitCount_0f7a4 [.int x] h (EI (bitc x) h) := by
  refine rn_of mm_J6_bitCount_0f7a4 (le_b rfl) rfl ?_
  refine r_iload0 dJ6_bitCount_0f7a4_0 ?_
  refine r_iload0 dJ6_bitCount_0f7a4_1 ?_
  refine r_iconst_1 dJ6_bitCount_0f7a4_2 ?_
  refine r_iushr dJ6_bitCount_0f7a4_3 ?_
  refine r_ldc_w ct_J6_265 dJ6_bitCount_0f7a4_4 ?_
  refine r_iand dJ6_bitCount_0f7a4_7 ?_
  refine r_isub dJ6_bitCount_0f7a4_8 ?_
  refine r_istore0 dJ6_bitCount_0f7a4_9 (by decide) ?_
  refine r_iload0 dJ6_bitCount_0f7a4_10 ?_
  refine r_ldc_w ct_J6_266 dJ6_bitCount_0f7a4_11 ?_
  refine r_iand dJ6_bitCount_0f7a4_14 ?_
  refine r_iload0 dJ6_bitCount_0f7a4_15 ?_
  refine r_iconst_2 dJ6_bitCount_0f7a4_16 ?_
  refine r_iushr dJ6_bitCount_0f7a4_17 ?_
  refine r_ldc_w ct_J6_266 dJ6_bitCount_0f7a4_18 ?_
  refine r_iand dJ6_bitCount_0f7a4_21 ?_
  refine r_iadd dJ6_bitCount_0f7a4_22 ?_
  refine r_istore0 dJ6_bitCount_0f7a4_23 (by decide) ?_
  refine r_iload0 dJ6_bitCount_0f7a4_24 ?_
  refine r_iload0 dJ6_bitCount_0f7a4_25 ?_
  refine r_iconst_4 dJ6_bitCount_0f7a4_26 ?_
  refine r_iushr dJ6_bitCount_0f7a4_27 ?_
  refine r_iadd dJ6_bitCount_0f7a4_28 ?_
  refine r_ldc_w ct_J6_267 dJ6_bitCount_0f7a4_29 ?_
  refine r_iand dJ6_bitCount_0f7a4_32 ?_
  refine r_istore0 dJ6_bitCount_0f7a4_33 (by decide) ?_
  refine r_iload0 dJ6_bitCount_0f7a4_34 ?_
  refine r_iload0 dJ6_bitCount_0f7a4_35 ?_
  refine r_bipush bv_8 dJ6_bitCount_0f7a4_36 ?_
  refine r_iushr dJ6_bitCount_0f7a4_38 ?_
  refine r_iadd dJ6_bitCount_0f7a4_39 ?_
  refine r_istore0 dJ6_bitCount_0f7a4_40 (by decide) ?_
  refine r_iload0 dJ6_bitCount_0f7a4_41 ?_
  refine r_iload0 dJ6_bitCount_0f7a4_42 ?_
  refine r_bipush bv_16 dJ6_bitCount_0f7a4_43 ?_
  refine r_iushr dJ6_bitCount_0f7a4_45 ?_
  refine r_iadd dJ6_bitCount_0f7a4_46 ?_
  refine r_istore0 dJ6_bitCount_0f7a4_47 (by decide) ?_
  refine r_iload0 dJ6_bitCount_0f7a4_48 ?_
  refine r_bipush bv_63 dJ6_bitCount_0f7a4_49 ?_
  refine r_iand dJ6_bitCount_0f7a4_51 ?_
  exact r_iretE dJ6_bitCount_0f7a4_52 rfl (rfl) (rfl)
/-- a set ahead of another: fewer, or as many and less -/
def ahead (x y : Int32) : Bool := decide (bitc x - bitc y < 0) || (decide (bitc x - bitc y = 0) && decide (x < y))
theorem c_X5_isAhead (x y : Int32) (h : Hp) : Rn 1 MX5_isAhead [.int x, .int y] h (EI (b2i (ahead x y)) h) := by
  refine rn_of mm_X5_isAhead (le_b rfl) rfl ?_
  refine r_iload0 dX5_isAhead_0 ?_
  refine r_cS1I dX5_isAhead_1 mm_J6_bitCount_0f7a4 st_J6_bitCount_0f7a4 ml_X5_75 (c_bitCount x h) (by decide) (Nat.le_of_ble_eq_true rfl) ?_
  refine r_iload1 dX5_isAhead_4 ?_
  refine r_cS1I dX5_isAhead_5 mm_J6_bitCount_0f7a4 st_J6_bitCount_0f7a4 ml_X5_75 (c_bitCount y h) (by decide) (Nat.le_of_ble_eq_true rfl) ?_
  refine r_isub dX5_isAhead_8 ?_
  refine r_istore2 dX5_isAhead_9 rfl (by decide) ?_
  refine r_iload2 dX5_isAhead_10 ?_
  refine r_iflt (tgt := 23) dX5_isAhead_11 (by decide) (fun c => ?_) (fun c => ?_)
  · refine r_iconst_1 dX5_isAhead_23 ?_
    refine r_goto (tgt := 28) dX5_isAhead_24 (by decide) ?_
    exact r_zretE dX5_isAhead_28 rfl (by decide) (by simp [ahead, c, b2i]) (rfl)
  · refine r_iload2 dX5_isAhead_14 ?_
    refine r_ifne (tgt := 27) dX5_isAhead_15 (by decide) (fun c2 => ?_) (fun c2 => ?_)
    · refine r_iconst_0 dX5_isAhead_27 ?_
      exact r_zretE dX5_isAhead_28 rfl (by decide) (by simp [ahead, c, c2, b2i]) (rfl)
    · refine r_iload0 dX5_isAhead_18 ?_
      refine r_iload1 dX5_isAhead_19 ?_
      refine r_icmpge (tgt := 27) dX5_isAhead_20 (by decide) (fun c3 => ?_) (fun c3 => ?_)
      · refine r_iconst_0 dX5_isAhead_27 ?_
        exact r_zretE dX5_isAhead_28 rfl (by decide) (by simp [ahead, c, c2, b2i, Int32.not_lt.mpr c3]) (rfl)
      · refine r_iconst_1 dX5_isAhead_23 ?_
        refine r_goto (tgt := 28) dX5_isAhead_24 (by decide) ?_
        exact r_zretE dX5_isAhead_28 rfl (by decide) (by simp [ahead, c2, b2i, Int32.not_le.mp c3]) (rfl)
/-- whether a row can be, by what it holds and what is believed -/
def cbe (x b : Int32) : Bool := decide (x &&& b = b)
theorem c_X5_canBe (k : Nat) (b : Int32) (h : Hp) (hk : k < 5005) : Rn 0 MX5_canBe [.ref 12, .int (nI k), .int b] h (EI (b2i (cbe (h.1 14 k) b)) h) := by
  refine rn_of mm_X5_canBe (le_b rfl) rfl ?_
  refine r_aload0 dX5_canBe_0 ?_
  refine r_getR dX5_canBe_1 fl_X5_15 rfl rfl ?_
  refine r_iload1 dX5_canBe_4 ?_
  refine r_ialdN dX5_canBe_5 rfl hk ?_
  refine r_iload2 dX5_canBe_6 ?_
  refine r_iand dX5_canBe_7 ?_
  refine r_iload2 dX5_canBe_8 ?_
  refine r_icmpne (tgt := 16) dX5_canBe_9 (by decide) (fun c => ?_) (fun c => ?_)
  · refine r_iconst_0 dX5_canBe_16 ?_
    exact r_zretE dX5_canBe_17 rfl (by decide) (by simp [cbe, c, b2i]) (rfl)
  · refine r_iconst_1 dX5_canBe_12 ?_
    refine r_goto (tgt := 17) dX5_canBe_13 (by decide) ?_
    exact r_zretE dX5_canBe_17 rfl (by decide) (by simp [cbe, c, b2i]) (rfl)
theorem b2i_0 {b : Bool} (h : b2i b = 0) : b = false := by cases b <;> simp_all [b2i]
theorem b2i_n {b : Bool} (h : ¬ b2i b = 0) : b = true := by cases b <;> simp_all [b2i]
def hmF (H : Nat → Int32) (b : Int32) (k : Nat) (a : Int32) : Int32 := if cbe (H k) b then a + 1 else a
def fHM (H : Nat → Int32) (b : Int32) (m : Nat) : Int32 := lp (hmF H b) 0 m 0
theorem c_X5_howMany (m : Nat) (b : Int32) (h : Hp) (hs : h.1 12 4 = nI m) (hm : m ≤ 5005) : Rn 1 MX5_howMany [.ref 12, .int b] h (EI (fHM (h.1 14) b m) h) := by
  refine rn_of mm_X5_howMany (le_b rfl) rfl ?_
  refine r_iconst_0 dX5_howMany_0 ?_
  refine r_istore2 dX5_howMany_1 rfl (by decide) ?_
  refine r_iconst_0 dX5_howMany_2 ?_
  refine r_istore3 dX5_howMany_3 rfl (by decide) ?_
  refine lpA (hmF (h.1 14) b) (fun i a => Aw 1 MX5_howMany (Kp (EI (fHM (h.1 14) b m) h)) 4 [some (.ref 12), some (.int b), some (.int a), some (.int (nI i))] [] h) m ?_ 0 ?_
  · intro i a hi k
    unfold hmF at k
    refine r_iload3 dX5_howMany_4 ?_
    refine r_aload0 dX5_howMany_5 ?_
    refine r_getI dX5_howMany_6 fl_X5_24 rfl rfl ?_
    refine r_icmpge (tgt := 30) dX5_howMany_9 (by decide) (fun c9 => absurd c9 (by rw [hs]; exact nI_ge hi (by omega))) (fun _ => ?_)
    refine r_aload0 dX5_howMany_12 ?_
    refine r_iload3 dX5_howMany_13 ?_
    refine r_iload1 dX5_howMany_14 ?_
    refine r_cV2I dX5_howMany_15 mm_X5_canBe im_X5_canBe se_X5_canBe ml_X5_51 rfl rfl rfl (c_X5_canBe i b h (by omega)) (by decide) (Nat.le_of_ble_eq_true rfl) ?_
    refine r_ifeq (tgt := 24) dX5_howMany_18 (by decide) (fun c => ?_) (fun c => ?_)
    · rw [b2i_0 c] at k
      refine r_iinc3_1 dX5_howMany_24 rfl (by decide) ?_
      refine r_goto (tgt := 4) dX5_howMany_27 (by decide) ?_
      rw [nI_1]
      exact k
    · rw [b2i_n c] at k
      refine r_iinc2_1 dX5_howMany_21 rfl (by decide) ?_
      refine r_iinc3_1 dX5_howMany_24 rfl (by decide) ?_
      refine r_goto (tgt := 4) dX5_howMany_27 (by decide) ?_
      rw [nI_1]
      exact k
  · refine r_iload3 dX5_howMany_4 ?_
    refine r_aload0 dX5_howMany_5 ?_
    refine r_getI dX5_howMany_6 fl_X5_24 rfl rfl ?_
    refine r_icmpge (tgt := 30) dX5_howMany_9 (by decide) (fun _ => ?_) (fun c9 => absurd (by rw [hs]; exact Int32.le_refl _) c9)
    refine r_iload2 dX5_howMany_30 ?_
    exact r_iretE dX5_howMany_31 rfl (rfl) (rfl)
def rkF (H Nb : Nat → Int32) (b i : Int32) : Nat → Nat → Int32 → Int32
  | 0, _, _ => -1
  | f + 1, k, a => if cbe (H k) b then (if a = i then Nb k else rkF H Nb b i f (k + 1) (a + 1)) else rkF H Nb b i f (k + 1) a
theorem c_X5_rankedNumber (m : Nat) (b i : Int32) (h : Hp) (hs : h.1 12 4 = nI m) (hm : m ≤ 5005) : Rn 1 MX5_rankedNumber [.ref 12, .int b, .int i] h (EI (rkF (h.1 14) (h.1 13) b i m 0 0) h) := by
  refine rn_of mm_X5_rankedNumber (le_b rfl) rfl ?_
  refine r_iconst_0 dX5_rankedNumber_0 ?_
  refine r_istore3 dX5_rankedNumber_1 rfl (by decide) ?_
  refine r_iconst_0 dX5_rankedNumber_2 ?_
  refine r_istore4 dX5_rankedNumber_3 rfl (by decide) ?_
  have key : ∀ f k a, k + f = m → Aw 1 MX5_rankedNumber (Kp (EI (rkF (h.1 14) (h.1 13) b i f k a) h)) 5 [some (.ref 12), some (.int b), some (.int i), some (.int a), some (.int (nI k))] [] h := by
    intro f
    induction f with
    | zero =>
      intro k a hk
      have : k = m := by omega
      subst this
      refine r_iload4 dX5_rankedNumber_5 ?_
      refine r_aload0 dX5_rankedNumber_7 ?_
      refine r_getI dX5_rankedNumber_8 fl_X5_24 rfl rfl ?_
      refine r_icmpge (tgt := 46) dX5_rankedNumber_11 (by decide) (fun _ => ?_) (fun c9 => absurd (by rw [hs]; exact Int32.le_refl _) c9)
      refine r_iconst_m1 dX5_rankedNumber_46 ?_
      exact r_iretE dX5_rankedNumber_47 rfl (rfl) (rfl)
    | succ f ih =>
      intro k a hk
      rw [rkF]
      refine r_iload4 dX5_rankedNumber_5 ?_
      refine r_aload0 dX5_rankedNumber_7 ?_
      refine r_getI dX5_rankedNumber_8 fl_X5_24 rfl rfl ?_
      refine r_icmpge (tgt := 46) dX5_rankedNumber_11 (by decide) (fun c9 => absurd c9 (by rw [hs]; exact nI_ge (by omega) (by omega))) (fun _ => ?_)
      refine r_aload0 dX5_rankedNumber_14 ?_
      refine r_iload4 dX5_rankedNumber_15 ?_
      refine r_iload1 dX5_rankedNumber_17 ?_
      refine r_cV2I dX5_rankedNumber_18 mm_X5_canBe im_X5_canBe se_X5_canBe ml_X5_51 rfl rfl rfl (c_X5_canBe k b h (by omega)) (by decide) (Nat.le_of_ble_eq_true rfl) ?_
      refine r_ifeq (tgt := 40) dX5_rankedNumber_21 (by decide) (fun c => ?_) (fun c => ?_)
      · rw [b2i_0 c]
        refine r_iinc4_1 dX5_rankedNumber_40 rfl (by decide) ?_
        refine r_goto (tgt := 5) dX5_rankedNumber_43 (by decide) ?_
        rw [nI_1]
        exact ih (k + 1) _ (by omega)
      · rw [b2i_n c, if_pos rfl]
        refine r_iload3 dX5_rankedNumber_24 ?_
        refine r_iload2 dX5_rankedNumber_25 ?_
        refine r_icmpne (tgt := 37) dX5_rankedNumber_26 (by decide) (fun c2 => ?_) (fun c2 => ?_)
        · rw [if_neg c2]
          refine r_iinc3_1 dX5_rankedNumber_37 rfl (by decide) ?_
          refine r_iinc4_1 dX5_rankedNumber_40 rfl (by decide) ?_
          refine r_goto (tgt := 5) dX5_rankedNumber_43 (by decide) ?_
          rw [nI_1]
          exact ih (k + 1) _ (by omega)
        · rw [if_pos c2]
          refine r_aload0 dX5_rankedNumber_29 ?_
          refine r_getR dX5_rankedNumber_30 fl_X5_9 rfl rfl ?_
          refine r_iload4 dX5_rankedNumber_33 ?_
          refine r_ialdN dX5_rankedNumber_35 rfl (by omega) ?_
          exact r_iretE dX5_rankedNumber_36 rfl (rfl) (rfl)
  exact key m 0 0 (by omega)
theorem cFA_ne : ∀ j, j < 10 → ¬ cFA j = 0 := by decide
theorem r_ildFAN {d : Nat} {Y : MY} {K : KQT} {pc nx : Nat} {L : List (Option Value)} {S : List Value} {h : Hp} {j : Nat} (hd : Ins Y.2.1 pc (.iaload) 1 nx) (hj : j < 10) (k : Aw d Y K nx L (.int (cFA j) :: S) h) : Aw d Y K pc L (.int (nI j) :: .ref 61 :: S) h := by
  refine r_ildFA hd (vp_in_nI hj (by decide)) ?_
  rw [nI_clamp (by omega)]
  exact k
def fOO (N n : Nat) : Int32 := lp (fun j v => v / cFA (dgt N j)) 0 7 (cFA n)
theorem c_X5_ordersOf (N n : Nat) (h : Hp) (hN : N < 2 ^ 31) (hn : n ≤ 9) : Rn 1 MX5_ordersOf [.int (nI N), .int (nI n)] h (EI (fOO N n) h) := by
  refine rn_of mm_X5_ordersOf (le_b rfl) rfl ?_
  refine r_iload1 dX5_ordersOf_0 ?_
  refine r_iflt (tgt := 10) dX5_ordersOf_1 (by decide) (fun c9 => absurd c9 (nI_pos (by omega))) (fun _ => ?_)
  refine r_iload1 dX5_ordersOf_4 ?_
  refine r_bipush bv_9 dX5_ordersOf_5 ?_
  refine r_icmple (tgt := 14) dX5_ordersOf_7 (by decide) (fun _ => ?_) (fun c9 => absurd (nI_le (b := 9) hn (by decide)) c9)
  refine r_gsN61 rfl dX5_ordersOf_14 ?_
  refine r_iload1 dX5_ordersOf_17 ?_
  refine r_ildFAN dX5_ordersOf_18 (by omega) ?_
  refine r_istore2 dX5_ordersOf_19 rfl (by decide) ?_
  refine r_iconst_0 dX5_ordersOf_20 ?_
  refine r_istore3 dX5_ordersOf_21 rfl (by decide) ?_
  refine lpA (fun j v => v / cFA (dgt N j)) (fun j v => Aw 1 MX5_ordersOf (Kp (EI (fOO N n) h)) 22 [some (.int (nI N)), some (.int (nI n)), some (.int v), some (.int (nI j))] [] h) 7 ?_ (cFA n) ?_
  · intro j v hj k
    have hd := dgt_lt N j
    refine r_iload3 dX5_ordersOf_22 ?_
    refine r_bipush bv_7 dX5_ordersOf_23 ?_
    refine r_icmpge (tgt := 46) dX5_ordersOf_25 (by decide) (fun c9 => absurd c9 (nI_ge (b := 7) hj (by decide))) (fun _ => ?_)
    refine r_iload2 dX5_ordersOf_28 ?_
    refine r_gsN61 rfl dX5_ordersOf_29 ?_
    refine r_iload0 dX5_ordersOf_32 ?_
    refine r_iload3 dX5_ordersOf_33 ?_
    refine r_cS2I dX5_ordersOf_34 mm_X4_countIn st_X4_countIn ml_X5_62 (c_X4_countIn N j h hN hj) (by decide) (Nat.le_of_ble_eq_true rfl) ?_
    refine r_ildFAN dX5_ordersOf_37 hd ?_
    refine r_idiv (cFA_ne _ hd) dX5_ordersOf_38 ?_
    refine r_istore2 dX5_ordersOf_39 rfl (by decide) ?_
    refine r_iinc3_1 dX5_ordersOf_40 rfl (by decide) ?_
    refine r_goto (tgt := 22) dX5_ordersOf_43 (by decide) ?_
    rw [nI_1]
    exact k
  · refine r_iload3 dX5_ordersOf_22 ?_
    refine r_bipush bv_7 dX5_ordersOf_23 ?_
    refine r_icmpge (tgt := 46) dX5_ordersOf_25 (by decide) (fun _ => ?_) (fun c9 => absurd (Int32.le_refl _) c9)
    refine r_iload2 dX5_ordersOf_46 ?_
    exact r_iretE dX5_ordersOf_47 rfl (rfl) (rfl)
def fOr (H : Nat → Int32) (Nf : Nat → Nat) (b : Int32) (n m : Nat) : Int64 := lp (fun k s => if cbe (H k) b then s + (fOO (Nf k) n).toInt64 else s) 0 m 0
theorem c_X5_orders (m n : Nat) (Nf : Nat → Nat) (b : Int32) (h : Hp) (hT : TB h m Nf) (hn : n ≤ 9) : Rn 2 MX5_orders [.ref 12, .int b, .int (nI n)] h (EL (fOr (h.1 14) Nf b n m) h) := by
  obtain ⟨hs, hm, hN⟩ := hT
  refine rn_of mm_X5_orders (le_b rfl) rfl ?_
  refine r_lconst_0 dX5_orders_0 ?_
  refine r_lstore3 dX5_orders_1 rfl (by decide) ?_
  refine r_iconst_0 dX5_orders_2 ?_
  refine r_istore5 dX5_orders_3 rfl (by decide) ?_
  refine lpA (fun k s => if cbe (h.1 14 k) b then s + (fOO (Nf k) n).toInt64 else s) (fun i s => Aw 2 MX5_orders (Kp (EL (fOr (h.1 14) Nf b n m) h)) 5 [some (.ref 12), some (.int b), some (.int (nI n)), some (.long s), none, some (.int (nI i))] [] h) m ?_ 0 ?_
  · intro i s hi k
    obtain ⟨n1, n2⟩ := hN i hi
    refine r_iload5 dX5_orders_5 ?_
    refine r_aload0 dX5_orders_7 ?_
    refine r_getI dX5_orders_8 fl_X5_24 rfl rfl ?_
    refine r_icmpge (tgt := 45) dX5_orders_11 (by decide) (fun c9 => absurd c9 (by rw [hs]; exact nI_ge hi (by omega))) (fun _ => ?_)
    refine r_aload0 dX5_orders_14 ?_
    refine r_iload5 dX5_orders_15 ?_
    refine r_iload1 dX5_orders_17 ?_
    refine r_cV2I dX5_orders_18 mm_X5_canBe im_X5_canBe se_X5_canBe ml_X5_51 rfl rfl rfl (c_X5_canBe i b h (by omega)) (by decide) (Nat.le_of_ble_eq_true rfl) ?_
    refine r_ifeq (tgt := 39) dX5_orders_21 (by decide) (fun c => ?_) (fun c => ?_)
    · rw [b2i_0 c] at k
      refine r_iinc5_1 dX5_orders_39 rfl (by decide) ?_
      refine r_goto (tgt := 5) dX5_orders_42 (by decide) ?_
      rw [nI_1]
      exact k
    · rw [b2i_n c] at k
      refine r_lload3 dX5_orders_24 ?_
      refine r_aload0 dX5_orders_25 ?_
      refine r_getR dX5_orders_26 fl_X5_9 rfl rfl ?_
      refine r_iload5 dX5_orders_29 ?_
      refine r_ialdN dX5_orders_31 rfl (by omega) ?_
      rw [n1]
      refine r_iload2 dX5_orders_32 ?_
      refine r_cS2I dX5_orders_33 mm_X5_ordersOf st_X5_ordersOf ml_X5_55 (c_X5_ordersOf (Nf i) n h (by omega) hn) (by decide) (Nat.le_of_ble_eq_true rfl) ?_
      refine r_i2l dX5_orders_36 ?_
      refine r_ladd dX5_orders_37 ?_
      refine r_lstore3 dX5_orders_38 rfl (by decide) ?_
      refine r_iinc5_1 dX5_orders_39 rfl (by decide) ?_
      refine r_goto (tgt := 5) dX5_orders_42 (by decide) ?_
      rw [nI_1]
      exact k
  · refine r_iload5 dX5_orders_5 ?_
    refine r_aload0 dX5_orders_7 ?_
    refine r_getI dX5_orders_8 fl_X5_24 rfl rfl ?_
    refine r_icmpge (tgt := 45) dX5_orders_11 (by decide) (fun _ => ?_) (fun c9 => absurd (by rw [hs]; exact Int32.le_refl _) c9)
    refine r_lload3 dX5_orders_45 ?_
    exact r_lretE dX5_orders_46 rfl (rfl) (rfl)
/-- what is told of a row: of a mark how many, of none (o) the sum -/
def thr (N : Nat) : Option Nat → Int32
  | none => nI (sg (fun j => j * dgt N j) 7)
  | some j => nI (dgt N j)
def omF (H : Nat → Int32) (Nf : Nat → Nat) (b : Int32) (o : Option Nat) (g : Bool) (k : Nat) (a : Int32) : Int32 := if cbe (H k) b then (if a = -1 then thr (Nf k) o else if g then (if thr (Nf k) o ≤ a then a else thr (Nf k) o) else (if a ≤ thr (Nf k) o then a else thr (Nf k) o)) else a
def fOM (H : Nat → Int32) (Nf : Nat → Nat) (b : Int32) (o : Option Nat) (g : Bool) (m : Nat) : Int32 := lp (omF H Nf b o g) 0 m (-1)
theorem c_X5_outermost (m : Nat) (Nf : Nat → Nat) (b : Int32) (o : Option Nat) (g : Bool) (h : Hp) (hT : TB h m Nf) (ho : ∀ j, o = some j → j < 7) : Rn 2 MX5_outermost [.ref 12, .int b, .int (o2i o), .int (b2i g)] h (EI (fOM (h.1 14) Nf b o g m) h) := by
  obtain ⟨hs, hm, hN⟩ := hT
  have hom : o2i o = -1 ↔ o = none := o2i_m1 (fun d hd => by have := ho d hd; omega)
  refine rn_of mm_X5_outermost (le_b rfl) rfl ?_
  refine r_iconst_m1 dX5_outermost_0 ?_
  refine r_istore4 dX5_outermost_1 rfl (by decide) ?_
  refine r_iconst_0 dX5_outermost_3 ?_
  refine r_istore5 dX5_outermost_4 rfl (by decide) ?_
  have key : ∀ r i a (x6 : Option Value), i + r = m → lp (omF (h.1 14) Nf b o g) i r a = fOM (h.1 14) Nf b o g m → Aw 2 MX5_outermost (Kp (EI (fOM (h.1 14) Nf b o g m) h)) 6 [some (.ref 12), some (.int b), some (.int (o2i o)), some (.int (b2i g)), some (.int a), some (.int (nI i)), x6] [] h := by
    intro r
    induction r with
    | zero =>
      intro i a x6 hi he
      have : i = m := by omega
      subst this
      refine r_iload5 dX5_outermost_6 ?_
      refine r_aload0 dX5_outermost_8 ?_
      refine r_getI dX5_outermost_9 fl_X5_24 rfl rfl ?_
      refine r_icmpge (tgt := 93) dX5_outermost_12 (by decide) (fun _ => ?_) (fun c9 => absurd (by rw [hs]; exact Int32.le_refl _) c9)
      refine r_iload4 dX5_outermost_93 ?_
      exact r_iretE dX5_outermost_95 rfl (he) (rfl)
    | succ r ih =>
      intro i a x6 hi he
      obtain ⟨n1, n2⟩ := hN i (by omega)
      rw [lp_s] at he
      unfold omF at he ih
      refine r_iload5 dX5_outermost_6 ?_
      refine r_aload0 dX5_outermost_8 ?_
      refine r_getI dX5_outermost_9 fl_X5_24 rfl rfl ?_
      refine r_icmpge (tgt := 93) dX5_outermost_12 (by decide) (fun c9 => absurd c9 (by rw [hs]; exact nI_ge (by omega) (by omega))) (fun _ => ?_)
      refine r_aload0 dX5_outermost_15 ?_
      refine r_iload5 dX5_outermost_16 ?_
      refine r_iload1 dX5_outermost_18 ?_
      refine r_cV2I dX5_outermost_19 mm_X5_canBe im_X5_canBe se_X5_canBe ml_X5_51 rfl rfl rfl (c_X5_canBe i b h (by omega)) (by decide) (Nat.le_of_ble_eq_true rfl) ?_
      refine r_ifeq (tgt := 87) dX5_outermost_22 (by decide) (fun c => ?_) (fun c => ?_)
      · rw [b2i_0 c] at he
        refine r_iinc5_1 dX5_outermost_87 rfl (by decide) ?_
        refine r_goto (tgt := 6) dX5_outermost_90 (by decide) ?_
        rw [nI_1]
        exact ih (i + 1) _ _ (by omega) he
      · rw [b2i_n c, if_pos rfl] at he
        have tail : ∀ v, v = thr (Nf i) o → Aw 2 MX5_outermost (Kp (EI (fOM (h.1 14) Nf b o g m) h)) 54 [some (.ref 12), some (.int b), some (.int (o2i o)), some (.int (b2i g)), some (.int a), some (.int (nI i)), x6] [.int v] h := by
          intro v hv
          rw [← hv] at he
          refine r_istore6 dX5_outermost_54 rfl (by decide) ?_
          refine r_iload4 dX5_outermost_56 ?_
          refine r_iconst_m1 dX5_outermost_58 ?_
          refine r_icmpeq (tgt := 83) dX5_outermost_59 (by decide) (fun c2 => ?_) (fun c2 => ?_)
          · rw [if_pos c2] at he
            refine r_iload6 dX5_outermost_83 ?_
            refine r_istore4 dX5_outermost_85 rfl (by decide) ?_
            refine r_iinc5_1 dX5_outermost_87 rfl (by decide) ?_
            refine r_goto (tgt := 6) dX5_outermost_90 (by decide) ?_
            rw [nI_1]
            exact ih (i + 1) _ _ (by omega) he
          · rw [if_neg c2] at he
            cases g with
            | true =>
              simp only [if_true] at he
              refine r_iload3 dX5_outermost_62 ?_
              refine r_ifeq (tgt := 76) dX5_outermost_63 (by decide) (fun c9 => absurd c9 (by decide)) (fun _ => ?_)
              refine r_iload6 dX5_outermost_66 ?_
              refine r_iload4 dX5_outermost_68 ?_
              refine r_icmple (tgt := 87) dX5_outermost_70 (by decide) (fun c3 => ?_) (fun c3 => ?_)
              · rw [if_pos c3] at he
                refine r_iinc5_1 dX5_outermost_87 rfl (by decide) ?_
                refine r_goto (tgt := 6) dX5_outermost_90 (by decide) ?_
                rw [nI_1]
                exact ih (i + 1) _ _ (by omega) he
              · rw [if_neg c3] at he
                refine r_goto (tgt := 83) dX5_outermost_73 (by decide) ?_
                refine r_iload6 dX5_outermost_83 ?_
                refine r_istore4 dX5_outermost_85 rfl (by decide) ?_
                refine r_iinc5_1 dX5_outermost_87 rfl (by decide) ?_
                refine r_goto (tgt := 6) dX5_outermost_90 (by decide) ?_
                rw [nI_1]
                exact ih (i + 1) _ _ (by omega) he
            | false =>
              simp only [Bool.false_eq_true, if_false] at he
              refine r_iload3 dX5_outermost_62 ?_
              refine r_ifeq (tgt := 76) dX5_outermost_63 (by decide) (fun _ => ?_) (fun c9 => absurd (rfl) c9)
              refine r_iload6 dX5_outermost_76 ?_
              refine r_iload4 dX5_outermost_78 ?_
              refine r_icmpge (tgt := 87) dX5_outermost_80 (by decide) (fun c3 => ?_) (fun c3 => ?_)
              · rw [if_pos c3] at he
                refine r_iinc5_1 dX5_outermost_87 rfl (by decide) ?_
                refine r_goto (tgt := 6) dX5_outermost_90 (by decide) ?_
                rw [nI_1]
                exact ih (i + 1) _ _ (by omega) he
              · rw [if_neg c3] at he
                refine r_iload6 dX5_outermost_83 ?_
                refine r_istore4 dX5_outermost_85 rfl (by decide) ?_
                refine r_iinc5_1 dX5_outermost_87 rfl (by decide) ?_
                refine r_goto (tgt := 6) dX5_outermost_90 (by decide) ?_
                rw [nI_1]
                exact ih (i + 1) _ _ (by omega) he
        cases o with
        | none =>
          refine r_iload2 dX5_outermost_25 ?_
          refine r_iconst_m1 dX5_outermost_26 ?_
          refine r_icmpne (tgt := 43) dX5_outermost_27 (by decide) (fun c9 => absurd (rfl) c9) (fun _ => ?_)
          refine r_aload0 dX5_outermost_30 ?_
          refine r_getR dX5_outermost_31 fl_X5_9 rfl rfl ?_
          refine r_iload5 dX5_outermost_34 ?_
          refine r_ialdN dX5_outermost_36 rfl (by omega) ?_
          rw [n1]
          refine r_cS1I dX5_outermost_37 mm_X4_sumIn st_X4_sumIn ml_X5_65 (c_X4_sumIn (Nf i) h (by omega)) (by decide) (Nat.le_of_ble_eq_true rfl) ?_
          refine r_goto (tgt := 54) dX5_outermost_40 (by decide) ?_
          exact tail _ rfl
        | some j =>
          have hj := ho j rfl
          refine r_iload2 dX5_outermost_25 ?_
          refine r_iconst_m1 dX5_outermost_26 ?_
          refine r_icmpne (tgt := 43) dX5_outermost_27 (by decide) (fun _ => ?_) (fun c9 => absurd c9 (fun q => by have := hom.mp q; cases this))
          refine r_aload0 dX5_outermost_43 ?_
          refine r_getR dX5_outermost_44 fl_X5_9 rfl rfl ?_
          refine r_iload5 dX5_outermost_47 ?_
          refine r_ialdN dX5_outermost_49 rfl (by omega) ?_
          rw [n1]
          refine r_iload2 dX5_outermost_50 ?_
          refine r_cS2I dX5_outermost_51 mm_X4_countIn st_X4_countIn ml_X5_62 (c_X4_countIn (Nf i) j h (by omega) hj) (by decide) (Nat.le_of_ble_eq_true rfl) ?_
          exact tail _ rfl
  exact key m 0 (-1) none (by omega) rfl
def fEH (H : Nat → Int32) (m : Nat) : Int32 := lp (fun k a => a ||| H k) 0 m 0
theorem c_X5_everHeld (m : Nat) (h : Hp) (hs : h.1 12 4 = nI m) (hm : m ≤ 5005) : Rn 0 MX5_everHeld [.ref 12] h (EI (fEH (h.1 14) m) h) := by
  refine rn_of mm_X5_everHeld (le_b rfl) rfl ?_
  refine r_iconst_0 dX5_everHeld_0 ?_
  refine r_istore1 dX5_everHeld_1 rfl (by decide) ?_
  refine r_iconst_0 dX5_everHeld_2 ?_
  refine r_istore2 dX5_everHeld_3 rfl (by decide) ?_
  refine lpA (fun k a => a ||| h.1 14 k) (fun i a => Aw 0 MX5_everHeld (Kp (EI (fEH (h.1 14) m) h)) 4 [some (.ref 12), some (.int a), some (.int (nI i))] [] h) m ?_ 0 ?_
  · intro i a hi k
    refine r_iload2 dX5_everHeld_4 ?_
    refine r_aload0 dX5_everHeld_5 ?_
    refine r_getI dX5_everHeld_6 fl_X5_24 rfl rfl ?_
    refine r_icmpge (tgt := 27) dX5_everHeld_9 (by decide) (fun c9 => absurd c9 (by rw [hs]; exact nI_ge hi (by omega))) (fun _ => ?_)
    refine r_iload1 dX5_everHeld_12 ?_
    refine r_aload0 dX5_everHeld_13 ?_
    refine r_getR dX5_everHeld_14 fl_X5_15 rfl rfl ?_
    refine r_iload2 dX5_everHeld_17 ?_
    refine r_ialdN dX5_everHeld_18 rfl (by omega) ?_
    refine r_ior dX5_everHeld_19 ?_
    refine r_istore1 dX5_everHeld_20 rfl (by decide) ?_
    refine r_iinc2_1 dX5_everHeld_21 rfl (by decide) ?_
    refine r_goto (tgt := 4) dX5_everHeld_24 (by decide) ?_
    rw [nI_1]
    exact k
  · refine r_iload2 dX5_everHeld_4 ?_
    refine r_aload0 dX5_everHeld_5 ?_
    refine r_getI dX5_everHeld_6 fl_X5_24 rfl rfl ?_
    refine r_icmpge (tgt := 27) dX5_everHeld_9 (by decide) (fun _ => ?_) (fun c9 => absurd (by rw [hs]; exact Int32.le_refl _) c9)
    refine r_iload1 dX5_everHeld_27 ?_
    exact r_iretE dX5_everHeld_28 rfl (rfl) (rfl)
def fdF (H : Nat → Int32) (b : Int32) (k : Nat) (a : Int32) : Int32 := if ahead (b &&& (H k ^^^ (-1))) a then b &&& (H k ^^^ (-1)) else a
def fFD (H : Nat → Int32) (b : Int32) (m : Nat) : Int32 := lp (fdF H b) 0 m b
theorem c_X5_fewestDoubts (m : Nat) (b : Int32) (h : Hp) (hs : h.1 12 4 = nI m) (hm : m ≤ 5005) : Rn 2 MX5_fewestDoubts [.ref 12, .int b] h (EI (fFD (h.1 14) b m) h) := by
  refine rn_of mm_X5_fewestDoubts (le_b rfl) rfl ?_
  refine r_iload1 dX5_fewestDoubts_0 ?_
  refine r_istore2 dX5_fewestDoubts_1 rfl (by decide) ?_
  refine r_iconst_0 dX5_fewestDoubts_2 ?_
  refine r_istore3 dX5_fewestDoubts_3 rfl (by decide) ?_
  have key : ∀ r i a (x4 : Option Value), i + r = m → lp (fdF (h.1 14) b) i r a = fFD (h.1 14) b m → Aw 2 MX5_fewestDoubts (Kp (EI (fFD (h.1 14) b m) h)) 4 [some (.ref 12), some (.int b), some (.int a), some (.int (nI i)), x4] [] h := by
    intro r
    induction r with
    | zero =>
      intro i a x4 hi he
      have : i = m := by omega
      subst this
      refine r_iload3 dX5_fewestDoubts_4 ?_
      refine r_aload0 dX5_fewestDoubts_5 ?_
      refine r_getI dX5_fewestDoubts_6 fl_X5_24 rfl rfl ?_
      refine r_icmpge (tgt := 42) dX5_fewestDoubts_9 (by decide) (fun _ => ?_) (fun c9 => absurd (by rw [hs]; exact Int32.le_refl _) c9)
      refine r_iload2 dX5_fewestDoubts_42 ?_
      exact r_iretE dX5_fewestDoubts_43 rfl (he) (rfl)
    | succ r ih =>
      intro i a x4 hi he
      rw [lp_s] at he
      unfold fdF at he ih
      refine r_iload3 dX5_fewestDoubts_4 ?_
      refine r_aload0 dX5_fewestDoubts_5 ?_
      refine r_getI dX5_fewestDoubts_6 fl_X5_24 rfl rfl ?_
      refine r_icmpge (tgt := 42) dX5_fewestDoubts_9 (by decide) (fun c9 => absurd c9 (by rw [hs]; exact nI_ge (by omega) (by omega))) (fun _ => ?_)
      refine r_iload1 dX5_fewestDoubts_12 ?_
      refine r_aload0 dX5_fewestDoubts_13 ?_
      refine r_getR dX5_fewestDoubts_14 fl_X5_15 rfl rfl ?_
      refine r_iload3 dX5_fewestDoubts_17 ?_
      refine r_ialdN dX5_fewestDoubts_18 rfl (by omega) ?_
      refine r_iconst_m1 dX5_fewestDoubts_19 ?_
      refine r_ixor dX5_fewestDoubts_20 ?_
      refine r_iand dX5_fewestDoubts_21 ?_
      refine r_istore4 dX5_fewestDoubts_22 rfl (by decide) ?_
      refine r_iload4 dX5_fewestDoubts_24 ?_
      refine r_iload2 dX5_fewestDoubts_26 ?_
      refine r_cS2I dX5_fewestDoubts_27 mm_X5_isAhead st_X5_isAhead ml_X5_69 (c_X5_isAhead _ _ h) (by decide) (Nat.le_of_ble_eq_true rfl) ?_
      refine r_ifeq (tgt := 36) dX5_fewestDoubts_30 (by decide) (fun c => ?_) (fun c => ?_)
      · rw [b2i_0 c] at he
        refine r_iinc3_1 dX5_fewestDoubts_36 rfl (by decide) ?_
        refine r_goto (tgt := 4) dX5_fewestDoubts_39 (by decide) ?_
        rw [nI_1]
        exact ih (i + 1) _ _ (by omega) he
      · rw [b2i_n c, if_pos rfl] at he
        refine r_iload4 dX5_fewestDoubts_33 ?_
        refine r_istore2 dX5_fewestDoubts_35 rfl (by decide) ?_
        refine r_iinc3_1 dX5_fewestDoubts_36 rfl (by decide) ?_
        refine r_goto (tgt := 4) dX5_fewestDoubts_39 (by decide) ?_
        rw [nI_1]
        exact ih (i + 1) _ _ (by omega) he
  exact key m 0 b none (by omega) rfl
