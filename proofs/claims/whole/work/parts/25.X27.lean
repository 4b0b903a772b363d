/-! Chance.ofFirstFigure, classes Readings and Stretch -/
def fcTerm (items : Nat) (sh : Int32) (t : Nat) : Int64 := bin items t * powL sh.toInt64 t * powL (1000 - sh).toInt64 (items - t)
def fcSum (items o : Nat) (sh : Int32) (k : Nat) : Int64 := lp (fun t s => if o ≤ t then s + fcTerm items sh t else s) 0 k 0
def fFC (items o : Nat) (sh : Int32) : Int32 := (fcSum items o sh (items + 1) * (if items < 2 then powL 1000 (2 - items) else 1) / (if items < 2 then 1 else powL 1000 (items - 2))).toInt32
theorem pow1000 : ∀ k, k ≤ 6 → ¬ powL (1000 : Int32).toInt64 k < 1 := by decide +kernel
theorem c_X0_ofFirstFigure (items o : Nat) (sh : Int32) (h : Hp) (hi : items ≤ 6) (ho : o < 2 ^ 30) (h1 : ∀ k, k ≤ 6 → ¬ powL sh.toInt64 k < 1) (h2 : ∀ k, k ≤ 6 → ¬ powL (1000 - sh).toInt64 k < 1) : Rn 2 MX0_ofFirstFigure [.ref 26, .int (nI items), .int (nI o), .int sh] h (EI (fFC items o sh) h) := by
  refine rn_of mm_X0_ofFirstFigure (le_b rfl) rfl ?_
  refine r_lconst_0 dX0_ofFirstFigure_0 ?_
  refine r_lstore4 dX0_ofFirstFigure_1 rfl (by decide) ?_
  refine r_lconst_1 dX0_ofFirstFigure_3 ?_
  refine r_lstore6 dX0_ofFirstFigure_4 rfl (by decide) ?_
  refine r_iconst_0 dX0_ofFirstFigure_6 ?_
  refine r_istore8 dX0_ofFirstFigure_7 rfl (by decide) ?_
  have last : Aw 2 MX0_ofFirstFigure (Kp (EI (fFC items o sh) h)) 70 [some (.ref 26), some (.int (nI items)), some (.int (nI o)), some (.int sh), some (.long (fcSum items o sh (items + 1))), none, some (.long (bin items (items + 1))), none, some (.int (nI (items + 1))), none] [] h := by
    by_cases c : items < 2
    · refine r_lload4 dX0_ofFirstFigure_70 ?_
      refine r_sipush sv_1000 dX0_ofFirstFigure_72 ?_
      refine r_iconst_2 dX0_ofFirstFigure_75 ?_
      refine r_iload1 dX0_ofFirstFigure_76 ?_
      refine r_isub dX0_ofFirstFigure_77 ?_
      rw [show (2 : Int32) = nI 2 from rfl, pk_sub (by omega : items ≤ 2)]
      refine r_cS2L dX0_ofFirstFigure_78 mm_X0_power st_X0_power ml_X0_34 (c_X0_power 1000 (2 - items) h (by omega) (pow1000 _ (by omega))) (by decide) (Nat.le_of_ble_eq_true rfl) ?_
      refine r_lmul dX0_ofFirstFigure_81 ?_
      refine r_lstore8 dX0_ofFirstFigure_82 rfl (by decide) ?_
      refine r_lload8 dX0_ofFirstFigure_84 ?_
      refine r_sipush sv_1000 dX0_ofFirstFigure_86 ?_
      refine r_iload1 dX0_ofFirstFigure_89 ?_
      refine r_iconst_2 dX0_ofFirstFigure_90 ?_
      refine r_isub dX0_ofFirstFigure_91 ?_
      refine r_cS2L dX0_ofFirstFigure_92 mm_X0_power st_X0_power ml_X0_34 (c_X0_powerM 1000 _ h (by rcases (show items = 0 ∨ items = 1 by omega) with rfl | rfl <;> decide)) (by decide) (Nat.le_of_ble_eq_true rfl) ?_
      refine r_ldiv (by decide) dX0_ofFirstFigure_95 ?_
      refine r_l2i dX0_ofFirstFigure_96 ?_
      exact r_iretE dX0_ofFirstFigure_97 rfl (by rw [fFC, if_pos c, if_pos c]; rfl) (rfl)
    · refine r_lload4 dX0_ofFirstFigure_70 ?_
      refine r_sipush sv_1000 dX0_ofFirstFigure_72 ?_
      refine r_iconst_2 dX0_ofFirstFigure_75 ?_
      refine r_iload1 dX0_ofFirstFigure_76 ?_
      refine r_isub dX0_ofFirstFigure_77 ?_
      refine r_cS2L dX0_ofFirstFigure_78 mm_X0_power st_X0_power ml_X0_34 (c_X0_powerM 1000 _ h (by rcases (show items = 2 ∨ items = 3 ∨ items = 4 ∨ items = 5 ∨ items = 6 by omega) with rfl | rfl | rfl | rfl | rfl <;> decide)) (by decide) (Nat.le_of_ble_eq_true rfl) ?_
      refine r_lmul dX0_ofFirstFigure_81 ?_
      refine r_lstore8 dX0_ofFirstFigure_82 rfl (by decide) ?_
      refine r_lload8 dX0_ofFirstFigure_84 ?_
      refine r_sipush sv_1000 dX0_ofFirstFigure_86 ?_
      refine r_iload1 dX0_ofFirstFigure_89 ?_
      refine r_iconst_2 dX0_ofFirstFigure_90 ?_
      refine r_isub dX0_ofFirstFigure_91 ?_
      rw [show (2 : Int32) = nI 2 from rfl, pk_sub (by omega : 2 ≤ items)]
      refine r_cS2L dX0_ofFirstFigure_92 mm_X0_power st_X0_power ml_X0_34 (c_X0_power 1000 (items - 2) h (by omega) (pow1000 _ (by omega))) (by decide) (Nat.le_of_ble_eq_true rfl) ?_
      have hne : ¬ powL (1000 : Int32).toInt64 (items - 2) = 0 := fun e => pow1000 (items - 2) (by omega) (by rw [e]; decide)
      refine r_ldiv hne dX0_ofFirstFigure_95 ?_
      refine r_l2i dX0_ofFirstFigure_96 ?_
      exact r_iretE dX0_ofFirstFigure_97 rfl (by rw [fFC, if_neg c, if_neg c]; rfl) (rfl)
  have key : ∀ k i, i + k = items + 1 → Aw 2 MX0_ofFirstFigure (Kp (EI (fFC items o sh) h)) 9 [some (.ref 26), some (.int (nI items)), some (.int (nI o)), some (.int sh), some (.long (fcSum items o sh i)), none, some (.long (bin items i)), none, some (.int (nI i)), none] [] h := by
    intro k
    induction k with
    | zero =>
      intro i hi
      have : i = items + 1 := by omega
      subst this
      refine r_iload8 dX0_ofFirstFigure_9 ?_
      refine r_iload1 dX0_ofFirstFigure_11 ?_
      refine r_icmpgt (tgt := 70) dX0_ofFirstFigure_12 (by decide) (fun _ => ?_) (fun c9 => absurd (nI_lt (by omega) (by omega)) c9)
      exact last
    | succ k ih =>
      intro i hik
      have e1 : fcSum items o sh (i + 1) = if o ≤ i then fcSum items o sh i + fcTerm items sh i else fcSum items o sh i := by
        unfold fcSum
        rw [lp_last, Nat.zero_add]
      have e2 : bin items (i + 1) = bin items i * (nI items - nI i).toInt64 / (nI i + 1).toInt64 := by
        unfold bin
        rw [lp_last, Nat.zero_add]
      have ih := ih (i + 1) (by omega)
      rw [e1, e2] at ih
      by_cases c : o ≤ i
      · rw [if_pos c] at ih
        refine r_iload8 dX0_ofFirstFigure_9 ?_
        refine r_iload1 dX0_ofFirstFigure_11 ?_
        refine r_icmpgt (tgt := 70) dX0_ofFirstFigure_12 (by decide) (fun c9 => absurd c9 (nI_nlt (by omega) (by omega))) (fun _ => ?_)
        refine r_iload8 dX0_ofFirstFigure_15 ?_
        refine r_iload2 dX0_ofFirstFigure_17 ?_
        refine r_icmplt (tgt := 48) dX0_ofFirstFigure_18 (by decide) (fun c9 => absurd c9 (nI_nlt c (by omega))) (fun _ => ?_)
        refine r_lload4 dX0_ofFirstFigure_21 ?_
        refine r_lload6 dX0_ofFirstFigure_23 ?_
        refine r_iload3 dX0_ofFirstFigure_25 ?_
        refine r_iload8 dX0_ofFirstFigure_26 ?_
        refine r_cS2L dX0_ofFirstFigure_28 mm_X0_power st_X0_power ml_X0_34 (c_X0_power sh i h (by omega) (h1 i (by omega))) (by decide) (Nat.le_of_ble_eq_true rfl) ?_
        refine r_lmul dX0_ofFirstFigure_31 ?_
        refine r_sipush sv_1000 dX0_ofFirstFigure_32 ?_
        refine r_iload3 dX0_ofFirstFigure_35 ?_
        refine r_isub dX0_ofFirstFigure_36 ?_
        refine r_iload1 dX0_ofFirstFigure_37 ?_
        refine r_iload8 dX0_ofFirstFigure_38 ?_
        refine r_isub dX0_ofFirstFigure_40 ?_
        rw [pk_sub (by omega : i ≤ items)]
        refine r_cS2L dX0_ofFirstFigure_41 mm_X0_power st_X0_power ml_X0_34 (c_X0_power (1000 - sh) (items - i) h (by omega) (h2 _ (by omega))) (by decide) (Nat.le_of_ble_eq_true rfl) ?_
        refine r_lmul dX0_ofFirstFigure_44 ?_
        refine r_ladd dX0_ofFirstFigure_45 ?_
        refine r_lstore4 dX0_ofFirstFigure_46 rfl (by decide) ?_
        refine r_lload6 dX0_ofFirstFigure_48 ?_
        refine r_iload1 dX0_ofFirstFigure_50 ?_
        refine r_iload8 dX0_ofFirstFigure_51 ?_
        refine r_isub dX0_ofFirstFigure_53 ?_
        refine r_i2l dX0_ofFirstFigure_54 ?_
        refine r_lmul dX0_ofFirstFigure_55 ?_
        refine r_iload8 dX0_ofFirstFigure_56 ?_
        refine r_iconst_1 dX0_ofFirstFigure_58 ?_
        refine r_iadd dX0_ofFirstFigure_59 ?_
        refine r_i2l dX0_ofFirstFigure_60 ?_
        refine r_ldiv (d64ne (by omega)) dX0_ofFirstFigure_61 ?_
        refine r_lstore6 dX0_ofFirstFigure_62 rfl (by decide) ?_
        refine r_iinc8_1 dX0_ofFirstFigure_64 rfl (by decide) ?_
        refine r_goto (tgt := 9) dX0_ofFirstFigure_67 (by decide) ?_
        rw [← nI_1 i] at ih
        exact ih
      · rw [if_neg c] at ih
        refine r_iload8 dX0_ofFirstFigure_9 ?_
        refine r_iload1 dX0_ofFirstFigure_11 ?_
        refine r_icmpgt (tgt := 70) dX0_ofFirstFigure_12 (by decide) (fun c9 => absurd c9 (nI_nlt (by omega) (by omega))) (fun _ => ?_)
        refine r_iload8 dX0_ofFirstFigure_15 ?_
        refine r_iload2 dX0_ofFirstFigure_17 ?_
        refine r_icmplt (tgt := 48) dX0_ofFirstFigure_18 (by decide) (fun _ => ?_) (fun c9 => absurd (nI_lt (by omega) (by omega)) c9)
        refine r_lload6 dX0_ofFirstFigure_48 ?_
        refine r_iload1 dX0_ofFirstFigure_50 ?_
        refine r_iload8 dX0_ofFirstFigure_51 ?_
        refine r_isub dX0_ofFirstFigure_53 ?_
        refine r_i2l dX0_ofFirstFigure_54 ?_
        refine r_lmul dX0_ofFirstFigure_55 ?_
        refine r_iload8 dX0_ofFirstFigure_56 ?_
        refine r_iconst_1 dX0_ofFirstFigure_58 ?_
        refine r_iadd dX0_ofFirstFigure_59 ?_
        refine r_i2l dX0_ofFirstFigure_60 ?_
        refine r_ldiv (d64ne (by omega)) dX0_ofFirstFigure_61 ?_
        refine r_lstore6 dX0_ofFirstFigure_62 rfl (by decide) ?_
        refine r_iinc8_1 dX0_ofFirstFigure_64 rfl (by decide) ?_
        refine r_goto (tgt := 9) dX0_ofFirstFigure_67 (by decide) ?_
        rw [← nI_1 i] at ih
        exact ih
  exact key (items + 1) 0 (by omega)
def abs64 (x : Int64) : Int64 := if 0 < x then x else -x
def max64 (x y : Int64) : Int64 := if y < x then x else y
def gcdL : Nat → Int64 → Int64 → Int64
  | 0, a, _ => a
  | n + 1, a, b => if b = 0 then a else gcdL n b (rem64 a b)
def cpF (a b : Int64) : Int64 := max64 (gcdL 10000 a b) 1
theorem cpF_ne (a b : Int64) : ¬ cpF a b = 0 := by
  unfold cpF max64
  split
  · rename_i c
    intro e
    rw [e] at c
    exact absurd c (by decide)
  · decide
theorem c_X2_commonPart (a b : Int64) (h : Hp) : Rn 1 MX2_commonPart [.long a, .long b] h (EL (cpF a b) h) := by
  refine rn_of mm_X2_commonPart (le_b rfl) rfl ?_
  refine r_lload0 dX2_commonPart_0 ?_
  refine r_lstore4 dX2_commonPart_1 rfl (by decide) ?_
  refine r_lload2 dX2_commonPart_3 ?_
  refine r_lstore6 dX2_commonPart_4 rfl (by decide) ?_
  refine r_iconst_0 dX2_commonPart_6 ?_
  refine r_istore8 dX2_commonPart_7 rfl (by decide) ?_
  have key : ∀ n i a2 b2 (x9 : Option Value), i + n = 10000 → gcdL n a2 b2 = gcdL 10000 a b → Aw 1 MX2_commonPart (Kp (EL (cpF a b) h)) 9 [some (.long a), none, some (.long b), none, some (.long a2), none, some (.long b2), none, some (.int (nI i)), x9, none] [] h := by
    intro n
    induction n with
    | zero =>
      intro i a2 b2 x9 hi he
      have : i = 10000 := by omega
      subst this
      have he : a2 = gcdL 10000 a b := he
      refine r_iload8 dX2_commonPart_9 ?_
      refine r_sipush sv_10000 dX2_commonPart_11 ?_
      refine r_icmpge (tgt := 45) dX2_commonPart_14 (by decide) (fun _ => ?_) (fun c9 => absurd (by decide) c9)
      refine r_lload4 dX2_commonPart_45 ?_
      refine r_lconst_1 dX2_commonPart_47 ?_
      refine r_mmaxL dX2_commonPart_48 ml_X2_51 (by decide) (Nat.le_of_ble_eq_true rfl) ?_
      exact r_lretE dX2_commonPart_51 rfl (by rw [cpF, ← he]; rfl) (rfl)
    | succ n ih =>
      intro i a2 b2 x9 hi he
      rw [gcdL] at he
      refine r_iload8 dX2_commonPart_9 ?_
      refine r_sipush sv_10000 dX2_commonPart_11 ?_
      refine r_icmpge (tgt := 45) dX2_commonPart_14 (by decide) (fun c9 => absurd c9 (nI_ge (b := 10000) (by omega) (by decide))) (fun _ => ?_)
      refine r_lload6 dX2_commonPart_17 ?_
      refine r_lconst_0 dX2_commonPart_19 ?_
      refine r_leq (tgt := 45) dX2_commonPart_20 dX2_commonPart_21 (by decide) (fun c => ?_) (fun c => ?_)
      · rw [if_pos c] at he
        refine r_lload4 dX2_commonPart_45 ?_
        refine r_lconst_1 dX2_commonPart_47 ?_
        refine r_mmaxL dX2_commonPart_48 ml_X2_51 (by decide) (Nat.le_of_ble_eq_true rfl) ?_
        exact r_lretE dX2_commonPart_51 rfl (by rw [cpF, ← he]; rfl) (rfl)
      · rw [if_neg c] at he
        refine r_lload4 dX2_commonPart_24 ?_
        refine r_lload6 dX2_commonPart_26 ?_
        refine r_lrem c dX2_commonPart_28 ?_
        refine r_lstore9 dX2_commonPart_29 rfl (by decide) ?_
        refine r_lload6 dX2_commonPart_31 ?_
        refine r_lstore4 dX2_commonPart_33 rfl (by decide) ?_
        refine r_lload9 dX2_commonPart_35 ?_
        refine r_lstore6 dX2_commonPart_37 rfl (by decide) ?_
        refine r_iinc8_1 dX2_commonPart_39 rfl (by decide) ?_
        refine r_goto (tgt := 9) dX2_commonPart_42 (by decide) ?_
        rw [nI_1]
        exact ih (i + 1) b2 _ _ (by omega) he
  exact key 10000 0 a b none rfl rfl
/-- what Readings.compare finds, pair by pair: squares, sum, most, worst -/
abbrev RD : Type := Int64 × Int64 × Int64 × Int32
def rdF (a : Nat → Int32) (i : Nat) (r : RD) : RD :=
  (r.1 + ((a (2 * i)).toInt64 - (a (2 * i + 1)).toInt64) * ((a (2 * i)).toInt64 - (a (2 * i + 1)).toInt64), r.2.1 + ((a (2 * i)).toInt64 - (a (2 * i + 1)).toInt64),
   if abs64 ((a (2 * i)).toInt64 - (a (2 * i + 1)).toInt64) ≤ r.2.2.1 then r.2.2.1 else abs64 ((a (2 * i)).toInt64 - (a (2 * i + 1)).toInt64), if abs64 ((a (2 * i)).toInt64 - (a (2 * i + 1)).toInt64) ≤ r.2.2.1 then r.2.2.2 else nI i)
def rdS (a : Nat → Int32) (w : Int32) (k : Nat) : RD := lp (rdF a) 0 k (0, 0, -1, w)
def cmpH (h : Hp) (q n : Nat) : Hp := pL (pL (pL (pL (pI h 30 4 (rdS (h.1 q) (h.1 30 4) n).2.2.2) 30 0 ((rdS (h.1 q) (h.1 30 4) n).1 / cpF (rdS (h.1 q) (h.1 30 4) n).1 (2 * (nI n).toInt64))) 30 1 (2 * (nI n).toInt64 / cpF (rdS (h.1 q) (h.1 30 4) n).1 (2 * (nI n).toInt64))) 30 2 ((rdS (h.1 q) (h.1 30 4) n).2.1 / cpF (abs64 (rdS (h.1 q) (h.1 30 4) n).2.1) (nI n).toInt64)) 30 3 ((nI n).toInt64 / cpF (abs64 (rdS (h.1 q) (h.1 30 4) n).2.1) (nI n).toInt64)
theorem fItem_at {h : Hp} {p n j : Nat} (hs : h.1 p 3 = nI n) (hj : j < n) (hn : n ≤ 60) : fItem h p (nI j) = h.1 (p + 4) j := by
  rw [fItem, if_neg (nI_pos (by omega)), hs, if_pos (nI_lt hj (by omega)), nI_clamp (by omega)]
theorem pI_twice (h : Hp) (p k : Nat) (x y : Int32) : pI (pI h p k x) p k y = pI h p k y := by
  refine hp_ext (fun q j => ?_) (fun q j => rfl)
  simp only [pI_g]
  split <;> rfl
theorem pI_self (h : Hp) (p k : Nat) : pI h p k (h.1 p k) = h := by
  refine hp_ext (fun q j => ?_) (fun q j => rfl)
  rw [pI_g]
  split
  · rename_i e
    rw [e.1, e.2]
  · rfl
theorem m2 (i : Nat) : (2 : Int32) * nI i = nI (2 * i) := pk_mul 2 i
theorem c_X2_compare (p n : Nat) (h : Hp) (hp : isSh p) (hn : n ≤ 30) (hs : h.1 p 3 = nI (2 * n)) : Rn 2 MX2_compare [.ref 30, .ref p] h (EV (cmpH h (p + 4) n)) := by
  have ho := oSh hp
  have hp1 : p ≠ 30 := by have := hp.2; omega
  have hp2 : p + 4 ≠ 30 := by have := hp.2; omega
  refine rn_of mm_X2_compare (le_b rfl) rfl ?_
  refine r_aload1 dX2_compare_0 ?_
  refine r_getI dX2_compare_1 fl_X2_9 ho rfl ?_
  refine r_iconst_2 dX2_compare_4 ?_
  refine r_idiv (by decide) dX2_compare_5 ?_
  have e0 : h.1 p 3 / 2 = nI n := by
    rw [hs]
    have := pk_div (a := 2 * n) (d := 2) (by omega) (by decide) (by decide)
    rw [Nat.mul_div_cancel_left n (by decide)] at this
    exact this
  rw [e0]
  refine r_istore2 dX2_compare_6 rfl (by decide) ?_
  refine r_lconst_0 dX2_compare_7 ?_
  refine r_lstore3 dX2_compare_8 rfl (by decide) ?_
  refine r_lconst_0 dX2_compare_9 ?_
  refine r_lstore5 dX2_compare_10 rfl (by decide) ?_
  refine r_ldc2 ct_X2_15 dX2_compare_12 ?_
  refine r_lstore7 dX2_compare_15 rfl (by decide) ?_
  refine r_iconst_0 dX2_compare_17 ?_
  refine r_istore9 dX2_compare_18 rfl (by decide) ?_
  have it : ∀ (w : Int32) (j : Nat), j < 2 * n → Rn 0 MX6_item [.ref p, .int (nI j)] (pI h 30 4 w) (EI (h.1 (p + 4) j) (pI h 30 4 w)) := by
    intro w j hj
    have hs' : (pI h 30 4 w).1 p 3 = nI (2 * n) := by rw [pI_ne h 4 w hp1]; exact hs
    have r := c_X6_item p (2 * n) (nI j) (pI h 30 4 w) hp (by omega) hs'
    rw [fItem_at hs' hj (by omega), pI_ne h 4 w hp2] at r
    exact r
  have hS : ∀ k, rdS (h.1 (p + 4)) (h.1 30 4) (k + 1) = rdF (h.1 (p + 4)) k (rdS (h.1 (p + 4)) (h.1 30 4) k) := by
    intro k
    unfold rdS
    rw [lp_last, Nat.zero_add]
  have key : ∀ k i (x10 : Option Value), i + k = n → Aw 2 MX2_compare (Kp (EV (cmpH h (p + 4) n))) 20 [some (.ref 30), some (.ref p), some (.int (nI n)), some (.long (rdS (h.1 (p + 4)) (h.1 30 4) i).1), none, some (.long (rdS (h.1 (p + 4)) (h.1 30 4) i).2.1), none, some (.long (rdS (h.1 (p + 4)) (h.1 30 4) i).2.2.1), none, some (.int (nI i)), x10, none, none] [] (pI h 30 4 (rdS (h.1 (p + 4)) (h.1 30 4) i).2.2.2) := by
    intro k
    induction k with
    | zero =>
      intro i x10 hi
      have : i = n := by omega
      subst this
      refine r_iload9 dX2_compare_20 ?_
      refine r_iload2 dX2_compare_22 ?_
      refine r_icmpge (tgt := 94) dX2_compare_23 (by decide) (fun _ => ?_) (fun c9 => absurd (Int32.le_refl _) c9)
      refine r_lload3 dX2_compare_94 ?_
      refine r_ldc2 ct_X2_32 dX2_compare_95 ?_
      refine r_iload2 dX2_compare_98 ?_
      refine r_i2l dX2_compare_99 ?_
      refine r_lmul dX2_compare_100 ?_
      refine r_cS2L dX2_compare_101 mm_X2_commonPart st_X2_commonPart ml_X2_34 (c_X2_commonPart _ _ _) (by decide) (Nat.le_of_ble_eq_true rfl) ?_
      refine r_lstore9 dX2_compare_104 rfl (by decide) ?_
      refine r_aload0 dX2_compare_106 ?_
      refine r_lload3 dX2_compare_107 ?_
      refine r_lload9 dX2_compare_108 ?_
      refine r_ldiv (cpF_ne _ _) dX2_compare_110 ?_
      refine r_putL dX2_compare_111 fw_X2_38 rfl rfl ?_
      refine r_aload0 dX2_compare_114 ?_
      refine r_ldc2 ct_X2_32 dX2_compare_115 ?_
      refine r_iload2 dX2_compare_118 ?_
      refine r_i2l dX2_compare_119 ?_
      refine r_lmul dX2_compare_120 ?_
      refine r_lload9 dX2_compare_121 ?_
      refine r_ldiv (cpF_ne _ _) dX2_compare_123 ?_
      refine r_putL dX2_compare_124 fw_X2_42 rfl rfl ?_
      refine r_lload5 dX2_compare_127 ?_
      refine r_mabsL dX2_compare_129 ml_X2_21 (by decide) (Nat.le_of_ble_eq_true rfl) ?_
      refine r_iload2 dX2_compare_132 ?_
      refine r_i2l dX2_compare_133 ?_
      refine r_cS2L dX2_compare_134 mm_X2_commonPart st_X2_commonPart ml_X2_34 (c_X2_commonPart _ _ _) (by decide) (Nat.le_of_ble_eq_true rfl) ?_
      refine r_lstore11 dX2_compare_137 rfl (by decide) ?_
      refine r_aload0 dX2_compare_139 ?_
      refine r_lload5 dX2_compare_140 ?_
      refine r_lload11 dX2_compare_142 ?_
      refine r_ldiv (cpF_ne _ _) dX2_compare_144 ?_
      refine r_putL dX2_compare_145 fw_X2_45 rfl rfl ?_
      refine r_aload0 dX2_compare_148 ?_
      refine r_iload2 dX2_compare_149 ?_
      refine r_i2l dX2_compare_150 ?_
      refine r_lload11 dX2_compare_151 ?_
      refine r_ldiv (cpF_ne _ _) dX2_compare_153 ?_
      refine r_putL dX2_compare_154 fw_X2_48 rfl rfl ?_
      exact r_vretE dX2_compare_157 rfl (rfl)
    | succ k ih =>
      intro i x10 hi
      have ih := ih (i + 1)
      rw [hS i] at ih
      generalize hr : rdS (h.1 (p + 4)) (h.1 30 4) i = r at ih ⊢
      obtain ⟨r1, r2, r3, r4⟩ := r
      dsimp only [rdF] at ih ⊢
      refine r_iload9 dX2_compare_20 ?_
      refine r_iload2 dX2_compare_22 ?_
      refine r_icmpge (tgt := 94) dX2_compare_23 (by decide) (fun c9 => absurd c9 (nI_ge (by omega) (by omega))) (fun _ => ?_)
      refine r_aload1 dX2_compare_26 ?_
      refine r_iconst_2 dX2_compare_27 ?_
      refine r_iload9 dX2_compare_28 ?_
      refine r_imul dX2_compare_30 ?_
      rw [m2]
      refine r_cV1I dX2_compare_31 mm_X6_item im_X6_item se_X6_item ml_X2_17 ho rfl rfl (it r4 (2 * i) (by omega)) (by decide) (Nat.le_of_ble_eq_true rfl) ?_
      refine r_i2l dX2_compare_34 ?_
      refine r_aload1 dX2_compare_35 ?_
      refine r_iconst_2 dX2_compare_36 ?_
      refine r_iload9 dX2_compare_37 ?_
      refine r_imul dX2_compare_39 ?_
      refine r_iconst_1 dX2_compare_40 ?_
      refine r_iadd dX2_compare_41 ?_
      rw [m2, nI_1]
      refine r_cV1I dX2_compare_42 mm_X6_item im_X6_item se_X6_item ml_X2_17 ho rfl rfl (it r4 (2 * i + 1) (by omega)) (by decide) (Nat.le_of_ble_eq_true rfl) ?_
      refine r_i2l dX2_compare_45 ?_
      refine r_lsub dX2_compare_46 ?_
      refine r_lstore10 dX2_compare_47 rfl (by decide) ?_
      refine r_lload5 dX2_compare_49 ?_
      refine r_lload10 dX2_compare_51 ?_
      refine r_ladd dX2_compare_53 ?_
      refine r_lstore5 dX2_compare_54 rfl (by decide) ?_
      refine r_lload3 dX2_compare_56 ?_
      refine r_lload10 dX2_compare_57 ?_
      refine r_lload10 dX2_compare_59 ?_
      refine r_lmul dX2_compare_61 ?_
      refine r_ladd dX2_compare_62 ?_
      refine r_lstore3 dX2_compare_63 rfl (by decide) ?_
      refine r_lload10 dX2_compare_64 ?_
      refine r_mabsL dX2_compare_66 ml_X2_21 (by decide) (Nat.le_of_ble_eq_true rfl) ?_
      refine r_lload7 dX2_compare_69 ?_
      generalize hd : (h.1 (p + 4) (2 * i)).toInt64 - (h.1 (p + 4) (2 * i + 1)).toInt64 = dd at ih ⊢
      change Aw _ _ _ _ _ [.long r3, .long (abs64 dd)] _
      refine r_lle (tgt := 88) dX2_compare_71 dX2_compare_72 (by decide) (fun c => ?_) (fun c => ?_)
      · refine r_iinc9_1 dX2_compare_88 rfl (by decide) ?_
        refine r_goto (tgt := 20) dX2_compare_91 (by decide) ?_
        rw [if_pos c, if_pos c, ← nI_1] at ih
        exact ih _ (by omega)
      · refine r_lload10 dX2_compare_75 ?_
        refine r_mabsL dX2_compare_77 ml_X2_21 (by decide) (Nat.le_of_ble_eq_true rfl) ?_
        refine r_lstore7 dX2_compare_80 rfl (by decide) ?_
        refine r_aload0 dX2_compare_82 ?_
        refine r_iload9 dX2_compare_83 ?_
        refine r_putI dX2_compare_85 fw_X2_27 rfl rfl ?_
        refine r_iinc9_1 dX2_compare_88 rfl (by decide) ?_
        refine r_goto (tgt := 20) dX2_compare_91 (by decide) ?_
        rw [if_neg c, if_neg c, ← nI_1] at ih
        rw [pI_twice]
        exact ih _ (by omega)
  have k0 := key n 0 none (by omega)
  have e : (rdS (h.1 (p + 4)) (h.1 30 4) 0) = (0, 0, -1, h.1 30 4) := rfl
  rw [e, pI_self] at k0
  exact k0
theorem c_X2_told (k : Nat) (h : Hp) (hk : k ≤ 4) : Rn 0 MX2_told [.ref 30, .int (nI k)] h (EL (if k < 4 then h.2 30 k else (h.1 30 4).toInt64) h) := by
  refine rn_of mm_X2_told (le_b rfl) rfl ?_
  have : k = 0 ∨ k = 1 ∨ k = 2 ∨ k = 3 ∨ k = 4 := by omega
  rcases this with rfl | rfl | rfl | rfl | rfl
  · refine r_iload1 dX2_told_0 ?_
    refine r_tabIn (tgt := 32) dX2_told_1 (by decide) (by decide) (by rfl) (by decide) ?_
    refine r_aload0 dX2_told_32 ?_
    refine r_getL dX2_told_33 fl_X2_38 rfl rfl ?_
    exact r_lretE dX2_told_36 rfl (rfl) (rfl)
  · refine r_iload1 dX2_told_0 ?_
    refine r_tabIn (tgt := 37) dX2_told_1 (by decide) (by decide) (by rfl) (by decide) ?_
    refine r_aload0 dX2_told_37 ?_
    refine r_getL dX2_told_38 fl_X2_42 rfl rfl ?_
    exact r_lretE dX2_told_41 rfl (rfl) (rfl)
  · refine r_iload1 dX2_told_0 ?_
    refine r_tabIn (tgt := 42) dX2_told_1 (by decide) (by decide) (by rfl) (by decide) ?_
    refine r_aload0 dX2_told_42 ?_
    refine r_getL dX2_told_43 fl_X2_45 rfl rfl ?_
    exact r_lretE dX2_told_46 rfl (rfl) (rfl)
  · refine r_iload1 dX2_told_0 ?_
    refine r_tabIn (tgt := 47) dX2_told_1 (by decide) (by decide) (by rfl) (by decide) ?_
    refine r_aload0 dX2_told_47 ?_
    refine r_getL dX2_told_48 fl_X2_48 rfl rfl ?_
    exact r_lretE dX2_told_51 rfl (rfl) (rfl)
  · refine r_iload1 dX2_told_0 ?_
    refine r_tabOut (tgt := 52) dX2_told_1 (by decide) (by decide) ?_
    refine r_aload0 dX2_told_52 ?_
    refine r_getI dX2_told_53 fl_X2_27 rfl rfl ?_
    refine r_i2l dX2_told_56 ?_
    exact r_lretE dX2_told_57 rfl (rfl) (rfl)
-- Stretch: place 28, its lengths at 29
def stD (h : Hp) (p q i j : Nat) : Int64 := (h.1 (q + 4) j).toInt64 - (h.1 (p + 4) i).toInt64
theorem c_X7_stepAt (p q n1 n2 i j : Nat) (h : Hp) (hp : isSh p) (hq : isSh q) (h1 : n1 ≤ 60) (h2 : n2 ≤ 60) (hs1 : h.1 p 3 = nI n1) (hs2 : h.1 q 3 = nI n2) (hi : i < n1) (hj : j < n2) : Rn 1 MX7_stepAt [.ref p, .int (nI i), .ref q, .int (nI j)] h (EL (stD h p q i j) h) := by
  have ho := oSh hp
  have hoq := oSh hq
  have r1 := c_X6_item p n1 (nI i) h hp h1 hs1
  have r2 := c_X6_item q n2 (nI j) h hq h2 hs2
  rw [fItem_at hs1 hi h1] at r1
  rw [fItem_at hs2 hj h2] at r2
  refine rn_of mm_X7_stepAt (le_b rfl) rfl ?_
  refine r_aload2 dX7_stepAt_0 ?_
  refine r_iload3 dX7_stepAt_1 ?_
  refine r_cV1I dX7_stepAt_2 mm_X6_item im_X6_item se_X6_item ml_X7_48 hoq rfl rfl (r2) (by decide) (Nat.le_of_ble_eq_true rfl) ?_
  refine r_i2l dX7_stepAt_5 ?_
  refine r_aload0 dX7_stepAt_6 ?_
  refine r_iload1 dX7_stepAt_7 ?_
  refine r_cV1I dX7_stepAt_8 mm_X6_item im_X6_item se_X6_item ml_X7_48 ho rfl rfl (r1) (by decide) (Nat.le_of_ble_eq_true rfl) ?_
  refine r_i2l dX7_stepAt_11 ?_
  refine r_lsub dX7_stepAt_12 ?_
  exact r_lretE dX7_stepAt_13 rfl (rfl) (rfl)
theorem c_X7_told (k : Nat) (h : Hp) (hk : k ≤ 3) : Rn 0 MX7_told [.ref 28, .int (nI k)] h (EL (if k < 3 then (h.1 28 (k + 1)).toInt64 else h.2 28 4) h) := by
  refine rn_of mm_X7_told (le_b rfl) rfl ?_
  have : k = 0 ∨ k = 1 ∨ k = 2 ∨ k = 3 := by omega
  rcases this with rfl | rfl | rfl | rfl
  · refine r_iload1 dX7_told_0 ?_
    refine r_tabIn (tgt := 28) dX7_told_1 (by decide) (by decide) (by rfl) (by decide) ?_
    refine r_aload0 dX7_told_28 ?_
    refine r_getI dX7_told_29 fl_X7_21 rfl rfl ?_
    refine r_i2l dX7_told_32 ?_
    exact r_lretE dX7_told_33 rfl (rfl) (rfl)
  · refine r_iload1 dX7_told_0 ?_
    refine r_tabIn (tgt := 34) dX7_told_1 (by decide) (by decide) (by rfl) (by decide) ?_
    refine r_aload0 dX7_told_34 ?_
    refine r_getI dX7_told_35 fl_X7_38 rfl rfl ?_
    refine r_i2l dX7_told_38 ?_
    exact r_lretE dX7_told_39 rfl (rfl) (rfl)
  · refine r_iload1 dX7_told_0 ?_
    refine r_tabIn (tgt := 40) dX7_told_1 (by decide) (by decide) (by rfl) (by decide) ?_
    refine r_aload0 dX7_told_40 ?_
    refine r_getI dX7_told_41 fl_X7_41 rfl rfl ?_
    refine r_i2l dX7_told_44 ?_
    exact r_lretE dX7_told_45 rfl (rfl) (rfl)
  · refine r_iload1 dX7_told_0 ?_
    refine r_tabOut (tgt := 46) dX7_told_1 (by decide) (by decide) ?_
    refine r_aload0 dX7_told_46 ?_
    refine r_getL dX7_told_47 fl_X7_44 rfl rfl ?_
    exact r_lretE dX7_told_50 rfl (rfl) (rfl)
/-- the first place of the greatest among the first n (n at least 1) -/
def lgI (a : Nat → Nat) (n : Nat) : Nat := lp (fun i l => if a i ≤ a l then l else i) 1 (n - 1) 0
theorem lgI_lt (a : Nat → Nat) {n : Nat} (hn : 1 ≤ n) : lgI a n < n := by
  unfold lgI
  refine lp_inv (fun i l => if a i ≤ a l then l else i) (fun i l => l < i) n (fun i l hi hl => ?_) (n - 1) 1 0 (by omega) (by omega)
  split <;> omega
def setS (h : Hp) (len sec fst : Int32) (st : Int64) : Hp := pL (pI (pI (pI h 28 1 len) 28 2 sec) 28 3 fst) 28 4 st
theorem c_X7_takeLongest (p q n1 n2 j : Nat) (a : Nat → Nat) (L0 : Nat) (h : Hp) (hp : isSh p) (hq : isSh q) (h1 : n1 ≤ 60) (h2 : n2 ≤ 60) (hs1 : h.1 p 3 = nI n1) (hs2 : h.1 q 3 = nI n2) (hn1 : 1 ≤ n1) (hj : j < n2) (ha : ∀ i, i < n1 → h.1 29 i = nI (a i) ∧ a i < 2 ^ 31) (hL : h.1 28 1 = nI L0) (hL2 : L0 < 2 ^ 31) :
    Rn 2 MX7_takeLongest [.ref 28, .ref p, .ref q, .int (nI j)] h (EV (if L0 ≤ a (lgI a n1) then setS h (nI (a (lgI a n1))) (nI j) (nI (lgI a n1)) (stD h p q (lgI a n1) j) else h)) := by
  have ho := oSh hp
  have hoq := oSh hq
  have hl := lgI_lt a hn1
  refine rn_of mm_X7_takeLongest (le_b rfl) rfl ?_
  refine r_iconst_0 dX7_takeLongest_0 ?_
  refine r_istore4 dX7_takeLongest_1 rfl (by decide) ?_
  refine r_iconst_1 dX7_takeLongest_3 ?_
  refine r_istore5 dX7_takeLongest_4 rfl (by decide) ?_
  refine lpI (fun i l => if a i ≤ a l then l else i) (fun i l => Aw 2 MX7_takeLongest (Kp (EV (if L0 ≤ a (lgI a n1) then setS h (nI (a (lgI a n1))) (nI j) (nI (lgI a n1)) (stD h p q (lgI a n1) j) else h))) 6 [some (.ref 28), some (.ref p), some (.ref q), some (.int (nI j)), some (.int (nI l)), some (.int (nI i))] [] h) (fun i l => l < i) n1 (fun i l hi hl => ?_) (fun i l hi hl k => ?_) (n1 - 1) 1 0 (by omega) (by omega) (fun _ => ?_)
  · split <;> omega
  · refine r_iload5 dX7_takeLongest_6 ?_
    refine r_aload1 dX7_takeLongest_8 ?_
    refine r_getI dX7_takeLongest_9 fl_X7_25 ho rfl ?_
    refine r_icmpge (tgt := 42) dX7_takeLongest_12 (by decide) (fun c9 => absurd c9 (by rw [hs1]; exact nI_ge hi (by omega))) (fun _ => ?_)
    refine r_aload0 dX7_takeLongest_15 ?_
    refine r_getR dX7_takeLongest_16 fl_X7_9 rfl rfl ?_
    refine r_iload5 dX7_takeLongest_19 ?_
    refine r_ialdN dX7_takeLongest_21 rfl (by omega) ?_
    refine r_aload0 dX7_takeLongest_22 ?_
    refine r_getR dX7_takeLongest_23 fl_X7_9 rfl rfl ?_
    refine r_iload4 dX7_takeLongest_26 ?_
    refine r_ialdN dX7_takeLongest_28 rfl (by omega) ?_
    have a1 := ha i (by omega)
    have a2 := ha l (by omega)
    rw [a1.1, a2.1]
    refine r_icmple (tgt := 36) dX7_takeLongest_29 (by decide) (fun c => ?_) (fun c => ?_)
    · refine r_iinc5_1 dX7_takeLongest_36 rfl (by decide) ?_
      refine r_goto (tgt := 6) dX7_takeLongest_39 (by decide) ?_
      have c' : a i ≤ a l := (nI_leI a1.2 a2.2).mp c
      rw [if_pos c', ← nI_1] at k
      exact k
    · refine r_iload5 dX7_takeLongest_32 ?_
      refine r_istore4 dX7_takeLongest_34 rfl (by decide) ?_
      refine r_iinc5_1 dX7_takeLongest_36 rfl (by decide) ?_
      refine r_goto (tgt := 6) dX7_takeLongest_39 (by decide) ?_
      have c' : ¬ a i ≤ a l := fun z => c (nI_le z a2.2)
      rw [if_neg c', ← nI_1] at k
      exact k
  · show Aw 2 MX7_takeLongest _ 6 [some (.ref 28), some (.ref p), some (.ref q), some (.int (nI j)), some (.int (nI (lgI a n1))), some (.int (nI n1))] [] h
    generalize lgI a n1 = m at hl ⊢
    have am := ha m hl
    refine r_iload5 dX7_takeLongest_6 ?_
    refine r_aload1 dX7_takeLongest_8 ?_
    refine r_getI dX7_takeLongest_9 fl_X7_25 ho rfl ?_
    refine r_icmpge (tgt := 42) dX7_takeLongest_12 (by decide) (fun _ => ?_) (fun c9 => absurd (by rw [hs1]; exact Int32.le_refl _) c9)
    refine r_aload0 dX7_takeLongest_42 ?_
    refine r_getR dX7_takeLongest_43 fl_X7_9 rfl rfl ?_
    refine r_iload4 dX7_takeLongest_46 ?_
    refine r_ialdN dX7_takeLongest_48 rfl (by omega) ?_
    refine r_aload0 dX7_takeLongest_49 ?_
    refine r_getI dX7_takeLongest_50 fl_X7_21 rfl rfl ?_
    rw [am.1, hL]
    refine r_icmplt (tgt := 90) dX7_takeLongest_53 (by decide) (fun c => ?_) (fun c => ?_)
    · have c' : ¬ L0 ≤ a m := fun z => absurd c (nI_nlt z am.2)
      exact r_vretE dX7_takeLongest_90 rfl (by rw [if_neg c'])
    · have c' : L0 ≤ a m := Nat.le_of_not_lt fun z => c (nI_lt z hL2)
      rw [if_pos c']
      refine r_aload0 dX7_takeLongest_56 ?_
      refine r_aload0 dX7_takeLongest_57 ?_
      refine r_getR dX7_takeLongest_58 fl_X7_9 rfl rfl ?_
      refine r_iload4 dX7_takeLongest_61 ?_
      refine r_ialdN dX7_takeLongest_63 rfl (by omega) ?_
      rw [am.1]
      have hp1 : p ≠ 28 := by have := hp.2; omega
      have hq1 : q ≠ 28 := by have := hq.2; omega
      have hp2 : p + 4 ≠ 28 := by have := hp.1; have := hp.2; omega
      have hq2 : q + 4 ≠ 28 := by have := hq.1; have := hq.2; omega
      have r := c_X7_stepAt p q n1 n2 m j (pI (pI (pI h 28 1 (nI (a m))) 28 2 (nI j)) 28 3 (nI m)) hp hq h1 h2 (by rw [pI_ne _ _ _ hp1, pI_ne _ _ _ hp1, pI_ne _ _ _ hp1]; exact hs1) (by rw [pI_ne _ _ _ hq1, pI_ne _ _ _ hq1, pI_ne _ _ _ hq1]; exact hs2) hl hj
      have es : stD (pI (pI (pI h 28 1 (nI (a m))) 28 2 (nI j)) 28 3 (nI m)) p q m j = stD h p q m j := by
        unfold stD
        rw [pI_ne _ _ _ hp2, pI_ne _ _ _ hp2, pI_ne _ _ _ hp2, pI_ne _ _ _ hq2, pI_ne _ _ _ hq2, pI_ne _ _ _ hq2]
      rw [es] at r
      refine r_putI dX7_takeLongest_64 fw_X7_21 rfl rfl ?_
      refine r_aload0 dX7_takeLongest_67 ?_
      refine r_iload3 dX7_takeLongest_68 ?_
      refine r_putI dX7_takeLongest_69 fw_X7_38 rfl rfl ?_
      refine r_aload0 dX7_takeLongest_72 ?_
      refine r_iload4 dX7_takeLongest_73 ?_
      refine r_putI dX7_takeLongest_75 fw_X7_41 rfl rfl ?_
      refine r_aload0 dX7_takeLongest_78 ?_
      refine r_aload1 dX7_takeLongest_79 ?_
      refine r_iload4 dX7_takeLongest_80 ?_
      refine r_aload2 dX7_takeLongest_82 ?_
      refine r_iload3 dX7_takeLongest_83 ?_
      refine r_cS4L dX7_takeLongest_84 mm_X7_stepAt st_X7_stepAt ml_X7_30 (r) (by decide) (Nat.le_of_ble_eq_true rfl) ?_
      refine r_putL dX7_takeLongest_87 fw_X7_44 rfl rfl ?_
      exact r_vretE dX7_takeLongest_90 rfl (rfl)
