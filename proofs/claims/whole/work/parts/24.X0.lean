/-! class Chance: place 26, its row at 27 -/
def bin (a t : Nat) : Int64 := lp (fun i v => v * (nI a - nI i).toInt64 / (nI i + 1).toInt64) 0 t 1
def sumW (R : Nat → Int64) (a k : Nat) : Int64 := lp (fun t s => s + bin a t * R (a - t)) 0 k 0
theorem d64ne {i : Nat} (h : i < 2 ^ 30) : ¬ (nI i + 1).toInt64 = 0 := by
  rw [nI_1, nI_l (by omega)]
  intro e
  have h1 := (lN_eq (a := i + 1) (b := 0) (by omega) (by omega)).mp e
  omega
theorem c_X0_rowsWithOneMore (a o : Nat) (h : Hp) (ha : a ≤ 12) (ho : o < 2 ^ 30) : Rn 0 MX0_rowsWithOneMore [.ref 26, .int (nI a), .int (nI o)] h (EL (sumW (h.2 27) a (min (a + 1) o)) h) := by
  refine rn_of mm_X0_rowsWithOneMore (le_b rfl) rfl ?_
  refine r_lconst_0 dX0_rowsWithOneMore_0 ?_
  refine r_lstore3 dX0_rowsWithOneMore_1 rfl (by decide) ?_
  refine r_lconst_1 dX0_rowsWithOneMore_2 ?_
  refine r_lstore5 dX0_rowsWithOneMore_3 rfl (by decide) ?_
  refine r_iconst_0 dX0_rowsWithOneMore_5 ?_
  refine r_istore7 dX0_rowsWithOneMore_6 rfl (by decide) ?_
  have key : ∀ k i, i + k = min (a + 1) o → Aw 0 MX0_rowsWithOneMore (Kp (EL (sumW (h.2 27) a (min (a + 1) o)) h)) 8 [some (.ref 26), some (.int (nI a)), some (.int (nI o)), some (.long (sumW (h.2 27) a i)), none, some (.long (bin a i)), none, some (.int (nI i))] [] h := by
    intro k
    induction k with
    | zero =>
      intro i hi
      have hi : i = min (a + 1) o := by omega
      by_cases c : i ≤ a
      · refine r_iload7 dX0_rowsWithOneMore_8 ?_
        refine r_iload1 dX0_rowsWithOneMore_10 ?_
        refine r_icmpgt (tgt := 57) dX0_rowsWithOneMore_11 (by decide) (fun c9 => absurd c9 (nI_nlt (by omega) (by omega))) (fun _ => ?_)
        refine r_iload7 dX0_rowsWithOneMore_14 ?_
        refine r_iload2 dX0_rowsWithOneMore_16 ?_
        refine r_icmpge (tgt := 57) dX0_rowsWithOneMore_17 (by decide) (fun _ => ?_) (fun c9 => absurd (nI_le (by omega) (by omega)) c9)
        refine r_lload3 dX0_rowsWithOneMore_57 ?_
        exact r_lretE dX0_rowsWithOneMore_58 rfl (by rw [hi]) (rfl)
      · refine r_iload7 dX0_rowsWithOneMore_8 ?_
        refine r_iload1 dX0_rowsWithOneMore_10 ?_
        refine r_icmpgt (tgt := 57) dX0_rowsWithOneMore_11 (by decide) (fun _ => ?_) (fun c9 => absurd (nI_lt (by omega) (by omega)) c9)
        refine r_lload3 dX0_rowsWithOneMore_57 ?_
        exact r_lretE dX0_rowsWithOneMore_58 rfl (by rw [hi]) (rfl)
    | succ k ih =>
      intro i hi
      refine r_iload7 dX0_rowsWithOneMore_8 ?_
      refine r_iload1 dX0_rowsWithOneMore_10 ?_
      refine r_icmpgt (tgt := 57) dX0_rowsWithOneMore_11 (by decide) (fun c9 => absurd c9 (nI_nlt (by omega) (by omega))) (fun _ => ?_)
      refine r_iload7 dX0_rowsWithOneMore_14 ?_
      refine r_iload2 dX0_rowsWithOneMore_16 ?_
      refine r_icmpge (tgt := 57) dX0_rowsWithOneMore_17 (by decide) (fun c9 => absurd c9 (nI_ge (by omega) (by omega))) (fun _ => ?_)
      refine r_lload3 dX0_rowsWithOneMore_20 ?_
      refine r_lload5 dX0_rowsWithOneMore_21 ?_
      refine r_aload0 dX0_rowsWithOneMore_23 ?_
      refine r_getR dX0_rowsWithOneMore_24 fl_X0_9 rfl rfl ?_
      refine r_iload1 dX0_rowsWithOneMore_27 ?_
      refine r_iload7 dX0_rowsWithOneMore_28 ?_
      refine r_isub dX0_rowsWithOneMore_30 ?_
      rw [pk_sub (by omega : i ≤ a)]
      refine r_laldN dX0_rowsWithOneMore_31 rfl (by omega) ?_
      refine r_lmul dX0_rowsWithOneMore_32 ?_
      refine r_ladd dX0_rowsWithOneMore_33 ?_
      refine r_lstore3 dX0_rowsWithOneMore_34 rfl (by decide) ?_
      refine r_lload5 dX0_rowsWithOneMore_35 ?_
      refine r_iload1 dX0_rowsWithOneMore_37 ?_
      refine r_iload7 dX0_rowsWithOneMore_38 ?_
      refine r_isub dX0_rowsWithOneMore_40 ?_
      refine r_i2l dX0_rowsWithOneMore_41 ?_
      refine r_lmul dX0_rowsWithOneMore_42 ?_
      refine r_iload7 dX0_rowsWithOneMore_43 ?_
      refine r_iconst_1 dX0_rowsWithOneMore_45 ?_
      refine r_iadd dX0_rowsWithOneMore_46 ?_
      refine r_i2l dX0_rowsWithOneMore_47 ?_
      refine r_ldiv (d64ne (by omega)) dX0_rowsWithOneMore_48 ?_
      refine r_lstore5 dX0_rowsWithOneMore_49 rfl (by decide) ?_
      refine r_iinc7_1 dX0_rowsWithOneMore_51 rfl (by decide) ?_
      refine r_goto (tgt := 8) dX0_rowsWithOneMore_54 (by decide) ?_
      have e1 : sumW (h.2 27) a (i + 1) = sumW (h.2 27) a i + bin a i * h.2 27 (a - i) := by
        unfold sumW
        rw [lp_last, Nat.zero_add]
      have e2 : bin a (i + 1) = bin a i * (nI a - nI i).toInt64 / (nI i + 1).toInt64 := by
        unfold bin
        rw [lp_last, Nat.zero_add]
      have ih := ih (i + 1) (by omega)
      rw [e1, e2, ← nI_1 i] at ih
      exact ih
  exact key (min (a + 1) o) 0 (by omega)
/-- the row's first thirteen places -/
def c13 (f R : Nat → Int64) : Nat → Int64 := fun j => if j < 13 then R j else f j
def upL (R : Nat → Int64) (j : Nat) (x : Int64) : Nat → Int64 := fun i => if i = j then x else R i
theorem c13_st (h : Hp) (p : Nat) (R : Nat → Int64) {j : Nat} (hj : j < 13) (x : Int64) : pL (pLA h p (c13 (h.2 p) R)) p j x = pLA h p (c13 (h.2 p) (upL R j x)) := by
  refine hp_ext (fun q i => rfl) (fun q i => ?_)
  simp only [pL_g, pLA_g, c13, upL]
  by_cases e : q = p
  · subst e
    by_cases e2 : i = j
    · subst e2; simp [hj]
    · simp [e2]
  · simp [e]
theorem sumW_cong {R R' : Nat → Int64} {a k : Nat} (h : ∀ j, j ≤ a → R j = R' j) : sumW R a k = sumW R' a k := by
  unfold sumW
  apply lp_cong
  intro j b _ _
  rw [h (a - j) (by omega)]
/-- one figure more: from the greatest length down -/
def dpD (o : Nat) : Nat → (Nat → Int64) → (Nat → Int64)
  | 0, R => R
  | u + 1, R => dpD o u (upL R u (sumW R u (min (u + 1) o)))
def dpF (o items : Nat) : Nat → (Nat → Int64) → (Nat → Int64)
  | 0, R => R
  | k + 1, R => dpF o items k (dpD o (items + 1) R)
def R0 : Nat → Int64 := fun j => if j = 0 then 1 else 0
theorem c_X0_countRowsBelow (items o : Nat) (h : Hp) (ha : items ≤ 12) (ho : o < 2 ^ 30) : Rn 1 MX0_countRowsBelow [.ref 26, .int (nI items), .int (nI o)] h (EV (pLA h 27 (c13 (h.2 27) (dpF o items 10 R0)))) := by
  refine rn_of mm_X0_countRowsBelow (le_b rfl) rfl ?_
  refine r_aload0 dX0_countRowsBelow_0 ?_
  refine r_getR dX0_countRowsBelow_1 fl_X0_9 rfl rfl ?_
  refine r_lconst_0 dX0_countRowsBelow_4 ?_
  refine r_cS2V dX0_countRowsBelow_5 mm_J7_fill_d0a16 st_J7_fill_d0a16 ml_X0_24 (c_fillL 27 13 0 h rfl) (by decide) (Nat.le_of_ble_eq_true rfl) ?_
  refine r_aload0 dX0_countRowsBelow_8 ?_
  refine r_getR dX0_countRowsBelow_9 fl_X0_9 rfl rfl ?_
  refine r_iconst_0 dX0_countRowsBelow_12 ?_
  refine r_lconst_1 dX0_countRowsBelow_13 ?_
  change Aw _ _ _ _ _ [.long 1, .int (nI 0), .ref 27] (pLA h 27 (c13 (h.2 27) (fun _ => 0)))
  refine r_lastN dX0_countRowsBelow_14 rfl (by decide) ?_
  refine r_iconst_0 dX0_countRowsBelow_15 ?_
  refine r_istore3 dX0_countRowsBelow_16 rfl (by decide) ?_
  rw [c13_st h 27 _ (by decide)]
  have e0 : upL (fun _ => 0) 0 1 = R0 := by
    funext j
    rfl
  rw [e0]
  have inner : ∀ (P : Pst) (f : Nat) (R' : Nat → Int64), (∀ x4, Aw 1 MX0_countRowsBelow (Kp P) 51 [some (.ref 26), some (.int (nI items)), some (.int (nI o)), some (.int (nI f)), x4] [] (pLA h 27 (c13 (h.2 27) R'))) → ∀ u R, u ≤ items + 1 → dpD o u R = R' → Aw 1 MX0_countRowsBelow (Kp P) 26 [some (.ref 26), some (.int (nI items)), some (.int (nI o)), some (.int (nI f)), some (.int (nI u - 1))] [] (pLA h 27 (c13 (h.2 27) R)) := by
    intro P f R' hk u
    induction u with
    | zero =>
      intro R _ hR
      have hR : R = R' := hR
      subst hR
      refine r_iload4 dX0_countRowsBelow_26 ?_
      refine r_iflt (tgt := 51) dX0_countRowsBelow_28 (by decide) (fun _ => ?_) (fun c9 => absurd (by decide) c9)
      exact hk _
    | succ u ih =>
      intro R hu hR
      rw [nI_pred]
      refine r_iload4 dX0_countRowsBelow_26 ?_
      refine r_iflt (tgt := 51) dX0_countRowsBelow_28 (by decide) (fun c9 => absurd c9 (nI_pos (by omega))) (fun _ => ?_)
      refine r_aload0 dX0_countRowsBelow_31 ?_
      refine r_getR dX0_countRowsBelow_32 fl_X0_9 rfl rfl ?_
      refine r_iload4 dX0_countRowsBelow_35 ?_
      refine r_aload0 dX0_countRowsBelow_37 ?_
      refine r_iload4 dX0_countRowsBelow_38 ?_
      refine r_iload2 dX0_countRowsBelow_40 ?_
      refine r_cV2L dX0_countRowsBelow_41 mm_X0_rowsWithOneMore im_X0_rowsWithOneMore se_X0_rowsWithOneMore ml_X0_30 rfl rfl rfl (c_X0_rowsWithOneMore u o _ (by omega) ho) (by decide) (Nat.le_of_ble_eq_true rfl) ?_
      refine r_lastN dX0_countRowsBelow_44 rfl (by omega) ?_
      refine r_iinc4_m1 dX0_countRowsBelow_45 rfl (by decide) ?_
      refine r_goto (tgt := 26) dX0_countRowsBelow_48 (by decide) ?_
      rw [c13_st h 27 _ (by omega), ← Int32.sub_eq_add_neg]
      have es : sumW ((pLA h 27 (c13 (h.2 27) R)).2 27) u (min (u + 1) o) = sumW R u (min (u + 1) o) := by
        apply sumW_cong
        intro j hj
        rw [pLA_g, if_pos rfl, c13, if_pos (by omega)]
      rw [es]
      exact ih _ (by omega) hR
  have outer : ∀ k f R (x4 : Option Value), f + k = 10 → Aw 1 MX0_countRowsBelow (Kp (EV (pLA h 27 (c13 (h.2 27) (dpF o items k R))))) 17 [some (.ref 26), some (.int (nI items)), some (.int (nI o)), some (.int (nI f)), x4] [] (pLA h 27 (c13 (h.2 27) R)) := by
    intro k
    induction k with
    | zero =>
      intro f R x4 hf
      have : f = 10 := by omega
      subst this
      refine r_iload3 dX0_countRowsBelow_17 ?_
      refine r_bipush bv_9 dX0_countRowsBelow_18 ?_
      refine r_icmpgt (tgt := 57) dX0_countRowsBelow_20 (by decide) (fun _ => ?_) (fun c9 => absurd (by decide) c9)
      exact r_vretE dX0_countRowsBelow_57 rfl (rfl)
    | succ k ih =>
      intro f R x4 hf
      refine r_iload3 dX0_countRowsBelow_17 ?_
      refine r_bipush bv_9 dX0_countRowsBelow_18 ?_
      refine r_icmpgt (tgt := 57) dX0_countRowsBelow_20 (by decide) (fun c9 => absurd c9 (nI_nlt (a := 9) (by omega) (by decide))) (fun _ => ?_)
      refine r_iload1 dX0_countRowsBelow_23 ?_
      refine r_istore4 dX0_countRowsBelow_24 rfl (by decide) ?_
      rw [show nI items = nI (items + 1) - 1 from (nI_pred items).symm]
      have hi := inner (EV (pLA h 27 (c13 (h.2 27) (dpF o items (k + 1) R)))) f (dpD o (items + 1) R) (fun x4 => ?_) (items + 1) R (Nat.le_refl _) rfl
      · rw [nI_pred] at hi ⊢
        exact hi
      · refine r_iinc3_1 dX0_countRowsBelow_51 rfl (by decide) ?_
        refine r_goto (tgt := 17) dX0_countRowsBelow_54 (by decide) ?_
        rw [nI_1]
        exact ih (f + 1) _ x4 (by omega)
  exact outer 10 0 R0 none rfl
def p10L (k : Nat) : Int64 := lp (fun _ v => v * 10) 0 k 1
theorem p10L_ne : ∀ k, k ≤ 12 → ¬ p10L k = 0 := by decide +kernel
def fSome (items o : Nat) : Int32 := ((p10L items - dpF o items 10 R0 items) * 1000000 / p10L items).toInt32
theorem c_X0_ofSomeFigure (items o : Nat) (h : Hp) (hi : 1 ≤ items) (ha : items ≤ 12) (h1 : 1 ≤ o) (ho : o < 2 ^ 30) : Rn 2 MX0_ofSomeFigure [.ref 26, .int (nI items), .int (nI o)] h (EI (fSome items o) (pLA h 27 (c13 (h.2 27) (dpF o items 10 R0)))) := by
  refine rn_of mm_X0_ofSomeFigure (le_b rfl) rfl ?_
  refine r_iload1 dX0_ofSomeFigure_0 ?_
  refine r_ifle (tgt := 14) dX0_ofSomeFigure_1 (by decide) (fun c9 => absurd c9 (nI_nle (by omega) (by omega))) (fun _ => ?_)
  refine r_iload1 dX0_ofSomeFigure_4 ?_
  refine r_bipush bv_12 dX0_ofSomeFigure_5 ?_
  refine r_icmpgt (tgt := 14) dX0_ofSomeFigure_7 (by decide) (fun c9 => absurd c9 (nI_nlt (a := 12) (by omega) (by omega))) (fun _ => ?_)
  refine r_iload2 dX0_ofSomeFigure_10 ?_
  refine r_ifgt (tgt := 17) dX0_ofSomeFigure_11 (by decide) (fun _ => ?_) (fun c9 => absurd (nI_lt (a := 0) (by omega) (by omega)) c9)
  refine r_lconst_1 dX0_ofSomeFigure_17 ?_
  refine r_lstore3 dX0_ofSomeFigure_18 rfl (by decide) ?_
  refine r_iconst_0 dX0_ofSomeFigure_19 ?_
  refine r_istore5 dX0_ofSomeFigure_20 rfl (by decide) ?_
  have key : ∀ k i, i + k = items → Aw 2 MX0_ofSomeFigure (Kp (EI (fSome items o) (pLA h 27 (c13 (h.2 27) (dpF o items 10 R0))))) 22 [some (.ref 26), some (.int (nI items)), some (.int (nI o)), some (.long (p10L i)), none, some (.int (nI i))] [] h := by
    intro k
    induction k with
    | zero =>
      intro i hi
      have : i = items := by omega
      subst this
      refine r_iload5 dX0_ofSomeFigure_22 ?_
      refine r_iload1 dX0_ofSomeFigure_24 ?_
      refine r_icmpge (tgt := 40) dX0_ofSomeFigure_25 (by decide) (fun _ => ?_) (fun c9 => absurd (Int32.le_refl _) c9)
      refine r_aload0 dX0_ofSomeFigure_40 ?_
      refine r_iload1 dX0_ofSomeFigure_41 ?_
      refine r_iload2 dX0_ofSomeFigure_42 ?_
      refine r_cV2V dX0_ofSomeFigure_43 mm_X0_countRowsBelow im_X0_countRowsBelow se_X0_countRowsBelow ml_X0_18 rfl rfl rfl (c_X0_countRowsBelow i o h ha ho) (by decide) (Nat.le_of_ble_eq_true rfl) ?_
      refine r_lload3 dX0_ofSomeFigure_46 ?_
      refine r_aload0 dX0_ofSomeFigure_47 ?_
      refine r_getR dX0_ofSomeFigure_48 fl_X0_9 rfl rfl ?_
      refine r_iload1 dX0_ofSomeFigure_51 ?_
      refine r_laldN dX0_ofSomeFigure_52 rfl (by omega) ?_
      rw [pLA_g, if_pos rfl, c13, if_pos (by omega)]
      refine r_lsub dX0_ofSomeFigure_53 ?_
      refine r_ldc2 ct_X0_22 dX0_ofSomeFigure_54 ?_
      refine r_lmul dX0_ofSomeFigure_57 ?_
      refine r_lload3 dX0_ofSomeFigure_58 ?_
      refine r_ldiv (p10L_ne i ha) dX0_ofSomeFigure_59 ?_
      refine r_l2i dX0_ofSomeFigure_60 ?_
      exact r_iretE dX0_ofSomeFigure_61 rfl (rfl) (rfl)
    | succ k ih =>
      intro i hi
      refine r_iload5 dX0_ofSomeFigure_22 ?_
      refine r_iload1 dX0_ofSomeFigure_24 ?_
      refine r_icmpge (tgt := 40) dX0_ofSomeFigure_25 (by decide) (fun c9 => absurd c9 (nI_ge (by omega) (by omega))) (fun _ => ?_)
      refine r_lload3 dX0_ofSomeFigure_28 ?_
      refine r_ldc2 ct_X0_16 dX0_ofSomeFigure_29 ?_
      refine r_lmul dX0_ofSomeFigure_32 ?_
      refine r_lstore3 dX0_ofSomeFigure_33 rfl (by decide) ?_
      refine r_iinc5_1 dX0_ofSomeFigure_34 rfl (by decide) ?_
      refine r_goto (tgt := 22) dX0_ofSomeFigure_37 (by decide) ?_
      rw [nI_1]
      have e : p10L (i + 1) = p10L i * 10 := by
        unfold p10L
        rw [lp_last]
      have ih := ih (i + 1) (by omega)
      rw [e] at ih
      exact ih
  exact key items 0 (by omega)
def powL (b : Int64) (k : Nat) : Int64 := lp (fun _ v => v * b) 0 k 1
/-- a power with an exponent of 0 .. 6 -/
theorem c_X0_power (b : Int32) (k : Nat) (h : Hp) (hk : k ≤ 6) (hp : ¬ powL b.toInt64 k < 1) : Rn 1 MX0_power [.int b, .int (nI k)] h (EL (powL b.toInt64 k) h) := by
  refine rn_of mm_X0_power (le_b rfl) rfl ?_
  refine r_lconst_1 dX0_power_0 ?_
  refine r_lstore2 dX0_power_1 rfl (by decide) ?_
  refine r_iconst_0 dX0_power_2 ?_
  refine r_istore4 dX0_power_3 rfl (by decide) ?_
  have key : ∀ n i, i + n = k → Aw 1 MX0_power (Kp (EL (powL b.toInt64 k) h)) 5 [some (.int b), some (.int (nI k)), some (.long (powL b.toInt64 i)), none, some (.int (nI i))] [] h := by
    intro n
    induction n with
    | zero =>
      intro i hi
      have : i = k := by omega
      subst this
      refine r_iload4 dX0_power_5 ?_
      refine r_iload1 dX0_power_7 ?_
      refine r_icmpge (tgt := 29) dX0_power_8 (by decide) (fun _ => ?_) (fun c9 => absurd (Int32.le_refl _) c9)
      refine r_lload2 dX0_power_29 ?_
      refine r_lconst_1 dX0_power_30 ?_
      refine r_mmaxL dX0_power_31 ml_X0_37 (by decide) (Nat.le_of_ble_eq_true rfl) ?_
      have e : (if (1 : Int64) < powL b.toInt64 i then powL b.toInt64 i else 1) = powL b.toInt64 i := by
        split
        · rfl
        · rename_i c
          exact Int64.le_antisymm (Int64.not_lt.mp hp) (Int64.not_lt.mp c)
      rw [e]
      exact r_lretE dX0_power_34 rfl (rfl) (rfl)
    | succ n ih =>
      intro i hi
      refine r_iload4 dX0_power_5 ?_
      refine r_iload1 dX0_power_7 ?_
      refine r_icmpge (tgt := 29) dX0_power_8 (by decide) (fun c9 => absurd c9 (nI_ge (by omega) (by omega))) (fun _ => ?_)
      refine r_iload4 dX0_power_11 ?_
      refine r_bipush bv_6 dX0_power_13 ?_
      refine r_icmpgt (tgt := 29) dX0_power_15 (by decide) (fun c9 => absurd c9 (nI_nlt (a := 6) (by omega) (by decide))) (fun _ => ?_)
      refine r_lload2 dX0_power_18 ?_
      refine r_iload0 dX0_power_19 ?_
      refine r_i2l dX0_power_20 ?_
      refine r_lmul dX0_power_21 ?_
      refine r_lstore2 dX0_power_22 rfl (by decide) ?_
      refine r_iinc4_1 dX0_power_23 rfl (by decide) ?_
      refine r_goto (tgt := 5) dX0_power_26 (by decide) ?_
      rw [nI_1]
      have e : powL b.toInt64 (i + 1) = powL b.toInt64 i * b.toInt64 := by
        unfold powL
        rw [lp_last]
      have ih := ih (i + 1) (by omega)
      rw [e] at ih
      exact ih
  exact key k 0 (by omega)
/-- and with one below 0 -/
theorem c_X0_powerM (b k : Int32) (h : Hp) (hk : k ≤ 0) : Rn 1 MX0_power [.int b, .int k] h (EL 1 h) := by
  refine rn_of mm_X0_power (le_b rfl) rfl ?_
  refine r_lconst_1 dX0_power_0 ?_
  refine r_lstore2 dX0_power_1 rfl (by decide) ?_
  refine r_iconst_0 dX0_power_2 ?_
  refine r_istore4 dX0_power_3 rfl (by decide) ?_
  refine r_iload4 dX0_power_5 ?_
  refine r_iload1 dX0_power_7 ?_
  refine r_icmpge (tgt := 29) dX0_power_8 (by decide) (fun _ => ?_) (fun c9 => absurd (hk) c9)
  refine r_lload2 dX0_power_29 ?_
  refine r_lconst_1 dX0_power_30 ?_
  refine r_mmaxL dX0_power_31 ml_X0_37 (by decide) (Nat.le_of_ble_eq_true rfl) ?_
  exact r_lretE dX0_power_34 rfl (by decide) (rfl)
