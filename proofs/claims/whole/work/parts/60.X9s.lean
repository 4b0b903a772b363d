/-! the reference: rows one by one; counts 42 -/
theorem c_X9_part (N k : Nat) (h : Hp) (hN : N < 2 ^ 31) (hk : k < 7) : Rn 0 MX9_part [.int (nI N), .int (nI k)] h (EI (nI (dgt N k)) h) := by
  refine rn_of mm_X9_part (le_b rfl) rfl ?_
  refine r_iload0 dX9_part_0 ?_
  refine r_istore2 dX9_part_1 rfl (by decide) ?_
  refine r_iload1 dX9_part_2 ?_
  refine r_istore3 dX9_part_3 rfl (by decide) ?_
  have key : ∀ r i x, i + r = 6 → x < 2 ^ 31 → x / 10 ^ (6 - i) = N / 10 ^ (6 - k) → Aw 0 MX9_part (Kp (EI (nI (dgt N k)) h)) 4 [some (.int (nI N)), some (.int (nI k)), some (.int (nI x)), some (.int (nI i))] [] h := by
    intro r
    induction r with
    | zero =>
      intro i x hi hx he
      have : i = 6 := by omega
      subst this
      have he : x / 1 = N / 10 ^ (6 - k) := he
      rw [Nat.div_one] at he
      refine r_iload3 dX9_part_4 ?_
      refine r_bipush bv_6 dX9_part_5 ?_
      refine r_icmpge (tgt := 21) dX9_part_7 (by decide) (fun _ => ?_) (fun c9 => absurd (by decide) c9)
      refine r_iload2 dX9_part_21 ?_
      refine r_bipush bv_10 dX9_part_22 ?_
      refine r_irem (by decide) dX9_part_24 ?_
      rw [show rem32 (nI x) 10 = nI (x % 10) from nI_rem (d := 10) hx (by decide) (by decide)]
      exact r_iretE dX9_part_25 rfl (by rw [dgt, ← he]) (rfl)
    | succ r ih =>
      intro i x hi hx he
      refine r_iload3 dX9_part_4 ?_
      refine r_bipush bv_6 dX9_part_5 ?_
      refine r_icmpge (tgt := 21) dX9_part_7 (by decide) (fun c9 => absurd c9 (nI_ge (b := 6) (by omega) (by decide))) (fun _ => ?_)
      refine r_iload2 dX9_part_10 ?_
      refine r_bipush bv_10 dX9_part_11 ?_
      refine r_idiv (by decide) dX9_part_13 ?_
      rw [show nI x / 10 = nI (x / 10) from pk_div (d := 10) hx (by decide) (by decide)]
      refine r_istore2 dX9_part_14 rfl (by decide) ?_
      refine r_iinc3_1 dX9_part_15 rfl (by decide) ?_
      refine r_goto (tgt := 4) dX9_part_18 (by decide) ?_
      rw [nI_1]
      refine ih (i + 1) (x / 10) (by omega) (by omega) ?_
      rw [← he, Nat.div_div_eq_div_mul]
      congr 1
      rw [show 6 - i = (6 - (i + 1)) + 1 by omega, Nat.pow_succ, Nat.mul_comm]
  exact key (6 - k) k N (by omega) hN rfl
def spH (h : Hp) (N k : Nat) : Hp := pA h 42 (fun j => if j < k then nI (dgt N j) else h.1 42 j)
theorem c_X9_spreads (N : Nat) (h : Hp) (hN : N < 2 ^ 31) : Rn 1 MX9_spreads [.ref 31, .int (nI N)] h (EV (spH h N 7)) := by
  refine rn_of mm_X9_spreads (le_b rfl) rfl ?_
  refine r_iconst_0 dX9_spreads_0 ?_
  refine r_istore2 dX9_spreads_1 rfl (by decide) ?_
  have key : ∀ r i, i + r = 7 → Aw 1 MX9_spreads (Kp (EV (spH h N 7))) 2 [some (.ref 31), some (.int (nI N)), some (.int (nI i))] [] (spH h N i) := by
    intro r
    induction r with
    | zero =>
      intro i hi
      have : i = 7 := by omega
      subst this
      refine r_iload2 dX9_spreads_2 ?_
      refine r_bipush bv_7 dX9_spreads_3 ?_
      refine r_icmpge (tgt := 25) dX9_spreads_5 (by decide) (fun _ => ?_) (fun c9 => absurd (by decide) c9)
      exact r_vretE dX9_spreads_25 rfl (rfl)
    | succ r ih =>
      intro i hi
      refine r_iload2 dX9_spreads_2 ?_
      refine r_bipush bv_7 dX9_spreads_3 ?_
      refine r_icmpge (tgt := 25) dX9_spreads_5 (by decide) (fun c9 => absurd c9 (nI_ge (b := 7) (by omega) (by decide))) (fun _ => ?_)
      refine r_aload0 dX9_spreads_8 ?_
      refine r_getR dX9_spreads_9 fl_X9_47 rfl rfl ?_
      refine r_iload2 dX9_spreads_12 ?_
      refine r_iload1 dX9_spreads_13 ?_
      refine r_iload2 dX9_spreads_14 ?_
      refine r_cS2I dX9_spreads_15 mm_X9_part st_X9_part ml_X9_180 (c_X9_part N i _ hN (by omega)) (by decide) (Nat.le_of_ble_eq_true rfl) ?_
      refine r_iastN dX9_spreads_18 rfl (by omega) ?_
      have e : pI (spH h N i) 42 i (nI (dgt N i)) = spH h N (i + 1) := by
        unfold spH
        rw [pI_pA]
        congr 1
        funext y
        unfold upd
        by_cases c : y = i
        · subst c; rw [if_pos rfl, if_pos (by omega)]
        · rw [if_neg c]
          dsimp only
          by_cases d : y < i
          · rw [if_pos d, if_pos (by omega)]
          · rw [if_neg d, if_neg (by omega)]
      rw [e]
      refine r_iinc2_1 dX9_spreads_19 rfl (by decide) ?_
      refine r_goto (tgt := 2) dX9_spreads_22 (by decide) ?_
      rw [nI_1]
      exact ih (i + 1) (by omega)
  have k0 := key 7 0 rfl
  have e : spH h N 0 = h := by
    unfold spH
    refine hp_ext (fun q y => ?_) (fun q y => rfl)
    rw [pA_g]
    by_cases c : q = 42
    · subst c; rw [if_pos rfl, if_neg (by omega)]
    · rw [if_neg c]
  rw [e] at k0
  exact k0
def hor (C : Nat → Nat) : Nat → Nat
  | 0 => 0
  | k + 1 => 10 * hor C k + C k
theorem hor7 (C : Nat → Nat) : hor C 7 = numN C 7 := by
  simp only [hor, numN, sg]
  omega
/-- the reference's counts are C -/
def MC (h : Hp) (C : Nat → Nat) : Prop := ∀ j, j < 7 → h.1 42 j = nI (C j)
theorem c_X9_rowNow (C : Nat → Nat) (h : Hp) (hC : MC h C) : Rn 0 MX9_rowNow [.ref 31] h (EI (nI (numN C 7)) h) := by
  refine rn_of mm_X9_rowNow (le_b rfl) rfl ?_
  refine r_iconst_0 dX9_rowNow_0 ?_
  refine r_istore1 dX9_rowNow_1 rfl (by decide) ?_
  refine r_iconst_0 dX9_rowNow_2 ?_
  refine r_istore2 dX9_rowNow_3 rfl (by decide) ?_
  have key : ∀ r i, i + r = 7 → Aw 0 MX9_rowNow (Kp (EI (nI (numN C 7)) h)) 4 [some (.ref 31), some (.int (nI (hor C i))), some (.int (nI i))] [] h := by
    intro r
    induction r with
    | zero =>
      intro i hi
      have : i = 7 := by omega
      subst this
      refine r_iload2 dX9_rowNow_4 ?_
      refine r_bipush bv_7 dX9_rowNow_5 ?_
      refine r_icmpge (tgt := 28) dX9_rowNow_7 (by decide) (fun _ => ?_) (fun c9 => absurd (by decide) c9)
      refine r_iload1 dX9_rowNow_28 ?_
      exact r_iretE dX9_rowNow_29 rfl (by rw [hor7]) (rfl)
    | succ r ih =>
      intro i hi
      refine r_iload2 dX9_rowNow_4 ?_
      refine r_bipush bv_7 dX9_rowNow_5 ?_
      refine r_icmpge (tgt := 28) dX9_rowNow_7 (by decide) (fun c9 => absurd c9 (nI_ge (b := 7) (by omega) (by decide))) (fun _ => ?_)
      refine r_bipush bv_10 dX9_rowNow_10 ?_
      refine r_iload1 dX9_rowNow_12 ?_
      refine r_imul dX9_rowNow_13 ?_
      refine r_aload0 dX9_rowNow_14 ?_
      refine r_getR dX9_rowNow_15 fl_X9_47 rfl rfl ?_
      refine r_iload2 dX9_rowNow_18 ?_
      refine r_ialdN dX9_rowNow_19 rfl (by omega) ?_
      rw [hC i (by omega), show (10 : Int32) = nI 10 from rfl, pk_mul]
      refine r_iadd dX9_rowNow_20 ?_
      rw [nI_add]
      refine r_istore1 dX9_rowNow_21 rfl (by decide) ?_
      refine r_iinc2_1 dX9_rowNow_22 rfl (by decide) ?_
      refine r_goto (tgt := 4) dX9_rowNow_25 (by decide) ?_
      rw [nI_1]
      exact ih (i + 1) (by omega)
  exact key 7 0 rfl
def tenN (k : Nat) : Nat := if k = 0 then 1 else if k = 1 then 10 else 100
theorem c_X9_tens (k : Nat) (h : Hp) (hk : k ≤ 2) : Rn 0 MX9_tens [.int (nI k)] h (EL (lN (tenN k)) h) := by
  refine rn_of mm_X9_tens (le_b rfl) rfl ?_
  have : k = 0 ∨ k = 1 ∨ k = 2 := by omega
  rcases this with rfl | rfl | rfl
  · refine r_iload0 dX9_tens_0 ?_
    refine r_ifne (tgt := 8) dX9_tens_1 (by decide) (fun c9 => absurd (rfl) c9) (fun _ => ?_)
    refine r_lconst_1 dX9_tens_4 ?_
    refine r_goto (tgt := 22) dX9_tens_5 (by decide) ?_
    exact r_lretE dX9_tens_22 rfl (rfl) (rfl)
  · refine r_iload0 dX9_tens_0 ?_
    refine r_ifne (tgt := 8) dX9_tens_1 (by decide) (fun _ => ?_) (fun c9 => absurd c9 (by decide))
    refine r_iload0 dX9_tens_8 ?_
    refine r_iconst_1 dX9_tens_9 ?_
    refine r_icmpne (tgt := 19) dX9_tens_10 (by decide) (fun c9 => absurd (rfl) c9) (fun _ => ?_)
    refine r_ldc2 ct_X9_158 dX9_tens_13 ?_
    refine r_goto (tgt := 22) dX9_tens_16 (by decide) ?_
    exact r_lretE dX9_tens_22 rfl (rfl) (rfl)
  · refine r_iload0 dX9_tens_0 ?_
    refine r_ifne (tgt := 8) dX9_tens_1 (by decide) (fun _ => ?_) (fun c9 => absurd c9 (by decide))
    refine r_iload0 dX9_tens_8 ?_
    refine r_iconst_1 dX9_tens_9 ?_
    refine r_icmpne (tgt := 19) dX9_tens_10 (by decide) (fun _ => ?_) (fun c9 => absurd c9 (by decide))
    refine r_ldc2 ct_X9_160 dX9_tens_19 ?_
    exact r_lretE dX9_tens_22 rfl (rfl) (rfl)
def mkA (C : Nat → Nat) (p : Nat) : Nat := upF (fun k => decide (sg C (k + 1) ≤ p)) 7 0
theorem sg_s (f : Nat → Nat) (k : Nat) : sg f (k + 1) = sg f k + f k := rfl
theorem c_X9_markAt (C : Nat → Nat) (p : Nat) (h : Hp) (hC : MC h C) (hp : p < sg C 7) (hb : sg C 7 < 2 ^ 31) : Rn 0 MX9_markAt [.ref 31, .int (nI p)] h (EI (nI (mkA C p)) h) := by
  refine rn_of mm_X9_markAt (le_b rfl) rfl ?_
  refine r_iload1 dX9_markAt_0 ?_
  refine r_istore2 dX9_markAt_1 rfl (by decide) ?_
  refine r_iconst_0 dX9_markAt_2 ?_
  refine r_istore3 dX9_markAt_3 rfl (by decide) ?_
  have mono : ∀ r k, k + r = 7 → sg C k ≤ sg C 7 := by
    intro r
    induction r with
    | zero => intro k hk; rw [show k = 7 by omega]; exact Nat.le_refl _
    | succ r ih => intro k hk; have := ih (k + 1) (by omega); rw [sg_s] at this; omega
  have key : ∀ f k, k + f = 7 → sg C k ≤ p → upF (fun k => decide (sg C (k + 1) ≤ p)) f k = mkA C p → Aw 0 MX9_markAt (Kp (EI (nI (mkA C p)) h)) 4 [some (.ref 31), some (.int (nI p)), some (.int (nI (p - sg C k))), some (.int (nI k))] [] h := by
    intro f
    induction f with
    | zero =>
      intro k hk hs he
      rw [show k = 7 by omega] at hs
      omega
    | succ f ih =>
      intro k hk hs he
      have hm := mono f (k + 1) (by omega)
      have e := sg_s C k
      rw [upF] at he
      refine r_iload2 dX9_markAt_4 ?_
      refine r_aload0 dX9_markAt_5 ?_
      refine r_getR dX9_markAt_6 fl_X9_47 rfl rfl ?_
      refine r_iload3 dX9_markAt_9 ?_
      refine r_ialdN dX9_markAt_10 rfl (by omega) ?_
      rw [hC k (by omega)]
      by_cases c : sg C (k + 1) ≤ p
      · rw [if_pos (decide_eq_true c)] at he
        refine r_icmplt (tgt := 29) dX9_markAt_11 (by decide) (fun c9 => absurd c9 (nI_nlt (by omega) (by omega))) (fun _ => ?_)
        refine r_iload2 dX9_markAt_14 ?_
        refine r_aload0 dX9_markAt_15 ?_
        refine r_getR dX9_markAt_16 fl_X9_47 rfl rfl ?_
        refine r_iload3 dX9_markAt_19 ?_
        refine r_ialdN dX9_markAt_20 rfl (by omega) ?_
        rw [hC k (by omega)]
        refine r_isub dX9_markAt_21 ?_
        rw [pk_sub (by omega)]
        refine r_istore2 dX9_markAt_22 rfl (by decide) ?_
        refine r_iinc3_1 dX9_markAt_23 rfl (by decide) ?_
        refine r_goto (tgt := 4) dX9_markAt_26 (by decide) ?_
        rw [nI_1]
        have e2 : p - sg C k - C k = p - sg C (k + 1) := by omega
        rw [e2]
        exact ih (k + 1) (by omega) c he
      · rw [if_neg (by simpa using c)] at he
        refine r_icmplt (tgt := 29) dX9_markAt_11 (by decide) (fun _ => ?_) (fun c9 => absurd (nI_lt (by omega) (by omega)) c9)
        refine r_iload3 dX9_markAt_29 ?_
        exact r_iretE dX9_markAt_30 rfl (by rw [he]) (rfl)
  exact key 7 0 rfl (Nat.zero_le _) rfl
