/-! class Row: place 10, its counts at 11 -/
def sg (f : Nat → Nat) : Nat → Nat
  | 0 => 0
  | n + 1 => sg f n + f n
def dgt (N j : Nat) : Nat := N / 10 ^ (6 - j) % 10
theorem cPL_at {j : Nat} (h : j < 7) : cPL j = nI (10 ^ (6 - j)) := by
  have : j = 0 ∨ j = 1 ∨ j = 2 ∨ j = 3 ∨ j = 4 ∨ j = 5 ∨ j = 6 := by omega
  rcases this with rfl | rfl | rfl | rfl | rfl | rfl | rfl <;> decide
theorem p10_lt {j : Nat} : 10 ^ (6 - j) ≤ 1000000 := by
  have h1 : 6 - j ≤ 6 := by omega
  exact Nat.pow_le_pow_right (by decide) h1
theorem p10_pos (j : Nat) : 0 < 10 ^ j := Nat.pow_pos (by decide)
theorem r_ildPLN {d : Nat} {Y : MY} {K : KQT} {pc nx : Nat} {L : List (Option Value)} {S : List Value} {h : Hp} {j : Nat} (hd : Ins Y.2.1 pc (.iaload) 1 nx) (hj : j < 7) (k : Aw d Y K nx L (.int (nI (10 ^ (6 - j))) :: S) h) : Aw d Y K pc L (.int (nI j) :: .ref 60 :: S) h := by
  refine r_ildPL hd (vp_in_nI hj (by decide)) ?_
  rw [nI_clamp (by omega), cPL_at hj]
  exact k
theorem nI_rem {a d : Nat} (ha : a < 2 ^ 31) (h0 : 0 < d) (hd : d < 2 ^ 31) : rem32 (nI a) (nI d) = nI (a % d) := pk_rem ha h0 hd
theorem nI_ne {d : Nat} (h0 : 0 < d) (hd : d < 2 ^ 31) : ¬ nI d = 0 := nI_ne0 h0 hd
theorem c_X4_begin (n : Int32) (h : Hp) : Rn 1 MX4_begin [.ref 10, .int n] h (EV (pI (pA h 11 (fun j => if j < 7 then 0 else h.1 11 j)) 11 0 n)) := by
  refine rn_of mm_X4_begin (le_b rfl) rfl ?_
  refine r_aload0 dX4_begin_0 ?_
  refine r_getR dX4_begin_1 fl_X4_9 rfl rfl ?_
  refine r_iconst_0 dX4_begin_4 ?_
  refine r_cS2V dX4_begin_5 mm_J7_fill_53178 st_J7_fill_53178 ml_X4_15 (c_fillI 11 7 0 h rfl) (by decide) (Nat.le_of_ble_eq_true rfl) ?_
  refine r_aload0 dX4_begin_8 ?_
  refine r_getR dX4_begin_9 fl_X4_9 rfl rfl ?_
  refine r_iconst_0 dX4_begin_12 ?_
  refine r_iload1 dX4_begin_13 ?_
  change Aw _ _ _ _ _ [.int n, .int (nI 0), .ref 11] _
  refine r_iastN dX4_begin_14 rfl (by decide) ?_
  exact r_vretE dX4_begin_15 rfl (rfl)
/-- the greatest place below t at which there is something -/
def fm (C : Nat → Nat) : Nat → Option Nat
  | 0 => none
  | m + 1 => if 0 < C m then some m else fm C m
def stepH (h : Hp) (t m : Nat) : Hp := pI (pI (pI h 11 t 0) 11 m (h.1 11 m - 1)) 11 (m + 1) (h.1 11 t + 1)
theorem fm_lt {C : Nat → Nat} : ∀ {t m : Nat}, fm C t = some m → m < t
  | 0, m, h => by simp [fm] at h
  | t + 1, m, h => by
    rw [fm] at h
    split at h
    · cases h; omega
    · have := fm_lt h; omega
theorem c_X4_step (t : Nat) (C : Nat → Nat) (h : Hp) (ht : t ≤ 6) (hC : ∀ j, j < 7 → h.1 11 j = nI (C j) ∧ C j < 2 ^ 31) : (fm C t = none → Rn 1 MX4_step [.ref 10, .int (nI t)] h (EI 0 h)) ∧ (∀ m, fm C t = some m → Rn 1 MX4_step [.ref 10, .int (nI t)] h (EI 1 (stepH h t m))) := by
  have start : ∀ P, (Aw 1 MX4_step (Kp P) 11 [some (.ref 10), some (.int (nI t)), some (.int (nI t)), some (.int (nI t - 1)), none] [] h) → Rn 1 MX4_step [.ref 10, .int (nI t)] h P := by
    intro P k
    refine rn_of mm_X4_step (le_b rfl) rfl ?_
    refine r_iload1 dX4_step_0 ?_
    refine r_bipush bv_6 dX4_step_1 ?_
    refine r_mmin dX4_step_3 ml_X4_21 (by decide) (Nat.le_of_ble_eq_true rfl) ?_
    have e : (if (6 : Int32) < nI t then 6 else nI t) = nI t := if_neg (nI_nlt (a := 6) ht (by decide))
    rw [e]
    refine r_istore2 dX4_step_6 rfl (by decide) ?_
    refine r_iload2 dX4_step_7 ?_
    refine r_iconst_1 dX4_step_8 ?_
    refine r_isub dX4_step_9 ?_
    refine r_istore3 dX4_step_10 rfl (by decide) ?_
    exact k
  have body : ∀ P m, fm C t = some m → (P (some (.int 1)) (stepH h t m)) → ∀ u, m < u → u ≤ t → fm C u = some m → Aw 1 MX4_step (Kp P) 11 [some (.ref 10), some (.int (nI t)), some (.int (nI t)), some (.int (nI u - 1)), none] [] h := by
    intro P m hm hP u
    induction u with
    | zero => intro h1; omega
    | succ u ih =>
      intro h1 h2 h3
      rw [nI_pred]
      refine r_iload3 dX4_step_11 ?_
      refine r_iflt (tgt := 69) dX4_step_12 (by decide) (fun c9 => absurd c9 (nI_pos (by omega))) (fun _ => ?_)
      refine r_aload0 dX4_step_15 ?_
      refine r_getR dX4_step_16 fl_X4_9 rfl rfl ?_
      refine r_iload3 dX4_step_19 ?_
      refine r_ialdN dX4_step_20 rfl (by omega) ?_
      rw [fm] at h3
      by_cases hu : 0 < C u
      · rw [if_pos hu] at h3
        have : u = m := by cases h3; rfl
        subst this
        refine r_ifle (tgt := 63) dX4_step_21 (by decide) (fun c9 => absurd c9 (by rw [(hC u (by omega)).1]; exact nI_nle hu (hC u (by omega)).2)) (fun _ => ?_)
        refine r_aload0 dX4_step_24 ?_
        refine r_getR dX4_step_25 fl_X4_9 rfl rfl ?_
        refine r_iload2 dX4_step_28 ?_
        refine r_ialdN dX4_step_29 rfl (by omega) ?_
        refine r_iconst_1 dX4_step_30 ?_
        refine r_iadd dX4_step_31 ?_
        refine r_istore4 dX4_step_32 rfl (by decide) ?_
        refine r_aload0 dX4_step_34 ?_
        refine r_getR dX4_step_35 fl_X4_9 rfl rfl ?_
        refine r_iload2 dX4_step_38 ?_
        refine r_iconst_0 dX4_step_39 ?_
        refine r_iastN dX4_step_40 rfl (by omega) ?_
        refine r_aload0 dX4_step_41 ?_
        refine r_getR dX4_step_42 fl_X4_9 rfl rfl ?_
        refine r_iload3 dX4_step_45 ?_
        refine r_dup2 rfl rfl dX4_step_46 ?_
        refine r_ialdN dX4_step_47 rfl (by omega) ?_
        refine r_iconst_1 dX4_step_48 ?_
        refine r_isub dX4_step_49 ?_
        refine r_iastN dX4_step_50 rfl (by omega) ?_
        refine r_aload0 dX4_step_51 ?_
        refine r_getR dX4_step_52 fl_X4_9 rfl rfl ?_
        refine r_iload3 dX4_step_55 ?_
        refine r_iconst_1 dX4_step_56 ?_
        refine r_iadd dX4_step_57 ?_
        rw [nI_1]
        refine r_iload4 dX4_step_58 ?_
        refine r_iastN dX4_step_60 rfl (by omega) ?_
        refine r_iconst_1 dX4_step_61 ?_
        have e : (pI h 11 t 0).1 11 u = h.1 11 u := by rw [pI_g, if_neg (by omega)]
        rw [e]
        exact r_zret dX4_step_62 rfl (by decide) hP
      · rw [if_neg hu] at h3
        have h4 := fm_lt h3
        refine r_ifle (tgt := 63) dX4_step_21 (by decide) (fun _ => ?_) (fun c9 => absurd (by rw [(hC u (by omega)).1, show C u = 0 by omega]; decide) c9)
        refine r_iinc3_m1 dX4_step_63 rfl (by decide) ?_
        refine r_goto (tgt := 11) dX4_step_66 (by decide) ?_
        have e : nI u + -1 = nI u - 1 := by rw [Int32.sub_eq_add_neg]
        rw [e]
        exact ih h4 (by omega) h3
  have none' : ∀ P, P (some (.int 0)) h → ∀ u, u ≤ t → fm C u = none → Aw 1 MX4_step (Kp P) 11 [some (.ref 10), some (.int (nI t)), some (.int (nI t)), some (.int (nI u - 1)), none] [] h := by
    intro P hP u
    induction u with
    | zero =>
      intro h2 h3
      refine r_iload3 dX4_step_11 ?_
      refine r_iflt (tgt := 69) dX4_step_12 (by decide) (fun _ => ?_) (fun c9 => absurd (by decide) c9)
      refine r_iconst_0 dX4_step_69 ?_
      exact r_zret dX4_step_70 rfl (by decide) hP
    | succ u ih =>
      intro h2 h3
      rw [nI_pred]
      refine r_iload3 dX4_step_11 ?_
      refine r_iflt (tgt := 69) dX4_step_12 (by decide) (fun c9 => absurd c9 (nI_pos (by omega))) (fun _ => ?_)
      refine r_aload0 dX4_step_15 ?_
      refine r_getR dX4_step_16 fl_X4_9 rfl rfl ?_
      refine r_iload3 dX4_step_19 ?_
      refine r_ialdN dX4_step_20 rfl (by omega) ?_
      rw [fm] at h3
      by_cases hu : 0 < C u
      · rw [if_pos hu] at h3
        cases h3
      · rw [if_neg hu] at h3
        refine r_ifle (tgt := 63) dX4_step_21 (by decide) (fun _ => ?_) (fun c9 => absurd (by rw [(hC u (by omega)).1, show C u = 0 by omega]; decide) c9)
        refine r_iinc3_m1 dX4_step_63 rfl (by decide) ?_
        refine r_goto (tgt := 11) dX4_step_66 (by decide) ?_
        have e : nI u + -1 = nI u - 1 := by rw [Int32.sub_eq_add_neg]
        rw [e]
        exact ih (by omega) h3
  exact ⟨fun hn => start _ (none' _ ⟨rfl, rfl⟩ t (Nat.le_refl _) hn), fun m hm => start _ (body _ m hm ⟨rfl, rfl⟩ t (fm_lt hm) (Nat.le_refl _) hm)⟩
def numN (C : Nat → Nat) : Nat → Nat := sg (fun j => C j * 10 ^ (6 - j))
theorem c_X4_number (C : Nat → Nat) (h : Hp) (hC : ∀ j, j < 7 → h.1 11 j = nI (C j)) : Rn 0 MX4_number [.ref 10] h (EI (nI (numN C 7)) h) := by
  refine rn_of mm_X4_number (le_b rfl) rfl ?_
  refine r_iconst_0 dX4_number_0 ?_
  refine r_istore1 dX4_number_1 rfl (by decide) ?_
  refine r_iconst_0 dX4_number_2 ?_
  refine r_istore2 dX4_number_3 rfl (by decide) ?_
  have key : ∀ k i, i + k = 7 → Aw 0 MX4_number (Kp (EI (nI (numN C 7)) h)) 4 [some (.ref 10), some (.int (nI (numN C i))), some (.int (nI i))] [] h := by
    intro k
    induction k with
    | zero =>
      intro i hi
      have : i = 7 := by omega
      subst this
      refine r_iload2 dX4_number_4 ?_
      refine r_bipush bv_7 dX4_number_5 ?_
      refine r_icmpge (tgt := 31) dX4_number_7 (by decide) (fun _ => ?_) (fun c9 => absurd (Int32.le_refl _) c9)
      refine r_iload1 dX4_number_31 ?_
      exact r_iretE dX4_number_32 rfl (rfl) (rfl)
    | succ k ih =>
      intro i hi
      refine r_iload2 dX4_number_4 ?_
      refine r_bipush bv_7 dX4_number_5 ?_
      refine r_icmpge (tgt := 31) dX4_number_7 (by decide) (fun c9 => absurd c9 (nI_ge (b := 7) (by omega) (by decide))) (fun _ => ?_)
      refine r_iload1 dX4_number_10 ?_
      refine r_aload0 dX4_number_11 ?_
      refine r_getR dX4_number_12 fl_X4_9 rfl rfl ?_
      refine r_iload2 dX4_number_15 ?_
      refine r_ialdN dX4_number_16 rfl (by omega) ?_
      refine r_gsN60 rfl dX4_number_17 ?_
      refine r_iload2 dX4_number_20 ?_
      refine r_ildPLN dX4_number_21 (by omega) ?_
      refine r_imul dX4_number_22 ?_
      refine r_iadd dX4_number_23 ?_
      refine r_istore1 dX4_number_24 rfl (by decide) ?_
      refine r_iinc2_1 dX4_number_25 rfl (by decide) ?_
      refine r_goto (tgt := 4) dX4_number_28 (by decide) ?_
      rw [hC i (by omega), pk_mul, nI_add, nI_1]
      exact ih (i + 1) (by omega)
  exact key 7 0 rfl
theorem dgt_lt (N j : Nat) : dgt N j < 10 := Nat.mod_lt _ (by decide)
theorem c_X4_countIn (N j : Nat) (h : Hp) (hN : N < 2 ^ 31) (hj : j < 7) : Rn 0 MX4_countIn [.int (nI N), .int (nI j)] h (EI (nI (dgt N j)) h) := by
  refine rn_of mm_X4_countIn (le_b rfl) rfl ?_
  refine r_iload0 dX4_countIn_0 ?_
  refine r_iflt (tgt := 14) dX4_countIn_1 (by decide) (fun c9 => absurd c9 (nI_pos hN)) (fun _ => ?_)
  refine r_iload1 dX4_countIn_4 ?_
  refine r_iflt (tgt := 14) dX4_countIn_5 (by decide) (fun c9 => absurd c9 (nI_pos (by omega))) (fun _ => ?_)
  refine r_iload1 dX4_countIn_8 ?_
  refine r_bipush bv_7 dX4_countIn_9 ?_
  refine r_icmplt (tgt := 18) dX4_countIn_11 (by decide) (fun _ => ?_) (fun c9 => absurd (nI_lt (b := 7) hj (by decide)) c9)
  refine r_iload0 dX4_countIn_18 ?_
  refine r_gsN60 rfl dX4_countIn_19 ?_
  refine r_iload1 dX4_countIn_22 ?_
  refine r_ildPLN dX4_countIn_23 hj ?_
  have h1 : 10 ^ (6 - j) ≤ 1000000 := p10_lt
  have h2 : 0 < 10 ^ (6 - j) := p10_pos _
  refine r_idiv (nI_ne h2 (by omega)) dX4_countIn_24 ?_
  rw [pk_div hN h2 (by omega)]
  have h3 : N / 10 ^ (6 - j) < 2 ^ 31 := Nat.lt_of_le_of_lt (Nat.div_le_self _ _) hN
  refine r_bipush bv_10 dX4_countIn_25 ?_
  refine r_irem (by decide) dX4_countIn_27 ?_
  have e : rem32 (nI (N / 10 ^ (6 - j))) 10 = nI (dgt N j) := nI_rem (d := 10) h3 (by decide) (by decide)
  rw [e]
  exact r_iretE dX4_countIn_28 rfl (rfl) (rfl)
theorem c_X4_sumIn (N : Nat) (h : Hp) (hN : N < 2 ^ 31) : Rn 1 MX4_sumIn [.int (nI N)] h (EI (nI (sg (fun j => j * dgt N j) 7)) h) := by
  refine rn_of mm_X4_sumIn (le_b rfl) rfl ?_
  refine r_iconst_0 dX4_sumIn_0 ?_
  refine r_istore1 dX4_sumIn_1 rfl (by decide) ?_
  refine r_iconst_0 dX4_sumIn_2 ?_
  refine r_istore2 dX4_sumIn_3 rfl (by decide) ?_
  have key : ∀ k i, i + k = 7 → Aw 1 MX4_sumIn (Kp (EI (nI (sg (fun j => j * dgt N j) 7)) h)) 4 [some (.int (nI N)), some (.int (nI (sg (fun j => j * dgt N j) i))), some (.int (nI i))] [] h := by
    intro k
    induction k with
    | zero =>
      intro i hi
      have : i = 7 := by omega
      subst this
      refine r_iload2 dX4_sumIn_4 ?_
      refine r_bipush bv_7 dX4_sumIn_5 ?_
      refine r_icmpge (tgt := 26) dX4_sumIn_7 (by decide) (fun _ => ?_) (fun c9 => absurd (Int32.le_refl _) c9)
      refine r_iload1 dX4_sumIn_26 ?_
      exact r_iretE dX4_sumIn_27 rfl (rfl) (rfl)
    | succ k ih =>
      intro i hi
      refine r_iload2 dX4_sumIn_4 ?_
      refine r_bipush bv_7 dX4_sumIn_5 ?_
      refine r_icmpge (tgt := 26) dX4_sumIn_7 (by decide) (fun c9 => absurd c9 (nI_ge (b := 7) (by omega) (by decide))) (fun _ => ?_)
      refine r_iload1 dX4_sumIn_10 ?_
      refine r_iload2 dX4_sumIn_11 ?_
      refine r_iload0 dX4_sumIn_12 ?_
      refine r_iload2 dX4_sumIn_13 ?_
      refine r_cS2I dX4_sumIn_14 mm_X4_countIn st_X4_countIn ml_X4_49 (c_X4_countIn N i h hN (by omega)) (by decide) (Nat.le_of_ble_eq_true rfl) ?_
      refine r_imul dX4_sumIn_17 ?_
      refine r_iadd dX4_sumIn_18 ?_
      refine r_istore1 dX4_sumIn_19 rfl (by decide) ?_
      refine r_iinc2_1 dX4_sumIn_20 rfl (by decide) ?_
      refine r_goto (tgt := 4) dX4_sumIn_23 (by decide) ?_
      rw [pk_mul, nI_add, nI_1]
      exact ih (i + 1) (by omega)
  exact key 7 0 rfl
theorem c_X4_howMany (j : Nat) (h : Hp) (hj : j < 7) : Rn 0 MX4_howMany [.ref 10, .int (nI j)] h (EI (h.1 11 j) h) := by
  refine rn_of mm_X4_howMany (le_b rfl) rfl ?_
  refine r_iload1 dX4_howMany_0 ?_
  refine r_iflt (tgt := 10) dX4_howMany_1 (by decide) (fun c9 => absurd c9 (nI_pos (by omega))) (fun _ => ?_)
  refine r_iload1 dX4_howMany_4 ?_
  refine r_bipush bv_7 dX4_howMany_5 ?_
  refine r_icmplt (tgt := 14) dX4_howMany_7 (by decide) (fun _ => ?_) (fun c9 => absurd (nI_lt (b := 7) hj (by decide)) c9)
  refine r_aload0 dX4_howMany_14 ?_
  refine r_getR dX4_howMany_15 fl_X4_9 rfl rfl ?_
  refine r_iload1 dX4_howMany_18 ?_
  refine r_ialdN dX4_howMany_19 rfl hj ?_
  exact r_iretE dX4_howMany_20 rfl (rfl) (rfl)
/-- how many from place m on -/
def frm (C : Nat → Nat) (m : Nat) : Nat := sg (fun j => C (m + j)) (7 - m)
theorem c_X4_howManyFrom (m : Nat) (C : Nat → Nat) (h : Hp) (hm : m < 7) (hC : ∀ j, j < 7 → h.1 11 j = nI (C j)) : Rn 1 MX4_howManyFrom [.ref 10, .int (nI m)] h (EI (nI (frm C m)) h) := by
  refine rn_of mm_X4_howManyFrom (le_b rfl) rfl ?_
  refine r_iconst_0 dX4_howManyFrom_0 ?_
  refine r_istore2 dX4_howManyFrom_1 rfl (by decide) ?_
  refine r_iload1 dX4_howManyFrom_2 ?_
  refine r_iconst_0 dX4_howManyFrom_3 ?_
  refine r_mmax dX4_howManyFrom_4 ml_X4_52 (by decide) (Nat.le_of_ble_eq_true rfl) ?_
  have e : (if nI m < (0 : Int32) then 0 else nI m) = nI m := if_neg (nI_pos (by omega))
  rw [e]
  refine r_istore3 dX4_howManyFrom_7 rfl (by decide) ?_
  have key : ∀ k i, m + i + k = 7 → Aw 1 MX4_howManyFrom (Kp (EI (nI (frm C m)) h)) 8 [some (.ref 10), some (.int (nI m)), some (.int (nI (sg (fun j => C (m + j)) i))), some (.int (nI (m + i)))] [] h := by
    intro k
    induction k with
    | zero =>
      intro i hi
      have : i = 7 - m := by omega
      subst this
      refine r_iload3 dX4_howManyFrom_8 ?_
      refine r_bipush bv_7 dX4_howManyFrom_9 ?_
      refine r_icmpge (tgt := 29) dX4_howManyFrom_11 (by decide) (fun _ => ?_) (fun c9 => absurd (nI_le (a := 7) (by omega) (by omega)) c9)
      refine r_iload2 dX4_howManyFrom_29 ?_
      exact r_iretE dX4_howManyFrom_30 rfl (rfl) (rfl)
    | succ k ih =>
      intro i hi
      refine r_iload3 dX4_howManyFrom_8 ?_
      refine r_bipush bv_7 dX4_howManyFrom_9 ?_
      refine r_icmpge (tgt := 29) dX4_howManyFrom_11 (by decide) (fun c9 => absurd c9 (nI_ge (b := 7) (by omega) (by decide))) (fun _ => ?_)
      refine r_iload2 dX4_howManyFrom_14 ?_
      refine r_aload0 dX4_howManyFrom_15 ?_
      refine r_getR dX4_howManyFrom_16 fl_X4_9 rfl rfl ?_
      refine r_iload3 dX4_howManyFrom_19 ?_
      refine r_ialdN dX4_howManyFrom_20 rfl (by omega) ?_
      refine r_iadd dX4_howManyFrom_21 ?_
      refine r_istore2 dX4_howManyFrom_22 rfl (by decide) ?_
      refine r_iinc3_1 dX4_howManyFrom_23 rfl (by decide) ?_
      refine r_goto (tgt := 8) dX4_howManyFrom_26 (by decide) ?_
      rw [hC (m + i) (by omega), nI_add, nI_1]
      exact ih (i + 1) (by omega)
  exact key (7 - m) 0 (by omega)
theorem c_X4_unevenness (h : Hp) : Rn 0 MX4_unevenness [.ref 10] h (EI (h.1 10 1 * h.1 10 3 - h.1 10 2 * h.1 10 2) h) := by
  refine rn_of mm_X4_unevenness (le_b rfl) rfl ?_
  refine r_aload0 dX4_unevenness_0 ?_
  refine r_getI dX4_unevenness_1 fl_X4_30 rfl rfl ?_
  refine r_aload0 dX4_unevenness_4 ?_
  refine r_getI dX4_unevenness_5 fl_X4_37 rfl rfl ?_
  refine r_imul dX4_unevenness_8 ?_
  refine r_aload0 dX4_unevenness_9 ?_
  refine r_getI dX4_unevenness_10 fl_X4_34 rfl rfl ?_
  refine r_aload0 dX4_unevenness_13 ?_
  refine r_getI dX4_unevenness_14 fl_X4_34 rfl rfl ?_
  refine r_imul dX4_unevenness_17 ?_
  refine r_isub dX4_unevenness_18 ?_
  exact r_iretE dX4_unevenness_19 rfl (rfl) (rfl)
/-- twice the middle mark -/
def mid2 (C : Nat → Nat) (n : Nat) : Nat → Nat := sg (fun j => (if sg C (j + 1) ≤ (n - 1) / 2 then 1 else 0) + (if sg C (j + 1) ≤ n / 2 then 1 else 0))
theorem c_X4_middleTwice (n : Nat) (C : Nat → Nat) (h : Hp) (hn : 1 ≤ n) (hn2 : n < 2 ^ 31) (hs : h.1 10 1 = nI n) (hC : ∀ j, j < 7 → h.1 11 j = nI (C j)) (hb : ∀ j, j ≤ 7 → sg C j < 2 ^ 31) : Rn 0 MX4_middleTwice [.ref 10] h (EI (nI (mid2 C n 7)) h) := by
  refine rn_of mm_X4_middleTwice (le_b rfl) rfl ?_
  refine r_iconst_0 dX4_middleTwice_0 ?_
  refine r_istore1 dX4_middleTwice_1 rfl (by decide) ?_
  refine r_iconst_0 dX4_middleTwice_2 ?_
  refine r_istore2 dX4_middleTwice_3 rfl (by decide) ?_
  refine r_iconst_0 dX4_middleTwice_4 ?_
  refine r_istore3 dX4_middleTwice_5 rfl (by decide) ?_
  have e1 : (nI n - 1) / 2 = nI ((n - 1) / 2) := by
    obtain ⟨m, rfl⟩ : ∃ m, n = m + 1 := ⟨n - 1, by omega⟩
    rw [nI_pred]
    exact pk_div (d := 2) (by omega) (by decide) (by decide)
  have e2 : nI n / 2 = nI (n / 2) := pk_div (d := 2) hn2 (by decide) (by decide)
  have key : ∀ k i, i + k = 7 → Aw 0 MX4_middleTwice (Kp (EI (nI (mid2 C n 7)) h)) 6 [some (.ref 10), some (.int (nI (mid2 C n i))), some (.int (nI (sg C i))), some (.int (nI i))] [] h := by
    intro k
    induction k with
    | zero =>
      intro i hi
      have : i = 7 := by omega
      subst this
      refine r_iload3 dX4_middleTwice_6 ?_
      refine r_bipush bv_7 dX4_middleTwice_7 ?_
      refine r_icmpge (tgt := 65) dX4_middleTwice_9 (by decide) (fun _ => ?_) (fun c9 => absurd (Int32.le_refl _) c9)
      refine r_iload1 dX4_middleTwice_65 ?_
      exact r_iretE dX4_middleTwice_66 rfl (rfl) (rfl)
    | succ k ih =>
      intro i hi
      have hb1 := hb (i + 1) (by omega)
      have ih := ih (i + 1) (by omega)
      have em : mid2 C n (i + 1) = mid2 C n i + ((if sg C (i + 1) ≤ (n - 1) / 2 then 1 else 0) + (if sg C (i + 1) ≤ n / 2 then 1 else 0)) := rfl
      rw [em] at ih
      refine r_iload3 dX4_middleTwice_6 ?_
      refine r_bipush bv_7 dX4_middleTwice_7 ?_
      refine r_icmpge (tgt := 65) dX4_middleTwice_9 (by decide) (fun c9 => absurd c9 (nI_ge (b := 7) (by omega) (by decide))) (fun _ => ?_)
      refine r_iload2 dX4_middleTwice_12 ?_
      refine r_aload0 dX4_middleTwice_13 ?_
      refine r_getR dX4_middleTwice_14 fl_X4_9 rfl rfl ?_
      refine r_iload3 dX4_middleTwice_17 ?_
      refine r_ialdN dX4_middleTwice_18 rfl (by omega) ?_
      refine r_iadd dX4_middleTwice_19 ?_
      refine r_istore2 dX4_middleTwice_20 rfl (by decide) ?_
      refine r_iload1 dX4_middleTwice_21 ?_
      refine r_iload2 dX4_middleTwice_22 ?_
      refine r_aload0 dX4_middleTwice_23 ?_
      refine r_getI dX4_middleTwice_24 fl_X4_30 rfl rfl ?_
      refine r_iconst_1 dX4_middleTwice_27 ?_
      refine r_isub dX4_middleTwice_28 ?_
      refine r_iconst_2 dX4_middleTwice_29 ?_
      refine r_idiv (by decide) dX4_middleTwice_30 ?_
      rw [hC i (by omega), nI_add, hs, e1]
      have es : sg C i + C i = sg C (i + 1) := rfl
      rw [es]
      have tail : ∀ a : Nat, Aw 0 MX4_middleTwice (Kp (EI (nI (mid2 C n 7)) h)) 6 [some (.ref 10), some (.int (nI (mid2 C n i + (a + (if sg C (i + 1) ≤ n / 2 then 1 else 0))))), some (.int (nI (sg C (i + 1)))), some (.int (nI (i + 1)))] [] h → Aw 0 MX4_middleTwice (Kp (EI (nI (mid2 C n 7)) h)) 39 [some (.ref 10), some (.int (nI (mid2 C n i))), some (.int (nI (sg C (i + 1)))), some (.int (nI i))] [.int (nI a), .int (nI (mid2 C n i))] h := by
        intro a k2
        refine r_iadd dX4_middleTwice_39 ?_
        refine r_istore1 dX4_middleTwice_40 rfl (by decide) ?_
        refine r_iload1 dX4_middleTwice_41 ?_
        refine r_iload2 dX4_middleTwice_42 ?_
        refine r_aload0 dX4_middleTwice_43 ?_
        refine r_getI dX4_middleTwice_44 fl_X4_30 rfl rfl ?_
        refine r_iconst_2 dX4_middleTwice_47 ?_
        refine r_idiv (by decide) dX4_middleTwice_48 ?_
        rw [nI_add, hs, e2]
        refine r_icmpgt (tgt := 56) dX4_middleTwice_49 (by decide) (fun c => ?_) (fun c => ?_)
        · refine r_iconst_0 dX4_middleTwice_56 ?_
          refine r_iadd dX4_middleTwice_57 ?_
          refine r_istore1 dX4_middleTwice_58 rfl (by decide) ?_
          refine r_iinc3_1 dX4_middleTwice_59 rfl (by decide) ?_
          refine r_goto (tgt := 6) dX4_middleTwice_62 (by decide) ?_
          have c' : ¬ sg C (i + 1) ≤ n / 2 := fun q => absurd c (nI_nlt q (by omega))
          rw [if_neg c'] at k2
          rw [Int32.add_zero, nI_1]
          exact k2
        · refine r_iconst_1 dX4_middleTwice_52 ?_
          refine r_goto (tgt := 57) dX4_middleTwice_53 (by decide) ?_
          refine r_iadd dX4_middleTwice_57 ?_
          refine r_istore1 dX4_middleTwice_58 rfl (by decide) ?_
          refine r_iinc3_1 dX4_middleTwice_59 rfl (by decide) ?_
          refine r_goto (tgt := 6) dX4_middleTwice_62 (by decide) ?_
          have c' : sg C (i + 1) ≤ n / 2 := Nat.le_of_not_lt fun q => c (nI_lt q (by omega))
          rw [if_pos c', ← Nat.add_assoc] at k2
          rw [nI_1, nI_1]
          exact k2
      refine r_icmpgt (tgt := 38) dX4_middleTwice_31 (by decide) (fun c => ?_) (fun c => ?_)
      · refine r_iconst_0 dX4_middleTwice_38 ?_
        have c' : ¬ sg C (i + 1) ≤ (n - 1) / 2 := fun q => absurd c (nI_nlt q (by omega))
        rw [if_neg c'] at ih
        exact tail 0 ih
      · refine r_iconst_1 dX4_middleTwice_34 ?_
        refine r_goto (tgt := 39) dX4_middleTwice_35 (by decide) ?_
        have c' : sg C (i + 1) ≤ (n - 1) / 2 := Nat.le_of_not_lt fun q => c (nI_lt q (by omega))
        rw [if_pos c'] at ih
        exact tail 1 ih
  exact key 7 0 rfl
