/-! Row.take -/
abbrev TK : Type := Int32 × Int32 × Int32 × Int32 × Int32 × Int32 × Int32
def rowH (h : Hp) (C : Nat → Int32) (a : TK) : Hp := (fun q j => if q = 11 then C j else if q = 10 then (if j = 1 then a.1 else if j = 2 then a.2.1 else if j = 3 then a.2.2.1 else if j = 4 then a.2.2.2.1 else if j = 5 then a.2.2.2.2.1 else if j = 6 then a.2.2.2.2.2.1 else h.1 10 j) else h.1 q j, h.2)
def tkF (u t : Nat) (a : TK) : TK := if 0 < t then (a.1 + nI t, a.2.1 + nI (u * t), a.2.2.1 + nI (u * u * t), nI u, (if a.2.2.2.2.1 = -1 then nI u else a.2.2.2.2.1), (if nI t < a.2.2.2.2.2.2 then a.2.2.2.2.2.1 else nI u), (if nI t < a.2.2.2.2.2.2 then a.2.2.2.2.2.2 else nI t)) else a
def tk (D : Nat → Nat) : Nat → TK → TK
  | 0, a => a
  | u + 1, a => tk D u (tkF u (D u) a)
theorem rowH_1 (h : Hp) (C : Nat → Int32) (a : TK) (x : Int32) : pI (rowH h C a) 10 1 x = rowH h C (x, a.2.1, a.2.2.1, a.2.2.2.1, a.2.2.2.2.1, a.2.2.2.2.2.1, a.2.2.2.2.2.2) := by
  refine hp_ext (fun q j => ?_) (fun q j => rfl)
  simp only [pI_g, rowH]
  by_cases e : q = 10
  · subst e
    by_cases e2 : j = 1 <;> simp [e2]
  · simp [e]
theorem rowH_2 (h : Hp) (C : Nat → Int32) (a : TK) (x : Int32) : pI (rowH h C a) 10 2 x = rowH h C (a.1, x, a.2.2.1, a.2.2.2.1, a.2.2.2.2.1, a.2.2.2.2.2.1, a.2.2.2.2.2.2) := by
  refine hp_ext (fun q j => ?_) (fun q j => rfl)
  simp only [pI_g, rowH]
  by_cases e : q = 10
  · subst e
    by_cases e2 : j = 2 <;> simp [e2]
  · simp [e]
theorem rowH_3 (h : Hp) (C : Nat → Int32) (a : TK) (x : Int32) : pI (rowH h C a) 10 3 x = rowH h C (a.1, a.2.1, x, a.2.2.2.1, a.2.2.2.2.1, a.2.2.2.2.2.1, a.2.2.2.2.2.2) := by
  refine hp_ext (fun q j => ?_) (fun q j => rfl)
  simp only [pI_g, rowH]
  by_cases e : q = 10
  · subst e
    by_cases e2 : j = 3 <;> simp [e2]
  · simp [e]
theorem rowH_4 (h : Hp) (C : Nat → Int32) (a : TK) (x : Int32) : pI (rowH h C a) 10 4 x = rowH h C (a.1, a.2.1, a.2.2.1, x, a.2.2.2.2.1, a.2.2.2.2.2.1, a.2.2.2.2.2.2) := by
  refine hp_ext (fun q j => ?_) (fun q j => rfl)
  simp only [pI_g, rowH]
  by_cases e : q = 10
  · subst e
    by_cases e2 : j = 4 <;> simp [e2]
  · simp [e]
theorem rowH_5 (h : Hp) (C : Nat → Int32) (a : TK) (x : Int32) : pI (rowH h C a) 10 5 x = rowH h C (a.1, a.2.1, a.2.2.1, a.2.2.2.1, x, a.2.2.2.2.2.1, a.2.2.2.2.2.2) := by
  refine hp_ext (fun q j => ?_) (fun q j => rfl)
  simp only [pI_g, rowH]
  by_cases e : q = 10
  · subst e
    by_cases e2 : j = 5 <;> simp [e2]
  · simp [e]
theorem rowH_6 (h : Hp) (C : Nat → Int32) (a : TK) (x y : Int32) : pI (rowH h C a) 10 6 x = rowH h C (a.1, a.2.1, a.2.2.1, a.2.2.2.1, a.2.2.2.2.1, x, y) := by
  refine hp_ext (fun q j => ?_) (fun q j => rfl)
  simp only [pI_g, rowH]
  by_cases e : q = 10
  · subst e
    by_cases e2 : j = 6 <;> simp [e2]
  · simp [e]
theorem rowH_m (h : Hp) (C : Nat → Int32) (a : TK) (y : Int32) : rowH h C a = rowH h C (a.1, a.2.1, a.2.2.1, a.2.2.2.1, a.2.2.2.2.1, a.2.2.2.2.2.1, y) := rfl
theorem rowH_c (h : Hp) (C : Nat → Int32) (a : TK) (i : Nat) (x : Int32) : pI (rowH h C a) 11 i x = rowH h (upd C i x) a := by
  refine hp_ext (fun q j => ?_) (fun q j => rfl)
  simp only [pI_g, rowH, upd]
  by_cases e : q = 11
  · subst e
    by_cases e2 : j = i <;> simp [e2]
  · simp [e]
theorem rowH_0 (h : Hp) : rowH h (h.1 11) (h.1 10 1, h.1 10 2, h.1 10 3, h.1 10 4, h.1 10 5, h.1 10 6, 0) = h := by
  refine hp_ext (fun q j => ?_) (fun q j => rfl)
  simp only [rowH]
  by_cases e : q = 11
  · subst e; simp
  · by_cases e2 : q = 10
    · subst e2
      simp only [if_neg e, if_true]
      split
      · rename_i q1; rw [q1]
      · split
        · rename_i q1; rw [q1]
        · split
          · rename_i q1; rw [q1]
          · split
            · rename_i q1; rw [q1]
            · split
              · rename_i q1; rw [q1]
              · split
                · rename_i q1; rw [q1]
                · rfl
    · simp [e, e2]
def dgC (N : Nat) (C : Nat → Int32) (u : Nat) : Nat → Int32 := fun j => if u ≤ j ∧ j < 7 then nI (dgt N j) else C j
theorem dgC_s (N : Nat) (C : Nat → Int32) {u : Nat} (hu : u < 7) : upd (dgC N C (u + 1)) u (nI (dgt N u)) = dgC N C u := by
  funext j
  unfold upd dgC
  by_cases e : j = u
  · subst e; simp [hu]
  · by_cases e2 : u + 1 ≤ j ∧ j < 7
    · simp [e, e2, show u ≤ j by omega]
    · have : ¬ (u ≤ j ∧ j < 7) := by omega
      simp [e, e2, this]
set_option maxHeartbeats 1000000 in
theorem c_X4_take (N : Nat) (h : Hp) (hN : N < 2 ^ 31) : Rn 0 MX4_take [.ref 10, .int (nI N)] h (EV (rowH h (dgC N (h.1 11) 0) (tk (dgt N) 7 (0, 0, 0, -1, -1, -1, 0)))) := by
  refine rn_of mm_X4_take (le_b rfl) rfl ?_
  refine r_aload0 dX4_take_0 ?_
  refine r_iconst_0 dX4_take_1 ?_
  refine r_putI dX4_take_2 fw_X4_30 rfl rfl ?_
  refine r_aload0 dX4_take_5 ?_
  refine r_iconst_0 dX4_take_6 ?_
  refine r_putI dX4_take_7 fw_X4_34 rfl rfl ?_
  refine r_aload0 dX4_take_10 ?_
  refine r_iconst_0 dX4_take_11 ?_
  refine r_putI dX4_take_12 fw_X4_37 rfl rfl ?_
  refine r_aload0 dX4_take_15 ?_
  refine r_iconst_m1 dX4_take_16 ?_
  refine r_putI dX4_take_17 fw_X4_40 rfl rfl ?_
  refine r_aload0 dX4_take_20 ?_
  refine r_iconst_m1 dX4_take_21 ?_
  refine r_putI dX4_take_22 fw_X4_43 rfl rfl ?_
  refine r_aload0 dX4_take_25 ?_
  refine r_iconst_m1 dX4_take_26 ?_
  refine r_putI dX4_take_27 fw_X4_46 rfl rfl ?_
  refine r_iconst_0 dX4_take_30 ?_
  refine r_istore2 dX4_take_31 rfl (by decide) ?_
  refine r_iload1 dX4_take_32 ?_
  refine r_istore3 dX4_take_33 rfl (by decide) ?_
  refine r_bipush bv_6 dX4_take_34 ?_
  refine r_istore4 dX4_take_36 rfl (by decide) ?_
  have e0 : pI (pI (pI (pI (pI (pI h 10 1 0) 10 2 0) 10 3 0) 10 4 (-1)) 10 5 (-1)) 10 6 (-1) = rowH h (dgC N (h.1 11) 7) (0, 0, 0, -1, -1, -1, 0) := by
    have q : dgC N (h.1 11) 7 = h.1 11 := by
      funext j
      unfold dgC
      rw [if_neg (by omega)]
    rw [q]
    have q2 : pI (pI (pI (pI (pI (pI h 10 1 0) 10 2 0) 10 3 0) 10 4 (-1)) 10 5 (-1)) 10 6 (-1) = pI (pI (pI (pI (pI (pI (rowH h (h.1 11) (h.1 10 1, h.1 10 2, h.1 10 3, h.1 10 4, h.1 10 5, h.1 10 6, 0)) 10 1 0) 10 2 0) 10 3 0) 10 4 (-1)) 10 5 (-1)) 10 6 (-1) := by rw [rowH_0]
    rw [q2, rowH_1, rowH_2, rowH_3, rowH_4, rowH_5, rowH_6 _ _ _ _ 0]
  rw [e0]
  have key : ∀ u, u ≤ 7 → ∀ (a : TK) (x5 : Option Value), Aw 0 MX4_take (Kp (EV (rowH h (dgC N (h.1 11) 0) (tk (dgt N) u a)))) 38 [some (.ref 10), some (.int (nI N)), some (.int a.2.2.2.2.2.2), some (.int (nI (N / 10 ^ (7 - u)))), some (.int (nI u - 1)), x5] [] (rowH h (dgC N (h.1 11) u) a) := by
    intro u
    induction u with
    | zero =>
      intro _ a x5
      refine r_iload4 dX4_take_38 ?_
      refine r_iflt (tgt := 163) dX4_take_40 (by decide) (fun _ => ?_) (fun c9 => absurd (by decide) c9)
      exact r_vretE dX4_take_163 rfl (rfl)
    | succ u ih =>
      intro hu a x5
      obtain ⟨s, q, r, l, g, c, m⟩ := a
      have h7 : 7 - (u + 1) = 6 - u := by omega
      rw [h7, nI_pred]
      have hd1 : N / 10 ^ (6 - u) < 2 ^ 31 := Nat.lt_of_le_of_lt (Nat.div_le_self _ _) hN
      refine r_iload4 dX4_take_38 ?_
      refine r_iflt (tgt := 163) dX4_take_40 (by decide) (fun c9 => absurd c9 (nI_pos (by omega))) (fun _ => ?_)
      refine r_iload3 dX4_take_43 ?_
      refine r_bipush bv_10 dX4_take_44 ?_
      refine r_irem (by decide) dX4_take_46 ?_
      have e1 : rem32 (nI (N / 10 ^ (6 - u))) 10 = nI (dgt N u) := nI_rem (d := 10) hd1 (by decide) (by decide)
      rw [e1]
      refine r_istore5 dX4_take_47 rfl (by decide) ?_
      refine r_iload3 dX4_take_49 ?_
      refine r_bipush bv_10 dX4_take_50 ?_
      refine r_idiv (by decide) dX4_take_52 ?_
      have e2 : nI (N / 10 ^ (6 - u)) / 10 = nI (N / 10 ^ (7 - u)) := by
        have q1 := pk_div (d := 10) hd1 (by decide) (by decide)
        rw [Nat.div_div_eq_div_mul, ← Nat.pow_succ, show (6 - u).succ = 7 - u by omega] at q1
        exact q1
      rw [e2]
      refine r_istore3 dX4_take_53 rfl (by decide) ?_
      refine r_aload0 dX4_take_54 ?_
      refine r_getR dX4_take_55 fl_X4_9 rfl rfl ?_
      refine r_iload4 dX4_take_58 ?_
      refine r_iload5 dX4_take_60 ?_
      refine r_iastN dX4_take_62 rfl (by omega) ?_
      rw [rowH_c, dgC_s N (h.1 11) (by omega)]
      have ht := dgt_lt N u
      have ih := ih (by omega)
      show Aw 0 MX4_take (Kp (EV (rowH h (dgC N (h.1 11) 0) (tk (dgt N) u (tkF u (dgt N u) (s, q, r, l, g, c, m)))))) _ _ _ _
      generalize dgt N u = t at ht ih ⊢
      by_cases h0 : 0 < t
      · have ef : tkF u t (s, q, r, l, g, c, m) = (s + nI t, q + nI (u * t), r + nI (u * u * t), nI u, (if g = -1 then nI u else g), (if nI t < m then c else nI u), (if nI t < m then m else nI t)) := by rw [tkF, if_pos h0]
        have ih := ih (tkF u t (s, q, r, l, g, c, m))
        rw [ef] at ih ⊢
        dsimp only at ih
        refine r_iload5 dX4_take_63 ?_
        refine r_ifle (tgt := 137) dX4_take_65 (by decide) (fun c9 => absurd c9 (nI_nle h0 (by omega))) (fun _ => ?_)
        refine r_aload0 dX4_take_68 ?_
        refine r_dup rfl dX4_take_69 ?_
        refine r_getI dX4_take_70 fl_X4_30 rfl rfl ?_
        refine r_iload5 dX4_take_73 ?_
        refine r_iadd dX4_take_75 ?_
        refine r_putI dX4_take_76 fw_X4_30 rfl rfl ?_
        rw [rowH_1]
        refine r_aload0 dX4_take_79 ?_
        refine r_dup rfl dX4_take_80 ?_
        refine r_getI dX4_take_81 fl_X4_34 rfl rfl ?_
        refine r_iload4 dX4_take_84 ?_
        refine r_iload5 dX4_take_86 ?_
        refine r_imul dX4_take_88 ?_
        refine r_iadd dX4_take_89 ?_
        refine r_putI dX4_take_90 fw_X4_34 rfl rfl ?_
        rw [rowH_2]
        refine r_aload0 dX4_take_93 ?_
        refine r_dup rfl dX4_take_94 ?_
        refine r_getI dX4_take_95 fl_X4_37 rfl rfl ?_
        refine r_iload4 dX4_take_98 ?_
        refine r_iload4 dX4_take_100 ?_
        refine r_imul dX4_take_102 ?_
        refine r_iload5 dX4_take_103 ?_
        refine r_imul dX4_take_105 ?_
        refine r_iadd dX4_take_106 ?_
        refine r_putI dX4_take_107 fw_X4_37 rfl rfl ?_
        rw [rowH_3, pk_mul, pk_mul, pk_mul]
        refine r_aload0 dX4_take_110 ?_
        refine r_iload4 dX4_take_111 ?_
        refine r_putI dX4_take_113 fw_X4_40 rfl rfl ?_
        rw [rowH_4]
        have tail : ∀ g', g' = (if g = -1 then nI u else g) → Aw 0 MX4_take (Kp (EV (rowH h (dgC N (h.1 11) 0) (tk (dgt N) u (s + nI t, q + nI (u * t), r + nI (u * u * t), nI u, (if g = -1 then nI u else g), (if nI t < m then c else nI u), (if nI t < m then m else nI t)))))) 137 [some (.ref 10), some (.int (nI N)), some (.int m), some (.int (nI (N / 10 ^ (7 - u)))), some (.int (nI u)), some (.int (nI t))] [] (rowH h (dgC N (h.1 11) u) (s + nI t, q + nI (u * t), r + nI (u * u * t), nI u, g', c, m)) := by
          intro g' hg
          subst hg
          refine r_iload5 dX4_take_137 ?_
          refine r_ifle (tgt := 157) dX4_take_139 (by decide) (fun c9 => absurd c9 (nI_nle h0 (by omega))) (fun _ => ?_)
          refine r_iload5 dX4_take_142 ?_
          refine r_iload2 dX4_take_144 ?_
          refine r_icmplt (tgt := 157) dX4_take_145 (by decide) (fun c3 => ?_) (fun c3 => ?_)
          · refine r_iinc4_m1 dX4_take_157 rfl (by decide) ?_
            refine r_goto (tgt := 38) dX4_take_160 (by decide) ?_
            rw [if_pos c3, if_pos c3] at ih
            rw [if_pos c3, if_pos c3, ← Int32.sub_eq_add_neg]
            exact ih _
          · refine r_iload5 dX4_take_148 ?_
            refine r_istore2 dX4_take_150 rfl (by decide) ?_
            refine r_aload0 dX4_take_151 ?_
            refine r_iload4 dX4_take_152 ?_
            refine r_putI dX4_take_154 fw_X4_46 rfl rfl ?_
            refine r_iinc4_m1 dX4_take_157 rfl (by decide) ?_
            refine r_goto (tgt := 38) dX4_take_160 (by decide) ?_
            rw [if_neg c3, if_neg c3] at ih
            rw [rowH_6 _ _ _ _ (nI t), if_neg c3, if_neg c3, ← Int32.sub_eq_add_neg]
            exact ih _
        refine r_aload0 dX4_take_116 ?_
        refine r_aload0 dX4_take_117 ?_
        refine r_getI dX4_take_118 fl_X4_43 rfl rfl ?_
        refine r_iconst_m1 dX4_take_121 ?_
        change Aw _ _ _ _ _ [.int (-1), .int g, .ref 10] _
        refine r_icmpne (tgt := 130) dX4_take_122 (by decide) (fun c2 => ?_) (fun c2 => ?_)
        · refine r_aload0 dX4_take_130 ?_
          refine r_getI dX4_take_131 fl_X4_43 rfl rfl ?_
          refine r_putI dX4_take_134 fw_X4_43 rfl rfl ?_
          rw [rowH_5]
          exact tail _ (by rw [if_neg c2]; rfl)
        · refine r_iload4 dX4_take_125 ?_
          refine r_goto (tgt := 134) dX4_take_127 (by decide) ?_
          refine r_putI dX4_take_134 fw_X4_43 rfl rfl ?_
          rw [rowH_5]
          exact tail _ (by rw [if_pos c2])
      · have t0 : t = 0 := by omega
        subst t0
        have ef : tkF u 0 (s, q, r, l, g, c, m) = (s, q, r, l, g, c, m) := rfl
        rw [ef]
        refine r_iload5 dX4_take_63 ?_
        refine r_ifle (tgt := 137) dX4_take_65 (by decide) (fun _ => ?_) (fun c9 => absurd (by decide) c9)
        refine r_iload5 dX4_take_137 ?_
        refine r_ifle (tgt := 157) dX4_take_139 (by decide) (fun _ => ?_) (fun c9 => absurd (by decide) c9)
        refine r_iinc4_m1 dX4_take_157 rfl (by decide) ?_
        refine r_goto (tgt := 38) dX4_take_160 (by decide) ?_
        rw [← Int32.sub_eq_add_neg]
        exact ih _ _
  have k7 := key 7 (Nat.le_refl 7) (0, 0, 0, -1, -1, -1, 0) none
  rw [show N / 10 ^ (7 - 7) = N from Nat.div_one N, show nI 7 - 1 = 6 by decide] at k7
  exact k7
