/-! Stretch.find -/
def rl (D : Nat → Nat → Int64) (n1 n2 : Nat) : Nat → Nat → Nat → Nat
  | 0, _, _ => 0
  | f + 1, i, j => if j + 1 < n2 ∧ i + 1 < n1 ∧ D (i + 1) (j + 1) = D i j then rl D n1 n2 f (i + 1) (j + 1) + 1 else 1
def rowV (D : Nat → Nat → Int64) (n1 n2 u i : Nat) : Nat := rl D n1 n2 (n2 - u) i u
theorem rl_le (D : Nat → Nat → Int64) (n1 n2 : Nat) : ∀ f i j, rl D n1 n2 f i j ≤ f := by
  intro f
  induction f with
  | zero => intro i j; exact Nat.le_refl 0
  | succ f ih =>
    intro i j
    rw [rl]
    split
    · have := ih (i + 1) (j + 1); omega
    · omega
theorem rowV_eq (D : Nat → Nat → Int64) {n1 n2 u : Nat} (i : Nat) (hu : u < n2) : rowV D n1 n2 u i = if u + 1 < n2 ∧ i + 1 < n1 ∧ D (i + 1) (u + 1) = D i u then rowV D n1 n2 (u + 1) (i + 1) + 1 else 1 := by
  unfold rowV
  rw [show n2 - u = (n2 - (u + 1)) + 1 by omega, rl]
theorem rowV_lt (D : Nat → Nat → Int64) {n1 n2 : Nat} (u i : Nat) (h : n2 ≤ 60) : rowV D n1 n2 u i < 2 ^ 31 := by
  have := rl_le D n1 n2 (n2 - u) i u
  unfold rowV
  omega
abbrev BS : Type := Nat × Int32 × Int32 × Int64
def stH (h : Hp) (A : Nat → Int32) (b : BS) : Hp := setS (pA h 29 A) (nI b.1) b.2.1 b.2.2.1 b.2.2.2
theorem stH_g (h : Hp) (A : Nat → Int32) (b : BS) (q j : Nat) : (stH h A b).1 q j = if q = 28 ∧ j = 3 then b.2.2.1 else if q = 28 ∧ j = 2 then b.2.1 else if q = 28 ∧ j = 1 then nI b.1 else if q = 29 then A j else h.1 q j := by
  unfold stH setS
  simp only [pL_1, pI_g, pA_g]
theorem stH_2 (h : Hp) (A : Nat → Int32) (b : BS) (q j : Nat) : (stH h A b).2 q j = if q = 28 ∧ j = 4 then b.2.2.2 else h.2 q j := by
  unfold stH setS
  rw [pL_g]
  rfl
theorem stH_ne (h : Hp) (A : Nat → Int32) (b : BS) {q : Nat} (j : Nat) (h1 : q ≠ 28) (h2 : q ≠ 29) : (stH h A b).1 q j = h.1 q j := by
  rw [stH_g, if_neg (fun z => h1 z.1), if_neg (fun z => h1 z.1), if_neg (fun z => h1 z.1), if_neg h2]
theorem stH_c (h : Hp) (A : Nat → Int32) (b : BS) (i : Nat) (x : Int32) : pI (stH h A b) 29 i x = stH h (upd A i x) b := by
  refine hp_ext (fun q j => ?_) (fun q j => ?_)
  · simp only [pI_g, stH_g, upd]
    by_cases e : q = 29
    · subst e
      by_cases e2 : j = i <;> simp [e2]
    · simp [e]
  · show (stH h A b).2 q j = _
    rw [stH_2, stH_2]
theorem stH_s (h : Hp) (A : Nat → Int32) (b b' : BS) : setS (stH h A b) (nI b'.1) b'.2.1 b'.2.2.1 b'.2.2.2 = stH h A b' := by
  refine hp_ext (fun q j => ?_) (fun q j => ?_)
  · unfold setS
    simp only [pL_1, pI_g, stH_g]
    by_cases e : q = 28
    · subst e
      by_cases e1 : j = 1
      · simp [e1]
      · by_cases e2 : j = 2
        · simp [e2]
        · by_cases e3 : j = 3 <;> simp [e1, e2, e3]
    · simp [e]
  · unfold setS
    simp only [pL_g, pI_2, stH_2]
    split <;> rfl
theorem stH_at (h : Hp) (A : Nat → Int32) (b : BS) (i : Nat) : (stH h A b).1 29 i = A i := by
  rw [stH_g, if_neg (by omega), if_neg (by omega), if_neg (by omega), if_pos rfl]
theorem stH_len (h : Hp) (A : Nat → Int32) (b : BS) : (stH h A b).1 28 1 = nI b.1 := by
  rw [stH_g, if_neg (by omega), if_neg (by omega), if_pos ⟨rfl, rfl⟩]
theorem stD_st (h : Hp) (A : Nat → Int32) (b : BS) {p q : Nat} (i j : Nat) (hp : isSh p) (hq : isSh q) : stD (stH h A b) p q i j = stD h p q i j := by
  have h1 := hp.1
  have h2 := hp.2
  have h3 := hq.1
  have h4 := hq.2
  unfold stD
  rw [stH_ne h A b _ (by omega) (by omega), stH_ne h A b _ (by omega) (by omega)]
/-- the rows from the last one on down to u: the longest so far -/
def bsF (D : Nat → Nat → Int64) (n1 n2 u : Nat) (b : BS) : BS := if b.1 ≤ rowV D n1 n2 u (lgI (rowV D n1 n2 u) n1) then (rowV D n1 n2 u (lgI (rowV D n1 n2 u) n1), nI u, nI (lgI (rowV D n1 n2 u) n1), D (lgI (rowV D n1 n2 u) n1) u) else b
def bsD (D : Nat → Nat → Int64) (n1 n2 : Nat) : Nat → BS → BS
  | 0, b => b
  | u + 1, b => bsD D n1 n2 u (bsF D n1 n2 u b)
def rowA (D : Nat → Nat → Int64) (n1 n2 : Nat) (g : Nat → Int32) (u : Nat) : Nat → Int32 := fun i => if i < n1 then (if u < n2 then nI (rowV D n1 n2 u i) else 0) else (if i < 61 then 0 else g i)
def midA (D : Nat → Nat → Int64) (n1 n2 : Nat) (g : Nat → Int32) (u k : Nat) : Nat → Int32 := fun i => if i < k then nI (rowV D n1 n2 u i) else rowA D n1 n2 g (u + 1) i
theorem midA_0 (D : Nat → Nat → Int64) (n1 n2 : Nat) (g : Nat → Int32) (u : Nat) : midA D n1 n2 g u 0 = rowA D n1 n2 g (u + 1) := by
  funext i
  rw [midA, if_neg (by omega)]
theorem midA_n (D : Nat → Nat → Int64) (n1 n2 : Nat) (g : Nat → Int32) {u : Nat} (hu : u < n2) : midA D n1 n2 g u n1 = rowA D n1 n2 g u := by
  funext i
  unfold midA rowA
  by_cases h : i < n1
  · rw [if_pos h, if_pos h, if_pos hu]
  · rw [if_neg h, if_neg h, if_neg h]
theorem midA_s (D : Nat → Nat → Int64) (n1 n2 : Nat) (g : Nat → Int32) (u k : Nat) : upd (midA D n1 n2 g u k) k (nI (rowV D n1 n2 u k)) = midA D n1 n2 g u (k + 1) := by
  funext i
  unfold upd midA
  by_cases h : i = k
  · subst h; rw [if_pos rfl, if_pos (by omega)]
  · rw [if_neg h]
    by_cases h2 : i < k
    · rw [if_pos h2, if_pos (by omega)]
    · rw [if_neg h2, if_neg (by omega)]
theorem bs_lt {D : Nat → Nat → Int64} {n1 n2 u : Nat} {b : BS} (hn : n2 ≤ 60) (h : b.1 < 2 ^ 31) : (bsF D n1 n2 u b).1 < 2 ^ 31 := by
  unfold bsF
  split
  · exact rowV_lt D u _ hn
  · exact h
set_option maxHeartbeats 1000000 in
theorem c_X7_find (p q n1 n2 : Nat) (h : Hp) (hp : isSh p) (hq : isSh q) (h1 : n1 ≤ 60) (h2 : n2 ≤ 60) (hs1 : h.1 p 3 = nI n1) (hs2 : h.1 q 3 = nI n2) (hn1 : 1 ≤ n1) :
    Rn 3 MX7_find [.ref 28, .ref p, .ref q] h (EV (stH h (rowA (stD h p q) n1 n2 (h.1 29) 0) (bsD (stD h p q) n1 n2 n2 (0, h.1 28 2, h.1 28 3, h.2 28 4)))) := by
  have hop := oSh hp
  have hoq := oSh hq
  have p1 := hp.1
  have p2 := hp.2
  have q1 := hq.1
  have q2 := hq.2
  refine rn_of mm_X7_find (le_b rfl) rfl ?_
  refine r_aload0 dX7_find_0 ?_
  refine r_getR dX7_find_1 fl_X7_9 rfl rfl ?_
  refine r_iconst_0 dX7_find_4 ?_
  refine r_cS2V dX7_find_5 mm_J7_fill_53178 st_J7_fill_53178 ml_X7_15 (c_fillI 29 61 0 h rfl) (by decide) (Nat.le_of_ble_eq_true rfl) ?_
  refine r_aload0 dX7_find_8 ?_
  refine r_iconst_0 dX7_find_9 ?_
  refine r_putI dX7_find_10 fw_X7_21 rfl rfl ?_
  have e0 : pI (pA h 29 (fun j => if j < 61 then 0 else h.1 29 j)) 28 1 0 = stH h (rowA (stD h p q) n1 n2 (h.1 29) n2) (0, h.1 28 2, h.1 28 3, h.2 28 4) := by
    refine hp_ext (fun x j => ?_) (fun x j => ?_)
    · simp only [pI_g, pA_g, stH_g]
      by_cases e : x = 28
      · subst e
        by_cases e1 : j = 1
        · simp [e1]; rfl
        · by_cases e2 : j = 2
          · simp [e2]
          · by_cases e3 : j = 3 <;> simp [e1, e2, e3]
      · by_cases e2 : x = 29
        · subst e2
          simp [rowA]
          intro h4 h5
          omega
        · simp [e, e2]
    · rw [stH_2]
      split
      · rename_i e; rw [e.1, e.2]; rfl
      · rfl
  rw [e0]
  refine r_aload2 dX7_find_13 ?_
  refine r_getI dX7_find_14 fl_X7_25 hoq rfl ?_
  refine r_iconst_1 dX7_find_17 ?_
  refine r_isub dX7_find_18 ?_
  rw [stH_ne h _ _ 3 (by omega) (by omega), hs2]
  refine r_istore3 dX7_find_19 rfl (by decide) ?_
  have outer : ∀ u, u ≤ n2 → ∀ (b : BS) (x4 x5 : Option Value), b.1 < 2 ^ 31 → Aw 3 MX7_find (Kp (EV (stH h (rowA (stD h p q) n1 n2 (h.1 29) 0) (bsD (stD h p q) n1 n2 u b)))) 20 [some (.ref 28), some (.ref p), some (.ref q), some (.int (nI u - 1)), x4, x5] [] (stH h (rowA (stD h p q) n1 n2 (h.1 29) u) b) := by
    intro u
    induction u with
    | zero =>
      intro _ b x4 x5 _
      refine r_iload3 dX7_find_20 ?_
      refine r_iflt (tgt := 134) dX7_find_21 (by decide) (fun _ => ?_) (fun c9 => absurd (by decide) c9)
      exact r_vretE dX7_find_134 rfl (rfl)
    | succ u ih =>
      intro hu b x4 x5 hb
      rw [nI_pred]
      refine r_iload3 dX7_find_20 ?_
      refine r_iflt (tgt := 134) dX7_find_21 (by decide) (fun c9 => absurd c9 (nI_pos (by omega))) (fun _ => ?_)
      refine r_iconst_0 dX7_find_24 ?_
      refine r_istore4 dX7_find_25 rfl (by decide) ?_
      generalize hG : (Kp (EV (stH h (rowA (stD h p q) n1 n2 (h.1 29) 0) (bsD (stD h p q) n1 n2 (u + 1) b)))) = G
      have inner : ∀ k i (x5 : Option Value), i + k = n1 → Aw 3 MX7_find G 27 [some (.ref 28), some (.ref p), some (.ref q), some (.int (nI u)), some (.int (nI i)), x5] [] (stH h (midA (stD h p q) n1 n2 (h.1 29) u i) b) := by
        intro k
        induction k with
        | zero =>
          intro i x5 hi
          have : i = n1 := by omega
          subst this
          rw [midA_n _ _ _ _ (by omega)]
          refine r_iload4 dX7_find_27 ?_
          refine r_aload1 dX7_find_29 ?_
          refine r_getI dX7_find_30 fl_X7_25 hop rfl ?_
          rw [stH_ne h _ _ 3 (by omega) (by omega), hs1]
          have r := c_X7_takeLongest p q i n2 u (rowV (stD h p q) i n2 u) b.1 (stH h (rowA (stD h p q) i n2 (h.1 29) u) b) hp hq h1 h2 (by rw [stH_ne h _ _ 3 (by omega) (by omega)]; exact hs1) (by rw [stH_ne h _ _ 3 (by omega) (by omega)]; exact hs2) hn1 (by omega) (fun j hj => ⟨by rw [stH_at, rowA, if_pos hj, if_pos (by omega)], rowV_lt _ _ _ h2⟩) (stH_len _ _ _) hb
          have eb : (if b.1 ≤ rowV (stD h p q) i n2 u (lgI (rowV (stD h p q) i n2 u) i) then setS (stH h (rowA (stD h p q) i n2 (h.1 29) u) b) (nI (rowV (stD h p q) i n2 u (lgI (rowV (stD h p q) i n2 u) i))) (nI u) (nI (lgI (rowV (stD h p q) i n2 u) i)) (stD (stH h (rowA (stD h p q) i n2 (h.1 29) u) b) p q (lgI (rowV (stD h p q) i n2 u) i) u) else stH h (rowA (stD h p q) i n2 (h.1 29) u) b) = stH h (rowA (stD h p q) i n2 (h.1 29) u) (bsF (stD h p q) i n2 u b) := by
            rw [stD_st h _ _ _ _ hp hq]
            unfold bsF
            split
            · exact stH_s h _ b (rowV (stD h p q) i n2 u (lgI (rowV (stD h p q) i n2 u) i), nI u, nI (lgI (rowV (stD h p q) i n2 u) i), stD h p q (lgI (rowV (stD h p q) i n2 u) i) u)
            · rfl
          rw [eb] at r
          refine r_icmpge (tgt := 121) dX7_find_33 (by decide) (fun _ => ?_) (fun c9 => absurd (Int32.le_refl _) c9)
          refine r_aload0 dX7_find_121 ?_
          refine r_aload1 dX7_find_122 ?_
          refine r_aload2 dX7_find_123 ?_
          refine r_iload3 dX7_find_124 ?_
          refine r_cV3V dX7_find_125 mm_X7_takeLongest im_X7_takeLongest se_X7_takeLongest ml_X7_34 rfl rfl rfl (r) (by decide) (Nat.le_of_ble_eq_true rfl) ?_
          refine r_iinc3_m1 dX7_find_128 rfl (by decide) ?_
          refine r_goto (tgt := 20) dX7_find_131 (by decide) ?_
          rw [← Int32.sub_eq_add_neg]
          subst hG
          exact ih (by omega) _ _ _ (bs_lt h2 hb)
        | succ k ihk =>
          intro i x5 hi
          have put : ∀ (g : Int32) (v : Nat), rowV (stD h p q) n1 n2 u i = v → (Aw 3 MX7_find G 27 [some (.ref 28), some (.ref p), some (.ref q), some (.int (nI u)), some (.int (nI (i + 1))), some (.int g)] [] (stH h (midA (stD h p q) n1 n2 (h.1 29) u (i + 1)) b)) → Aw 3 MX7_find G 114 [some (.ref 28), some (.ref p), some (.ref q), some (.int (nI u)), some (.int (nI i)), some (.int g)] [.int (nI v), .int (nI i), .ref 29] (stH h (midA (stD h p q) n1 n2 (h.1 29) u i) b) := by
            intro g v hv k2
            refine r_iastN dX7_find_114 rfl (by omega) ?_
            refine r_iinc4_1 dX7_find_115 rfl (by decide) ?_
            refine r_goto (tgt := 27) dX7_find_118 (by decide) ?_
            rw [stH_c, ← hv, midA_s, nI_1]
            exact k2
          have ihk := fun x => ihk (i + 1) x (by omega)
          have re := rowV_eq (stD h p q) (n1 := n1) i (by omega : u < n2)
          have no : ¬ (u + 1 < n2 ∧ i + 1 < n1 ∧ stD h p q (i + 1) (u + 1) = stD h p q i u) → Aw 3 MX7_find G 85 [some (.ref 28), some (.ref p), some (.ref q), some (.int (nI u)), some (.int (nI i)), x5] [] (stH h (midA (stD h p q) n1 n2 (h.1 29) u i) b) := by
            intro hno
            rw [if_neg hno] at re
            refine r_iconst_0 dX7_find_85 ?_
            refine r_istore5 dX7_find_86 rfl (by decide) ?_
            refine r_aload0 dX7_find_88 ?_
            refine r_getR dX7_find_89 fl_X7_9 rfl rfl ?_
            refine r_iload4 dX7_find_92 ?_
            refine r_iload5 dX7_find_94 ?_
            refine r_ifeq (tgt := 113) dX7_find_96 (by decide) (fun _ => ?_) (fun c9 => absurd (rfl) c9)
            refine r_iconst_1 dX7_find_113 ?_
            exact put 0 1 re (ihk _)
          refine r_iload4 dX7_find_27 ?_
          refine r_aload1 dX7_find_29 ?_
          refine r_getI dX7_find_30 fl_X7_25 hop rfl ?_
          rw [stH_ne h _ _ 3 (by omega) (by omega), hs1]
          refine r_icmpge (tgt := 121) dX7_find_33 (by decide) (fun c9 => absurd c9 (nI_ge (by omega) (by omega))) (fun _ => ?_)
          refine r_iload3 dX7_find_36 ?_
          refine r_iconst_1 dX7_find_37 ?_
          refine r_iadd dX7_find_38 ?_
          refine r_aload2 dX7_find_39 ?_
          refine r_getI dX7_find_40 fl_X7_25 hoq rfl ?_
          rw [stH_ne h _ _ 3 (by omega) (by omega), hs2, nI_1]
          by_cases c1 : u + 1 < n2
          · refine r_icmpge (tgt := 85) dX7_find_43 (by decide) (fun c9 => absurd c9 (nI_ge c1 (by omega))) (fun _ => ?_)
            refine r_iload4 dX7_find_46 ?_
            refine r_iconst_1 dX7_find_48 ?_
            refine r_iadd dX7_find_49 ?_
            refine r_aload1 dX7_find_50 ?_
            refine r_getI dX7_find_51 fl_X7_25 hop rfl ?_
            rw [stH_ne h _ _ 3 (by omega) (by omega), hs1, nI_1]
            by_cases c2 : i + 1 < n1
            · have s1 : (stH h (midA (stD h p q) n1 n2 (h.1 29) u i) b).1 p 3 = nI n1 := by rw [stH_ne h _ _ 3 (by omega) (by omega)]; exact hs1
              have s2 : (stH h (midA (stD h p q) n1 n2 (h.1 29) u i) b).1 q 3 = nI n2 := by rw [stH_ne h _ _ 3 (by omega) (by omega)]; exact hs2
              have ra := c_X7_stepAt p q n1 n2 (i + 1) (u + 1) _ hp hq h1 h2 s1 s2 c2 c1
              have rb := c_X7_stepAt p q n1 n2 i u _ hp hq h1 h2 s1 s2 (by omega) (by omega)
              rw [stD_st h _ _ _ _ hp hq] at ra rb
              refine r_icmpge (tgt := 85) dX7_find_54 (by decide) (fun c9 => absurd c9 (nI_ge c2 (by omega))) (fun _ => ?_)
              refine r_aload1 dX7_find_57 ?_
              refine r_iload4 dX7_find_58 ?_
              refine r_iconst_1 dX7_find_60 ?_
              refine r_iadd dX7_find_61 ?_
              rw [nI_1]
              refine r_aload2 dX7_find_62 ?_
              refine r_iload3 dX7_find_63 ?_
              refine r_iconst_1 dX7_find_64 ?_
              refine r_iadd dX7_find_65 ?_
              rw [nI_1]
              refine r_cS4L dX7_find_66 mm_X7_stepAt st_X7_stepAt ml_X7_30 (ra) (by decide) (Nat.le_of_ble_eq_true rfl) ?_
              refine r_aload1 dX7_find_69 ?_
              refine r_iload4 dX7_find_70 ?_
              refine r_aload2 dX7_find_72 ?_
              refine r_iload3 dX7_find_73 ?_
              refine r_cS4L dX7_find_74 mm_X7_stepAt st_X7_stepAt ml_X7_30 (rb) (by decide) (Nat.le_of_ble_eq_true rfl) ?_
              refine r_lne (tgt := 85) dX7_find_77 dX7_find_78 (by decide) (fun c3 => ?_) (fun c3 => ?_)
              · exact no (fun z => c3 z.2.2)
              · rw [if_pos ⟨c1, c2, c3⟩] at re
                refine r_iconst_1 dX7_find_81 ?_
                refine r_goto (tgt := 86) dX7_find_82 (by decide) ?_
                refine r_istore5 dX7_find_86 rfl (by decide) ?_
                refine r_aload0 dX7_find_88 ?_
                refine r_getR dX7_find_89 fl_X7_9 rfl rfl ?_
                refine r_iload4 dX7_find_92 ?_
                refine r_iload5 dX7_find_94 ?_
                refine r_ifeq (tgt := 113) dX7_find_96 (by decide) (fun c9 => absurd c9 (by decide)) (fun _ => ?_)
                refine r_aload0 dX7_find_99 ?_
                refine r_getR dX7_find_100 fl_X7_9 rfl rfl ?_
                refine r_iload4 dX7_find_103 ?_
                refine r_iconst_1 dX7_find_105 ?_
                refine r_iadd dX7_find_106 ?_
                rw [nI_1]
                refine r_ialdN dX7_find_107 rfl (by omega) ?_
                have ev : (stH h (midA (stD h p q) n1 n2 (h.1 29) u i) b).1 29 (i + 1) = nI (rowV (stD h p q) n1 n2 (u + 1) (i + 1)) := by
                  rw [stH_at, midA, if_neg (by omega), rowA, if_pos c2, if_pos c1]
                rw [ev]
                refine r_iconst_1 dX7_find_108 ?_
                refine r_iadd dX7_find_109 ?_
                refine r_goto (tgt := 114) dX7_find_110 (by decide) ?_
                rw [nI_1]
                exact put 1 _ re (ihk _)
            · refine r_icmpge (tgt := 85) dX7_find_54 (by decide) (fun _ => ?_) (fun c9 => absurd (nI_le (by omega) (by omega)) c9)
              exact no (fun z => c2 z.2.1)
          · refine r_icmpge (tgt := 85) dX7_find_43 (by decide) (fun _ => ?_) (fun c9 => absurd (nI_le (by omega) (by omega)) c9)
            exact no (fun z => c1 z.1)
      have i0 := inner n1 0 x5 (by omega)
      rw [midA_0] at i0
      exact i0
  exact outer n2 (Nat.le_refl _) _ none none (show (0 : Nat) < 2 ^ 31 by decide)
