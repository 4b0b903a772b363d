/-! the reference: lastChance, firstChance -/
def cnN (g : Int32 → Int32) (f : Int32) (a : Nat → Int32) (n : Nat) : Nat := lp (fun i acc => if g (a i) = f then acc + 1 else acc) 0 n 0
theorem cn_lp (g : Int32 → Int32) (f : Int32) (a : Nat → Int32) : ∀ n i c, lp (fun i (acc : Int32) => if g (a i) = f then acc + 1 else acc) i n (nI c) = nI (lp (fun i acc => if g (a i) = f then acc + 1 else acc) i n c) ∧ lp (fun i acc => if g (a i) = f then acc + 1 else acc) i n c ≤ c + n ∧ c ≤ lp (fun i acc => if g (a i) = f then acc + 1 else acc) i n c := by
  intro n
  induction n with
  | zero => intro i c; exact ⟨rfl, Nat.le_refl _, Nat.le_refl _⟩
  | succ n ih =>
    intro i c
    simp only [lp_s]
    by_cases q : g (a i) = f
    · simp only [if_pos q]
      rw [nI_1]
      obtain ⟨e1, e2, e3⟩ := ih (i + 1) (c + 1)
      exact ⟨e1, by omega, by omega⟩
    · simp only [if_neg q]
      obtain ⟨e1, e2, e3⟩ := ih (i + 1) c
      exact ⟨e1, by omega, by omega⟩
theorem cn_eq (g : Int32 → Int32) (f : Int32) (a : Nat → Int32) (n : Nat) : cntF g f a n = nI (cnN g f a n) := (cn_lp g f a n 0 0).1
theorem cn_le (g : Int32 → Int32) (f : Int32) (a : Nat → Int32) (n : Nat) : cnN g f a n ≤ n := by
  have := (cn_lp g f a n 0 0).2.1
  unfold cnN
  omega
theorem cn_pos (g : Int32 → Int32) (f : Int32) (a : Nat → Int32) {n : Nat} (hn : 1 ≤ n) (h0 : g (a 0) = f) : 1 ≤ cnN g f a n := by
  obtain ⟨m, rfl⟩ : ∃ m, n = m + 1 := ⟨n - 1, by omega⟩
  have := (cn_lp g f a m 1 1).2.2
  unfold cnN
  rw [lp_s, if_pos h0]
  exact this
def moN (a : Nat → Int32) (n : Nat) : Nat := lp (fun f m => if m < cnN fEnd (nI f) a n then cnN fEnd (nI f) a n else m) 0 10 0
theorem mo_lp (a : Nat → Int32) {n : Nat} (hn : n ≤ 60) : ∀ k i m, m ≤ n → lp (fun f (m : Int32) => if m < cntF fEnd (nI f) a n then cntF fEnd (nI f) a n else m) i k (nI m) = nI (lp (fun f m => if m < cnN fEnd (nI f) a n then cnN fEnd (nI f) a n else m) i k m) ∧ lp (fun f m => if m < cnN fEnd (nI f) a n then cnN fEnd (nI f) a n else m) i k m ≤ n ∧ m ≤ lp (fun f m => if m < cnN fEnd (nI f) a n then cnN fEnd (nI f) a n else m) i k m ∧ ∀ f, i ≤ f → f < i + k → cnN fEnd (nI f) a n ≤ lp (fun f m => if m < cnN fEnd (nI f) a n then cnN fEnd (nI f) a n else m) i k m := by
  intro k
  induction k with
  | zero => intro i m hm; exact ⟨rfl, hm, Nat.le_refl _, fun f h1 h2 => by omega⟩
  | succ k ih =>
    intro i m hm
    have hc := cn_le fEnd (nI i) a n
    simp only [lp_s]
    by_cases q : m < cnN fEnd (nI i) a n
    · have q2 : nI m < cntF fEnd (nI i) a n := by rw [cn_eq]; exact nI_lt q (by omega)
      simp only [if_pos q, if_pos q2]
      rw [cn_eq fEnd (nI i) a n]
      obtain ⟨e1, e2, e3, e4⟩ := ih (i + 1) _ hc
      refine ⟨e1, e2, by omega, fun f h1 h2 => ?_⟩
      by_cases e : f = i
      · subst e; exact e3
      · exact e4 f (by omega) (by omega)
    · have q2 : ¬ nI m < cntF fEnd (nI i) a n := by rw [cn_eq]; exact nI_nlt (by omega) (by omega)
      simp only [if_neg q, if_neg q2]
      obtain ⟨e1, e2, e3, e4⟩ := ih (i + 1) _ hm
      refine ⟨e1, e2, e3, fun f h1 h2 => ?_⟩
      by_cases e : f = i
      · subst e; omega
      · exact e4 f (by omega) (by omega)
theorem mo_eq (a : Nat → Int32) {n : Nat} (hn : n ≤ 60) : fMostE a n = nI (moN a n) := (mo_lp a hn 10 0 0 (by omega)).1
theorem mo_le (a : Nat → Int32) {n : Nat} (hn : n ≤ 60) : moN a n ≤ n := (mo_lp a hn 10 0 0 (by omega)).2.1
theorem mo_pos (a : Nat → Int32) {n : Nat} (hn : n ≤ 60) (h1 : 1 ≤ n) : 1 ≤ moN a n := by
  have e := (mo_lp a hn 10 0 0 (by omega)).2.2.2 (amN (a 0) % 10) (by omega) (by omega)
  have := cn_pos fEnd (nI (amN (a 0) % 10)) a h1 (fEnd_nI (a 0))
  unfold moN
  omega
theorem c_X9_lastChance_bad (s : Int32) (h : Hp) (hb : ¬ okS s) : Rn 2 MX9_lastChance [.ref 31, .int s] h (EI (-2) h) := by
  refine rn_of mm_X9_lastChance (le_b rfl) rfl ?_
  refine r_iload1 dX9_lastChance_0 ?_
  refine r_cS1I dX9_lastChance_1 mm_X9_isSheet st_X9_isSheet ml_X9_78 (c_mS_n h hb) (by decide) (Nat.le_of_ble_eq_true rfl) ?_
  refine r_ifne (tgt := 10) dX9_lastChance_4 (by decide) (fun c9 => absurd (rfl) c9) (fun _ => ?_)
  refine r_bipush bv_m2 dX9_lastChance_7 ?_
  exact r_iretE dX9_lastChance_9 rfl (rfl) (rfl)
theorem c_X9_lastChance_null (j : Nat) (h : Hp) (hj : j < 4) (hl : h.1 32 j < 0) : Rn 2 MX9_lastChance [.ref 31, .int (nI j)] h (EI (-11) (pI h 31 4 1)) := by
  refine rn_of mm_X9_lastChance (le_b rfl) rfl ?_
  refine r_iload1 dX9_lastChance_0 ?_
  refine r_cS1I dX9_lastChance_1 mm_X9_isSheet st_X9_isSheet ml_X9_78 (c_mS_y h (okj hj)) (by decide) (Nat.le_of_ble_eq_true rfl) ?_
  refine r_ifne (tgt := 10) dX9_lastChance_4 (by decide) (fun _ => ?_) (fun c9 => absurd c9 (by decide))
  refine r_aload0 dX9_lastChance_10 ?_
  refine r_getR dX9_lastChance_11 fl_X9_7 rfl rfl ?_
  refine r_iload1 dX9_lastChance_14 ?_
  refine r_ialdN dX9_lastChance_15 rfl hj ?_
  refine r_ifge (tgt := 25) dX9_lastChance_16 (by decide) (fun c9 => absurd c9 (fun q => absurd hl (Int32.not_lt.mpr q))) (fun _ => ?_)
  refine r_aload0 dX9_lastChance_19 ?_
  refine r_iconst_1 dX9_lastChance_20 ?_
  refine r_cV1I dX9_lastChance_21 mm_X9_met im_X9_met se_X9_met ml_X9_84 rfl rfl rfl (c_X9_met 1 h) (by decide) (Nat.le_of_ble_eq_true rfl) ?_
  exact r_iretE dX9_lastChance_24 rfl (rfl) (rfl)
theorem c_X9_lastChance_full (j : Nat) (h : Hp) (hj : j < 4) (hS : MS4 h) (hl : ¬ h.1 32 j < 0) (hf : 12 < mz h j) : Rn 2 MX9_lastChance [.ref 31, .int (nI j)] h (EI (-4) h) := by
  obtain ⟨z1, z2⟩ := hS j hj
  refine rn_of mm_X9_lastChance (le_b rfl) rfl ?_
  refine r_iload1 dX9_lastChance_0 ?_
  refine r_cS1I dX9_lastChance_1 mm_X9_isSheet st_X9_isSheet ml_X9_78 (c_mS_y h (okj hj)) (by decide) (Nat.le_of_ble_eq_true rfl) ?_
  refine r_ifne (tgt := 10) dX9_lastChance_4 (by decide) (fun _ => ?_) (fun c9 => absurd c9 (by decide))
  refine r_aload0 dX9_lastChance_10 ?_
  refine r_getR dX9_lastChance_11 fl_X9_7 rfl rfl ?_
  refine r_iload1 dX9_lastChance_14 ?_
  refine r_ialdN dX9_lastChance_15 rfl hj ?_
  refine r_ifge (tgt := 25) dX9_lastChance_16 (by decide) (fun _ => ?_) (fun c9 => absurd (Int32.not_lt.mp hl) c9)
  refine r_aload0 dX9_lastChance_25 ?_
  refine r_getR dX9_lastChance_26 fl_X9_13 rfl rfl ?_
  refine r_iload1 dX9_lastChance_29 ?_
  refine r_ialdN dX9_lastChance_30 rfl hj ?_
  refine r_istore2 dX9_lastChance_31 rfl (by decide) ?_
  refine r_iload2 dX9_lastChance_32 ?_
  refine r_bipush bv_12 dX9_lastChance_33 ?_
  refine r_icmple (tgt := 41) dX9_lastChance_35 (by decide) (fun c9 => absurd c9 (by rw [z1]; exact nI_ge (a := 12) hf (by omega))) (fun _ => ?_)
  refine r_bipush bv_m4 dX9_lastChance_38 ?_
  exact r_iretE dX9_lastChance_40 rfl (rfl) (rfl)
theorem c_X9_lastChance_0 (j : Nat) (h : Hp) (hj : j < 4) (hS : MS4 h) (hl : ¬ h.1 32 j < 0) (hf : mz h j = 0) : Rn 2 MX9_lastChance [.ref 31, .int (nI j)] h (EI 1000000 h) := by
  obtain ⟨z1, z2⟩ := hS j hj
  rw [hf] at z1
  refine rn_of mm_X9_lastChance (le_b rfl) rfl ?_
  refine r_iload1 dX9_lastChance_0 ?_
  refine r_cS1I dX9_lastChance_1 mm_X9_isSheet st_X9_isSheet ml_X9_78 (c_mS_y h (okj hj)) (by decide) (Nat.le_of_ble_eq_true rfl) ?_
  refine r_ifne (tgt := 10) dX9_lastChance_4 (by decide) (fun _ => ?_) (fun c9 => absurd c9 (by decide))
  refine r_aload0 dX9_lastChance_10 ?_
  refine r_getR dX9_lastChance_11 fl_X9_7 rfl rfl ?_
  refine r_iload1 dX9_lastChance_14 ?_
  refine r_ialdN dX9_lastChance_15 rfl hj ?_
  refine r_ifge (tgt := 25) dX9_lastChance_16 (by decide) (fun _ => ?_) (fun c9 => absurd (Int32.not_lt.mp hl) c9)
  refine r_aload0 dX9_lastChance_25 ?_
  refine r_getR dX9_lastChance_26 fl_X9_13 rfl rfl ?_
  refine r_iload1 dX9_lastChance_29 ?_
  refine r_ialdN dX9_lastChance_30 rfl hj ?_
  refine r_istore2 dX9_lastChance_31 rfl (by decide) ?_
  rw [z1]
  refine r_iload2 dX9_lastChance_32 ?_
  refine r_bipush bv_12 dX9_lastChance_33 ?_
  refine r_icmple (tgt := 41) dX9_lastChance_35 (by decide) (fun _ => ?_) (fun c9 => absurd (by decide) c9)
  refine r_iload2 dX9_lastChance_41 ?_
  refine r_ifne (tgt := 49) dX9_lastChance_42 (by decide) (fun c9 => absurd (rfl) c9) (fun _ => ?_)
  refine r_ldc_w ct_X9_266 dX9_lastChance_45 ?_
  exact r_iretE dX9_lastChance_48 rfl (rfl) (rfl)
theorem all10 : ∀ k, k ≤ 12 → lp (fun j (v : Int64) => v * (if j < k then 10 else 1)) 0 13 1 = p10L k := by decide +kernel
def r0H (h : Hp) (i : Nat) : Hp := pLA h 47 (fun x => if x < i then R0 x else h.2 47 x)
theorem c_X9_lastChance (j n o : Nat) (h : Hp) (hj : j < 4) (hS : MS4 h) (hl : ¬ h.1 32 j < 0) (hn : mz h j = n) (h0 : 1 ≤ n) (h12 : n ≤ 12) (hm : fMostE (fun i => h.1 34 (60 * j + i)) n = nI o) (ho : o < 2 ^ 30) : Rn 2 MX9_lastChance [.ref 31, .int (nI j)] h (EI (fSome n o) (pLA h 47 (c13 (h.2 47) (dpF o n 10 R0)))) := by
  obtain ⟨z1, z2⟩ := hS j hj
  rw [hn] at z1
  refine rn_of mm_X9_lastChance (le_b rfl) rfl ?_
  refine r_iload1 dX9_lastChance_0 ?_
  refine r_cS1I dX9_lastChance_1 mm_X9_isSheet st_X9_isSheet ml_X9_78 (c_mS_y h (okj hj)) (by decide) (Nat.le_of_ble_eq_true rfl) ?_
  refine r_ifne (tgt := 10) dX9_lastChance_4 (by decide) (fun _ => ?_) (fun c9 => absurd c9 (by decide))
  refine r_aload0 dX9_lastChance_10 ?_
  refine r_getR dX9_lastChance_11 fl_X9_7 rfl rfl ?_
  refine r_iload1 dX9_lastChance_14 ?_
  refine r_ialdN dX9_lastChance_15 rfl hj ?_
  refine r_ifge (tgt := 25) dX9_lastChance_16 (by decide) (fun _ => ?_) (fun c9 => absurd (Int32.not_lt.mp hl) c9)
  refine r_aload0 dX9_lastChance_25 ?_
  refine r_getR dX9_lastChance_26 fl_X9_13 rfl rfl ?_
  refine r_iload1 dX9_lastChance_29 ?_
  refine r_ialdN dX9_lastChance_30 rfl hj ?_
  refine r_istore2 dX9_lastChance_31 rfl (by decide) ?_
  rw [z1]
  refine r_iload2 dX9_lastChance_32 ?_
  refine r_bipush bv_12 dX9_lastChance_33 ?_
  refine r_icmple (tgt := 41) dX9_lastChance_35 (by decide) (fun _ => ?_) (fun c9 => absurd (nI_le (b := 12) h12 (by decide)) c9)
  refine r_iload2 dX9_lastChance_41 ?_
  refine r_ifne (tgt := 49) dX9_lastChance_42 (by decide) (fun _ => ?_) (fun c9 => absurd c9 (nI_ne0 h0 (by omega)))
  refine r_iconst_0 dX9_lastChance_49 ?_
  refine r_istore3 dX9_lastChance_50 rfl (by decide) ?_
  refine r_iconst_0 dX9_lastChance_51 ?_
  refine r_istore4 dX9_lastChance_52 rfl (by decide) ?_
  have least : ∀ (f u : Nat) (R : Nat → Int64) (x7 : Nat) (P : KQT), u ≤ n → (Aw 2 MX9_lastChance P 209 [some (.ref 31), some (.int (nI j)), some (.int (nI n)), some (.int (nI o)), some (.long (p10L n)), none, some (.int (nI f)), some (.int (nI u)), some (.long (sumW R u (min (u + 1) o))), none, some (.int (nI (min (u + 1) o)))] [] (pLA h 47 (c13 (h.2 47) R))) → ∀ r t, t + r = min (u + 1) o → Aw 2 MX9_lastChance P 167 [some (.ref 31), some (.int (nI j)), some (.int (nI n)), some (.int (nI o)), some (.long (p10L n)), none, some (.int (nI f)), some (.int (nI u)), some (.long (sumW R u t)), none, some (.int (nI t))] [] (pLA h 47 (c13 (h.2 47) R)) := by
    intro f u R x7 P hu hk r
    induction r with
    | zero =>
      intro t ht
      have ht : t = min (u + 1) o := by omega
      by_cases c : o ≤ t
      · refine r_iload10 dX9_lastChance_167 ?_
        refine r_iload3 dX9_lastChance_169 ?_
        refine r_icmpge (tgt := 209) dX9_lastChance_170 (by decide) (fun _ => ?_) (fun c9 => absurd (nI_le c (by omega)) c9)
        rw [ht]
        exact hk
      · refine r_iload10 dX9_lastChance_167 ?_
        refine r_iload3 dX9_lastChance_169 ?_
        refine r_icmpge (tgt := 209) dX9_lastChance_170 (by decide) (fun c9 => absurd c9 (nI_ge (by omega) (by omega))) (fun _ => ?_)
        refine r_iload10 dX9_lastChance_173 ?_
        refine r_iload7 dX9_lastChance_175 ?_
        refine r_icmpgt (tgt := 209) dX9_lastChance_177 (by decide) (fun _ => ?_) (fun c9 => absurd (nI_lt (by omega) (by omega)) c9)
        rw [ht]
        exact hk
    | succ r ih =>
      intro t ht
      refine r_iload10 dX9_lastChance_167 ?_
      refine r_iload3 dX9_lastChance_169 ?_
      refine r_icmpge (tgt := 209) dX9_lastChance_170 (by decide) (fun c9 => absurd c9 (nI_ge (by omega) (by omega))) (fun _ => ?_)
      refine r_iload10 dX9_lastChance_173 ?_
      refine r_iload7 dX9_lastChance_175 ?_
      refine r_icmpgt (tgt := 209) dX9_lastChance_177 (by decide) (fun c9 => absurd c9 (nI_nlt (by omega) (by omega))) (fun _ => ?_)
      refine r_lload8 dX9_lastChance_180 ?_
      refine r_iload7 dX9_lastChance_182 ?_
      refine r_iload10 dX9_lastChance_184 ?_
      refine r_cS2L dX9_lastChance_186 mm_X9_over st_X9_over ml_X9_267 (c_X9_over u t _ (by omega) (by omega)) (by decide) (Nat.le_of_ble_eq_true rfl) ?_
      refine r_aload0 dX9_lastChance_189 ?_
      refine r_getR dX9_lastChance_190 fl_X9_63 rfl rfl ?_
      refine r_iload7 dX9_lastChance_193 ?_
      refine r_iload10 dX9_lastChance_195 ?_
      refine r_isub dX9_lastChance_197 ?_
      rw [pk_sub (by omega : t ≤ u)]
      refine r_laldN dX9_lastChance_198 rfl (by omega) ?_
      refine r_lmul dX9_lastChance_199 ?_
      refine r_ladd dX9_lastChance_200 ?_
      refine r_lstore8 dX9_lastChance_201 rfl (by decide) ?_
      refine r_iinc10_1 dX9_lastChance_203 rfl (by decide) ?_
      refine r_goto (tgt := 167) dX9_lastChance_206 (by decide) ?_
      have ih := ih (t + 1) (by omega)
      have e1 : sumW R u (t + 1) = sumW R u t + bin u t * R (u - t) := by
        unfold sumW
        rw [lp_last, Nat.zero_add]
      rw [pLA_g, if_pos rfl, c13, if_pos (by omega), nI_1]
      rw [e1] at ih
      exact ih
  have inner : ∀ (P : KQT) (f : Nat) (R' : Nat → Int64), (∀ x7 x8 x10, Aw 2 MX9_lastChance P 224 [some (.ref 31), some (.int (nI j)), some (.int (nI n)), some (.int (nI o)), some (.long (p10L n)), none, some (.int (nI f)), x7, x8, none, x10] [] (pLA h 47 (c13 (h.2 47) R'))) → ∀ u R x8 x10, u ≤ n + 1 → dpD o u R = R' → Aw 2 MX9_lastChance P 156 [some (.ref 31), some (.int (nI j)), some (.int (nI n)), some (.int (nI o)), some (.long (p10L n)), none, some (.int (nI f)), some (.int (nI u - 1)), x8, none, x10] [] (pLA h 47 (c13 (h.2 47) R)) := by
    intro P f R' hk u
    induction u with
    | zero =>
      intro R x8 x10 _ hR
      have hR : R = R' := hR
      subst hR
      refine r_iload7 dX9_lastChance_156 ?_
      refine r_iflt (tgt := 224) dX9_lastChance_158 (by decide) (fun _ => ?_) (fun c9 => absurd (by decide) c9)
      exact hk _ _ _
    | succ u ih =>
      intro R x8 x10 hu hR
      rw [nI_pred]
      refine r_iload7 dX9_lastChance_156 ?_
      refine r_iflt (tgt := 224) dX9_lastChance_158 (by decide) (fun c9 => absurd c9 (nI_pos (by omega))) (fun _ => ?_)
      refine r_lconst_0 dX9_lastChance_161 ?_
      refine r_lstore8 dX9_lastChance_162 rfl (by decide) ?_
      refine r_iconst_0 dX9_lastChance_164 ?_
      refine r_istore10 dX9_lastChance_165 rfl (by decide) ?_
      refine least f u R 0 P (by omega) ?_ (min (u + 1) o) 0 (by omega)
      refine r_aload0 dX9_lastChance_209 ?_
      refine r_getR dX9_lastChance_210 fl_X9_63 rfl rfl ?_
      refine r_iload7 dX9_lastChance_213 ?_
      refine r_lload8 dX9_lastChance_215 ?_
      refine r_lastN dX9_lastChance_217 rfl (by omega) ?_
      refine r_iinc7_m1 dX9_lastChance_218 rfl (by decide) ?_
      refine r_goto (tgt := 156) dX9_lastChance_221 (by decide) ?_
      rw [c13_st h 47 _ (by omega), ← Int32.sub_eq_add_neg]
      exact ih _ _ _ (by omega) hR
  have outer : ∀ k f R x7 x8 x10, f + k = 10 → dpF o n k R = dpF o n 10 R0 → Aw 2 MX9_lastChance (Kp (EI (fSome n o) (pLA h 47 (c13 (h.2 47) (dpF o n 10 R0))))) 146 [some (.ref 31), some (.int (nI j)), some (.int (nI n)), some (.int (nI o)), some (.long (p10L n)), none, some (.int (nI f)), x7, x8, none, x10] [] (pLA h 47 (c13 (h.2 47) R)) := by
    intro k
    induction k with
    | zero =>
      intro f R x7 x8 x10 hf hR
      have : f = 10 := by omega
      subst this
      have hR : R = dpF o n 10 R0 := hR
      subst hR
      refine r_iload6 dX9_lastChance_146 ?_
      refine r_bipush bv_10 dX9_lastChance_148 ?_
      refine r_icmpge (tgt := 230) dX9_lastChance_150 (by decide) (fun _ => ?_) (fun c9 => absurd (by decide) c9)
      refine r_lload4 dX9_lastChance_230 ?_
      refine r_aload0 dX9_lastChance_232 ?_
      refine r_getR dX9_lastChance_233 fl_X9_63 rfl rfl ?_
      refine r_iload2 dX9_lastChance_236 ?_
      refine r_laldN dX9_lastChance_237 rfl (by omega) ?_
      rw [pLA_g, if_pos rfl, c13, if_pos (by omega)]
      refine r_lsub dX9_lastChance_238 ?_
      refine r_ldc2 ct_X9_271 dX9_lastChance_239 ?_
      refine r_lmul dX9_lastChance_242 ?_
      refine r_lload4 dX9_lastChance_243 ?_
      refine r_ldiv (p10L_ne n h12) dX9_lastChance_245 ?_
      refine r_l2i dX9_lastChance_246 ?_
      exact r_iretE dX9_lastChance_247 rfl (rfl) (rfl)
    | succ k ih =>
      intro f R x7 x8 x10 hf hR
      refine r_iload6 dX9_lastChance_146 ?_
      refine r_bipush bv_10 dX9_lastChance_148 ?_
      refine r_icmpge (tgt := 230) dX9_lastChance_150 (by decide) (fun c9 => absurd c9 (nI_ge (b := 10) (by omega) (by decide))) (fun _ => ?_)
      refine r_iload2 dX9_lastChance_153 ?_
      refine r_istore7 dX9_lastChance_154 rfl (by decide) ?_
      have hi := inner (Kp (EI (fSome n o) (pLA h 47 (c13 (h.2 47) (dpF o n 10 R0))))) f (dpD o (n + 1) R) (fun x7 x8 x10 => ?_) (n + 1) R x8 x10 (Nat.le_refl _) rfl
      · rw [nI_pred] at hi
        exact hi
      · refine r_iinc6_1 dX9_lastChance_224 rfl (by decide) ?_
        refine r_goto (tgt := 146) dX9_lastChance_227 (by decide) ?_
        rw [nI_1]
        exact ih (f + 1) _ x7 x8 x10 (by omega) hR
  refine lpA (fun f m => if m < cntF fEnd (nI f) (fun i => h.1 34 (60 * j + i)) n then cntF fEnd (nI f) (fun i => h.1 34 (60 * j + i)) n else m) (fun f m => ∀ x5, Aw 2 MX9_lastChance (Kp (EI (fSome n o) (pLA h 47 (c13 (h.2 47) (dpF o n 10 R0))))) 54 [some (.ref 31), some (.int (nI j)), some (.int (nI n)), some (.int m), some (.int (nI f)), x5, none, none, none, none, none] [] h) 10 ?_ 0 ?_ _
  · intro f m hf k x5
    have rl := c_X9_lasts j (nI f) h hj hS
    rw [hn] at rl
    refine r_iload4 dX9_lastChance_54 ?_
    refine r_bipush bv_10 dX9_lastChance_56 ?_
    refine r_icmpge (tgt := 89) dX9_lastChance_58 (by decide) (fun c9 => absurd c9 (nI_ge (b := 10) hf (by decide))) (fun _ => ?_)
    refine r_aload0 dX9_lastChance_61 ?_
    refine r_iload1 dX9_lastChance_62 ?_
    refine r_iload4 dX9_lastChance_63 ?_
    refine r_cV2I dX9_lastChance_65 mm_X9_lastsOf im_X9_lastsOf se_X9_lastsOf ml_X9_263 rfl rfl rfl (rl) (by decide) (Nat.le_of_ble_eq_true rfl) ?_
    refine r_istore5 dX9_lastChance_68 rfl (by decide) ?_
    refine r_iload5 dX9_lastChance_70 ?_
    refine r_iload3 dX9_lastChance_72 ?_
    refine r_icmple (tgt := 81) dX9_lastChance_73 (by decide) (fun c1 => ?_) (fun c1 => ?_)
    · rw [if_neg (Int32.not_lt.mpr c1)] at k
      refine r_iload3 dX9_lastChance_81 ?_
      refine r_istore3 dX9_lastChance_82 rfl (by decide) ?_
      refine r_iinc4_1 dX9_lastChance_83 rfl (by decide) ?_
      refine r_goto (tgt := 54) dX9_lastChance_86 (by decide) ?_
      rw [nI_1]
      exact k _
    · rw [if_pos (Int32.not_le.mp c1)] at k
      refine r_iload5 dX9_lastChance_76 ?_
      refine r_goto (tgt := 82) dX9_lastChance_78 (by decide) ?_
      refine r_istore3 dX9_lastChance_82 rfl (by decide) ?_
      refine r_iinc4_1 dX9_lastChance_83 rfl (by decide) ?_
      refine r_goto (tgt := 54) dX9_lastChance_86 (by decide) ?_
      rw [nI_1]
      exact k _
  · intro x5
    have hm' : lp (fun f m => if m < cntF fEnd (nI f) (fun i => h.1 34 (60 * j + i)) n then cntF fEnd (nI f) (fun i => h.1 34 (60 * j + i)) n else m) 0 10 0 = nI o := hm
    rw [hm']
    refine r_iload4 dX9_lastChance_54 ?_
    refine r_bipush bv_10 dX9_lastChance_56 ?_
    refine r_icmpge (tgt := 89) dX9_lastChance_58 (by decide) (fun _ => ?_) (fun c9 => absurd (by decide) c9)
    refine r_lconst_1 dX9_lastChance_89 ?_
    refine r_lstore4 dX9_lastChance_90 rfl (by decide) ?_
    refine r_iconst_0 dX9_lastChance_92 ?_
    refine r_istore6 dX9_lastChance_93 rfl (by decide) ?_
    have e0 : r0H h 0 = h := by
      unfold r0H
      refine hp_ext (fun q x => rfl) (fun q x => ?_)
      rw [pLA_g]
      by_cases e : q = 47
      · subst e; rw [if_pos rfl, if_neg (by omega)]
      · rw [if_neg e]
    have k0 : Aw 2 MX9_lastChance (Kp (EI (fSome n o) (pLA h 47 (c13 (h.2 47) (dpF o n 10 R0))))) 95 [some (.ref 31), some (.int (nI j)), some (.int (nI n)), some (.int (nI o)), some (.long 1), none, some (.int (nI 0)), none, none, none, none] [] (r0H h 0) := by
      refine lpA (fun j (v : Int64) => v * (if j < n then 10 else 1)) (fun i v => Aw 2 MX9_lastChance (Kp (EI (fSome n o) (pLA h 47 (c13 (h.2 47) (dpF o n 10 R0))))) 95 [some (.ref 31), some (.int (nI j)), some (.int (nI n)), some (.int (nI o)), some (.long v), none, some (.int (nI i)), none, none, none, none] [] (r0H h i)) 13 ?_ 1 ?_
      · intro i v hi k
        have hr : pL (r0H h i) 47 i (R0 i) = r0H h (i + 1) := by
          unfold r0H
          refine hp_ext (fun q x => rfl) (fun q x => ?_)
          simp only [pL_g, pLA_g]
          by_cases e : q = 47
          · subst e
            by_cases e2 : x = i
            · subst e2; simp
            · by_cases e3 : x < i
              · have : x < i + 1 := by omega
                simp [e2, e3, this]
              · have : ¬ x < i + 1 := by omega
                simp [e2, e3, this]
          · simp [e]
        have tail : Aw 2 MX9_lastChance (Kp (EI (fSome n o) (pLA h 47 (c13 (h.2 47) (dpF o n 10 R0))))) 119 [some (.ref 31), some (.int (nI j)), some (.int (nI n)), some (.int (nI o)), some (.long v), none, some (.int (nI i)), none, none, none, none] [] (r0H h (i + 1)) := by
          by_cases c : i < n
          · rw [if_pos c] at k
            refine r_lload4 dX9_lastChance_119 ?_
            refine r_iload6 dX9_lastChance_121 ?_
            refine r_iload2 dX9_lastChance_123 ?_
            refine r_icmpge (tgt := 133) dX9_lastChance_124 (by decide) (fun c9 => absurd c9 (nI_ge c (by omega))) (fun _ => ?_)
            refine r_ldc2 ct_X9_158 dX9_lastChance_127 ?_
            refine r_goto (tgt := 134) dX9_lastChance_130 (by decide) ?_
            refine r_lmul dX9_lastChance_134 ?_
            refine r_lstore4 dX9_lastChance_135 rfl (by decide) ?_
            refine r_iinc6_1 dX9_lastChance_137 rfl (by decide) ?_
            refine r_goto (tgt := 95) dX9_lastChance_140 (by decide) ?_
            rw [nI_1]
            exact k
          · rw [if_neg c] at k
            refine r_lload4 dX9_lastChance_119 ?_
            refine r_iload6 dX9_lastChance_121 ?_
            refine r_iload2 dX9_lastChance_123 ?_
            refine r_icmpge (tgt := 133) dX9_lastChance_124 (by decide) (fun _ => ?_) (fun c9 => absurd (nI_le (by omega) (by omega)) c9)
            refine r_lconst_1 dX9_lastChance_133 ?_
            refine r_lmul dX9_lastChance_134 ?_
            refine r_lstore4 dX9_lastChance_135 rfl (by decide) ?_
            refine r_iinc6_1 dX9_lastChance_137 rfl (by decide) ?_
            refine r_goto (tgt := 95) dX9_lastChance_140 (by decide) ?_
            rw [nI_1]
            exact k
        rw [← hr] at tail
        by_cases c : i = 0
        · subst c
          refine r_iload6 dX9_lastChance_95 ?_
          refine r_bipush bv_13 dX9_lastChance_97 ?_
          refine r_icmpge (tgt := 143) dX9_lastChance_99 (by decide) (fun c9 => absurd c9 (nI_ge (b := 13) hi (by decide))) (fun _ => ?_)
          refine r_aload0 dX9_lastChance_102 ?_
          refine r_getR dX9_lastChance_103 fl_X9_63 rfl rfl ?_
          refine r_iload6 dX9_lastChance_106 ?_
          refine r_iload6 dX9_lastChance_108 ?_
          refine r_ifne (tgt := 117) dX9_lastChance_110 (by decide) (fun c9 => absurd (rfl) c9) (fun _ => ?_)
          refine r_lconst_1 dX9_lastChance_113 ?_
          refine r_goto (tgt := 118) dX9_lastChance_114 (by decide) ?_
          refine r_lastN dX9_lastChance_118 rfl hi ?_
          exact tail
        · have er : R0 i = 0 := if_neg c
          rw [er] at tail
          refine r_iload6 dX9_lastChance_95 ?_
          refine r_bipush bv_13 dX9_lastChance_97 ?_
          refine r_icmpge (tgt := 143) dX9_lastChance_99 (by decide) (fun c9 => absurd c9 (nI_ge (b := 13) hi (by decide))) (fun _ => ?_)
          refine r_aload0 dX9_lastChance_102 ?_
          refine r_getR dX9_lastChance_103 fl_X9_63 rfl rfl ?_
          refine r_iload6 dX9_lastChance_106 ?_
          refine r_iload6 dX9_lastChance_108 ?_
          refine r_ifne (tgt := 117) dX9_lastChance_110 (by decide) (fun _ => ?_) (fun c9 => absurd c9 (nI_ne0 (by omega) (by omega)))
          refine r_lconst_0 dX9_lastChance_117 ?_
          refine r_lastN dX9_lastChance_118 rfl hi ?_
          exact tail
      · rw [all10 n h12]
        have e13 : r0H h 13 = pLA h 47 (c13 (h.2 47) R0) := rfl
        rw [e13]
        refine r_iload6 dX9_lastChance_95 ?_
        refine r_bipush bv_13 dX9_lastChance_97 ?_
        refine r_icmpge (tgt := 143) dX9_lastChance_99 (by decide) (fun _ => ?_) (fun c9 => absurd (by decide) c9)
        refine r_iconst_0 dX9_lastChance_143 ?_
        refine r_istore6 dX9_lastChance_144 rfl (by decide) ?_
        exact outer 10 0 R0 none none none rfl rfl
    rw [e0] at k0
    exact k0
theorem c_X9_thousandths (f : Nat) (h : Hp) (h1 : 1 ≤ f) (h9 : f ≤ 9) : Rn 0 MX9_thousandths [.int (nI f)] h (EL (cFI (f - 1)).toInt64 h) := by
  refine rn_of mm_X9_thousandths (le_b rfl) rfl ?_
  have : f = 1 ∨ f = 2 ∨ f = 3 ∨ f = 4 ∨ f = 5 ∨ f = 6 ∨ f = 7 ∨ f = 8 ∨ f = 9 := by omega
  rcases this with rfl | rfl | rfl | rfl | rfl | rfl | rfl | rfl | rfl
  · refine r_iload0 dX9_thousandths_0 ?_
    refine r_tabIn (tgt := 48) dX9_thousandths_1 (by decide) (by decide) (by rfl) (by decide) ?_
    refine r_ldc2 ct_X9_279 dX9_thousandths_48 ?_
    exact r_lretE dX9_thousandths_51 rfl (by decide) (rfl)
  · refine r_iload0 dX9_thousandths_0 ?_
    refine r_tabIn (tgt := 52) dX9_thousandths_1 (by decide) (by decide) (by rfl) (by decide) ?_
    refine r_ldc2 ct_X9_281 dX9_thousandths_52 ?_
    exact r_lretE dX9_thousandths_55 rfl (by decide) (rfl)
  · refine r_iload0 dX9_thousandths_0 ?_
    refine r_tabIn (tgt := 56) dX9_thousandths_1 (by decide) (by decide) (by rfl) (by decide) ?_
    refine r_ldc2 ct_X9_283 dX9_thousandths_56 ?_
    exact r_lretE dX9_thousandths_59 rfl (by decide) (rfl)
  · refine r_iload0 dX9_thousandths_0 ?_
    refine r_tabIn (tgt := 60) dX9_thousandths_1 (by decide) (by decide) (by rfl) (by decide) ?_
    refine r_ldc2 ct_X9_285 dX9_thousandths_60 ?_
    exact r_lretE dX9_thousandths_63 rfl (by decide) (rfl)
  · refine r_iload0 dX9_thousandths_0 ?_
    refine r_tabIn (tgt := 64) dX9_thousandths_1 (by decide) (by decide) (by rfl) (by decide) ?_
    refine r_ldc2 ct_X9_287 dX9_thousandths_64 ?_
    exact r_lretE dX9_thousandths_67 rfl (by decide) (rfl)
  · refine r_iload0 dX9_thousandths_0 ?_
    refine r_tabIn (tgt := 68) dX9_thousandths_1 (by decide) (by decide) (by rfl) (by decide) ?_
    refine r_ldc2 ct_X9_289 dX9_thousandths_68 ?_
    exact r_lretE dX9_thousandths_71 rfl (by decide) (rfl)
  · refine r_iload0 dX9_thousandths_0 ?_
    refine r_tabIn (tgt := 72) dX9_thousandths_1 (by decide) (by decide) (by rfl) (by decide) ?_
    refine r_ldc2 ct_X9_291 dX9_thousandths_72 ?_
    exact r_lretE dX9_thousandths_75 rfl (by decide) (rfl)
  · refine r_iload0 dX9_thousandths_0 ?_
    refine r_tabIn (tgt := 76) dX9_thousandths_1 (by decide) (by decide) (by rfl) (by decide) ?_
    refine r_ldc2 ct_X9_293 dX9_thousandths_76 ?_
    exact r_lretE dX9_thousandths_79 rfl (by decide) (rfl)
  · refine r_iload0 dX9_thousandths_0 ?_
    refine r_tabOut (tgt := 80) dX9_thousandths_1 ((by decide)) (by decide) ?_
    refine r_ldc2 ct_X9_295 dX9_thousandths_80 ?_
    exact r_lretE dX9_thousandths_83 rfl (by decide) (rfl)
theorem c_X9_firstChance_bad (s f : Int32) (h : Hp) (hb : ¬ okS s ∨ f < 1 ∨ 9 < f) : Rn 2 MX9_firstChance [.ref 31, .int s, .int f] h (EI (-2) h) := by
  refine rn_of mm_X9_firstChance (le_b rfl) rfl ?_
  by_cases c : okS s
  · refine r_iload1 dX9_firstChance_0 ?_
    refine r_cS1I dX9_firstChance_1 mm_X9_isSheet st_X9_isSheet ml_X9_78 (c_mS_y h c) (by decide) (Nat.le_of_ble_eq_true rfl) ?_
    refine r_ifeq (tgt := 19) dX9_firstChance_4 (by decide) (fun c9 => absurd c9 (by decide)) (fun _ => ?_)
    refine r_iload2 dX9_firstChance_7 ?_
    refine r_i2l dX9_firstChance_8 ?_
    refine r_lconst_1 dX9_firstChance_9 ?_
    refine r_ldc2 ct_X9_97 dX9_firstChance_10 ?_
    refine r_cS3I dX9_firstChance_13 mm_X9_in st_X9_in ml_X9_74 (c_inI_n (lo := 1) (hi := 9) h (by decide) (by decide) (hb.resolve_left (fun q => q c))) (by decide) (Nat.le_of_ble_eq_true rfl) ?_
    refine r_ifne (tgt := 22) dX9_firstChance_16 (by decide) (fun c9 => absurd (rfl) c9) (fun _ => ?_)
    refine r_bipush bv_m2 dX9_firstChance_19 ?_
    exact r_iretE dX9_firstChance_21 rfl (rfl) (rfl)
  · refine r_iload1 dX9_firstChance_0 ?_
    refine r_cS1I dX9_firstChance_1 mm_X9_isSheet st_X9_isSheet ml_X9_78 (c_mS_n h c) (by decide) (Nat.le_of_ble_eq_true rfl) ?_
    refine r_ifeq (tgt := 19) dX9_firstChance_4 (by decide) (fun _ => ?_) (fun c9 => absurd (rfl) c9)
    refine r_bipush bv_m2 dX9_firstChance_19 ?_
    exact r_iretE dX9_firstChance_21 rfl (rfl) (rfl)
theorem c_X9_firstChance_null (j : Nat) (f : Int32) (h : Hp) (hj : j < 4) (h1 : ¬ f < 1) (h2 : ¬ 9 < f) (hl : h.1 32 j < 0) : Rn 2 MX9_firstChance [.ref 31, .int (nI j), .int f] h (EI (-11) (pI h 31 4 1)) := by
  refine rn_of mm_X9_firstChance (le_b rfl) rfl ?_
  refine r_iload1 dX9_firstChance_0 ?_
  refine r_cS1I dX9_firstChance_1 mm_X9_isSheet st_X9_isSheet ml_X9_78 (c_mS_y h (okj hj)) (by decide) (Nat.le_of_ble_eq_true rfl) ?_
  refine r_ifeq (tgt := 19) dX9_firstChance_4 (by decide) (fun c9 => absurd c9 (by decide)) (fun _ => ?_)
  refine r_iload2 dX9_firstChance_7 ?_
  refine r_i2l dX9_firstChance_8 ?_
  refine r_lconst_1 dX9_firstChance_9 ?_
  refine r_ldc2 ct_X9_97 dX9_firstChance_10 ?_
  refine r_cS3I dX9_firstChance_13 mm_X9_in st_X9_in ml_X9_74 (c_inI_y (lo := 1) (hi := 9) h (by decide) (by decide) h1 h2) (by decide) (Nat.le_of_ble_eq_true rfl) ?_
  refine r_ifne (tgt := 22) dX9_firstChance_16 (by decide) (fun _ => ?_) (fun c9 => absurd c9 (by decide))
  refine r_aload0 dX9_firstChance_22 ?_
  refine r_getR dX9_firstChance_23 fl_X9_7 rfl rfl ?_
  refine r_iload1 dX9_firstChance_26 ?_
  refine r_ialdN dX9_firstChance_27 rfl hj ?_
  refine r_ifge (tgt := 37) dX9_firstChance_28 (by decide) (fun c9 => absurd c9 (fun q => absurd hl (Int32.not_lt.mpr q))) (fun _ => ?_)
  refine r_aload0 dX9_firstChance_31 ?_
  refine r_iconst_1 dX9_firstChance_32 ?_
  refine r_cV1I dX9_firstChance_33 mm_X9_met im_X9_met se_X9_met ml_X9_84 rfl rfl rfl (c_X9_met 1 h) (by decide) (Nat.le_of_ble_eq_true rfl) ?_
  exact r_iretE dX9_firstChance_36 rfl (rfl) (rfl)
theorem c_X9_firstChance_full (j k : Nat) (f : Int32) (h : Hp) (hj : j < 4) (h1 : ¬ f < 1) (h2 : ¬ 9 < f) (hS : MS4 h) (hl : ¬ h.1 32 j < 0) (hk : nI (mz h j) - cntF fFirst 0 (fun i => h.1 34 (60 * j + i)) (mz h j) = nI k) (hf : 6 < k) (hk2 : k < 2 ^ 31) : Rn 3 MX9_firstChance [.ref 31, .int (nI j), .int f] h (EI (-4) h) := by
  obtain ⟨z1, z2⟩ := hS j hj
  refine rn_of mm_X9_firstChance (le_b rfl) rfl ?_
  refine r_iload1 dX9_firstChance_0 ?_
  refine r_cS1I dX9_firstChance_1 mm_X9_isSheet st_X9_isSheet ml_X9_78 (c_mS_y h (okj hj)) (by decide) (Nat.le_of_ble_eq_true rfl) ?_
  refine r_ifeq (tgt := 19) dX9_firstChance_4 (by decide) (fun c9 => absurd c9 (by decide)) (fun _ => ?_)
  refine r_iload2 dX9_firstChance_7 ?_
  refine r_i2l dX9_firstChance_8 ?_
  refine r_lconst_1 dX9_firstChance_9 ?_
  refine r_ldc2 ct_X9_97 dX9_firstChance_10 ?_
  refine r_cS3I dX9_firstChance_13 mm_X9_in st_X9_in ml_X9_74 (c_inI_y (lo := 1) (hi := 9) h (by decide) (by decide) h1 h2) (by decide) (Nat.le_of_ble_eq_true rfl) ?_
  refine r_ifne (tgt := 22) dX9_firstChance_16 (by decide) (fun _ => ?_) (fun c9 => absurd c9 (by decide))
  refine r_aload0 dX9_firstChance_22 ?_
  refine r_getR dX9_firstChance_23 fl_X9_7 rfl rfl ?_
  refine r_iload1 dX9_firstChance_26 ?_
  refine r_ialdN dX9_firstChance_27 rfl hj ?_
  refine r_ifge (tgt := 37) dX9_firstChance_28 (by decide) (fun _ => ?_) (fun c9 => absurd (Int32.not_lt.mp hl) c9)
  refine r_aload0 dX9_firstChance_37 ?_
  refine r_getR dX9_firstChance_38 fl_X9_13 rfl rfl ?_
  refine r_iload1 dX9_firstChance_41 ?_
  refine r_ialdN dX9_firstChance_42 rfl hj ?_
  refine r_aload0 dX9_firstChance_43 ?_
  refine r_iload1 dX9_firstChance_44 ?_
  refine r_iconst_0 dX9_firstChance_45 ?_
  refine r_cV2I dX9_firstChance_46 mm_X9_firstsOf im_X9_firstsOf se_X9_firstsOf ml_X9_276 rfl rfl rfl (c_X9_firstsOf j 0 h hj hS) (by decide) (Nat.le_of_ble_eq_true rfl) ?_
  refine r_isub dX9_firstChance_49 ?_
  rw [z1, hk]
  refine r_istore3 dX9_firstChance_50 rfl (by decide) ?_
  refine r_iload3 dX9_firstChance_51 ?_
  refine r_bipush bv_6 dX9_firstChance_52 ?_
  refine r_icmple (tgt := 60) dX9_firstChance_54 (by decide) (fun c9 => absurd c9 (nI_ge (a := 6) hf hk2)) (fun _ => ?_)
  refine r_bipush bv_m4 dX9_firstChance_57 ?_
  exact r_iretE dX9_firstChance_59 rfl (rfl) (rfl)
theorem sh64 : ∀ f, f < 9 → 1000 - (cFI f).toInt64 = (1000 - cFI f).toInt64 := by decide +kernel
theorem p1000 : ∀ k, k ≤ 6 → ¬ powL 1000 k = 0 := by decide +kernel
theorem c_X9_firstChance (j k f o : Nat) (h : Hp) (hj : j < 4) (h1 : 1 ≤ f) (h2 : f ≤ 9) (hS : MS4 h) (hl : ¬ h.1 32 j < 0) (hk : nI (mz h j) - cntF fFirst 0 (fun i => h.1 34 (60 * j + i)) (mz h j) = nI k) (hf : k ≤ 6) (ho2 : cntF fFirst (nI f) (fun i => h.1 34 (60 * j + i)) (mz h j) = nI o) (ho3 : o < 2 ^ 30) : Rn 3 MX9_firstChance [.ref 31, .int (nI j), .int (nI f)] h (EI (fFC k o (cFI (f - 1))) h) := by
  obtain ⟨z1, z2⟩ := hS j hj
  refine rn_of mm_X9_firstChance (le_b rfl) rfl ?_
  refine r_iload1 dX9_firstChance_0 ?_
  refine r_cS1I dX9_firstChance_1 mm_X9_isSheet st_X9_isSheet ml_X9_78 (c_mS_y h (okj hj)) (by decide) (Nat.le_of_ble_eq_true rfl) ?_
  refine r_ifeq (tgt := 19) dX9_firstChance_4 (by decide) (fun c9 => absurd c9 (by decide)) (fun _ => ?_)
  refine r_iload2 dX9_firstChance_7 ?_
  refine r_i2l dX9_firstChance_8 ?_
  refine r_lconst_1 dX9_firstChance_9 ?_
  refine r_ldc2 ct_X9_97 dX9_firstChance_10 ?_
  refine r_cS3I dX9_firstChance_13 mm_X9_in st_X9_in ml_X9_74 (c_inI_y (lo := 1) (hi := 9) h (by decide) (by decide) (nI_nlt (b := 1) h1 (by omega)) (nI_nlt (a := 9) h2 (by decide))) (by decide) (Nat.le_of_ble_eq_true rfl) ?_
  refine r_ifne (tgt := 22) dX9_firstChance_16 (by decide) (fun _ => ?_) (fun c9 => absurd c9 (by decide))
  refine r_aload0 dX9_firstChance_22 ?_
  refine r_getR dX9_firstChance_23 fl_X9_7 rfl rfl ?_
  refine r_iload1 dX9_firstChance_26 ?_
  refine r_ialdN dX9_firstChance_27 rfl hj ?_
  refine r_ifge (tgt := 37) dX9_firstChance_28 (by decide) (fun _ => ?_) (fun c9 => absurd (Int32.not_lt.mp hl) c9)
  refine r_aload0 dX9_firstChance_37 ?_
  refine r_getR dX9_firstChance_38 fl_X9_13 rfl rfl ?_
  refine r_iload1 dX9_firstChance_41 ?_
  refine r_ialdN dX9_firstChance_42 rfl hj ?_
  refine r_aload0 dX9_firstChance_43 ?_
  refine r_iload1 dX9_firstChance_44 ?_
  refine r_iconst_0 dX9_firstChance_45 ?_
  refine r_cV2I dX9_firstChance_46 mm_X9_firstsOf im_X9_firstsOf se_X9_firstsOf ml_X9_276 rfl rfl rfl (c_X9_firstsOf j 0 h hj hS) (by decide) (Nat.le_of_ble_eq_true rfl) ?_
  refine r_isub dX9_firstChance_49 ?_
  rw [z1, hk]
  have rb := c_X9_firstsOf j (nI f) h hj hS
  rw [ho2] at rb
  refine r_istore3 dX9_firstChance_50 rfl (by decide) ?_
  refine r_iload3 dX9_firstChance_51 ?_
  refine r_bipush bv_6 dX9_firstChance_52 ?_
  refine r_icmple (tgt := 60) dX9_firstChance_54 (by decide) (fun _ => ?_) (fun c9 => absurd (nI_le (b := 6) hf (by decide)) c9)
  refine r_iload2 dX9_firstChance_60 ?_
  refine r_cS1L dX9_firstChance_61 mm_X9_thousandths st_X9_thousandths ml_X9_297 (c_X9_thousandths f h h1 h2) (by decide) (Nat.le_of_ble_eq_true rfl) ?_
  refine r_lstore4 dX9_firstChance_64 rfl (by decide) ?_
  refine r_lconst_0 dX9_firstChance_66 ?_
  refine r_lstore6 dX9_firstChance_67 rfl (by decide) ?_
  refine r_aload0 dX9_firstChance_69 ?_
  refine r_iload1 dX9_firstChance_70 ?_
  refine r_iload2 dX9_firstChance_71 ?_
  refine r_cV2I dX9_firstChance_72 mm_X9_firstsOf im_X9_firstsOf se_X9_firstsOf ml_X9_276 rfl rfl rfl (rb) (by decide) (Nat.le_of_ble_eq_true rfl) ?_
  refine r_istore8 dX9_firstChance_75 rfl (by decide) ?_
  have last : ∀ x8, Aw 3 MX9_firstChance (Kp (EI (fFC k o (cFI (f - 1))) h)) 122 [some (.ref 31), some (.int (nI j)), some (.int (nI f)), some (.int (nI k)), some (.long (cFI (f - 1)).toInt64), none, some (.long (fcSum k o (cFI (f - 1)) (k + 1))), none, x8] [] h := by
    intro x8
    by_cases c : k < 2
    · refine r_iload3 dX9_firstChance_122 ?_
      refine r_iconst_2 dX9_firstChance_123 ?_
      refine r_icmpge (tgt := 142) dX9_firstChance_124 (by decide) (fun c9 => absurd c9 (nI_ge (b := 2) c (by decide))) (fun _ => ?_)
      refine r_lload6 dX9_firstChance_127 ?_
      refine r_ldc2 ct_X9_304 dX9_firstChance_129 ?_
      refine r_iconst_2 dX9_firstChance_132 ?_
      refine r_iload3 dX9_firstChance_133 ?_
      refine r_isub dX9_firstChance_134 ?_
      rw [show (2 : Int32) = nI 2 from rfl, pk_sub (by omega : k ≤ 2)]
      refine r_cS2L dX9_firstChance_135 mm_X9_power st_X9_power ml_X9_300 (c_X9_power 1000 (2 - k) h (by omega)) (by decide) (Nat.le_of_ble_eq_true rfl) ?_
      refine r_lmul dX9_firstChance_138 ?_
      refine r_goto (tgt := 154) dX9_firstChance_139 (by decide) ?_
      refine r_l2i dX9_firstChance_154 ?_
      exact r_iretE dX9_firstChance_155 rfl (by rw [fFC, if_pos c, if_pos c]; rw [Int64.div_one]) (rfl)
    · refine r_iload3 dX9_firstChance_122 ?_
      refine r_iconst_2 dX9_firstChance_123 ?_
      refine r_icmpge (tgt := 142) dX9_firstChance_124 (by decide) (fun _ => ?_) (fun c9 => absurd (nI_le (a := 2) (by omega) (by omega)) c9)
      refine r_lload6 dX9_firstChance_142 ?_
      refine r_ldc2 ct_X9_304 dX9_firstChance_144 ?_
      refine r_iload3 dX9_firstChance_147 ?_
      refine r_iconst_2 dX9_firstChance_148 ?_
      refine r_isub dX9_firstChance_149 ?_
      rw [show (2 : Int32) = nI 2 from rfl, pk_sub (by omega : 2 ≤ k)]
      refine r_cS2L dX9_firstChance_150 mm_X9_power st_X9_power ml_X9_300 (c_X9_power 1000 (k - 2) h (by omega)) (by decide) (Nat.le_of_ble_eq_true rfl) ?_
      refine r_ldiv (p1000 _ (by omega)) dX9_firstChance_153 ?_
      refine r_l2i dX9_firstChance_154 ?_
      exact r_iretE dX9_firstChance_155 rfl (by rw [fFC, if_neg c, if_neg c]; rw [Int64.mul_one]) (rfl)
  have key : ∀ r i, o ≤ i → i + r = max o (k + 1) → Aw 3 MX9_firstChance (Kp (EI (fFC k o (cFI (f - 1))) h)) 77 [some (.ref 31), some (.int (nI j)), some (.int (nI f)), some (.int (nI k)), some (.long (cFI (f - 1)).toInt64), none, some (.long (fcSum k o (cFI (f - 1)) (min i (k + 1)))), none, some (.int (nI i))] [] h := by
    intro r
    induction r with
    | zero =>
      intro i hi hr
      refine r_iload8 dX9_firstChance_77 ?_
      refine r_iload3 dX9_firstChance_79 ?_
      refine r_icmpgt (tgt := 122) dX9_firstChance_80 (by decide) (fun _ => ?_) (fun c9 => absurd (nI_lt (by omega) (by omega)) c9)
      rw [show min i (k + 1) = k + 1 by omega]
      exact last _
    | succ r ih =>
      intro i hi hr
      have ih := ih (i + 1) (by omega) (by omega)
      have e1 : fcSum k o (cFI (f - 1)) (min (i + 1) (k + 1)) = fcSum k o (cFI (f - 1)) (min i (k + 1)) + fcTerm k (cFI (f - 1)) i := by
        rw [show min (i + 1) (k + 1) = i + 1 by omega, show min i (k + 1) = i by omega]
        unfold fcSum
        rw [lp_last, Nat.zero_add, if_pos hi]
      rw [e1] at ih
      refine r_iload8 dX9_firstChance_77 ?_
      refine r_iload3 dX9_firstChance_79 ?_
      refine r_icmpgt (tgt := 122) dX9_firstChance_80 (by decide) (fun c9 => absurd c9 (nI_nlt (by omega) (by omega))) (fun _ => ?_)
      refine r_lload6 dX9_firstChance_83 ?_
      refine r_iload3 dX9_firstChance_85 ?_
      refine r_iload8 dX9_firstChance_86 ?_
      refine r_cS2L dX9_firstChance_88 mm_X9_over st_X9_over ml_X9_267 (c_X9_over k i h (by omega) (by omega)) (by decide) (Nat.le_of_ble_eq_true rfl) ?_
      refine r_lload4 dX9_firstChance_91 ?_
      refine r_iload8 dX9_firstChance_93 ?_
      refine r_cS2L dX9_firstChance_95 mm_X9_power st_X9_power ml_X9_300 (c_X9_power _ i h (by omega)) (by decide) (Nat.le_of_ble_eq_true rfl) ?_
      refine r_lmul dX9_firstChance_98 ?_
      refine r_ldc2 ct_X9_304 dX9_firstChance_99 ?_
      refine r_lload4 dX9_firstChance_102 ?_
      refine r_lsub dX9_firstChance_104 ?_
      refine r_iload3 dX9_firstChance_105 ?_
      refine r_iload8 dX9_firstChance_106 ?_
      refine r_isub dX9_firstChance_108 ?_
      rw [pk_sub (by omega : i ≤ k)]
      refine r_cS2L dX9_firstChance_109 mm_X9_power st_X9_power ml_X9_300 (c_X9_power _ (k - i) h (by omega)) (by decide) (Nat.le_of_ble_eq_true rfl) ?_
      refine r_lmul dX9_firstChance_112 ?_
      refine r_ladd dX9_firstChance_113 ?_
      refine r_lstore6 dX9_firstChance_114 rfl (by decide) ?_
      refine r_iinc8_1 dX9_firstChance_116 rfl (by decide) ?_
      refine r_goto (tgt := 77) dX9_firstChance_119 (by decide) ?_
      rw [sh64 (f - 1) (by omega), nI_1]
      exact ih
  have k0 := key (max o (k + 1) - o) o (Nat.le_refl _) (by omega)
  have e0 : fcSum k o (cFI (f - 1)) (min o (k + 1)) = 0 := by
    have : ∀ n, n ≤ o → fcSum k o (cFI (f - 1)) n = 0 := by
      intro n
      induction n with
      | zero => intro _; rfl
      | succ n ih =>
        intro hn
        have q := ih (by omega)
        unfold fcSum at q ⊢
        rw [lp_last, Nat.zero_add, if_neg (by omega)]
        exact q
    exact this _ (by omega)
  rw [e0] at k0
  exact k0
