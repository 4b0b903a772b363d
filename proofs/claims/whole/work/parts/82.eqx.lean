/-! the figures of a row: class and reference -/
theorem sg_f (g : Nat → Nat) : ∀ f, sg g (f + 1) = g 0 + sg (fun j => g (j + 1)) f := by
  intro f
  induction f with
  | zero => rw [sg_s]; show 0 + g 0 = g 0 + 0; omega
  | succ f ih => rw [sg_s, ih, sg_s]; omega
theorem sg_0 {g : Nat → Nat} : ∀ f, (∀ j, j < f → g j = 0) → sg g f = 0 := by
  intro f
  induction f with
  | zero => intro _; rfl
  | succ f ih => intro h; rw [sg_s, ih (fun j hj => h j (by omega)), h f (by omega)]
theorem sg_c {g g' : Nat → Nat} : ∀ f, (∀ j, j < f → g j = g' j) → sg g f = sg g' f := by
  intro f
  induction f with
  | zero => intro _; rfl
  | succ f ih => intro h; rw [sg_s, sg_s, ih (fun j hj => h j (by omega)), h f (by omega)]
theorem sg_a (g g' : Nat → Nat) : ∀ f, sg (fun j => g j + g' j) f = sg g f + sg g' f := by
  intro f
  induction f with
  | zero => rfl
  | succ f ih => rw [sg_s, sg_s, sg_s, ih]; omega
theorem upF_sg (p : Nat → Bool) (hp : ∀ k, p (k + 1) = true → p k = true) : ∀ f k, upF p f k = k + sg (fun j => if p (k + j) = true then 1 else 0) f := by
  have down : ∀ d k, p (k + d) = true → p k = true := by
    intro d
    induction d with
    | zero => intro k h; exact h
    | succ d ih => intro k h; exact ih k (hp (k + d) h)
  intro f
  induction f with
  | zero => intro k; rfl
  | succ f ih =>
    intro k
    rw [upF, sg_f]
    by_cases c : p k = true
    · rw [if_pos c, ih (k + 1), if_pos (show p (k + 0) = true from c)]
      have : sg (fun j => if p (k + 1 + j) = true then 1 else 0) f = sg (fun j => if p (k + (j + 1)) = true then 1 else 0) f := sg_c f (fun j _ => by rw [show k + 1 + j = k + (j + 1) by omega])
      rw [this]
      omega
    · rw [if_neg c, if_neg (show ¬ p (k + 0) = true from c), sg_0 f (fun j _ => if_neg (fun q => c (down (j + 1) k q)))]
      rfl
theorem mkA_sg (C : Nat → Nat) (p : Nat) : mkA C p = sg (fun j => if sg C (j + 1) ≤ p then 1 else 0) 7 := by
  unfold mkA
  rw [upF_sg _ (fun k h => by
    rw [decide_eq_true_eq] at h ⊢
    rw [sg_s] at h
    omega), Nat.zero_add]
  exact sg_c 7 (fun j _ => by simp)
theorem mid2_eq (C : Nat → Nat) (n : Nat) : mid2 C n 7 = mkA C ((n - 1) / 2) + mkA C (n / 2) := by
  rw [mkA_sg, mkA_sg]
  unfold mid2
  exact sg_a _ _ 7
def lsO (D : Nat → Nat) : Nat → Int32 → Int32
  | 0, x => x
  | u + 1, x => lsO D u (if 0 < D u then nI u else x)
theorem tk_4 (D : Nat → Nat) : ∀ u (a : TK), (tk D u a).2.2.2.1 = lsO D u a.2.2.2.1 := by
  intro u
  induction u with
  | zero => intro a; rfl
  | succ u ih =>
    intro a
    have e : tk D (u + 1) a = tk D u (tkF u (D u) a) := rfl
    rw [e, ih, lsO]
    unfold tkF
    by_cases c : 0 < D u
    · rw [if_pos c, if_pos c]
    · rw [if_neg c, if_neg c]
theorem lsO_eq (D : Nat → Nat) (m : Nat) (hm : 0 < D m) (h0 : ∀ j, j < m → D j = 0) : ∀ u x, m < u → lsO D u x = nI m := by
  intro u
  induction u with
  | zero => intro x h; omega
  | succ u ih =>
    intro x h
    rw [lsO]
    by_cases e : m = u
    · subst e
      rw [if_pos hm]
      have : ∀ w, w ≤ m → lsO D w (nI m) = nI m := by
        intro w
        induction w with
        | zero => intro _; rfl
        | succ w ih2 => intro hw; rw [lsO, if_neg (by rw [h0 w (by omega)]; omega)]; exact ih2 (by omega)
      exact this m (Nat.le_refl _)
    · exact ih _ (by omega)
theorem upF_at (p : Nat → Bool) (m : Nat) (hm : p m = false) (h0 : ∀ j, j < m → p j = true) : ∀ f k, k ≤ m → m < k + f → upF p f k = m := by
  intro f
  induction f with
  | zero => intro k h1 h2; omega
  | succ f ih =>
    intro k h1 h2
    rw [upF]
    by_cases e : k = m
    · subst e; rw [hm]; exact if_neg (by decide)
    · rw [if_pos (h0 k (by omega))]
      exact ih (k + 1) (by omega) (by omega)
theorem first_of (P : Nat → Prop) [DecidablePred P] : ∀ n, (∃ j, j < n ∧ P j) → ∃ m, m < n ∧ P m ∧ ∀ j, j < m → ¬ P j := by
  intro n
  induction n with
  | zero => rintro ⟨j, hj, _⟩; omega
  | succ n ih =>
    rintro ⟨j, hj, hP⟩
    by_cases c : ∃ j, j < n ∧ P j
    · obtain ⟨m, h1, h2, h3⟩ := ih c
      exact ⟨m, by omega, h2, h3⟩
    · have : j = n := by
        apply Classical.byContradiction
        intro e
        exact c ⟨j, by omega, hP⟩
      subst this
      exact ⟨j, hj, hP, fun i hi q => c ⟨i, hi, q⟩⟩
theorem sg_mono (C : Nat → Nat) {a b : Nat} (h : a ≤ b) : sg C a ≤ sg C b := by
  obtain ⟨d, rfl⟩ : ∃ d, b = a + d := ⟨b - a, by omega⟩
  clear h
  induction d with
  | zero => exact Nat.le_refl _
  | succ d ih => rw [show a + (d + 1) = a + d + 1 by omega, sg_s]; omega
theorem sg_in (C : Nat → Nat) {a b : Nat} (h : a < b) : C a ≤ sg C b := by
  have h1 : sg C a + C a = sg C (a + 1) := rfl
  have h2 := sg_mono C (show a + 1 ≤ b from h)
  omega
theorem tk0_l (D : Nat → Nat) (h : 1 ≤ sg D 7) : (tk0 D).2.2.2.1 = nI (mkA D 0) := by
  have : ∃ j, j < 7 ∧ 0 < D j := by
    apply Classical.byContradiction
    intro q
    have := sg_0 (g := D) 7 (fun j hj => by
      apply Classical.byContradiction
      intro z
      exact q ⟨j, hj, by omega⟩)
    omega
  obtain ⟨m, h1, h2, h3⟩ := first_of (fun j => 0 < D j) 7 this
  unfold tk0
  rw [tk_4, lsO_eq D m h2 (fun j hj => by have := h3 j hj; omega) 7 _ h1]
  unfold mkA
  rw [upF_at _ m (by rw [decide_eq_false_iff_not, sg_s]; omega) (fun j hj => by
    rw [decide_eq_true_eq, sg_0 (j + 1) (fun i hi => by have := h3 i (by omega); omega)]
    exact Nat.le_refl _) 7 0 (by omega) (by omega)]
theorem fm_some {C : Nat → Nat} : ∀ {t m : Nat}, fm C t = some m → 0 < C m ∧ ∀ j, m < j → j < t → C j = 0
  | 0, m, h => absurd h (fun z => nomatch z)
  | t + 1, m, h => by
    rw [fm] at h
    split at h
    · cases h
      rename_i q
      exact ⟨q, fun j h1 h2 => by omega⟩
    · rename_i q
      obtain ⟨a, b⟩ := fm_some h
      refine ⟨a, fun j h1 h2 => ?_⟩
      by_cases e : j = t
      · subst e; omega
      · exact b j h1 (by omega)
theorem tk0_g (N : Nat) {n : Nat} (hs : sg (dgt N) 7 = n) (hn : 1 ≤ n) : (tk0 (dgt N)).2.2.2.2.1 = nI (mkA (dgt N) (n - 1)) := by
  have e := grN_fm N
  unfold grN at e
  rw [e]
  cases hf : fm (dgt N) 7 with
  | none =>
    have hz := fm_none hf
    have := sg_0 (g := dgt N) 7 hz
    omega
  | some m =>
    obtain ⟨a, b⟩ := fm_some hf
    have m7 := fm_lt hf
    show nI m = _
    unfold mkA
    have full : sg (dgt N) (m + 1) = n := by
      rw [← hs]
      have : ∀ d, m + 1 + d ≤ 7 → sg (dgt N) (m + 1 + d) = sg (dgt N) (m + 1) := by
        intro d
        induction d with
        | zero => intro _; rfl
        | succ d ih => intro hd; rw [show m + 1 + (d + 1) = m + 1 + d + 1 by omega, sg_s, ih (by omega), b (m + 1 + d) (by omega) (by omega), Nat.add_zero]
      have t := this (6 - m) (by omega)
      rw [show m + 1 + (6 - m) = 7 by omega] at t
      exact t.symm
    rw [upF_at _ m (by rw [decide_eq_false_iff_not, full]; omega) (fun j hj => by
      rw [decide_eq_true_eq]
      have h1 := sg_mono (dgt N) (show j + 1 ≤ m by omega)
      rw [sg_s] at full
      omega) 7 0 (by omega) (by omega)]
/-- the most common so far, from mark u on -/
def IM (D : Nat → Nat) (u : Nat) (a : TK) : Prop := (a.2.2.2.2.2.2 = 0 ∧ ∀ j, u ≤ j → j < 7 → D j = 0) ∨ ∃ c, u ≤ c ∧ c < 7 ∧ 0 < D c ∧ a.2.2.2.2.2.1 = nI c ∧ a.2.2.2.2.2.2 = nI (D c) ∧ (∀ j, u ≤ j → j < 7 → D j ≤ D c) ∧ ∀ j, u ≤ j → j < c → D j < D c
theorem tk_IM (D : Nat → Nat) (hD : ∀ j, D j < 2 ^ 31) : ∀ u (a : TK), u ≤ 7 → IM D u a → IM D 0 (tk D u a) := by
  intro u
  induction u with
  | zero => intro a _ h; exact h
  | succ u ih =>
    intro a hu h
    have e : tk D (u + 1) a = tk D u (tkF u (D u) a) := rfl
    rw [e]
    refine ih _ (by omega) ?_
    unfold tkF
    by_cases c : 0 < D u
    · rw [if_pos c]
      right
      rcases h with ⟨h1, h2⟩ | ⟨c0, h1, h2, h3, h4, h5, h6, h7⟩
      · have nl : ¬ nI (D u) < a.2.2.2.2.2.2 := by rw [h1]; exact nI_pos (hD u)
        refine ⟨u, Nat.le_refl _, by omega, c, if_neg nl, if_neg nl, fun j j1 j2 => ?_, fun j j1 j2 => by omega⟩
        by_cases q : j = u
        · subst q; exact Nat.le_refl _
        · rw [h2 j (by omega) j2]; omega
      · by_cases d : D u < D c0
        · have nl : nI (D u) < a.2.2.2.2.2.2 := by rw [h5]; exact nI_lt d (hD c0)
          refine ⟨c0, by omega, h2, h3, (if_pos nl).trans h4, (if_pos nl).trans h5, fun j j1 j2 => ?_, fun j j1 j2 => ?_⟩
          · by_cases q : j = u
            · subst q; omega
            · exact h6 j (by omega) j2
          · by_cases q : j = u
            · subst q; exact d
            · exact h7 j (by omega) j2
        · have nl : ¬ nI (D u) < a.2.2.2.2.2.2 := by rw [h5]; exact nI_nlt (by omega) (hD u)
          refine ⟨u, Nat.le_refl _, by omega, c, if_neg nl, if_neg nl, fun j j1 j2 => ?_, fun j j1 j2 => by omega⟩
          by_cases q : j = u
          · subst q; exact Nat.le_refl _
          · have := h6 j (by omega) j2; omega
    · rw [if_neg c]
      rcases h with ⟨h1, h2⟩ | ⟨c0, h1, h2, h3, h4, h5, h6, h7⟩
      · left
        refine ⟨h1, fun j j1 j2 => ?_⟩
        by_cases q : j = u
        · subst q; omega
        · exact h2 j (by omega) j2
      · right
        refine ⟨c0, by omega, h2, h3, h4, h5, fun j j1 j2 => ?_, fun j j1 j2 => ?_⟩
        · by_cases q : j = u
          · subst q; omega
          · exact h6 j (by omega) j2
        · by_cases q : j = u
          · subst q; omega
          · exact h7 j (by omega) j2
theorem moK_max (C : Nat → Nat) : ∀ k, 1 ≤ k → (moK C k < k ∧ (∀ j, j < k → C j ≤ C (moK C k)) ∧ ∀ j, j < moK C k → C j < C (moK C k)) := by
  intro k
  induction k with
  | zero => intro h; omega
  | succ k ih =>
    intro _
    by_cases z : k = 0
    · subst z
      have e : moK C 1 = 0 := by
        unfold moK lp
        show (if C 0 < C 0 then 0 else 0) = 0
        rw [if_neg (Nat.lt_irrefl _)]
      rw [e]
      refine ⟨by omega, fun j hj => ?_, fun j hj => by omega⟩
      rw [show j = 0 by omega]; exact Nat.le_refl _
    · obtain ⟨h1, h2, h3⟩ := ih (by omega)
      have e : moK C (k + 1) = if C (moK C k) < C k then k else moK C k := by
        unfold moK
        rw [lp_last, Nat.zero_add]
      rw [e]
      by_cases c : C (moK C k) < C k
      · rw [if_pos c]
        refine ⟨by omega, fun j hj => ?_, fun j hj => ?_⟩
        · by_cases q : j = k
          · subst q; exact Nat.le_refl _
          · have := h2 j (by omega); omega
        · have := h2 j hj; omega
      · rw [if_neg c]
        refine ⟨by omega, fun j hj => ?_, h3⟩
        by_cases q : j = k
        · subst q; omega
        · exact h2 j (by omega)
theorem tk0_m (D : Nat → Nat) (hD : ∀ j, D j < 2 ^ 31) (h : 1 ≤ sg D 7) : (tk0 D).2.2.2.2.2.1 = nI (moK D 7) := by
  have k := tk_IM D hD 7 (0, 0, 0, -1, -1, -1, 0) (Nat.le_refl _) (Or.inl ⟨rfl, fun j h1 h2 => by omega⟩)
  obtain ⟨m1, m2, m3⟩ := moK_max D 7 (by omega)
  rcases k with ⟨h1, h2⟩ | ⟨c, h1, h2, h3, h4, h5, h6, h7⟩
  · have := sg_0 (g := D) 7 (fun j hj => h2 j (by omega) hj)
    omega
  · have e : c = moK D 7 := by
      have a1 := m2 c h2
      have a2 := h6 (moK D 7) (by omega) m1
      by_cases q : c < moK D 7
      · have := m3 c q; omega
      · by_cases q2 : moK D 7 < c
        · have := h7 (moK D 7) (by omega) q2; omega
        · omega
    unfold tk0
    rw [h4, e]
theorem one_s2 (C : Nat → Nat) (h : sg C 7 = 1) : 1 * S2 C 7 - S1 C 7 * S1 C 7 = 0 := by
  have : ∃ j, j < 7 ∧ 0 < C j := by
    apply Classical.byContradiction
    intro q
    have := sg_0 (g := C) 7 (fun j hj => by
      apply Classical.byContradiction
      intro z
      exact q ⟨j, hj, by omega⟩)
    omega
  obtain ⟨m, h1, h2⟩ := this
  simp only [sg] at h
  have : m = 0 ∨ m = 1 ∨ m = 2 ∨ m = 3 ∨ m = 4 ∨ m = 5 ∨ m = 6 := by omega
  simp only [S1, S2, sg]
  rcases this with rfl | rfl | rfl | rfl | rfl | rfl | rfl
  · rw [show C 0 = 1 by omega, show C 1 = 0 by omega, show C 2 = 0 by omega, show C 3 = 0 by omega, show C 4 = 0 by omega, show C 5 = 0 by omega, show C 6 = 0 by omega]
  · rw [show C 0 = 0 by omega, show C 1 = 1 by omega, show C 2 = 0 by omega, show C 3 = 0 by omega, show C 4 = 0 by omega, show C 5 = 0 by omega, show C 6 = 0 by omega]
  · rw [show C 0 = 0 by omega, show C 1 = 0 by omega, show C 2 = 1 by omega, show C 3 = 0 by omega, show C 4 = 0 by omega, show C 5 = 0 by omega, show C 6 = 0 by omega]
  · rw [show C 0 = 0 by omega, show C 1 = 0 by omega, show C 2 = 0 by omega, show C 3 = 1 by omega, show C 4 = 0 by omega, show C 5 = 0 by omega, show C 6 = 0 by omega]
  · rw [show C 0 = 0 by omega, show C 1 = 0 by omega, show C 2 = 0 by omega, show C 3 = 0 by omega, show C 4 = 1 by omega, show C 5 = 0 by omega, show C 6 = 0 by omega]
  · rw [show C 0 = 0 by omega, show C 1 = 0 by omega, show C 2 = 0 by omega, show C 3 = 0 by omega, show C 4 = 0 by omega, show C 5 = 1 by omega, show C 6 = 0 by omega]
  · rw [show C 0 = 0 by omega, show C 1 = 0 by omega, show C 2 = 0 by omega, show C 3 = 0 by omega, show C 4 = 0 by omega, show C 5 = 0 by omega, show C 6 = 1 by omega]
theorem rt_0 (f v : Nat) (r : Int32) : rtB (0 * f * f) 1 v r = true ↔ v = 0 := by
  rw [Nat.zero_mul, Nat.zero_mul]
  by_cases z : v = 0
  · subst z
    refine ⟨fun _ => rfl, fun _ => ?_⟩
    unfold rtB abR beR
    split <;> simp
  · refine ⟨fun h => ?_, fun h => absurd h z⟩
    exfalso
    have q1 : 1 * 1 ≤ (2 * v - 1) * (2 * v - 1) := Nat.mul_le_mul (by omega) (by omega)
    have q2 : 1 * 1 ≤ v * v := Nat.mul_le_mul (by omega) (by omega)
    unfold rtB abR at h
    rw [Nat.mul_one, Nat.mul_one] at h
    generalize (2 * v - 1) * (2 * v - 1) = A at *
    generalize v * v = B at *
    split at h
    · rw [Bool.and_eq_true, decide_eq_true_eq] at h
      omega
    · rw [Bool.and_eq_true] at h
      have h := h.1
      rw [Bool.or_eq_true, Bool.or_eq_true, Bool.and_eq_true] at h
      simp only [decide_eq_true_eq] at h
      omega
