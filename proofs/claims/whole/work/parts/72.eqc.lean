/-! class and reference answer the same: copies -/
theorem rowV_1 (D : Nat → Nat → Int64) {n1 n2 u : Nat} (i : Nat) (hu : u < n2) : 1 ≤ rowV D n1 n2 u i := by
  rw [rowV_eq D i hu]
  split <;> omega
theorem lgI_s (a : Nat → Nat) {k : Nat} (hk : 1 ≤ k) : lgI a (k + 1) = if a k ≤ a (lgI a k) then lgI a k else k := by
  obtain ⟨m, rfl⟩ : ∃ m, k = m + 1 := ⟨k - 1, by omega⟩
  unfold lgI
  rw [show m + 1 + 1 - 1 = m + 1 by omega, show m + 1 - 1 = m by omega, lp_last, show 1 + m = m + 1 by omega]
theorem cm_row (D : Nat → Nat → Int64) (n1 n2 b : Nat) (st : BM) : ∀ k, 1 ≤ k → lp (cmF D n1 n2 b) 0 k st = if st.1 < rowV D n1 n2 b (lgI (rowV D n1 n2 b) k) then (rowV D n1 n2 b (lgI (rowV D n1 n2 b) k), b, lgI (rowV D n1 n2 b) k) else st := by
  intro k
  induction k with
  | zero => intro h; omega
  | succ k ih =>
    intro _
    by_cases z : k = 0
    · subst z
      rfl
    · have ih := ih (by omega)
      rw [lp_last, Nat.zero_add, ih, lgI_s _ (by omega)]
      have hc : ∀ st : BM, cmF D n1 n2 b k st = if st.1 < rowV D n1 n2 b k then (rowV D n1 n2 b k, b, k) else st := fun _ => rfl
      rw [hc]
      generalize rowV D n1 n2 b = a
      by_cases c1 : st.1 < a (lgI a k)
      · rw [if_pos c1]
        by_cases c2 : a k ≤ a (lgI a k)
        · rw [if_pos c2, if_pos c1]
          exact if_neg (by show ¬ a (lgI a k) < a k; omega)
        · rw [if_neg c2, if_pos (show st.1 < a k by omega)]
          exact if_pos (by show a (lgI a k) < a k; omega)
      · rw [if_neg c1]
        by_cases c2 : a k ≤ a (lgI a k)
        · rw [if_pos c2, if_neg c1]
          exact if_neg (by omega)
        · rw [if_neg c2]
def mxR (D : Nat → Nat → Int64) (n1 n2 u : Nat) : BM := (rowV D n1 n2 u (lgI (rowV D n1 n2 u) n1), u, lgI (rowV D n1 n2 u) n1)
def fFm (D : Nat → Nat → Int64) (n1 n2 k : Nat) : BM := lp (fun b st => lp (cmF D n1 n2 b) 0 n1 st) 0 k (0, 0, 0)
theorem fFm_s (D : Nat → Nat → Int64) {n1 : Nat} (n2 k : Nat) (h1 : 1 ≤ n1) : fFm D n1 n2 (k + 1) = if (fFm D n1 n2 k).1 < (mxR D n1 n2 k).1 then mxR D n1 n2 k else fFm D n1 n2 k := by
  unfold fFm
  rw [lp_last, Nat.zero_add, cm_row D n1 n2 k _ n1 h1]
  rfl
def cvB (D : Nat → Nat → Int64) (st : BM) : BS := (st.1, nI st.2.1, nI st.2.2, D st.2.2 st.2.1)
theorem bsF_c (D : Nat → Nat → Int64) (n1 n2 u : Nat) (b : BS) : bsF D n1 n2 u b = if b.1 ≤ (mxR D n1 n2 u).1 then cvB D (mxR D n1 n2 u) else b := rfl
theorem bs_eq (D : Nat → Nat → Int64) {n1 n2 : Nat} (h1 : 1 ≤ n1) : ∀ k b, k ≤ n2 → bsD D n1 n2 k b = if 1 ≤ k ∧ b.1 ≤ (fFm D n1 n2 k).1 then cvB D (fFm D n1 n2 k) else b := by
  intro k
  induction k with
  | zero => intro b _; rw [if_neg (by omega)]; rfl
  | succ k ih =>
    intro b hk
    have hM : 1 ≤ (mxR D n1 n2 k).1 := rowV_1 D _ (by omega)
    have hr : (cvB D (mxR D n1 n2 k)).1 = (mxR D n1 n2 k).1 := rfl
    rw [bsD, ih _ (by omega), bsF_c, fFm_s D n2 k h1]
    by_cases c1 : b.1 ≤ (mxR D n1 n2 k).1
    · rw [if_pos c1, hr]
      by_cases c2 : (fFm D n1 n2 k).1 < (mxR D n1 n2 k).1
      · rw [if_neg (by omega), if_pos c2, if_pos ⟨by omega, c1⟩]
      · have hk1 : 1 ≤ k := by
          by_cases z : k = 0
          · subst z
            have e : (fFm D n1 n2 0).1 = 0 := rfl
            omega
          · omega
        rw [if_pos ⟨hk1, by omega⟩, if_neg c2, if_pos ⟨by omega, by omega⟩]
    · rw [if_neg c1]
      by_cases c2 : (fFm D n1 n2 k).1 < (mxR D n1 n2 k).1
      · rw [if_pos c2, if_neg (by omega), if_neg (by omega)]
      · have hk1 : 1 ≤ k := by
          by_cases z : k = 0
          · subst z
            have e : (fFm D n1 n2 0).1 = 0 := rfl
            omega
          · omega
        rw [if_neg c2]
        by_cases c3 : b.1 ≤ (fFm D n1 n2 k).1
        · rw [if_pos ⟨hk1, c3⟩, if_pos ⟨by omega, c3⟩]
        · rw [if_neg (fun q => c3 q.2), if_neg (fun q => c3 q.2)]
theorem copies_eq (D : Nat → Nat → Int64) {n1 n2 : Nat} (h1 : 1 ≤ n1) (h2 : 1 ≤ n2) (x y : Int32) (z : Int64) : bsD D n1 n2 n2 (0, x, y, z) = cvB D (cpM D n1 n2) := by
  rw [bs_eq D h1 n2 _ (Nat.le_refl _), if_pos ⟨h2, Nat.zero_le _⟩]
  rfl
