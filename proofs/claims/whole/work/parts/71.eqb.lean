/-! class and reference answer the same: quarrel over the same sets, write -/
theorem onN_le : ∀ f s, onN f s ≤ f := by
  intro f
  induction f with
  | zero => intro s; exact Nat.le_refl _
  | succ f ih =>
    intro s
    rw [onN]
    split
    · omega
    · have := ih (s &&& (s - 1)); omega
theorem bit_lt {s a : Nat} (hs : s < 1024) (ha : a < 1024) : (bitc (nI s) - bitc (nI a) < 0 ↔ bitc (nI s) < bitc (nI a)) := by
  have h1 := onN_le 10 s
  have h2 := onN_le 10 a
  rw [← (on_bitc s hs).1, ← (on_bitc a ha).1, fa_lt, fa_lt, pk_sub_toInt (by omega) (by omega), nI_toInt (by omega), nI_toInt (by omega)]
  have e : (0 : Int32).toInt = 0 := by decide
  omega
theorem ahead_s {s a : Nat} (hs : s < 1024) (ha : a < s) : ahead (nI s) (nI a) = decide (bitc (nI s) < bitc (nI a)) := by
  unfold ahead
  rw [decide_eq_false (show ¬ nI s < nI a from nI_nlt (by omega) (by omega)), Bool.and_false, Bool.or_false]
  by_cases c : bitc (nI s) < bitc (nI a)
  · rw [decide_eq_true c, decide_eq_true ((bit_lt hs (by omega)).mpr c)]
  · rw [decide_eq_false c, decide_eq_false (fun q => c ((bit_lt hs (by omega)).mp q))]
theorem lq_eq (T : Nat → Int32) (b : Int32) : ∀ g s a, s + g = 1024 → 1 ≤ s → a < s → lp (lqF T b) s g (nI a) = lp (quF T b) s g (nI a) := by
  intro g
  induction g with
  | zero => intro s a _ _ _; rfl
  | succ g ih =>
    intro s a hs h1 ha
    rw [lp_s, lp_s]
    have e : ∃ c, c < s + 1 ∧ lqF T b s (nI a) = nI c ∧ quF T b s (nI a) = nI c := by
      unfold lqF quF
      rw [ahead_s (by omega) ha]
      by_cases c1 : nI s &&& (b ^^^ -1) = 0
      · rw [if_pos c1, if_pos c1]
        by_cases c2 : T s = 0
        · rw [if_pos c2, if_pos c2]
          by_cases c3 : nI a = 0
          · rw [if_pos c3, if_pos c3]; exact ⟨s, by omega, rfl, rfl⟩
          · rw [if_neg c3, if_neg c3]
            by_cases c4 : bitc (nI s) < bitc (nI a)
            · rw [if_pos (decide_eq_true c4), if_pos c4]; exact ⟨s, by omega, rfl, rfl⟩
            · rw [if_neg (by simpa using c4), if_neg c4]; exact ⟨a, by omega, rfl, rfl⟩
        · rw [if_neg c2, if_neg c2]; exact ⟨a, by omega, rfl, rfl⟩
      · rw [if_neg c1, if_neg c1]; exact ⟨a, by omega, rfl, rfl⟩
    obtain ⟨c, hc, e1, e2⟩ := e
    rw [e1, e2]
    exact ih (s + 1) c (by omega) (by omega) hc
theorem quarrel_eq (T : Nat → Int32) (b : Int32) : fLQ T b = lp (quF T b) 1 1023 0 := lq_eq T b 1023 1 0 rfl (by decide) (by decide)
theorem wr_eq (H Nb : Nat → Int32) (b f : Int32) (j z : Nat) (hz : z ≤ 60) : ∀ g r k A A', (∀ x, x < 60 → A (60 * j + x) = A' x) → (mwR H Nb b f j z g r k A).1 = (wrF H Nb b f z g r k A').1 ∧ (∀ x, x < 60 → (mwR H Nb b f j z g r k A).2 (60 * j + x) = (wrF H Nb b f z g r k A').2 x) ∧ ∀ y, ¬ (60 * j ≤ y ∧ y < 60 * j + 60) → (mwR H Nb b f j z g r k A).2 y = A y := by
  intro g
  induction g with
  | zero => intro r k A A' h; exact ⟨rfl, h, fun y _ => rfl⟩
  | succ g ih =>
    intro r k A A' h
    rw [mwR, wrF]
    by_cases c : k < z
    · rw [if_pos c, if_pos c]
      by_cases e : cbe (H r) b = true
      · rw [if_pos e, if_pos e]
        have h2 : ∀ x, x < 60 → upd A (60 * j + k) (cutF f (Nb r)) (60 * j + x) = upd A' k (cutF f (Nb r)) x := by
          intro x hx
          unfold upd
          by_cases q : x = k
          · subst q; rw [if_pos rfl, if_pos rfl]
          · rw [if_neg q, if_neg (by omega), h x hx]
        obtain ⟨i1, i2, i3⟩ := ih (r + 1) (k + 1) _ _ h2
        refine ⟨i1, i2, fun y hy => ?_⟩
        rw [i3 y hy]
        exact if_neg (by omega)
      · rw [if_neg e, if_neg e]
        exact ih (r + 1) k A A' h
    · rw [if_neg c, if_neg c]
      exact ⟨rfl, h, fun y _ => rfl⟩
