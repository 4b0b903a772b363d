/-! the class's figures of a row, as the reference's sums -/
theorem tk_2 (D : Nat → Nat) : ∀ u (a : TK), (tk D u a).2.1 = a.2.1 + nI (S1 D u) := by
  intro u
  induction u with
  | zero => intro a; show a.2.1 = a.2.1 + 0; rw [Int32.add_zero]
  | succ u ih =>
    intro a
    have e : tk D (u + 1) a = tk D u (tkF u (D u) a) := rfl
    have e1 : S1 D (u + 1) = S1 D u + u * D u := rfl
    rw [e, ih, e1]
    unfold tkF
    by_cases c : 0 < D u
    · rw [if_pos c]
      dsimp only
      rw [Int32.add_assoc, nI_add, Nat.add_comm (u * D u)]
    · rw [if_neg c, show D u = 0 by omega, Nat.mul_zero, Nat.add_zero]
theorem tk_3 (D : Nat → Nat) : ∀ u (a : TK), (tk D u a).2.2.1 = a.2.2.1 + nI (S2 D u) := by
  intro u
  induction u with
  | zero => intro a; show a.2.2.1 = a.2.2.1 + 0; rw [Int32.add_zero]
  | succ u ih =>
    intro a
    have e : tk D (u + 1) a = tk D u (tkF u (D u) a) := rfl
    have e1 : S2 D (u + 1) = S2 D u + u * u * D u := rfl
    rw [e, ih, e1]
    unfold tkF
    by_cases c : 0 < D u
    · rw [if_pos c]
      dsimp only
      rw [Int32.add_assoc, nI_add, Nat.add_comm (u * u * D u)]
    · rw [if_neg c, show D u = 0 by omega, Nat.mul_zero, Nat.add_zero]
theorem tk0_s1 (D : Nat → Nat) : (tk0 D).2.1 = nI (S1 D 7) := by
  unfold tk0
  rw [tk_2]
  exact Int32.zero_add _
theorem tk0_s2 (D : Nat → Nat) : (tk0 D).2.2.1 = nI (S2 D 7) := by
  unfold tk0
  rw [tk_3]
  exact Int32.zero_add _
