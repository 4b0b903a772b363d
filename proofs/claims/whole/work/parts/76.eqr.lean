/-! rounding, forwards and backwards -/
def rdC (X Y A : Nat) (r : Int32) (v : Nat) : Prop := if r = 2 then A ≤ X ∧ X < A + Y else if r = 1 then (if v % 2 = 1 then 2 * A < 2 * X + Y ∧ 2 * X < 2 * A + Y else 2 * A ≤ 2 * X + Y ∧ 2 * X ≤ 2 * A + Y) else 2 * A ≤ 2 * X + Y ∧ 2 * X < 2 * A + Y
/-- when x / y is told as v -/
theorem rd_iff (X Y v : Nat) (r : Int32) (hY : 0 < Y) (hr : r = 0 ∨ r = 1 ∨ r = 2) : rdN X Y r = v ↔ rdC X Y (v * Y) r v := by
  have hm : X % Y < Y := Nat.mod_lt _ hY
  have hX : X = X / Y * Y + X % Y := by rw [Nat.mul_comm]; exact (Nat.div_add_mod X Y).symm
  unfold rdN rdC
  generalize hq : X / Y = q at *
  generalize X % Y = m at *
  have hA : (v < q ∧ v * Y + Y ≤ q * Y) ∨ (v = q ∧ v * Y = q * Y) ∨ (v = q + 1 ∧ v * Y = q * Y + Y) ∨ (q + 1 < v ∧ q * Y + 2 * Y ≤ v * Y) := by
    by_cases c1 : v < q
    · refine Or.inl ⟨c1, ?_⟩
      have := Nat.mul_le_mul_right Y (show v + 1 ≤ q by omega)
      rw [Nat.add_mul, Nat.one_mul] at this
      exact this
    · by_cases c2 : v = q
      · exact Or.inr (Or.inl ⟨c2, by rw [c2]⟩)
      · by_cases c3 : v = q + 1
        · exact Or.inr (Or.inr (Or.inl ⟨c3, by rw [c3, Nat.add_mul, Nat.one_mul]⟩))
        · refine Or.inr (Or.inr (Or.inr ⟨by omega, ?_⟩))
          have := Nat.mul_le_mul_right Y (show q + 2 ≤ v by omega)
          rw [Nat.add_mul] at this
          exact this
  generalize v * Y = A at *
  generalize q * Y = B at *
  rcases hr with rfl | rfl | rfl
  · rw [if_neg (show ¬ (0 : Int32) = 2 by decide), if_neg (show ¬ (0 : Int32) = 2 by decide), if_neg (show ¬ (0 : Int32) = 1 by decide)]
    by_cases d1 : Y < 2 * m
    · rw [if_pos d1]; omega
    · rw [if_neg d1]
      by_cases d2 : 2 * m = Y
      · rw [if_pos d2, if_pos (show (0 : Int32) = 0 from rfl)]; omega
      · rw [if_neg d2]; omega
  · rw [if_neg (show ¬ (1 : Int32) = 2 by decide), if_neg (show ¬ (1 : Int32) = 2 by decide), if_pos (show (1 : Int32) = 1 from rfl)]
    by_cases d1 : Y < 2 * m
    · rw [if_pos d1]; split <;> omega
    · rw [if_neg d1]
      by_cases d2 : 2 * m = Y
      · rw [if_pos d2, if_neg (show ¬ (1 : Int32) = 0 by decide)]
        split <;> split <;> omega
      · rw [if_neg d2]; split <;> omega
  · rw [if_pos (show (2 : Int32) = 2 from rfl), if_pos (show (2 : Int32) = 2 from rfl)]; omega
