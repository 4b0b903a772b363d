/-! rounding: the class's bounds and the reference's figure agree -/
theorem odd_rem {v : Nat} (hv : v < 2 ^ 20) : rem32 (nI v) 2 = nI (v % 2) := nI_rem (d := 2) (by omega) (by decide) (by decide)
theorem fOut_N {v : Nat} (r : Int32) (hv : v < 2 ^ 20) : fOut (nI v) r = if r = 1 ∧ v % 2 = 1 then 1 else 0 := by
  unfold fOut
  rw [odd_rem hv]
  by_cases c : v % 2 = 1
  · rw [c]
    by_cases d : r = 1
    · rw [if_pos ⟨d, by decide⟩, if_pos ⟨d, rfl⟩]
    · rw [if_neg (fun q => d q.1), if_neg (fun q => d q.1)]
  · rw [show v % 2 = 0 by omega, if_neg (fun q => q.2 rfl), if_neg (fun q => absurd q.2 (by decide))]
theorem fIn_N {v : Nat} (r : Int32) (hv : v < 2 ^ 20) : fIn (nI v) r = if r = 1 ∧ ¬ v % 2 = 1 then 1 else 0 := by
  unfold fIn
  rw [odd_rem hv]
  by_cases c : v % 2 = 1
  · rw [c, if_neg (fun q => absurd q.2 (by decide)), if_neg (fun q => q.2 rfl)]
  · by_cases d : r = 1
    · rw [if_pos ⟨d, by rw [show v % 2 = 0 by omega]; rfl⟩, if_pos ⟨d, c⟩]
    · rw [if_neg (fun q => d q.1), if_neg (fun q => d q.1)]
def lsN (v : Nat) (r : Int32) (f d : Nat) : Nat := (if (if r = 1 ∧ v % 2 = 1 then (1 : Int32) else 0) = 0 then loN v r * d + 2 * f - 1 else loN v r * d + 2 * f) / (2 * f)
def msN (v : Nat) (r : Int32) (f d : Nat) : Nat := (if (if r = 1 ∧ ¬ v % 2 = 1 then (1 : Int32) else 0) = 0 then hiN v r * d - 1 else hiN v r * d) / (2 * f)
theorem lo_le (v : Nat) (r : Int32) : loN v r ≤ 2 * v ∧ hiN v r ≤ 2 * v + 2 ∧ 1 ≤ hiN v r := by
  unfold loN hiN
  split <;> omega
theorem fLeast_N {v f d : Nat} (r : Int32) (hv : v < 2 ^ 20) (hf : 1 ≤ f) (hf2 : f < 2 ^ 20) (hd : d < 2 ^ 20) : fLeast (nI v) r (nI f) (nI d) = nI (lsN v r f d) := by
  have hl := lo_le v r
  have hb : loN v r * d ≤ 2 ^ 22 * 2 ^ 20 := Nat.mul_le_mul (by omega) (by omega)
  unfold fLeast lsN
  rw [fLow_N v r hv, fOut_N r hv, nI_l (by omega), nI_l (by omega), nI_l (by omega), lN_mul, show (2 : Int64) * lN f = lN (2 * f) from lN_mul 2 f, fLF_N _ _ _ (by omega) (by omega) (by omega)]
theorem fMost_N {v f d : Nat} (r : Int32) (hv : v < 2 ^ 20) (hf : 1 ≤ f) (hf2 : f < 2 ^ 20) (hd : 1 ≤ d) (hd2 : d < 2 ^ 20) : fMost (nI v) r (nI f) (nI d) = nI (msN v r f d) := by
  have hl := lo_le v r
  have hb : hiN v r * d ≤ 2 ^ 22 * 2 ^ 20 := Nat.mul_le_mul (by omega) (by omega)
  have h1 : 1 * 1 ≤ hiN v r * d := Nat.mul_le_mul hl.2.2 hd
  unfold fMost msN
  rw [fHigh_N v r, fIn_N r hv, nI_l (by omega), nI_l (by omega), nI_l (by omega), lN_mul, show (2 : Int64) * lN f = lN (2 * f) from lN_mul 2 f, fMT_N _ _ _ (by omega) (by omega) (by omega) (by omega)]
theorem rd_bounds {v f d x : Nat} (r : Int32) (hf : 1 ≤ f) (hd : 1 ≤ d) (hr : r = 0 ∨ r = 1 ∨ r = 2) : rdN (x * f) d r = v ↔ lsN v r f d ≤ x ∧ x ≤ msN v r f d := by
  have h1 : 1 * 1 ≤ hiN v r * d := Nat.mul_le_mul (lo_le v r).2.2 hd
  rw [rd_iff _ _ _ _ (by omega) hr]
  unfold lsN msN
  rw [least_le _ _ _ _ (by omega), most_ge _ _ _ _ (by omega) (by omega)]
  have ex : x * (2 * f) = 2 * (x * f) := by rw [Nat.mul_left_comm]
  rw [ex]
  generalize x * f = X
  have ehi : hiN v r * d = if r = 2 then 2 * (v * d) + 2 * d else 2 * (v * d) + d := by
    unfold hiN
    split
    · rw [Nat.add_mul, Nat.mul_assoc]
    · rw [Nat.add_mul, Nat.mul_assoc, Nat.one_mul]
  have elo : loN v r * d = if r = 2 then 2 * (v * d) else 2 * (v * d) - d := by
    unfold loN
    split
    · rw [Nat.mul_assoc]
    · rw [Nat.sub_mul, Nat.mul_assoc, Nat.one_mul]
  rw [ehi, elo]
  have hz : v = 0 → v * d = 0 := fun q => by rw [q, Nat.zero_mul]
  have hp : 1 ≤ v → d ≤ v * d := fun q => by have := Nat.mul_le_mul_right d q; rw [Nat.one_mul] at this; exact this
  generalize v * d = A at *
  unfold rdC
  rcases hr with rfl | rfl | rfl
  · simp <;> omega
  · by_cases c : v % 2 = 1
    · simp [c] <;> omega
    · simp [c] <;> omega
  · simp <;> omega
