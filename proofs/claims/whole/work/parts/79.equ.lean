/-! roots: the class's bounds and the reference's test agree -/
def lsR (v : Nat) (r : Int32) (f d : Nat) : Nat := (if (if r = 1 ∧ v % 2 = 1 then (1 : Int32) else 0) = 0 then loN v r * loN v r * d + 4 * f * f - 1 else loN v r * loN v r * d + 4 * f * f) / (4 * f * f)
def msR (v : Nat) (r : Int32) (f d : Nat) : Nat := (if (if r = 1 ∧ ¬ v % 2 = 1 then (1 : Int32) else 0) = 0 then hiN v r * hiN v r * d - 1 else hiN v r * hiN v r * d) / (4 * f * f)
theorem ff_b {f : Nat} (hf : 1 ≤ f) (hf2 : f ≤ 1000) : 4 ≤ 4 * f * f ∧ 4 * f * f ≤ 4000000 := by
  have h1 : 4 * 1 * 1 ≤ 4 * f * f := Nat.mul_le_mul (by omega) hf
  have h2 : 4 * f * f ≤ 4 * 1000 * 1000 := Nat.mul_le_mul (by omega) hf2
  omega
theorem fLeastR_N {v f d : Nat} (r : Int32) (hv : v ≤ 10000) (hf : 1 ≤ f) (hf2 : f ≤ 1000) (hd : d < 2 ^ 20) : fLeastR (nI v) r (nI f) (nI d) = nI (lsR v r f d) := by
  have hl := lo_le v r
  have hq := ff_b hf hf2
  have ha : loN v r * loN v r ≤ 20000 * 20000 := Nat.mul_le_mul (by omega) (by omega)
  have hb : loN v r * loN v r * d ≤ 20000 * 20000 * 2 ^ 20 := Nat.mul_le_mul ha (by omega)
  unfold fLeastR lsR
  rw [fLow_N v r (by omega), fOut_N r (by omega), nI_l (by omega), nI_l (by omega), nI_l (by omega), lN_mul, lN_mul, show (4 : Int64) * lN f = lN (4 * f) from lN_mul 4 f, lN_mul, fLF_N _ _ _ (by omega) (by omega) (by omega)]
theorem fMostR_N {v f d : Nat} (r : Int32) (hv : v ≤ 10000) (hf : 1 ≤ f) (hf2 : f ≤ 1000) (hd : 1 ≤ d) (hd2 : d < 2 ^ 20) : fMostR (nI v) r (nI f) (nI d) = nI (msR v r f d) := by
  have hl := lo_le v r
  have hq := ff_b hf hf2
  have ha : hiN v r * hiN v r ≤ 20002 * 20002 := Nat.mul_le_mul (by omega) (by omega)
  have hb : hiN v r * hiN v r * d ≤ 20002 * 20002 * 2 ^ 20 := Nat.mul_le_mul ha (by omega)
  have h1 : 1 * 1 * 1 ≤ hiN v r * hiN v r * d := Nat.mul_le_mul (Nat.mul_le_mul hl.2.2 hl.2.2) hd
  unfold fMostR msR
  rw [fHigh_N v r, fIn_N r (by omega), nI_l (by omega), nI_l (by omega), nI_l (by omega), lN_mul, lN_mul, show (4 : Int64) * lN f = lN (4 * f) from lN_mul 4 f, lN_mul, fMT_N _ _ _ (by omega) (by omega) (by omega) (by omega)]
theorem rt_bounds {v f d x : Nat} (r : Int32) (hf : 1 ≤ f) (hf2 : f ≤ 1000) (hd : 1 ≤ d) (hr : r = 0 ∨ r = 1 ∨ r = 2) : rtB (x * f * f) d v r = true ↔ lsR v r f d ≤ x ∧ x ≤ msR v r f d := by
  have hl := lo_le v r
  have hq := ff_b hf hf2
  have h1 : 1 * 1 * 1 ≤ hiN v r * hiN v r * d := Nat.mul_le_mul (Nat.mul_le_mul hl.2.2 hl.2.2) hd
  unfold lsR msR
  rw [least_le _ _ _ _ (by omega), most_ge _ _ _ _ (by omega) (by omega)]
  have ex : x * (4 * f * f) = 4 * (x * f * f) := by rw [Nat.mul_assoc 4, Nat.mul_left_comm, Nat.mul_assoc x]
  rw [ex]
  generalize x * f * f = X
  have e4 : ∀ a, 2 * a * (2 * a) * d = 4 * (a * a * d) := by
    intro a
    rw [Nat.mul_mul_mul_comm, Nat.mul_assoc]
  unfold rtB abR beR
  rcases hr with rfl | rfl | rfl
  · rw [show loN v 0 = 2 * v - 1 from if_neg (by decide), show hiN v 0 = 2 * v + 1 from if_neg (by decide)]
    have z : v = 0 → (2 * v - 1) * (2 * v - 1) * d = 0 := fun q => by subst q; simp
    generalize (2 * v - 1) * (2 * v - 1) * d = L at *
    generalize (2 * v + 1) * (2 * v + 1) * d = H at *
    simp
    omega
  · rw [show loN v 1 = 2 * v - 1 from if_neg (by decide), show hiN v 1 = 2 * v + 1 from if_neg (by decide)]
    have z : v = 0 → (2 * v - 1) * (2 * v - 1) * d = 0 := fun q => by subst q; simp
    generalize (2 * v - 1) * (2 * v - 1) * d = L at *
    generalize (2 * v + 1) * (2 * v + 1) * d = H at *
    by_cases c : v % 2 = 1
    · simp [c]
      omega
    · simp [c]
      omega
  · rw [show loN v 2 = 2 * v from if_pos rfl, show hiN v 2 = 2 * v + 2 from if_pos rfl]
    have a1 := e4 v
    have a2 := e4 (v + 1)
    rw [show 2 * (v + 1) = 2 * v + 2 by omega] at a2
    simp [a1, a2]
    omega
