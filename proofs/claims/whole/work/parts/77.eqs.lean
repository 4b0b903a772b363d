/-! the class's bounds of a rounded figure, as numbers -/
def loN (v : Nat) (r : Int32) : Nat := if r = 2 then 2 * v else 2 * v - 1
def hiN (v : Nat) (r : Int32) : Nat := if r = 2 then 2 * v + 2 else 2 * v + 1
theorem fLow_N (v : Nat) (r : Int32) (hv : v < 2 ^ 20) : fLow (nI v) r = nI (loN v r) := by
  unfold fLow loN
  have e : (2 : Int32) * nI v = nI (2 * v) := pk_mul 2 v
  rw [e]
  by_cases c : r = 2
  · rw [if_pos c, if_pos c]
  · rw [if_neg c, if_neg c]
    by_cases z : v = 0
    · subst z
      decide
    · have e2 : nI (2 * v) - 1 = nI (2 * v - 1) := pk_sub (b := 1) (by omega)
      rw [e2, if_neg (nI_pos (by omega))]
theorem fHigh_N (v : Nat) (r : Int32) : fHigh (nI v) r = nI (hiN v r) := by
  unfold fHigh hiN
  have e : (2 : Int32) * nI v = nI (2 * v) := pk_mul 2 v
  rw [e]
  by_cases c : r = 2
  · rw [if_pos c, if_pos c]; exact nI_add _ 2
  · rw [if_neg c, if_neg c]; exact nI_add _ 1
theorem fLF_N (L U : Nat) (b : Int32) (hU : 2 ≤ U) (hL : L < 2 ^ 61) (hU2 : U < 2 ^ 61) : fLeastFrom (lN L) (lN U) b = nI ((if b = 0 then L + U - 1 else L + U) / U) := by
  have es : fStep (lN U) = lN U := if_pos ((pk_lLT (a := 1) (by decide) (by omega)).mpr (by omega))
  unfold fLeastFrom
  rw [es, lN_add]
  by_cases c : b = 0
  · rw [if_pos c, if_pos c, show lN (L + U) - 1 = lN (L + U - 1) from lN_sub (b := 1) (by omega), pk_lDiv (by omega) (by omega) (by omega), lN_i]
  · rw [if_neg c, if_neg c, pk_lDiv (by omega) (by omega) (by omega), lN_i]
theorem fMT_N (L U : Nat) (b : Int32) (hU : 2 ≤ U) (h1 : 1 ≤ L) (hL : L < 2 ^ 61) (hU2 : U < 2 ^ 61) : fMostTo (lN L) (lN U) b = nI ((if b = 0 then L - 1 else L) / U) := by
  have es : fStep (lN U) = lN U := if_pos ((pk_lLT (a := 1) (by decide) (by omega)).mpr (by omega))
  unfold fMostTo
  rw [es]
  by_cases c : b = 0
  · rw [if_pos c, if_pos c, show lN L - 1 = lN (L - 1) from lN_sub (b := 1) (by omega), pk_lDiv (by omega) (by omega) (by omega), lN_i]
  · rw [if_neg c, if_neg c, pk_lDiv (by omega) (by omega) (by omega), lN_i]
/-- x is not below the least from L, U */ -/
theorem least_le (L U x : Nat) (b : Int32) (hU : 0 < U) : (if b = 0 then L + U - 1 else L + U) / U ≤ x ↔ (if b = 0 then L ≤ x * U else L < x * U) := by
  have k : ∀ y, y / U ≤ x ↔ y < x * U + U := by
    intro y
    rw [← Nat.lt_succ_iff, Nat.div_lt_iff_lt_mul hU, Nat.succ_mul]
  rw [k]
  by_cases c : b = 0
  · rw [if_pos c, if_pos c]; omega
  · rw [if_neg c, if_neg c]; omega
theorem most_ge (L U x : Nat) (b : Int32) (hU : 0 < U) (h1 : 1 ≤ L) : x ≤ (if b = 0 then L - 1 else L) / U ↔ (if b = 0 then x * U < L else x * U ≤ L) := by
  rw [Nat.le_div_iff_mul_le hU]
  by_cases c : b = 0
  · rw [if_pos c, if_pos c]; omega
  · rw [if_neg c, if_neg c]
