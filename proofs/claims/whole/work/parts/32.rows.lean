/-! the rows in their order, by number: all (n, TOP) run through by the kernel -/
def stepN (t N : Nat) : Option Nat := match fm (dgt N) t with
  | none => none
  | some m => some (N - dgt N t * 10 ^ (6 - t) - 10 ^ (6 - m) + (dgt N t + 1) * 10 ^ (6 - (m + 1)))
def stepC (D : Nat → Nat) (t m j : Nat) : Nat := if j = m + 1 then D t + 1 else if j = m then D m - 1 else if j = t then 0 else D j
def okOne (n t N : Nat) : Bool := decide (N < 10000000) && (sg (dgt N) 7 == n) && (List.range 7).all (fun j => decide (j ≤ t) || dgt N j == 0)
def okTo (t N m N' : Nat) : Bool := (List.range 7).all (fun j => dgt N' j == stepC (dgt N) t m j)
def okRun (n t : Nat) : Nat → Nat → Bool
  | 0, _ => false
  | f + 1, N => match okOne n t N with
    | false => false
    | true => match fm (dgt N) t with
      | none => true
      | some m => match okTo t N m (N - dgt N t * 10 ^ (6 - t) - 10 ^ (6 - m) + (dgt N t + 1) * 10 ^ (6 - (m + 1))) with
        | false => false
        | true => okRun n t f (N - dgt N t * 10 ^ (6 - t) - 10 ^ (6 - m) + (dgt N t + 1) * 10 ^ (6 - (m + 1)))
theorem okR5 : ∀ t, t < 6 → ∀ n, n < 10 → 1 ≤ n → okRun n t 5005 (n * 1000000) = true := by decide +kernel
theorem okR6 : ∀ n, n < 10 → 1 ≤ n → okRun n 6 5005 (n * 1000000) = true := by decide +kernel
