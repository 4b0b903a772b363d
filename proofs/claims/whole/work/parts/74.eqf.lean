/-! class and reference answer the same: put's marks above TOP -/
def grO : Option Nat → Int32
  | none => -1
  | some m => nI m
theorem tk_g (D : Nat → Nat) : ∀ u (a : TK), u ≤ 7 → (tk D u a).2.2.2.2.1 = if a.2.2.2.2.1 = -1 then grO (fm D u) else a.2.2.2.2.1 := by
  intro u
  induction u with
  | zero =>
    intro a _
    by_cases c : a.2.2.2.2.1 = -1
    · rw [if_pos c]; exact c
    · rw [if_neg c]; rfl
  | succ u ih =>
    intro a hu
    have e : tk D (u + 1) a = tk D u (tkF u (D u) a) := rfl
    rw [e, ih _ (by omega), fm]
    unfold tkF
    by_cases d : 0 < D u
    · rw [if_pos d, if_pos d]
      dsimp only
      by_cases c : a.2.2.2.2.1 = -1
      · rw [if_pos c, if_pos c, if_neg (nI_nm1 (by omega))]
        rfl
      · rw [if_neg c, if_neg c, if_neg c]
    · rw [if_neg d, if_neg d]
theorem grN_fm (N : Nat) : grN N = grO (fm (dgt N) 7) := by
  unfold grN tk0
  rw [tk_g _ 7 _ (Nat.le_refl _)]
  exact if_pos rfl
theorem hiF_iff (N t : Nat) : ∀ k, hiF N t k = true ↔ ∃ j, j < k ∧ t < j ∧ 0 < dgt N j := by
  intro k
  induction k with
  | zero => exact ⟨fun q => Bool.noConfusion (show false = true from q), fun ⟨j, hj, _⟩ => absurd hj (Nat.not_lt_zero j)⟩
  | succ k ih =>
    rw [hiF, Bool.or_eq_true, ih, Bool.and_eq_true, decide_eq_true_eq, decide_eq_true_eq]
    constructor
    · rintro (⟨j, h1, h2, h3⟩ | ⟨h2, h3⟩)
      · exact ⟨j, by omega, h2, h3⟩
      · exact ⟨k, by omega, h2, h3⟩
    · rintro ⟨j, h1, h2, h3⟩
      by_cases e : j = k
      · subst e; exact Or.inr ⟨h2, h3⟩
      · exact Or.inl ⟨j, by omega, h2, h3⟩
theorem put_hi (N : Nat) {t : Nat} (ht : t ≤ 6) : grN N ≤ nI t ↔ hiF N t 7 = false := by
  rw [grN_fm]
  cases hf : fm (dgt N) 7 with
  | none =>
    have hz := fm_none hf
    refine ⟨fun _ => ?_, fun _ => ?_⟩
    · cases hh : hiF N t 7 with
      | false => rfl
      | true =>
        obtain ⟨j, h1, h2, h3⟩ := (hiF_iff N t 7).mp hh
        have := hz j h1
        omega
    · show (-1 : Int32) ≤ nI t
      rw [fa_le, nI_toInt (by omega)]
      have e : (-1 : Int32).toInt = -1 := by decide
      omega
  | some m =>
    have hp := fm_pos hf
    have hl := fm_lt hf
    have hm := fm_mid hf
    have e : grO (some m) ≤ nI t ↔ m ≤ t := nI_leI (by omega) (by omega)
    rw [e]
    refine ⟨fun q => ?_, fun q => ?_⟩
    · cases hh : hiF N t 7 with
      | false => rfl
      | true =>
        obtain ⟨j, h1, h2, h3⟩ := (hiF_iff N t 7).mp hh
        have := hm j (by omega) h1
        omega
    · by_cases z : m ≤ t
      · exact z
      · have := (hiF_iff N t 7).mpr ⟨m, hl, by omega, hp⟩
        rw [q] at this
        exact Bool.noConfusion this
