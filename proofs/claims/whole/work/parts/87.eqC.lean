/-! ask: class and reference -/
def cnD (H : Nat → Int32) (Nf : Nat → Nat) (b : Int32) (mk d m : Nat) : Nat := lp (fun k a => if cbe (H k) b = true ∧ dgt (Nf k) mk = d then a + 1 else a) 0 m 0
theorem cnD_s (H : Nat → Int32) (Nf : Nat → Nat) (b : Int32) (mk d m : Nat) : cnD H Nf b mk d (m + 1) = if cbe (H m) b = true ∧ dgt (Nf m) mk = d then cnD H Nf b mk d m + 1 else cnD H Nf b mk d m := by
  unfold cnD
  rw [lp_last, Nat.zero_add]
theorem cnD_le (H : Nat → Int32) (Nf : Nat → Nat) (b : Int32) (mk d : Nat) : ∀ m, cnD H Nf b mk d m ≤ m := by
  intro m
  induction m with
  | zero => exact Nat.le_refl _
  | succ m ih => rw [cnD_s]; split <;> omega
/-- the greatest of ten -/
def IsM (g : Nat → Nat) (k M : Nat) : Prop := (∀ d, d < k → g d ≤ M) ∧ (M = 0 ∨ ∃ d, d < k ∧ g d = M)
theorem IsM_u {g : Nat → Nat} {k M M' : Nat} (h : IsM g k M) (h' : IsM g k M') : M = M' := by
  have one : ∀ M M', IsM g k M → IsM g k M' → M ≤ M' := by
    intro M M' h h'
    rcases h.2 with q | ⟨d, d1, d2⟩
    · omega
    · rw [← d2]; exact h'.1 d d1
  have := one M M' h h'
  have := one M' M h' h
  omega
theorem mlF_M {A : Nat → Int32} {mk : Nat} {g : Nat → Nat} (hA : ∀ d, d < 10 → A (10 * mk + d) = nI (g d)) (hg : ∀ d, g d < 2 ^ 31) : ∃ M, M < 2 ^ 31 ∧ mlF A mk = nI M ∧ IsM g 10 M := by
  have key : ∀ k, k ≤ 10 → ∃ M, M < 2 ^ 31 ∧ lp (fun j a => if a < A (10 * mk + j) then A (10 * mk + j) else a) 0 k 0 = nI M ∧ IsM g k M := by
    intro k
    induction k with
    | zero => intro _; exact ⟨0, by decide, rfl, fun d hd => absurd hd (Nat.not_lt_zero d), Or.inl rfl⟩
    | succ k ih =>
      intro hk
      obtain ⟨M, m1, m2, m3, m4⟩ := ih (by omega)
      rw [lp_last, Nat.zero_add, m2, hA k (by omega)]
      by_cases c : M < g k
      · rw [if_pos (nI_lt c (hg k))]
        refine ⟨g k, hg k, rfl, fun d hd => ?_, Or.inr ⟨k, by omega, rfl⟩⟩
        by_cases e : d = k
        · subst e; exact Nat.le_refl _
        · have := m3 d (by omega); omega
      · rw [if_neg (nI_nlt (by omega) m1)]
        refine ⟨M, m1, rfl, fun d hd => ?_, ?_⟩
        · by_cases e : d = k
          · subst e; omega
          · exact m3 d (by omega)
        · rcases m4 with q | ⟨d, d1, d2⟩
          · exact Or.inl q
          · exact Or.inr ⟨d, by omega, d2⟩
  exact key 10 (Nat.le_refl _)
theorem tlD_at (N : Nat) {mk d : Nat} (hd : d < 10) : ∀ u A, tlD N u A (10 * mk + d) = if mk < u ∧ dgt N mk = d then A (10 * mk + d) + 1 else A (10 * mk + d) := by
  intro u
  induction u with
  | zero => intro A; rw [if_neg (by omega)]; rfl
  | succ u ih =>
    intro A
    have hu := dgt_lt N u
    rw [tlD, ih]
    unfold upd
    by_cases e : mk = u
    · subst e
      rw [if_neg (by omega)]
      by_cases q : dgt N mk = d
      · rw [if_pos (by omega), if_pos ⟨by omega, q⟩, q]
      · rw [if_neg (by omega), if_neg (by omega)]
    · rw [if_neg (show ¬ 10 * mk + d = 10 * u + dgt N u by omega)]
      by_cases q : mk < u ∧ dgt N mk = d
      · rw [if_pos q, if_pos (by omega)]
      · rw [if_neg q, if_neg (by omega)]
theorem tly_at (H : Nat → Int32) (Nf : Nat → Nat) (b : Int32) {z : Nat → Int32} (hz : ∀ j, j < 70 → z j = 0) {mk d : Nat} (hm : mk < 7) (hd : d < 10) : ∀ m, tly H Nf b m z (10 * mk + d) = nI (cnD H Nf b mk d m) := by
  intro m
  induction m with
  | zero => exact hz _ (by omega)
  | succ m ih =>
    have e : tly H Nf b (m + 1) z = tlF H Nf b m (tly H Nf b m z) := by
      unfold tly
      rw [lp_last, Nat.zero_add]
    rw [e, cnD_s]
    unfold tlF
    by_cases c : cbe (H m) b = true
    · rw [if_pos c, tlD_at _ hd, ih]
      by_cases q : dgt (Nf m) mk = d
      · rw [if_pos ⟨hm, q⟩, if_pos ⟨c, q⟩, nI_1]
      · rw [if_neg (fun w => q w.2), if_neg (fun w => q w.2)]
    · rw [if_neg c, if_neg (fun w => c w.1), ih]
theorem akM_M (H : Nat → Int32) (Nf : Nat → Nat) (b : Int32) (mk : Nat) (z : Nat → Int32) : ∀ m, m < 2 ^ 30 → (∀ d, d < 10 → (akM H Nf b mk m z).1 d = nI (cnD H Nf b mk d m)) ∧ ∃ M, M ≤ m ∧ (akM H Nf b mk m z).2 = nI M ∧ IsM (fun d => cnD H Nf b mk d m) 10 M := by
  intro m
  induction m with
  | zero =>
    intro _
    refine ⟨fun d hd => ?_, 0, by decide, rfl, fun d hd => Nat.le_refl _, Or.inl rfl⟩
    show z10 z 10 d = 0
    unfold z10
    rw [if_pos hd]
  | succ m ih =>
    intro hm
    obtain ⟨i1, M, m1, m2, m3, m4⟩ := ih (by omega)
    have e : akM H Nf b mk (m + 1) z = akF H Nf b mk m (akM H Nf b mk m z) := by
      unfold akM
      rw [lp_last, Nat.zero_add]
    rw [e]
    have dl := dgt_lt (Nf m) mk
    unfold akF
    by_cases c : cbe (H m) b = true
    · rw [if_pos c]
      dsimp only
      have hv := i1 _ dl
      have cl := cnD_le H Nf b mk (dgt (Nf m) mk) m
      rw [hv, nI_1, m2]
      refine ⟨fun d hd => ?_, ?_⟩
      · rw [cnD_s]
        unfold upd
        by_cases q : d = dgt (Nf m) mk
        · rw [if_pos q, if_pos ⟨c, q.symm⟩, q]
        · rw [if_neg q, if_neg (fun w => q w.2.symm), i1 d hd]
      · by_cases q : cnD H Nf b mk (dgt (Nf m) mk) m + 1 ≤ M
        · rw [if_pos (nI_le q (by omega))]
          refine ⟨M, by omega, rfl, fun d hd => ?_, ?_⟩
          · dsimp only
            rw [cnD_s]
            split
            · rename_i w; rw [← w.2]; exact q
            · exact m3 d hd
          · rcases m4 with w | ⟨d, d1, d2⟩
            · exact Or.inl w
            · refine Or.inr ⟨d, d1, ?_⟩
              dsimp only at d2 ⊢
              rw [cnD_s, if_neg (fun w => by rw [w.2] at q; omega)]
              exact d2
        · rw [if_neg (nI_ge (by omega) (by omega))]
          refine ⟨_, by omega, rfl, fun d hd => ?_, Or.inr ⟨dgt (Nf m) mk, dl, ?_⟩⟩
          · dsimp only
            rw [cnD_s]
            split
            · rename_i w; rw [← w.2]; exact Nat.le_refl _
            · have := m3 d hd
              dsimp only at this
              omega
          · dsimp only
            rw [cnD_s, if_pos ⟨c, rfl⟩]
    · rw [if_neg c]
      have e2 : ∀ d, cnD H Nf b mk d (m + 1) = cnD H Nf b mk d m := fun d => by rw [cnD_s, if_neg (fun w => c w.1)]
      refine ⟨fun d hd => by rw [e2]; exact i1 d hd, M, by omega, m2, fun d hd => ?_, ?_⟩
      · dsimp only; rw [e2]; exact m3 d hd
      · rcases m4 with w | ⟨d, d1, d2⟩
        · exact Or.inl w
        · exact Or.inr ⟨d, d1, by dsimp only; rw [e2]; exact d2⟩
theorem ml_ak (H H' : Nat → Int32) (Nf : Nat → Nat) (b : Int32) {m : Nat} (hm : m < 2 ^ 30) {z : Nat → Int32} (hz : ∀ j, j < 70 → z j = 0) (z' : Nat → Int32) (hH : ∀ k, k < m → H k = H' k) {mk : Nat} (hk : mk < 7) : mlF (tly H Nf b m z) mk = (akM H' Nf b mk m z').2 := by
  have ec : ∀ d, cnD H Nf b mk d m = cnD H' Nf b mk d m := by
    intro d
    unfold cnD
    refine lp_cong _ _ _ (fun k a _ h2 => ?_)
    rw [hH k (by omega)]
  obtain ⟨M, m1, m2, m3⟩ := mlF_M (A := tly H Nf b m z) (g := fun d => cnD H Nf b mk d m) (fun d hd => tly_at H Nf b hz hk hd m) (fun d => by have := cnD_le H Nf b mk d m; omega)
  obtain ⟨_, M', n1, n2, n3⟩ := akM_M H' Nf b mk z' m hm
  rw [m2, n2, IsM_u m3 (M' := M') (by
    have e : (fun d => cnD H Nf b mk d m) = fun d => cnD H' Nf b mk d m := funext ec
    rw [e]; exact n3)]
theorem ask_eq (H H' : Nat → Int32) (Nf : Nat → Nat) (b : Int32) {m : Nat} (hm : m < 2 ^ 30) {z : Nat → Int32} (hz : ∀ j, j < 70 → z j = 0) (z' : Nat → Int32) (hH : ∀ k, k < m → H k = H' k) : nI (bqF (tly H Nf b m z)) = (akR H' Nf b m z').1 := by
  have ml : ∀ mk, mk < 7 → ∀ w, (akM H' Nf b mk m w).2 = mlF (tly H Nf b m z) mk := fun mk hk w => (ml_ak H H' Nf b hm hz w hH hk).symm
  generalize tly H Nf b m z = A at *
  have key : ∀ r i l (w : Nat → Int32), i + r = 7 → l < 7 → (lp (akO H' Nf b m) i r (nI l, mlF A l, w)).1 = nI (lp (fun i l => if mlF A l ≤ mlF A i then l else i) i r l) := by
    intro r
    induction r with
    | zero => intro i l w _ _; rfl
    | succ r ih =>
      intro i l w hi hl
      rw [lp_s, lp_s]
      have e : akO H' Nf b m i (nI l, mlF A l, w) = if mlF A i < mlF A l then (nI i, mlF A i, (akM H' Nf b i m w).1) else (nI l, mlF A l, (akM H' Nf b i m w).1) := by
        unfold akO
        dsimp only
        rw [if_neg (nI_nm1 (by omega)), ml i (by omega)]
      rw [e]
      by_cases c : mlF A l ≤ mlF A i
      · rw [if_pos c, if_neg (Int32.not_lt.mpr c)]
        exact ih (i + 1) l _ (by omega) hl
      · rw [if_neg c, if_pos (Int32.not_le.mp c)]
        exact ih (i + 1) i _ (by omega) (by omega)
  unfold akR bqF
  have e0 : lp (akO H' Nf b m) 0 7 (-1, 0, z') = lp (akO H' Nf b m) 1 6 (akO H' Nf b m 0 (-1, 0, z')) := lp_s _ 0 6 _
  rw [e0]
  have e : akO H' Nf b m 0 (-1, 0, z') = (nI 0, mlF A 0, (akM H' Nf b 0 m z').1) := by
    unfold akO
    dsimp only
    rw [if_pos rfl, ml 0 (by decide)]
  rw [e, key 6 1 0 _ rfl (by decide)]
theorem fHM_nn (H : Nat → Int32) (b : Int32) : ∀ m, ∃ c, c ≤ m ∧ fHM H b m = nI c := by
  intro m
  induction m with
  | zero => exact ⟨0, Nat.le_refl _, rfl⟩
  | succ m ih =>
    obtain ⟨c, c1, c2⟩ := ih
    unfold fHM at c2 ⊢
    rw [lp_last, Nat.zero_add, c2]
    unfold hmF
    split
    · exact ⟨c + 1, by omega, nI_1 c⟩
    · exact ⟨c, by omega, rfl⟩
theorem fHM_c {H H' : Nat → Int32} (b : Int32) {m : Nat} (hH : ∀ k, k < m → H k = H' k) : fHM H b m = fHM H' b m := by
  unfold fHM
  refine lp_cong _ _ _ (fun k a _ h2 => ?_)
  unfold hmF
  rw [hH k (by omega)]
