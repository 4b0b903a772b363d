/-! the initial world, in the order of the places -/
def hI (xs : Nat → Int32) (L : Nat) : Hp := (fun p j => if p = 0 then (if j = 7 then nI 5 else if j = 8 then nI 6 else 0) else if p = 1 then (if j = 10 then -1 else 0) else if 18 ≤ p ∧ p ≤ 21 then (if j = 1 then nI 1 else 0) else if p = 31 then (if j = 5 then nI 5 else if j = 6 then nI 6 else 0) else if p = 32 then (upd (upd (upd (upd (fun _ => 0) (nI 0).toNatClampNeg (-1)) (nI 1).toNatClampNeg (-1)) (nI 2).toNatClampNeg (-1)) (nI 3).toNatClampNeg (-1)) j else if p = 68 then xs j else if p = 69 then nI L else 0, fun _ _ => 0)
def W48 (a3 : Nat → ClassId) (ad : Nat → Nat) : va_W := [(ad 0, .inr (7, [.ref (ad 1), .ref (ad 10), .ref (ad 12), .ref (ad 17), .ref (ad 26), .ref (ad 28), .ref (ad 30), .int (nI 5), .int (nI 6), .int 0, .int 0, .int 0, .int 0])), (ad 1, .inr (1, [.ref (ad 2), .ref (ad 3), .ref (ad 4), .ref (ad 5), .ref (ad 6), .ref (ad 7), .ref (ad 8), .ref (ad 9), .int 0, .int 0, .int (-1), .int 0])), (ad 2, .inl (a3 0, 100, .inl (fun _ => 0))), (ad 3, .inl (a3 0, 10, .inl (fun _ => 0))), (ad 4, .inl (a3 0, 10, .inl (fun _ => 0))), (ad 5, .inl (a3 0, 10, .inl (fun _ => 0))), (ad 6, .inl (a3 0, 10, .inl (fun _ => 0))), (ad 7, .inl (a3 0, 10, .inl (fun _ => 0))), (ad 8, .inl (a3 0, 10, .inl (fun _ => 0))), (ad 9, .inl (a3 0, 10, .inl (fun _ => 0))), (ad 10, .inr (3, [.ref (ad 11), .int 0, .int 0, .int 0, .int 0, .int 0, .int 0])), (ad 11, .inl (a3 0, 7, .inl (fun _ => 0))), (ad 12, .inr (4, [.ref (ad 13), .ref (ad 14), .ref (ad 15), .ref (ad 16), .int 0])), (ad 13, .inl (a3 0, 5005, .inl (fun _ => 0))), (ad 14, .inl (a3 0, 5005, .inl (fun _ => 0))), (ad 15, .inl (a3 0, 1024, .inl (fun _ => 0))), (ad 16, .inl (a3 0, 70, .inl (fun _ => 0))), (ad 17, .inl (a3 3, 4, .inr (.inr (.inr (.inr (va_up (va_up (va_up (va_up (fun _ => none) (nI 0).toNatClampNeg (some (ad 18))) (nI 1).toNatClampNeg (some (ad 19))) (nI 2).toNatClampNeg (some (ad 20))) (nI 3).toNatClampNeg (some (ad 21)))))))), (ad 18, .inr (5, [.ref (ad 22), .int (nI 1), .int 0, .int 0])), (ad 19, .inr (5, [.ref (ad 23), .int (nI 1), .int 0, .int 0])), (ad 20, .inr (5, [.ref (ad 24), .int (nI 1), .int 0, .int 0])), (ad 21, .inr (5, [.ref (ad 25), .int (nI 1), .int 0, .int 0])), (ad 22, .inl (a3 0, 60, .inl (fun _ => 0))), (ad 23, .inl (a3 0, 60, .inl (fun _ => 0))), (ad 24, .inl (a3 0, 60, .inl (fun _ => 0))), (ad 25, .inl (a3 0, 60, .inl (fun _ => 0))), (ad 26, .inr (0, [.ref (ad 27)])), (ad 27, .inl (a3 1, 13, .inr (.inl (fun _ => 0)))), (ad 28, .inr (6, [.ref (ad 29), .int 0, .int 0, .int 0, .long 0])), (ad 29, .inl (a3 0, 61, .inl (fun _ => 0))), (ad 30, .inr (2, [.long 0, .long 0, .long 0, .long 0, .int 0])), (ad 31, .inr (8, [.ref (ad 32), .ref (ad 33), .ref (ad 34), .ref (ad 35), .int 0, .int (nI 5), .int (nI 6), .ref (ad 36), .int 0, .int 0, .int 0, .ref (ad 37), .ref (ad 38), .ref (ad 39), .ref (ad 40), .ref (ad 41), .int 0, .ref (ad 42), .ref (ad 43), .ref (ad 44), .int 0, .ref (ad 45), .ref (ad 46), .ref (ad 47)])), (ad 32, .inl (a3 0, 4, .inl (upd (upd (upd (upd (fun _ => 0) (nI 0).toNatClampNeg (-1)) (nI 1).toNatClampNeg (-1)) (nI 2).toNatClampNeg (-1)) (nI 3).toNatClampNeg (-1)))), (ad 33, .inl (a3 0, 4, .inl (fun _ => 0))), (ad 34, .inl (a3 0, 240, .inl (fun _ => 0))), (ad 35, .inl (a3 0, 60, .inl (fun _ => 0))), (ad 36, .inl (a3 0, 100, .inl (fun _ => 0))), (ad 37, .inl (a3 0, 10, .inl (fun _ => 0))), (ad 38, .inl (a3 0, 10, .inl (fun _ => 0))), (ad 39, .inl (a3 0, 10, .inl (fun _ => 0))), (ad 40, .inl (a3 0, 10, .inl (fun _ => 0))), (ad 41, .inl (a3 0, 10, .inl (fun _ => 0))), (ad 42, .inl (a3 0, 7, .inl (fun _ => 0))), (ad 43, .inl (a3 0, 5005, .inl (fun _ => 0))), (ad 44, .inl (a3 0, 5005, .inl (fun _ => 0))), (ad 45, .inl (a3 2, 1024, .inl (fun _ => 0))), (ad 46, .inl (a3 0, 10, .inl (fun _ => 0))), (ad 47, .inl (a3 1, 13, .inr (.inl (fun _ => 0))))]
theorem arrV_c {cA : ClassId} {n : Nat} {f g : Nat → Value} (h : ∀ j, j < n → f j = g j) : arrV cA n f = arrV cA n g := by
  unfold arrV
  congr 1
  apply Array.ext
  · simp
  · intro i h1 h2
    simp at h1 ⊢
    exact h i (by omega)
theorem W48_at (a3 : Nat → ClassId) (ad : Nat → Nat) : ∀ p, p < 48 → ∃ e, (W48 a3 ad)[p]? = some (ad p, e) := by
  intro p hp
  match p, hp with
  | 0, _ => exact ⟨_, rfl⟩
  | 1, _ => exact ⟨_, rfl⟩
  | 2, _ => exact ⟨_, rfl⟩
  | 3, _ => exact ⟨_, rfl⟩
  | 4, _ => exact ⟨_, rfl⟩
  | 5, _ => exact ⟨_, rfl⟩
  | 6, _ => exact ⟨_, rfl⟩
  | 7, _ => exact ⟨_, rfl⟩
  | 8, _ => exact ⟨_, rfl⟩
  | 9, _ => exact ⟨_, rfl⟩
  | 10, _ => exact ⟨_, rfl⟩
  | 11, _ => exact ⟨_, rfl⟩
  | 12, _ => exact ⟨_, rfl⟩
  | 13, _ => exact ⟨_, rfl⟩
  | 14, _ => exact ⟨_, rfl⟩
  | 15, _ => exact ⟨_, rfl⟩
  | 16, _ => exact ⟨_, rfl⟩
  | 17, _ => exact ⟨_, rfl⟩
  | 18, _ => exact ⟨_, rfl⟩
  | 19, _ => exact ⟨_, rfl⟩
  | 20, _ => exact ⟨_, rfl⟩
  | 21, _ => exact ⟨_, rfl⟩
  | 22, _ => exact ⟨_, rfl⟩
  | 23, _ => exact ⟨_, rfl⟩
  | 24, _ => exact ⟨_, rfl⟩
  | 25, _ => exact ⟨_, rfl⟩
  | 26, _ => exact ⟨_, rfl⟩
  | 27, _ => exact ⟨_, rfl⟩
  | 28, _ => exact ⟨_, rfl⟩
  | 29, _ => exact ⟨_, rfl⟩
  | 30, _ => exact ⟨_, rfl⟩
  | 31, _ => exact ⟨_, rfl⟩
  | 32, _ => exact ⟨_, rfl⟩
  | 33, _ => exact ⟨_, rfl⟩
  | 34, _ => exact ⟨_, rfl⟩
  | 35, _ => exact ⟨_, rfl⟩
  | 36, _ => exact ⟨_, rfl⟩
  | 37, _ => exact ⟨_, rfl⟩
  | 38, _ => exact ⟨_, rfl⟩
  | 39, _ => exact ⟨_, rfl⟩
  | 40, _ => exact ⟨_, rfl⟩
  | 41, _ => exact ⟨_, rfl⟩
  | 42, _ => exact ⟨_, rfl⟩
  | 43, _ => exact ⟨_, rfl⟩
  | 44, _ => exact ⟨_, rfl⟩
  | 45, _ => exact ⟨_, rfl⟩
  | 46, _ => exact ⟨_, rfl⟩
  | 47, _ => exact ⟨_, rfl⟩
  | n + 48, hp => exact absurd hp (by omega)
theorem W48_EO {D : va_G} {a3 : Nat → ClassId} {ad : Nat → Nat} {A : Nat → Prop} (hD : va_D A (W48 a3 ad)) : EO (D, ad, a3) A := by
  refine ⟨fun p q hp hq h => ?_, fun p hp => ?_⟩
  · obtain ⟨e1, h1⟩ := W48_at a3 ad p hp
    obtain ⟨e2, h2⟩ := W48_at a3 ad q hq
    exact hD.1 p q _ _ h1 h2 h
  · obtain ⟨e1, h1⟩ := W48_at a3 ad p hp
    exact hD.2 p _ h1
theorem W48_P {D : va_G} {a3 : Nat → ClassId} {ad : Nat → Nat} {H : Heap} (xs : Nat → Int32) (L : Nat) (hP : va_P D vwCl (W48 a3 ad) H) : va_P D vwCl (wsH (D, ad, a3) (hI xs L)) H := by
  intro k q hq
  have hk : k < 48 := by
    have := (List.getElem?_eq_some_iff.mp hq).1
    simpa [wsH] using this
  rw [wsH_at (D, ad, a3) (hI xs L) hk] at hq
  cases hq
  match k, hk with
  | 0, _ => exact hP 0 _ rfl
  | 1, _ => exact hP 1 _ rfl
  | 2, _ => exact hP 2 _ rfl
  | 3, _ => exact hP 3 _ rfl
  | 4, _ => exact hP 4 _ rfl
  | 5, _ => exact hP 5 _ rfl
  | 6, _ => exact hP 6 _ rfl
  | 7, _ => exact hP 7 _ rfl
  | 8, _ => exact hP 8 _ rfl
  | 9, _ => exact hP 9 _ rfl
  | 10, _ => exact hP 10 _ rfl
  | 11, _ => exact hP 11 _ rfl
  | 12, _ => exact hP 12 _ rfl
  | 13, _ => exact hP 13 _ rfl
  | 14, _ => exact hP 14 _ rfl
  | 15, _ => exact hP 15 _ rfl
  | 16, _ => exact hP 16 _ rfl
  | 17, _ =>
    have h := hP 17 _ rfl
    have e : vp_cell (a3 3) (4, .inr (.inr (.inr (.inr (fun j => some (ad (18 + j))))))) = vp_cell (a3 3) (4, .inr (.inr (.inr (.inr (va_up (va_up (va_up (va_up (fun _ => none) (nI 0).toNatClampNeg (some (ad 18))) (nI 1).toNatClampNeg (some (ad 19))) (nI 2).toNatClampNeg (some (ad 20))) (nI 3).toNatClampNeg (some (ad 21))))))) := by
      rw [vp_cell_q, vp_cell_q]
      refine arrV_c (fun j hj => ?_)
      have : j = 0 ∨ j = 1 ∨ j = 2 ∨ j = 3 := by omega
      rcases this with rfl | rfl | rfl | rfl <;> rfl
    show H[ad 17]? = some (vp_cell (a3 3) (4, .inr (.inr (.inr (.inr (fun j => some (ad (18 + j))))))))
    rw [e]
    exact h
  | 18, _ => exact hP 18 _ rfl
  | 19, _ => exact hP 19 _ rfl
  | 20, _ => exact hP 20 _ rfl
  | 21, _ => exact hP 21 _ rfl
  | 22, _ => exact hP 22 _ rfl
  | 23, _ => exact hP 23 _ rfl
  | 24, _ => exact hP 24 _ rfl
  | 25, _ => exact hP 25 _ rfl
  | 26, _ => exact hP 26 _ rfl
  | 27, _ => exact hP 27 _ rfl
  | 28, _ => exact hP 28 _ rfl
  | 29, _ => exact hP 29 _ rfl
  | 30, _ => exact hP 30 _ rfl
  | 31, _ => exact hP 31 _ rfl
  | 32, _ => exact hP 32 _ rfl
  | 33, _ => exact hP 33 _ rfl
  | 34, _ => exact hP 34 _ rfl
  | 35, _ => exact hP 35 _ rfl
  | 36, _ => exact hP 36 _ rfl
  | 37, _ => exact hP 37 _ rfl
  | 38, _ => exact hP 38 _ rfl
  | 39, _ => exact hP 39 _ rfl
  | 40, _ => exact hP 40 _ rfl
  | 41, _ => exact hP 41 _ rfl
  | 42, _ => exact hP 42 _ rfl
  | 43, _ => exact hP 43 _ rfl
  | 44, _ => exact hP 44 _ rfl
  | 45, _ => exact hP 45 _ rfl
  | 46, _ => exact hP 46 _ rfl
  | 47, _ => exact hP 47 _ rfl
  | n + 48, hk => exact absurd hk (by omega)
theorem rd0 : RDg (fun _ => 0) 0 = (some 0, ZC) := by
  unfold RDg rdR
  rw [if_pos rfl]
theorem hI_CR (xs : Nat → Int32) (L : Nat) : CR (hI xs L) 5 6 0 (fun _ => 0) 0 0 (fun _ => none) := by
  have s4 : ∀ j, j < 4 → (hI xs L).1 (18 + j) 3 = 0 ∧ (hI xs L).1 (18 + j) 1 = 1 := by
    intro j hj
    have : j = 0 ∨ j = 1 ∨ j = 2 ∨ j = 3 := by omega
    rcases this with rfl | rfl | rfl | rfl <;> exact ⟨rfl, rfl⟩
  refine ⟨⟨by decide, by decide, by decide, rfl, rfl, Or.inl rfl⟩, ⟨rfl, by decide, fun j hj => absurd hj (Nat.not_lt_zero j)⟩, ⟨by rw [rd0]; rfl, by rw [rd0]; rfl⟩, fun k hk => ?_, ⟨rfl, fun _ => rfl⟩, rfl, fun j hj => ?_, fun j hj => (s4 j hj).2⟩
  · rw [rd0] at hk
    have : 0 = k := Option.some.inj hk
    subst this
    exact ⟨fun j hj => absurd hj (Nat.not_lt_zero j), Or.inl rfl⟩
  · unfold szN
    rw [(s4 j hj).1]
    exact ⟨rfl, by decide, Or.inr (s4 j hj).2⟩
theorem hI_MR (xs : Nat → Int32) (L : Nat) : MR (hI xs L) 5 6 0 (fun _ => 0) 0 0 (fun _ => none) := by
  have s4 : ∀ j, j < 4 → (hI xs L).1 33 j = 0 ∧ (hI xs L).1 32 j = -1 := by
    intro j hj
    have : j = 0 ∨ j = 1 ∨ j = 2 ∨ j = 3 := by omega
    rcases this with rfl | rfl | rfl | rfl <;> exact ⟨rfl, rfl⟩
  refine ⟨⟨by decide, by decide, by decide, rfl, rfl⟩, ⟨rfl, by decide, fun j hj => absurd hj (Nat.not_lt_zero j)⟩, fun k hk => ?_, rfl, fun j hj => ?_, fun j hj => ?_⟩
  · rw [rd0] at hk
    have : 0 = k := Option.some.inj hk
    subst this
    refine ⟨?_, by decide⟩
    show fAll (nI 0) &&& ((0 : Int32) ^^^ -1) = nI 0
    decide
  · unfold mz
    rw [(s4 j hj).1]
    exact ⟨rfl, by decide⟩
  · show (hI xs L).1 32 j < 0
    rw [(s4 j hj).2]
    decide
