/-! class and reference answer the same: divisor, ways, ranked -/
theorem gcdL_N : ∀ f X Y, Y < f → X < 2 ^ 62 → Y < 2 ^ 62 → gcdL f (lN X) (lN Y) = lN (Nat.gcd X Y) := by
  intro f
  induction f with
  | zero => intro X Y h; omega
  | succ f ih =>
    intro X Y hf hX hY
    rw [gcdL]
    by_cases c : Y = 0
    · subst c
      rw [if_pos (show lN 0 = 0 from rfl), Nat.gcd_zero_right]
    · have hne : ¬ lN Y = 0 := fun e => c ((pk_lEQ (a := Y) (b := 0) (by omega) (by omega)).mp e)
      have hm : X % Y < Y := Nat.mod_lt _ (by omega)
      rw [if_neg hne, show rem64 (lN X) (lN Y) = lN (X % Y) from pk_lRem (by omega) (by omega) (by omega), ih Y (X % Y) (by omega) (by omega) (by omega)]
      congr 1
      rw [Nat.gcd_comm, ← Nat.gcd_rec, Nat.gcd_comm]
theorem cpF_N {X Y : Nat} (hY : 1 ≤ Y) (hY2 : Y < 10000) (hX : X < 2 ^ 62) : cpF (lN X) (lN Y) = lN (Nat.gcd X Y) := by
  unfold cpF max64
  rw [gcdL_N 10000 X Y hY2 hX (by omega)]
  have h1 : 0 < Nat.gcd X Y := Nat.gcd_pos_of_pos_right _ (by omega)
  have h2 : Nat.gcd X Y ≤ Y := Nat.gcd_le_right _ (by omega)
  split
  · rfl
  · rename_i q
    have : ¬ 1 < Nat.gcd X Y := fun z => q ((pk_lLT (a := 1) (by decide) (by omega)).mpr z)
    rw [show Nat.gcd X Y = 1 by omega]
    rfl
def fcN (v : Nat) : Nat := ([1, 1, 2, 6, 24, 120, 720, 5040, 40320, 362880] : List Nat).getD v 1
theorem cFA_N : ∀ v, v < 10 → cFA v = nI (fcN v) ∧ 0 < fcN v ∧ fcN v < 2 ^ 31 ∧ (cFA v).toInt64 = lN (fcN v) := by decide +kernel
theorem oo_lp (N : Nat) : ∀ k i x, x < 2 ^ 31 → lp (fun j v => v / cFA (dgt N j)) i k (nI x) = nI (lp (fun j v => v / fcN (dgt N j)) i k x) ∧ lp (fun j v => v / (cFA (dgt N j)).toInt64) i k (lN x) = lN (lp (fun j v => v / fcN (dgt N j)) i k x) ∧ lp (fun j v => v / fcN (dgt N j)) i k x ≤ x := by
  intro k
  induction k with
  | zero => intro i x hx; exact ⟨rfl, rfl, Nat.le_refl _⟩
  | succ k ih =>
    intro i x hx
    obtain ⟨c1, c2, c3, c4⟩ := cFA_N (dgt N i) (dgt_lt N i)
    have hd : x / fcN (dgt N i) ≤ x := Nat.div_le_self ..
    obtain ⟨e1, e2, e3⟩ := ih (i + 1) (x / fcN (dgt N i)) (by omega)
    rw [lp_s, lp_s, lp_s, c4, c1, pk_div hx c2 c3, pk_lDiv (by omega) c2 (by omega)]
    exact ⟨e1, e2, by omega⟩
theorem oo_eq (N : Nat) {n : Nat} (hn : n ≤ 9) : (fOO N n).toInt64 = mOO N n := by
  obtain ⟨c1, c2, c3, c4⟩ := cFA_N n (by omega)
  obtain ⟨e1, e2, e3⟩ := oo_lp N 7 0 (fcN n) c3
  unfold fOO mOO
  rw [c4, c1, e1, e2, nI_l (by omega)]
theorem or_eq (H : Nat → Int32) (Nf : Nat → Nat) (b : Int32) {n : Nat} (m : Nat) (hn : n ≤ 9) : fOr H Nf b n m = mOr H Nf b n m := by
  unfold fOr mOr
  apply lp_cong
  intro j v _ _
  rw [oo_eq _ hn]
theorem i32_z {l a : Int32} (h : l + a = a) : l = 0 := by
  have e : l + a + -a = a + -a := by rw [h]
  rw [Int32.add_assoc, Int32.add_right_neg, Int32.add_zero] at e
  exact e
theorem rk_eq (H Nb : Nat → Int32) (b i : Int32) : ∀ f k a l, l + a = i → mrk H Nb b f k l = rkF H Nb b i f k a := by
  intro f
  induction f with
  | zero => intro k a l h; rfl
  | succ f ih =>
    intro k a l h
    rw [mrk, rkF]
    split
    · by_cases c : l = 0
      · have : a = i := by rw [← h, c, Int32.zero_add]
        rw [if_pos c, if_pos this]
      · have : ¬ a = i := fun q => c (i32_z (a := a) (by rw [h, q]))
        rw [if_neg c, if_neg this]
        apply ih
        rw [← h, Int32.add_assoc, Int32.add_comm (-1), Int32.add_assoc]
        congr 1
        rw [show (1 : Int32) + -1 = 0 from by decide, Int32.add_zero]
    · exact ih _ _ _ h
theorem fThere_eq {h g : Hp} (e : ∀ j, j < 4 → (h.1 (18 + j) 1 = 0 ↔ ¬ g.1 32 j < 0)) : fThere h = mTh g := by
  unfold fThere mTh
  apply lp_cong
  intro j a _ hj
  have := e j (by omega)
  by_cases c : g.1 32 j < 0
  · rw [if_pos c, if_neg (fun q => (this.mp q) c)]
  · rw [if_neg c, if_pos (this.mpr c)]
