/-! loops, numbers of places, arrays by their places -/
def lp {α : Type} (f : Nat → α → α) : Nat → Nat → α → α
  | _, 0, a => a
  | i, n + 1, a => lp f (i + 1) n (f i a)
theorem lp_0 {α : Type} (f : Nat → α → α) (i : Nat) (a : α) : lp f i 0 a = a := rfl
theorem lp_s {α : Type} (f : Nat → α → α) (i n : Nat) (a : α) : lp f i (n + 1) a = lp f (i + 1) n (f i a) := rfl
theorem lp_last {α : Type} (f : Nat → α → α) : ∀ (n i : Nat) (a : α), lp f i (n + 1) a = f (i + n) (lp f i n a) := by
  intro n
  induction n with
  | zero => intro i a; rfl
  | succ n ih => intro i a; rw [lp_s, ih, lp_s, show i + 1 + n = i + (n + 1) by omega]
theorem lp_cong {α : Type} {f g : Nat → α → α} : ∀ (n i : Nat) (a : α), (∀ j b, i ≤ j → j < i + n → f j b = g j b) → lp f i n a = lp g i n a := by
  intro n
  induction n with
  | zero => intro i a _; rfl
  | succ n ih => intro i a h; rw [lp_s, lp_s, h i a (by omega) (by omega)]; exact ih (i + 1) _ (fun j b h1 h2 => h j b (by omega) (by omega))
theorem lpI {α : Type} (f : Nat → α → α) (A : Nat → α → Prop) (I : Nat → α → Prop) (n : Nat) (hI : ∀ i a, i < n → I i a → I (i + 1) (f i a)) (hb : ∀ i a, i < n → I i a → A (i + 1) (f i a) → A i a) : ∀ k i a, i + k = n → I i a → (I n (lp f i k a) → A n (lp f i k a)) → A i a := by
  intro k
  induction k with
  | zero => intro i a h hi hA; have : i = n := by omega
            subst this; exact hA hi
  | succ k ih => intro i a h hi hA; exact hb i a (by omega) hi (ih (i + 1) (f i a) (by omega) (hI i a (by omega) hi) hA)
theorem lpA {α : Type} (f : Nat → α → α) (A : Nat → α → Prop) (n : Nat) (hb : ∀ i a, i < n → A (i + 1) (f i a) → A i a) (a : α) (hA : A n (lp f 0 n a)) : A 0 a :=
  lpI f A (fun _ _ => True) n (fun _ _ _ _ => trivial) (fun i a h _ k => hb i a h k) n 0 a (Nat.zero_add n) trivial (fun _ => hA)
theorem lp_inv {α : Type} (f : Nat → α → α) (I : Nat → α → Prop) (n : Nat) (hI : ∀ i a, i < n → I i a → I (i + 1) (f i a)) : ∀ k i a, i + k = n → I i a → I n (lp f i k a) := by
  intro k
  induction k with
  | zero => intro i a h hi; have : i = n := by omega
            subst this; exact hi
  | succ k ih => intro i a h hi; exact ih (i + 1) (f i a) (by omega) (hI i a (by omega) hi)
theorem aL_31 {p : Nat} {x : Nat × Nat} (h : aL p = some x) : x.2 < 2 ^ 31 := by
  unfold aL at h
  split at h <;> first | (cases h; decide) | cases h
section AR
variable {d : Nat} {Y : MY} {K : KQT} {pc nx : Nat} {L : List (Option Value)} {S : List Value} {h : Hp} {p n j : Nat}
theorem r_ialdN (hd : Ins Y.2.1 pc (.iaload) 1 nx) (ha : aL p = some (0, n)) (hj : j < n) (kk : Aw d Y K nx L (.int (h.1 p j) :: S) h) : Aw d Y K pc L (.int (nI j) :: .ref p :: S) h := by
  have e : n < 2 ^ 31 := aL_31 ha
  refine r_iald hd ha (vp_in_nI hj e) ?_
  rw [nI_clamp (by omega)]
  exact kk
theorem r_zaldN (hd : Ins Y.2.1 pc (.baload) 1 nx) (ha : aL p = some (2, n)) (hj : j < n) (kk : Aw d Y K nx L (.int (h.1 p j) :: S) h) : Aw d Y K pc L (.int (nI j) :: .ref p :: S) h := by
  have e : n < 2 ^ 31 := aL_31 ha
  refine r_zald hd ha (vp_in_nI hj e) ?_
  rw [nI_clamp (by omega)]
  exact kk
theorem r_laldN (hd : Ins Y.2.1 pc (.laload) 1 nx) (ha : aL p = some (1, n)) (hj : j < n) (kk : Aw d Y K nx L (.long (h.2 p j) :: S) h) : Aw d Y K pc L (.int (nI j) :: .ref p :: S) h := by
  have e : n < 2 ^ 31 := aL_31 ha
  refine r_lald hd ha (vp_in_nI hj e) ?_
  rw [nI_clamp (by omega)]
  exact kk
theorem r_aaldN (hd : Ins Y.2.1 pc (.aaload) 1 nx) (hj : j < 4) (kk : Aw d Y K nx L (.ref (18 + j) :: S) h) : Aw d Y K pc L (.int (nI j) :: .ref 17 :: S) h := by
  refine r_aald (n := 4) hd rfl (vp_in_nI hj (by decide)) ?_
  rw [nI_clamp (by omega)]
  exact kk
theorem r_iastN {x : Int32} (hd : Ins Y.2.1 pc (.iastore) 1 nx) (ha : aL p = some (0, n)) (hj : j < n) (kk : Aw d Y K nx L S (pI h p j x)) : Aw d Y K pc L (.int x :: .int (nI j) :: .ref p :: S) h := by
  have e : n < 2 ^ 31 := aL_31 ha
  refine r_iast hd ha (vp_in_nI hj e) ?_
  rw [nI_clamp (by omega)]
  exact kk
theorem r_zastN {x : Int32} (hd : Ins Y.2.1 pc (.bastore) 1 nx) (ha : aL p = some (2, n)) (hj : j < n) (hz : x = 0 ∨ x = 1) (kk : Aw d Y K nx L S (pI h p j x)) : Aw d Y K pc L (.int x :: .int (nI j) :: .ref p :: S) h := by
  have e : n < 2 ^ 31 := aL_31 ha
  refine r_zast hd ha (vp_in_nI hj e) hz ?_
  rw [nI_clamp (by omega)]
  exact kk
theorem r_lastN {x : Int64} (hd : Ins Y.2.1 pc (.lastore) 1 nx) (ha : aL p = some (1, n)) (hj : j < n) (kk : Aw d Y K nx L S (pL h p j x)) : Aw d Y K pc L (.long x :: .int (nI j) :: .ref p :: S) h := by
  have e : n < 2 ^ 31 := aL_31 ha
  refine r_last hd ha (vp_in_nI hj e) ?_
  rw [nI_clamp (by omega)]
  exact kk
theorem r_ildXN (hd : Ins Y.2.1 pc (.iaload) 1 nx) (hj : j < (h.1 69 0).toNatClampNeg) (hl : j < 2 ^ 31) (k : Aw d Y K nx L (.int (h.1 68 j) :: S) h) (hn : (h.1 69 0).toNatClampNeg < 2 ^ 31) : Aw d Y K pc L (.int (nI j) :: .ref 68 :: S) h := by
  refine r_ildX hd (vp_in_nI hj hn) ?_
  rw [nI_clamp hl]
  exact k
end AR
theorem pI_g (h : Hp) (p k : Nat) (x : Int32) (q j : Nat) : (pI h p k x).1 q j = if q = p ∧ j = k then x else h.1 q j := by
  unfold pI
  dsimp only
  by_cases e : q = p
  · subst e
    by_cases e2 : j = k <;> simp [upd, e2]
  · simp [e]
theorem pI_2 (h : Hp) (p k : Nat) (x : Int32) : (pI h p k x).2 = h.2 := rfl
theorem pL_1 (h : Hp) (p k : Nat) (x : Int64) : (pL h p k x).1 = h.1 := rfl
theorem pL_g (h : Hp) (p k : Nat) (x : Int64) (q j : Nat) : (pL h p k x).2 q j = if q = p ∧ j = k then x else h.2 q j := by
  unfold pL
  dsimp only
  by_cases e : q = p
  · subst e
    by_cases e2 : j = k <;> simp [vp_updL, e2]
  · simp [e]
theorem pA_g (h : Hp) (p : Nat) (f : Nat → Int32) (q j : Nat) : (pA h p f).1 q j = if q = p then f j else h.1 q j := by
  unfold pA
  dsimp only
  by_cases e : q = p <;> simp [e]
theorem pA_2 (h : Hp) (p : Nat) (f : Nat → Int32) : (pA h p f).2 = h.2 := rfl
theorem hp_ext {h h' : Hp} (e1 : ∀ q j, h.1 q j = h'.1 q j) (e2 : ∀ q j, h.2 q j = h'.2 q j) : h = h' := by
  obtain ⟨a, b⟩ := h
  obtain ⟨a', b'⟩ := h'
  have q1 : a = a' := funext fun q => funext fun j => e1 q j
  have q2 : b = b' := funext fun q => funext fun j => e2 q j
  rw [q1, q2]
/-- the whole of a long array anew -/
def pLA (h : Hp) (q : Nat) (f : Nat → Int64) : Hp := (h.1, fun r => if r = q then f else h.2 r)
theorem pLA_1 (h : Hp) (p : Nat) (f : Nat → Int64) : (pLA h p f).1 = h.1 := rfl
theorem pLA_g (h : Hp) (p : Nat) (f : Nat → Int64) (q j : Nat) : (pLA h p f).2 q j = if q = p then f j else h.2 q j := by
  unfold pLA
  dsimp only
  by_cases e : q = p <;> simp [e]
theorem le_b {a b : Nat} (h : Nat.ble a b = true) : a ≤ b := Nat.le_of_ble_eq_true h
/-- Arrays.fill of ints -/
theorem c_fillI (p n : Nat) (v : Int32) (h : Hp) (ha : aL p = some (0, n)) : Rn 0 MJ7_fill_53178 [.ref p, .int v] h (EV (pA h p (fun j => if j < n then v else h.1 p j))) := by
  have hn := aL_31 ha
  refine rn_of mm_J7_fill_53178 (le_b rfl) rfl ?_
  refine r_iconst_0 dJ7_fill_53178_0 ?_
  refine r_istore2 dJ7_fill_53178_1 rfl (by decide) ?_
  refine r_aload0 dJ7_fill_53178_2 ?_
  refine r_alen dJ7_fill_53178_3 ha (by decide) rfl ?_
  refine r_istore3 dJ7_fill_53178_4 rfl (by decide) ?_
  have key : ∀ k i, i + k = n → Aw 0 MJ7_fill_53178 (Kp (EV (pA h p (fun j => if j < n then v else h.1 p j)))) 5 [some (.ref p), some (.int v), some (.int (nI i)), some (.int (nI n))] [] (pA h p (fun j => if j < i then v else h.1 p j)) := by
    intro k
    induction k with
    | zero =>
      intro i hi
      have : i = n := by omega
      subst this
      refine r_iload2 dJ7_fill_53178_5 ?_
      refine r_iload3 dJ7_fill_53178_6 ?_
      refine r_icmpge (tgt := 20) dJ7_fill_53178_7 (by decide) (fun _ => ?_) (fun c9 => absurd (Int32.le_refl _) c9)
      exact r_vretE dJ7_fill_53178_20 rfl (rfl)
    | succ k ih =>
      intro i hi
      refine r_iload2 dJ7_fill_53178_5 ?_
      refine r_iload3 dJ7_fill_53178_6 ?_
      refine r_icmpge (tgt := 20) dJ7_fill_53178_7 (by decide) (fun c9 => absurd c9 (nI_ge (by omega) hn)) (fun _ => ?_)
      refine r_aload0 dJ7_fill_53178_10 ?_
      refine r_iload2 dJ7_fill_53178_11 ?_
      refine r_iload1 dJ7_fill_53178_12 ?_
      refine r_iastN dJ7_fill_53178_13 ha (by omega) ?_
      refine r_iinc2_1 dJ7_fill_53178_14 rfl (by decide) ?_
      refine r_goto (tgt := 5) dJ7_fill_53178_17 (by decide) ?_
      rw [nI_1]
      have e : pI (pA h p (fun j => if j < i then v else h.1 p j)) p i v = pA h p (fun j => if j < i + 1 then v else h.1 p j) := by
        refine hp_ext (fun q j => ?_) (fun q j => rfl)
        simp only [pI_g, pA_g]
        by_cases e1 : q = p
        · subst e1
          by_cases e2 : j = i
          · subst e2; simp
          · by_cases e3 : j < i
            · simp [e2, e3, show j < i + 1 by omega]
            · simp [e2, e3, show ¬ j < i + 1 by omega]
        · simp [e1]
      rw [e]
      exact ih (i + 1) (by omega)
  have h0 := key n 0 (by omega)
  have e : pA h p (fun j => if j < 0 then v else h.1 p j) = h := by
    refine hp_ext (fun q j => ?_) (fun q j => rfl)
    simp only [pA_g]
    by_cases e1 : q = p
    · subst e1; simp
    · simp [e1]
  rw [e] at h0
  exact h0
theorem c_fillL (p n : Nat) (v : Int64) (h : Hp) (ha : aL p = some (1, n)) : Rn 0 MJ7_fill_d0a16 [.ref p, .long v] h (EV (pLA h p (fun j => if j < n then v else h.2 p j))) := by
  have hn := aL_31 ha
  refine rn_of mm_J7_fill_d0a16 (le_b rfl) rfl ?_
  refine r_iconst_0 dJ7_fill_d0a16_0 ?_
  refine r_istore3 dJ7_fill_d0a16_1 rfl (by decide) ?_
  refine r_aload0 dJ7_fill_d0a16_2 ?_
  refine r_alen dJ7_fill_d0a16_3 ha (by decide) rfl ?_
  refine r_istore4 dJ7_fill_d0a16_4 rfl (by decide) ?_
  have key : ∀ k i, i + k = n → Aw 0 MJ7_fill_d0a16 (Kp (EV (pLA h p (fun j => if j < n then v else h.2 p j)))) 6 [some (.ref p), some (.long v), none, some (.int (nI i)), some (.int (nI n))] [] (pLA h p (fun j => if j < i then v else h.2 p j)) := by
    intro k
    induction k with
    | zero =>
      intro i hi
      have : i = n := by omega
      subst this
      refine r_iload3 dJ7_fill_d0a16_6 ?_
      refine r_iload4 dJ7_fill_d0a16_7 ?_
      refine r_icmpge (tgt := 22) dJ7_fill_d0a16_9 (by decide) (fun _ => ?_) (fun c9 => absurd (Int32.le_refl _) c9)
      exact r_vretE dJ7_fill_d0a16_22 rfl (rfl)
    | succ k ih =>
      intro i hi
      refine r_iload3 dJ7_fill_d0a16_6 ?_
      refine r_iload4 dJ7_fill_d0a16_7 ?_
      refine r_icmpge (tgt := 22) dJ7_fill_d0a16_9 (by decide) (fun c9 => absurd c9 (nI_ge (by omega) hn)) (fun _ => ?_)
      refine r_aload0 dJ7_fill_d0a16_12 ?_
      refine r_iload3 dJ7_fill_d0a16_13 ?_
      refine r_lload1 dJ7_fill_d0a16_14 ?_
      refine r_lastN dJ7_fill_d0a16_15 ha (by omega) ?_
      refine r_iinc3_1 dJ7_fill_d0a16_16 rfl (by decide) ?_
      refine r_goto (tgt := 6) dJ7_fill_d0a16_19 (by decide) ?_
      rw [nI_1]
      have e : pL (pLA h p (fun j => if j < i then v else h.2 p j)) p i v = pLA h p (fun j => if j < i + 1 then v else h.2 p j) := by
        refine hp_ext (fun q j => rfl) (fun q j => ?_)
        simp only [pL_g, pLA_g]
        by_cases e1 : q = p
        · subst e1
          by_cases e2 : j = i
          · subst e2; simp
          · by_cases e3 : j < i
            · simp [e2, e3, show j < i + 1 by omega]
            · simp [e2, e3, show ¬ j < i + 1 by omega]
        · simp [e1]
      rw [e]
      exact ih (i + 1) (by omega)
  have h0 := key n 0 (by omega)
  have e : pLA h p (fun j => if j < 0 then v else h.2 p j) = h := by
    refine hp_ext (fun q j => rfl) (fun q j => ?_)
    simp only [pLA_g]
    by_cases e1 : q = p
    · subst e1; simp
    · simp [e1]
  rw [e] at h0
  exact h0
