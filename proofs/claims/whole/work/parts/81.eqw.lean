/-! what reading leaves, when it succeeds, is in bounds -/
theorem rf_nI2 (bt : Nat → Nat) (n : Nat) : ∀ k a m, ∃ m', (rf bt n k a (nI m)).2 = nI m' ∧ m' + 1 ≤ (m + 1) * 10 ^ (rf bt n k a (nI m)).1 ∧ (rf bt n k a (nI m)).1 ≤ k := by
  intro k
  induction k with
  | zero => intro a m; exact ⟨m, rfl, by show m + 1 ≤ (m + 1) * 10 ^ 0; omega, Nat.le_refl _⟩
  | succ k ih =>
    intro a m
    rw [rf]
    cases hf : fgN bt n a with
    | none => exact ⟨m, rfl, by show m + 1 ≤ (m + 1) * 10 ^ 0; omega, Nat.zero_le _⟩
    | some d =>
      have hd := (fgN_le hf).2
      obtain ⟨m', e1, e2, e4⟩ := ih (a + 1) (10 * m + d)
      have e : (10 : Int32) * nI m + nI d = nI (10 * m + d) := by
        rw [show (10 : Int32) = nI 10 from rfl, pk_mul, nI_add]
      dsimp only
      rw [e]
      generalize (rf bt n k (a + 1) (nI (10 * m + d))).1 = q at *
      refine ⟨m', e1, ?_, by omega⟩
      rw [Nat.pow_succ]
      have : (10 * m + d + 1) * 10 ^ q ≤ ((m + 1) * 10) * 10 ^ q := Nat.mul_le_mul_right _ (by omega)
      have e3 : (m + 1) * (10 ^ q * 10) = (m + 1) * 10 * 10 ^ q := by rw [Nat.mul_comm (10 ^ q) 10, Nat.mul_assoc]
      omega
theorem iofA_b (j : Nat) (x : Int32) : ∀ k t, iofA j x k t = -1 ∨ ∃ s, s < t + k ∧ iofA j x k t = nI s := by
  intro k
  induction k with
  | zero => intro t; exact Or.inl rfl
  | succ k ih =>
    intro t
    rw [iofA]
    split
    · exact Or.inr ⟨t, by omega, rfl⟩
    · rcases ih (t + 1) with q | ⟨s, q1, q2⟩
      · exact Or.inl q
      · exact Or.inr ⟨s, by omega, q2⟩
theorem ruN_b (bt : Nat → Nat) (n j a : Nat) (h : ¬ ruN bt n j a < 0) : ∃ s, s < txN j ∧ ruN bt n j a = nI s := by
  unfold ruN at h ⊢
  by_cases c : a < n
  · rw [if_pos c] at h ⊢
    unfold iof at h ⊢
    rcases iofA_b j (nI (bt a)).toInt8.toInt32 (txN j) 0 with q | ⟨s, q1, q2⟩
    · rw [q] at h; exact absurd (by decide) h
    · exact ⟨s, by omega, q2⟩
  · rw [if_neg c] at h
    exact absurd (by decide) h
/-- claim i: kind, mark, number, behind, rule -/
def kC (i kd : Nat) (c : CT) : Prop := c.1 i = nI kd
def mC (i : Nat) (c : CT) : Prop := ∃ mk, c.2.1 i = nI mk ∧ mk < 7
def nC (i B : Nat) (c : CT) : Prop := ∃ v, c.2.2.1 i = nI v ∧ v + 1 ≤ B
def bC (i b : Nat) (c : CT) : Prop := c.2.2.2.1 i = nI b
def rC (i : Nat) (c : CT) : Prop := c.2.2.2.2.1 i = 0 ∨ c.2.2.2.2.1 i = 1 ∨ c.2.2.2.2.1 i = 2
/-- from P, if it succeeds, Q -/
def Ho (P : CT → Prop) (f : CT → Bool × CT) (Q : CT → Prop) : Prop := ∀ c, P c → (f c).1 = true → Q (f c).2
theorem ho_and {P Q R : CT → Prop} {f g : CT → Bool × CT} (hf : Ho P f Q) (hg : Ho Q g R) : Ho P (fun c => andF (f c) g) R := by
  intro c hc h
  dsimp only at h ⊢
  unfold andF at h ⊢
  have := hf c hc
  generalize f c = x at *
  obtain ⟨b, d⟩ := x
  cases b with
  | false => exact Bool.noConfusion (show false = true from h)
  | true => exact hg d (this rfl) h
theorem ho_sk (bt : Nat → Nat) (n ch i : Nat) (P : CT → Prop) (hP : ∀ c d, (∀ j, QE j c d) → P d → P c) : Ho P (skF bt n ch) P := fun c hc _ => hP _ _ (sk_qe bt n ch c) hc
theorem ho_mk (bt : Nat → Nat) (n i kd b : Nat) : Ho (fun c => kC i kd c ∧ bC i b c ∧ rC i c) (mkF bt n i) (fun c => kC i kd c ∧ bC i b c ∧ rC i c ∧ mC i c) := by
  intro c ⟨h1, h2, h3⟩ h
  unfold mkF at h ⊢
  split
  · rename_i d hd
    rw [hd] at h
    dsimp only at h
    by_cases c7 : d < 7
    · rw [if_pos c7]
      exact ⟨h1, h2, h3, d, if_pos rfl, c7⟩
    · rw [if_neg c7] at h
      exact Bool.noConfusion (show false = true from h)
  · rename_i hd
    rw [hd] at h
    exact Bool.noConfusion (show false = true from h)
theorem rn_nC (bt : Nat → Nat) (n i most : Nat) (c : CT) : nC i (10 ^ most) (rnF bt n i most c).2 := by
  rw [rn_val]
  obtain ⟨m', e1, e2⟩ := rf_nI bt n most (cAt c) 0
  exact ⟨m', (if_pos rfl).trans e1, by omega⟩
theorem rn_ne (bt : Nat → Nat) (n i most : Nat) (c : CT) : (rnF bt n i most c).2.1 = c.1 ∧ (rnF bt n i most c).2.2.1 = c.2.1 ∧ (rnF bt n i most c).2.2.2.2.1 = c.2.2.2.1 ∧ (rnF bt n i most c).2.2.2.2.2.1 = c.2.2.2.2.1 := by
  rw [rn_val]
  exact ⟨rfl, rfl, rfl, rfl⟩
theorem ho_rb (bt : Nat → Nat) (n i kd : Nat) : Ho (fun c => kC i kd c ∧ bC i 0 c ∧ rC i c ∧ nC i 100 c) (rbF bt n i) (fun c => kC i kd c ∧ rC i c ∧ ∃ b, b ≤ 2 ∧ bC i b c ∧ nC i (100 * 10 ^ b) c) := by
  intro c ⟨h1, h2, h3, h4⟩ _
  have s := sk_qe bt n 46 c i
  unfold rbF
  generalize (skF bt n 46 c).2 = d at *
  obtain ⟨v, v1, v2⟩ := h4
  split
  · unfold rfC
    dsimp only
    have ed : d.2.2.1 i = nI v := s.2.2.1.trans v1
    rw [ed]
    obtain ⟨m', e1, e2, e3⟩ := rf_nI2 bt n 2 (cAt d) v
    generalize (rf bt n 2 (cAt d) (nI v)).1 = q at *
    refine ⟨s.1.trans h1, ?_, q, e3, if_pos rfl, m', (if_pos rfl).trans e1, ?_⟩
    · show d.2.2.2.2.1 i = 0 ∨ d.2.2.2.2.1 i = 1 ∨ d.2.2.2.2.1 i = 2
      rw [s.2.2.2.2]; exact h3
    · have := Nat.mul_le_mul_right (10 ^ q) v2
      omega
  · refine ⟨s.1.trans h1, ?_, 0, by omega, s.2.2.2.1.trans h2, v, s.2.2.1.trans v1, by omega⟩
    show d.2.2.2.2.1 i = 0 ∨ d.2.2.2.2.1 i = 1 ∨ d.2.2.2.2.1 i = 2
    rw [s.2.2.2.2]; exact h3
theorem ru_rC (bt : Nat → Nat) (n i : Nat) (c : CT) (h : rC i c) : rC i (ruF bt n i c) := by
  unfold ruF
  by_cases z : ruN bt n 1 (cAt c) < 0
  · rw [if_pos z]; exact h
  · rw [if_neg z]
    obtain ⟨s, s1, s2⟩ := ruN_b bt n 1 (cAt c) z
    have s1 : s < 3 := s1
    rw [s2]
    show upd _ i (nI s) i = 0 ∨ upd _ i (nI s) i = 1 ∨ upd _ i (nI s) i = 2
    unfold upd
    rw [if_pos rfl]
    have : s = 0 ∨ s = 1 ∨ s = 2 := by omega
    rcases this with rfl | rfl | rfl <;> decide
theorem ru_ne (bt : Nat → Nat) (n i : Nat) (c : CT) : (ruF bt n i c).1 = c.1 ∧ (ruF bt n i c).2.1 = c.2.1 ∧ (ruF bt n i c).2.2.1 = c.2.2.1 ∧ (ruF bt n i c).2.2.2.1 = c.2.2.2.1 := by
  unfold ruF
  split <;> exact ⟨rfl, rfl, rfl, rfl⟩
/-- claim i is in bounds -/
def ClO (i : Nat) (c : CT) : Prop := ∃ kd mk v bh, c.1 i = nI kd ∧ kd ≤ 8 ∧ c.2.2.2.1 i = nI bh ∧ bh ≤ 2 ∧ (4 ≤ kd → c.2.1 i = nI mk ∧ mk < 7) ∧ (kd ≤ 5 → c.2.2.1 i = nI v ∧ v < 10000) ∧ (kd ≤ 3 → v + 1 ≤ 100 * 10 ^ bh) ∧ rC i c
theorem qe_k {i kd b : Nat} {c d : CT} (q : ∀ j, QE j c d) (h : kC i kd d ∧ bC i b d ∧ rC i d) : kC i kd c ∧ bC i b c ∧ rC i c := by
  obtain ⟨h1, h2, h3⟩ := h
  refine ⟨(q i).1.trans h1, (q i).2.2.2.1.trans h2, ?_⟩
  unfold rC
  rw [(q i).2.2.2.2]; exact h3
theorem rc_ClO (bt : Nat → Nat) (n i : Nat) (c : CT) (h : (rcF bt n i c).1 = true) : ClO i (rcF bt n i c).2 := by
  unfold rcF at h ⊢
  by_cases c1 : ruN bt n 0 (cAt c) < 0
  · rw [if_pos c1] at h; exact Bool.noConfusion (show false = true from h)
  · rw [if_neg c1] at h ⊢
    obtain ⟨kd, k9, ek⟩ := ruN_b bt n 0 (cAt c) c1
    have k9 : kd < 9 := k9
    rw [ek] at h ⊢
    have i0 : kC i kd (c0F c i (nI kd)) ∧ bC i 0 (c0F c i (nI kd)) ∧ rC i (c0F c i (nI kd)) := ⟨if_pos rfl, if_pos rfl, Or.inl (if_pos rfl)⟩
    have hmk := ho_mk bt n i kd 0
    have e4 : nI kd = 4 ↔ kd = 4 := ⟨fun q => (nI_eq (b := 4) (by omega) (by decide)).mp q, fun q => by rw [q]; rfl⟩
    have e5 : nI kd = 5 ↔ kd = 5 := ⟨fun q => (nI_eq (b := 5) (by omega) (by decide)).mp q, fun q => by rw [q]; rfl⟩
    by_cases c2 : nI kd = 4
    · rw [if_pos c2] at h ⊢
      have k4 := e4.mp c2
      have hh : Ho (fun c => kC i kd c ∧ bC i 0 c ∧ rC i c) (fun c => andF (andF (mkF bt n i c) (skF bt n 61)) (rnF bt n i 2)) (ClO i) := by
        refine ho_and (ho_and hmk (ho_sk bt n 61 i _ (fun c d q h => ?_))) ?_
        · obtain ⟨h1, h2, h3, mk, m1, m2⟩ := h
          obtain ⟨g1, g2, g3⟩ := qe_k q ⟨h1, h2, h3⟩
          exact ⟨g1, g2, g3, mk, (q i).2.1.trans m1, m2⟩
        · intro d hd0 _; obtain ⟨h1, h2, h3, mk, m1, m2⟩ := hd0
          obtain ⟨n1, n2, n3, n4⟩ := rn_ne bt n i 2 d
          obtain ⟨v, v1, v2⟩ := rn_nC bt n i 2 d
          refine ⟨kd, mk, v, 0, by rw [n1]; exact h1, by omega, by rw [n3]; exact h2, by omega, fun _ => ⟨by rw [n2]; exact m1, m2⟩, fun _ => ⟨v1, by omega⟩, fun q => by omega, ?_⟩
          unfold rC
          rw [n4]; exact h3
      exact hh _ i0 h
    · rw [if_neg c2] at h ⊢
      by_cases c3 : nI kd = 5
      · rw [if_pos c3] at h ⊢
        have k5 := e5.mp c3
        have hh : Ho (fun c => kC i kd c ∧ bC i 0 c ∧ rC i c) (fun c => andF (andF (andF (andF (mkF bt n i c) (skF bt n 61)) (rnF bt n i 3)) (skF bt n 37)) (fun x => (true, ruF bt n i x))) (ClO i) := by
          refine ho_and (Q := fun c => kC i kd c ∧ bC i 0 c ∧ rC i c ∧ mC i c ∧ nC i (10 ^ 3) c) (ho_and (Q := fun c => kC i kd c ∧ bC i 0 c ∧ rC i c ∧ mC i c ∧ nC i (10 ^ 3) c) (ho_and (ho_and hmk (ho_sk bt n 61 i _ (fun c d q h => ?_))) ?_) (ho_sk bt n 37 i _ (fun c d q h => ?_))) ?_
          · obtain ⟨h1, h2, h3, mk, m1, m2⟩ := h
            obtain ⟨g1, g2, g3⟩ := qe_k q ⟨h1, h2, h3⟩
            exact ⟨g1, g2, g3, mk, (q i).2.1.trans m1, m2⟩
          · intro d hd0 _; obtain ⟨h1, h2, h3, mk, m1, m2⟩ := hd0
            obtain ⟨n1, n2, n3, n4⟩ := rn_ne bt n i 3 d
            have hv := rn_nC bt n i 3 d
            refine ⟨by unfold kC; rw [n1]; exact h1, by unfold bC; rw [n3]; exact h2, by unfold rC; rw [n4]; exact h3, ⟨mk, by rw [n2]; exact m1, m2⟩, hv⟩
          · obtain ⟨h1, h2, h3, ⟨mk, m1, m2⟩, v, v1, v2⟩ := h
            obtain ⟨g1, g2, g3⟩ := qe_k q ⟨h1, h2, h3⟩
            exact ⟨g1, g2, g3, ⟨mk, (q i).2.1.trans m1, m2⟩, v, (q i).2.2.1.trans v1, v2⟩
          · intro d hd0 _; obtain ⟨h1, h2, h3, ⟨mk, m1, m2⟩, v, v1, v2⟩ := hd0
            obtain ⟨n1, n2, n3, n4⟩ := ru_ne bt n i d
            refine ⟨kd, mk, v, 0, ?_, by omega, ?_, by omega, fun _ => ⟨?_, m2⟩, fun _ => ⟨?_, by omega⟩, fun q => by omega, ru_rC bt n i d h3⟩
            · show (ruF bt n i d).1 i = nI kd
              rw [n1]; exact h1
            · show (ruF bt n i d).2.2.2.1 i = nI 0
              rw [n4]; exact h2
            · show (ruF bt n i d).2.1 i = nI mk
              rw [n2]; exact m1
            · show (ruF bt n i d).2.2.1 i = nI v
              rw [n3]; exact v1
        exact hh _ i0 h
      · rw [if_neg c3] at h ⊢
        have n4 : ¬ kd = 4 := fun q => c2 (e4.mpr q)
        have n5 : ¬ kd = 5 := fun q => c3 (e5.mpr q)
        by_cases c4 : 6 ≤ nI kd
        · rw [if_pos c4] at h ⊢
          have k6 : 6 ≤ kd := (nI_leI (a := 6) (by decide) (by omega)).mp c4
          have hh : Ho (fun c => kC i kd c ∧ bC i 0 c ∧ rC i c) (fun c => andF (skF bt n 61 c) (mkF bt n i)) (ClO i) := by
            refine ho_and (ho_sk bt n 61 i _ (fun c d q h => qe_k q h)) ?_
            intro d hd ht
            obtain ⟨h1, h2, h3, mk, m1, m2⟩ := hmk d hd ht
            exact ⟨kd, mk, 0, 0, h1, by omega, h2, by omega, fun _ => ⟨m1, m2⟩, fun q => by omega, fun q => by omega, h3⟩
          exact hh _ i0 h
        · rw [if_neg c4] at h ⊢
          have k3 : kd ≤ 3 := by
            have : ¬ 6 ≤ kd := fun q => c4 ((nI_leI (a := 6) (by decide) (by omega)).mpr q)
            omega
          have hh : Ho (fun c => kC i kd c ∧ bC i 0 c ∧ rC i c) (fun c => andF (andF (andF (skF bt n 61 c) (rnF bt n i 2)) (rbF bt n i)) (fun x => (true, ruF bt n i x))) (ClO i) := by
            refine ho_and (ho_and (ho_and (ho_sk bt n 61 i _ (fun c d q h => qe_k q h)) ?_) (ho_rb bt n i kd)) ?_
            · intro d ⟨h1, h2, h3⟩ _
              obtain ⟨n1, n2, n3, n4⟩ := rn_ne bt n i 2 d
              have hv := rn_nC bt n i 2 d
              exact ⟨by unfold kC; rw [n1]; exact h1, by unfold bC; rw [n3]; exact h2, by unfold rC; rw [n4]; exact h3, hv⟩
            · intro d ⟨h1, h3, b, b2, h2, v, v1, v2⟩ _
              obtain ⟨n1, n2, n3, n4⟩ := ru_ne bt n i d
              have : b = 0 ∨ b = 1 ∨ b = 2 := by omega
              have hv : v < 10000 := by rcases this with rfl | rfl | rfl <;> omega
              refine ⟨kd, 0, v, b, ?_, by omega, ?_, b2, fun q => by omega, fun _ => ⟨?_, hv⟩, fun _ => v2, ru_rC bt n i d h3⟩
              · show (ruF bt n i d).1 i = nI kd
                rw [n1]; exact h1
              · show (ruF bt n i d).2.2.2.1 i = nI b
                rw [n4]; exact h2
              · show (ruF bt n i d).2.2.1 i = nI v
                rw [n3]; exact v1
          exact hh _ i0 h
theorem ClO_qe {i : Nat} {c d : CT} (q : QE i c d) (h : ClO i d) : ClO i c := by
  obtain ⟨kd, mk, v, bh, h1, h2, h3, h4, h5, h6, h7, h8⟩ := h
  refine ⟨kd, mk, v, bh, q.1.trans h1, h2, q.2.2.2.1.trans h3, h4, fun z => ⟨q.2.1.trans (h5 z).1, (h5 z).2⟩, fun z => ⟨q.2.2.1.trans (h6 z).1, (h6 z).2⟩, h7, ?_⟩
  unfold rC
  rw [q.2.2.2.2]; exact h8
theorem rdL_ClO (bt : Nat → Nat) (n : Nat) : ∀ f i c, i + f ≤ 10 → (∀ j, j < i → ClO j c) → ∀ k, (rdL bt n f i c).1 = some k → k ≤ 10 ∧ ∀ j, j < k → ClO j (rdL bt n f i c).2 := by
  intro f
  induction f with
  | zero => intro i c _ _ k h; exact absurd h (fun z => nomatch z)
  | succ f ih =>
    intro i c hi hE k h
    have s3 := rc_ClO bt n i c
    obtain ⟨-, -, -, t4⟩ := rc_q bt n i (c := c) (d := c) rfl
    rw [rdL_st] at h ⊢
    generalize rcF bt n i c = R at *
    have hall : R.1 = true → ∀ j, j < i + 1 → ClO j R.2 := by
      intro hR j hj
      by_cases e : j = i
      · subst e; exact s3 hR
      · exact ClO_qe (t4 j e) (hE j (by omega))
    unfold rdT at h ⊢
    cases hR : R.1 with
    | false => rw [hR, if_pos rfl] at h; exact absurd h (fun z => nomatch z)
    | true =>
      rw [hR, if_neg (show ¬ true = false by decide)] at h
      rw [if_neg (show ¬ true = false by decide)]
      have hall := hall hR
      by_cases c2 : n ≤ cAt R.2
      · rw [if_pos c2] at h ⊢
        have : i + 1 = k := Option.some.inj h
        subst this
        exact ⟨by omega, hall⟩
      · rw [if_neg c2] at h ⊢
        by_cases c3 : i = 9
        · rw [if_pos c3] at h; exact absurd h (fun z => nomatch z)
        · rw [if_neg c3] at h ⊢
          cases hS : (skF bt n 59 R.2).1 with
          | false => rw [hS, if_pos rfl] at h; exact absurd h (fun z => nomatch z)
          | true =>
            rw [hS, if_neg (show ¬ true = false by decide)] at h
            rw [if_neg (show ¬ true = false by decide)]
            exact ih (i + 1) _ (by omega) (fun j hj => ClO_qe (sk_qe bt n 59 R.2 j) (hall j hj)) k h
theorem rdR_ClO (bt : Nat → Nat) (n : Nat) (c : CT) {k : Nat} (h : (rdR bt n c).1 = some k) : k ≤ 10 ∧ ∀ j, j < k → ClO j (rdR bt n c).2 := by
  unfold rdR at h ⊢
  by_cases z : n = 0
  · rw [if_pos z] at h ⊢
    have : 0 = k := Option.some.inj h
    subst this
    exact ⟨by omega, fun j hj => absurd hj (Nat.not_lt_zero j)⟩
  · rw [if_neg z] at h ⊢
    exact rdL_ClO bt n 10 0 c (by omega) (fun j hj => absurd hj (Nat.not_lt_zero j)) k h
