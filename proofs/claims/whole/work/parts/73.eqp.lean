/-! reading depends on the text alone -/
def QE (i : Nat) (c d : CT) : Prop := c.1 i = d.1 i ∧ c.2.1 i = d.2.1 i ∧ c.2.2.1 i = d.2.2.1 i ∧ c.2.2.2.1 i = d.2.2.2.1 i ∧ c.2.2.2.2.1 i = d.2.2.2.2.1 i
def QQ (i : Nat) (c d : CT) : Prop := QE i c d ∧ cAt c = cAt d
/-- a reading at claim i: the same from the same cells -/
def LQ (i : Nat) (f : CT → Bool × CT) : Prop := (∀ c d, QQ i c d → (f c).1 = (f d).1 ∧ QQ i (f c).2 (f d).2) ∧ ∀ c j, j ≠ i → QE j (f c).2 c
theorem QE.rfl' (i : Nat) (c : CT) : QE i c c := ⟨rfl, rfl, rfl, rfl, rfl⟩
theorem QE.trans' {i : Nat} {c d e : CT} (h : QE i c d) (k : QE i d e) : QE i c e := ⟨h.1.trans k.1, h.2.1.trans k.2.1, h.2.2.1.trans k.2.2.1, h.2.2.2.1.trans k.2.2.2.1, h.2.2.2.2.trans k.2.2.2.2⟩
theorem lq_sk (bt : Nat → Nat) (n ch i : Nat) : LQ i (skF bt n ch) := by
  refine ⟨fun c d h => ?_, fun c j _ => ?_⟩
  · unfold skF
    rw [h.2]
    split
    · exact ⟨rfl, ⟨h.1, rfl⟩⟩
    · exact ⟨rfl, h⟩
  · unfold skF
    split <;> exact ⟨rfl, rfl, rfl, rfl, rfl⟩
theorem lq_mk (bt : Nat → Nat) (n i : Nat) : LQ i (mkF bt n i) := by
  refine ⟨fun c d h => ?_, fun c j hj => ?_⟩
  · unfold mkF
    rw [h.2]
    split
    · split
      · exact ⟨rfl, ⟨⟨h.1.1, by show upd _ _ _ _ = upd _ _ _ _; unfold upd; rw [if_pos rfl, if_pos rfl], h.1.2.2.1, h.1.2.2.2.1, h.1.2.2.2.2⟩, rfl⟩⟩
      · exact ⟨rfl, h⟩
    · exact ⟨rfl, h⟩
  · unfold mkF
    split
    · split
      · exact ⟨rfl, if_neg hj, rfl, rfl, rfl⟩
      · exact QE.rfl' j c
    · exact QE.rfl' j c
theorem lq_rn (bt : Nat → Nat) (n i most : Nat) : LQ i (rnF bt n i most) := by
  refine ⟨fun c d h => ?_, fun c j hj => ?_⟩
  · rw [rn_val, rn_val, h.2]
    exact ⟨rfl, ⟨⟨h.1.1, h.1.2.1, by show upd _ _ _ _ = upd _ _ _ _; unfold upd; rw [if_pos rfl, if_pos rfl], h.1.2.2.2.1, h.1.2.2.2.2⟩, rfl⟩⟩
  · rw [rn_val]
    exact ⟨rfl, rfl, if_neg hj, rfl, rfl⟩
theorem lq_rb (bt : Nat → Nat) (n i : Nat) : LQ i (rbF bt n i) := by
  refine ⟨fun c d h => ?_, fun c j hj => ?_⟩
  · obtain ⟨s1, s2⟩ := (lq_sk bt n 46 i).1 c d h
    unfold rbF
    rw [s1]
    generalize (skF bt n 46 c).2 = c' at *
    generalize (skF bt n 46 d).2 = d' at *
    split
    · unfold rfC
      rw [s2.2, s2.1.2.2.1]
      exact ⟨rfl, ⟨⟨s2.1.1, s2.1.2.1, by show upd _ _ _ _ = upd _ _ _ _; unfold upd; rw [if_pos rfl, if_pos rfl], by show upd _ _ _ _ = upd _ _ _ _; unfold upd; rw [if_pos rfl, if_pos rfl], s2.1.2.2.2.2⟩, rfl⟩⟩
    · exact ⟨rfl, s2⟩
  · have s := (lq_sk bt n 46 i).2 c j hj
    unfold rbF
    split
    · unfold rfC
      exact ⟨s.1, s.2.1, (if_neg hj).trans s.2.2.1, (if_neg hj).trans s.2.2.2.1, s.2.2.2.2⟩
    · exact s
theorem lq_ru (bt : Nat → Nat) (n i : Nat) : LQ i (fun x => (true, ruF bt n i x)) := by
  refine ⟨fun c d h => ⟨rfl, ?_⟩, fun c j hj => ?_⟩
  · show QQ i (ruF bt n i c) (ruF bt n i d)
    unfold ruF
    rw [h.2]
    split
    · exact h
    · exact ⟨⟨h.1.1, h.1.2.1, h.1.2.2.1, h.1.2.2.2.1, by show upd _ _ _ _ = upd _ _ _ _; unfold upd; rw [if_pos rfl, if_pos rfl]⟩, rfl⟩
  · show QE j (ruF bt n i c) c
    unfold ruF
    split
    · exact QE.rfl' j c
    · exact ⟨rfl, rfl, rfl, rfl, if_neg hj⟩
theorem lq_and {i : Nat} {f g : CT → Bool × CT} (hf : LQ i f) (hg : LQ i g) : LQ i (fun c => andF (f c) g) := by
  refine ⟨fun c d h => ?_, fun c j hj => ?_⟩
  · obtain ⟨s1, s2⟩ := hf.1 c d h
    show (andF (f c) g).1 = (andF (f d) g).1 ∧ QQ i (andF (f c) g).2 (andF (f d) g).2
    unfold andF
    rw [s1]
    split
    · exact hg.1 _ _ s2
    · exact ⟨rfl, s2⟩
  · have s := hf.2 c j hj
    show QE j (andF (f c) g).2 c
    unfold andF
    split
    · exact (hg.2 _ j hj).trans' s
    · exact s
theorem c0_q (i : Nat) (k : Int32) {c d : CT} (h : cAt c = cAt d) : QQ i (c0F c i k) (c0F d i k) := by
  have u : ∀ (f g : Nat → Int32) (x : Int32), upd f i x i = upd g i x i := fun f g x => by unfold upd; rw [if_pos rfl, if_pos rfl]
  exact ⟨⟨u _ _ _, u _ _ _, u _ _ _, u _ _ _, u _ _ _⟩, by show cAt c + 1 = cAt d + 1; rw [h]⟩
theorem c0_f (i : Nat) (k : Int32) (c : CT) (j : Nat) (hj : j ≠ i) : QE j (c0F c i k) c := ⟨if_neg hj, if_neg hj, if_neg hj, if_neg hj, if_neg hj⟩
theorem rc_q (bt : Nat → Nat) (n i : Nat) {c d : CT} (h : cAt c = cAt d) : (rcF bt n i c).1 = (rcF bt n i d).1 ∧ cAt (rcF bt n i c).2 = cAt (rcF bt n i d).2 ∧ ((rcF bt n i c).1 = true → QE i (rcF bt n i c).2 (rcF bt n i d).2) ∧ ∀ j, j ≠ i → QE j (rcF bt n i c).2 c := by
  have fin : ∀ (f : CT → Bool × CT) (k : Int32), LQ i f → (f (c0F c i k)).1 = (f (c0F d i k)).1 ∧ cAt (f (c0F c i k)).2 = cAt (f (c0F d i k)).2 ∧ ((f (c0F c i k)).1 = true → QE i (f (c0F c i k)).2 (f (c0F d i k)).2) ∧ ∀ j, j ≠ i → QE j (f (c0F c i k)).2 c := by
    intro f k hf
    obtain ⟨s1, s2⟩ := hf.1 _ _ (c0_q i k h)
    exact ⟨s1, s2.2, fun _ => s2.1, fun j hj => (hf.2 _ j hj).trans' (c0_f i k c j hj)⟩
  unfold rcF
  rw [h]
  generalize ruN bt n 0 (cAt d) = k
  by_cases c1 : k < 0
  · rw [if_pos c1, if_pos c1]
    exact ⟨rfl, h, fun q => Bool.noConfusion (show false = true from q), fun j _ => QE.rfl' j c⟩
  · rw [if_neg c1, if_neg c1]
    by_cases c2 : k = 4
    · rw [if_pos c2, if_pos c2]
      exact fin (fun x => andF (andF (mkF bt n i x) (skF bt n 61)) (rnF bt n i 2)) k (lq_and (lq_and (lq_mk bt n i) (lq_sk bt n 61 i)) (lq_rn bt n i 2))
    · rw [if_neg c2, if_neg c2]
      by_cases c3 : k = 5
      · rw [if_pos c3, if_pos c3]
        exact fin (fun x => andF (andF (andF (andF (mkF bt n i x) (skF bt n 61)) (rnF bt n i 3)) (skF bt n 37)) (fun x => (true, ruF bt n i x))) k (lq_and (lq_and (lq_and (lq_and (lq_mk bt n i) (lq_sk bt n 61 i)) (lq_rn bt n i 3)) (lq_sk bt n 37 i)) (lq_ru bt n i))
      · rw [if_neg c3, if_neg c3]
        by_cases c4 : 6 ≤ k
        · rw [if_pos c4, if_pos c4]
          exact fin (fun x => andF (skF bt n 61 x) (mkF bt n i)) k (lq_and (lq_sk bt n 61 i) (lq_mk bt n i))
        · rw [if_neg c4, if_neg c4]
          exact fin (fun x => andF (andF (andF (skF bt n 61 x) (rnF bt n i 2)) (rbF bt n i)) (fun x => (true, ruF bt n i x))) k (lq_and (lq_and (lq_and (lq_sk bt n 61 i) (lq_rn bt n i 2)) (lq_rb bt n i)) (lq_ru bt n i))
def rdT (G : CT → Option Nat × CT) (bt : Nat → Nat) (n i : Nat) (R : Bool × CT) : Option Nat × CT := if R.1 = false then (none, R.2) else if n ≤ cAt R.2 then (some (i + 1), R.2) else if i = 9 then (none, R.2) else if (skF bt n 59 R.2).1 = false then (none, (skF bt n 59 R.2).2) else G (skF bt n 59 R.2).2
theorem rdL_st (bt : Nat → Nat) (n f i : Nat) (c : CT) : rdL bt n (f + 1) i c = rdT (rdL bt n f (i + 1)) bt n i (rcF bt n i c) := by rw [rdL]; rfl
def RQ (x y : Option Nat × CT) : Prop := x.1 = y.1 ∧ cAt x.2 = cAt y.2 ∧ ∀ k, x.1 = some k → ∀ j, j < k → QE j x.2 y.2
theorem RQ_none {a b : CT} (h : cAt a = cAt b) : RQ (none, a) (none, b) := ⟨rfl, h, fun k q => absurd q (fun z => nomatch z)⟩
theorem RQ_some {i : Nat} {a b : CT} (h : cAt a = cAt b) (hE : ∀ j, j < i → QE j a b) : RQ (some i, a) (some i, b) := ⟨rfl, h, fun k q => by have : i = k := Option.some.inj q; subst this; exact hE⟩
theorem QE.symm' {i : Nat} {c d : CT} (h : QE i c d) : QE i d c := ⟨h.1.symm, h.2.1.symm, h.2.2.1.symm, h.2.2.2.1.symm, h.2.2.2.2.symm⟩
theorem sk_at2 (bt : Nat → Nat) (n ch : Nat) {c d : CT} (h : cAt c = cAt d) : (skF bt n ch c).1 = (skF bt n ch d).1 ∧ cAt (skF bt n ch c).2 = cAt (skF bt n ch d).2 := by
  unfold skF
  rw [h]
  split
  · exact ⟨rfl, rfl⟩
  · exact ⟨rfl, h⟩
theorem sk_qe (bt : Nat → Nat) (n ch : Nat) (c : CT) (j : Nat) : QE j (skF bt n ch c).2 c := by
  unfold skF
  split <;> exact ⟨rfl, rfl, rfl, rfl, rfl⟩
theorem rdT_q {G : CT → Option Nat × CT} {bt : Nat → Nat} {n i : Nat} {R S : Bool × CT} (s1 : R.1 = S.1) (s2 : cAt R.2 = cAt S.2) (hE : R.1 = true → ∀ j, j < i + 1 → QE j R.2 S.2) (hG : ∀ c d, cAt c = cAt d → (∀ j, j < i + 1 → QE j c d) → RQ (G c) (G d)) : RQ (rdT G bt n i R) (rdT G bt n i S) := by
  unfold rdT
  rw [← s1, ← s2]
  cases hR : R.1 with
  | false =>
    rw [if_pos rfl, if_pos rfl]
    exact RQ_none s2
  | true =>
    have hE := hE hR
    rw [if_neg (show ¬ true = false by decide), if_neg (show ¬ true = false by decide)]
    by_cases c2 : n ≤ cAt R.2
    · rw [if_pos c2, if_pos c2]
      exact RQ_some s2 hE
    · rw [if_neg c2, if_neg c2]
      by_cases c3 : i = 9
      · rw [if_pos c3, if_pos c3]
        exact RQ_none s2
      · rw [if_neg c3, if_neg c3]
        obtain ⟨k1, k2⟩ := sk_at2 bt n 59 s2
        rw [k1]
        cases hS : (skF bt n 59 S.2).1 with
        | false =>
          rw [if_pos rfl, if_pos rfl]
          exact RQ_none k2
        | true =>
          rw [if_neg (show ¬ true = false by decide), if_neg (show ¬ true = false by decide)]
          exact hG _ _ k2 (fun j hj => ((sk_qe bt n 59 R.2 j).trans' (hE j hj)).trans' (sk_qe bt n 59 S.2 j).symm')
theorem rdL_q (bt : Nat → Nat) (n : Nat) : ∀ f i c d, cAt c = cAt d → (∀ j, j < i → QE j c d) → RQ (rdL bt n f i c) (rdL bt n f i d) := by
  intro f
  induction f with
  | zero => intro i c d h _; exact RQ_none h
  | succ f ih =>
    intro i c d h hE
    obtain ⟨s1, s2, s3, s4⟩ := rc_q bt n i h
    obtain ⟨-, -, -, t4⟩ := rc_q bt n i h.symm
    rw [rdL_st, rdL_st]
    refine rdT_q s1 s2 (fun hR j hj => ?_) (ih (i + 1))
    by_cases e : j = i
    · subst e; exact s3 hR
    · exact ((s4 j e).trans' (hE j (by omega))).trans' (t4 j e).symm'
theorem rdR_q (bt : Nat → Nat) (n : Nat) {c d : CT} (h : cAt c = cAt d) : RQ (rdR bt n c) (rdR bt n d) := by
  unfold rdR
  by_cases z : n = 0
  · rw [if_pos z, if_pos z]
    exact RQ_some h (fun j hj => absurd hj (Nat.not_lt_zero j))
  · rw [if_neg z, if_neg z]
    exact rdL_q bt n 10 0 c d h (fun j hj => absurd hj (Nat.not_lt_zero j))
