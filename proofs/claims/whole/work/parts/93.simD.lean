/-! class and reference: set, type, wipe, fault, claims, claim, believe, count -/
section SIM
variable {g : Hp} {n t ln : Nat} {bt : Nat → Nat} {B : Nat} {fd : Int32} {sh : Nat → Option Sht}
theorem CR_set {g1 : Hp} {n' t' : Nat} (hC : CR g n t ln bt B fd sh) (e : ∀ q j, ¬ (q = 0 ∧ (j = 7 ∨ j = 8 ∨ j = 11)) → g1.1 q j = g.1 q j) (hn : 1 ≤ n' ∧ n' ≤ 9 ∧ t' ≤ 6) (h7 : g1.1 0 7 = nI n') (h8 : g1.1 0 8 = nI t') (h11 : g1.1 0 11 = 0) : CR g1 n' t' ln bt B fd sh := by
  obtain ⟨⟨k1, k2, k3, k4, k5, k6⟩, ⟨t1, t2, t3⟩, ⟨r1, r2⟩, cl, ⟨b1, b2⟩, f1, s4, ss⟩ := hC
  have ez : ∀ j, j < 4 → szN g1 (18 + j) = szN g (18 + j) := fun j hj => by unfold szN; rw [e _ _ (by omega)]
  refine ⟨⟨hn.1, hn.2.1, hn.2.2, h7, h8, Or.inl h11⟩, ⟨by rw [e _ _ (by omega)]; exact t1, t2, fun j hj => by rw [e _ _ (by omega)]; exact t3 j hj⟩, ⟨by rw [e _ _ (by omega)]; exact r1, by rw [e _ _ (by omega)]; exact r2⟩, fun k hk => ⟨fun j hj => ?_, ?_⟩, ⟨by rw [e _ _ (by omega)]; exact b1, b2⟩, by rw [e _ _ (by omega)]; exact f1, fun j hj => ?_, fun j hj => ?_⟩
  · have := (cl k hk).1 j hj
    unfold QE c0H at this ⊢
    dsimp only at this ⊢
    rw [e 3 j (by omega), e 4 j (by omega), e 5 j (by omega), e 6 j (by omega), e 7 j (by omega)]
    exact this
  · rw [e 0 12 (by omega), h11]
    rcases (cl k hk).2 with q | ⟨q, _⟩
    · exact Or.inl q
    · exact Or.inr ⟨q, fun z => absurd z (by decide)⟩
  · obtain ⟨a, b, c⟩ := s4 j hj
    rw [ez j hj, e (18 + j) 3 (by omega), e (18 + j) 1 (by omega)]
    exact ⟨a, b, c⟩
  · have := ss j hj
    cases hh : sh j with
    | none => rw [hh] at this; show g1.1 (18 + j) 1 = 1; rw [e _ _ (by omega)]; exact this
    | some x =>
      rw [hh] at this
      obtain ⟨a, b, c, d⟩ := this
      refine ⟨by rw [e _ _ (by omega)]; exact a, by rw [e _ _ (by omega)]; exact b, by rw [e _ _ (by omega)]; exact c, ?_⟩
      rw [← d]
      funext x
      exact e _ _ (by omega)
theorem MR_set {g1 : Hp} {n' t' : Nat} (hM : MR g n t ln bt B fd sh) (e : ∀ q j, ¬ (q = 31 ∧ (j = 5 ∨ j = 6)) → g1.1 q j = g.1 q j) (hn : 1 ≤ n' ∧ n' ≤ 9 ∧ t' ≤ 6) (h5 : g1.1 31 5 = nI n') (h6 : g1.1 31 6 = nI t') : MR g1 n' t' ln bt B fd sh := by
  obtain ⟨⟨k1, k2, k3, k4, k5⟩, ⟨t1, t2, t3⟩, cl, f1, s4, ss⟩ := hM
  have ez : ∀ j, mz g1 j = mz g j := fun j => by unfold mz; rw [e _ _ (by omega)]
  refine ⟨⟨hn.1, hn.2.1, hn.2.2, h5, h6⟩, ⟨by rw [e _ _ (by omega)]; exact t1, t2, fun j hj => by rw [e _ _ (by omega)]; exact t3 j hj⟩, fun k hk => by rw [e _ _ (by omega)]; exact cl k hk, by rw [e _ _ (by omega)]; exact f1, fun j hj => ?_, fun j hj => ?_⟩
  · rw [ez, e _ _ (by omega)]; exact s4 j hj
  · have := ss j hj
    cases hh : sh j with
    | none => rw [hh] at this; show g1.1 32 j < 0; rw [e _ _ (by omega)]; exact this
    | some x =>
      rw [hh] at this
      obtain ⟨a, b, c, d, f⟩ := this
      exact ⟨by rw [e _ _ (by omega)]; exact a, b, by rw [e _ _ (by omega)]; exact c, d, fun i hi => by rw [e _ _ (by omega)]; exact f i hi⟩
theorem c01 (w : Int32) (h0 : ¬ w = 0) (h1 : ¬ w = 1) : w < 0 ∨ 1 < w := by
  rw [fa_eq] at h0 h1
  rw [fa_lt, fa_lt]
  have e0 : (0 : Int32).toInt = 0 := by decide
  have e1 : (1 : Int32).toInt = 1 := by decide
  omega
theorem c67 (v : Int32) : 7 ≤ v ↔ 6 < v := by
  rw [fa_le, fa_lt]
  have e0 : (7 : Int32).toInt = 7 := by decide
  have e1 : (6 : Int32).toInt = 6 := by decide
  omega
theorem c45 (v : Int32) : 5 ≤ v ↔ 4 < v := by
  rw [fa_le, fa_lt]
  have e0 : (5 : Int32).toInt = 5 := by decide
  have e1 : (4 : Int32).toInt = 4 := by decide
  omega
theorem s_set (w v : Int32) (hC : CR g n t ln bt B fd sh) (hM : MR g n t ln bt B fd sh) : SimI MX8_set MX9_set [.int w, .int v] g := by
  obtain ⟨k1, k2, k3, k4, k5, k6⟩ := hC.1
  by_cases w0 : w = 0 ∧ ¬ v < 1 ∧ ¬ 9 < v
  · obtain ⟨rfl, v1, v2⟩ := w0
    have hw0 : ¬ v < 0 := fun q => v1 (Int32.lt_trans q (by decide))
    obtain ⟨z, z1, rfl⟩ := nI_of2 (x := v) (M := 9) (n := 9) (by decide) hw0 (Int32.not_lt.mp v2)
    have z0 : 1 ≤ z := by
      apply Classical.byContradiction
      intro q
      have : z = 0 := by omega
      subst this
      exact v1 (by decide)
    have r1 := c_X8_set0 (nI z) g v1 v2
    rw [k4] at r1
    have en : ∀ q j, ¬ (q = 0 ∧ (j = 7 ∨ j = 8 ∨ j = 11)) → (setI g 7 (nI z)).1 q j = g.1 q j := fun q j hq => by unfold setI; rw [pI_g, if_neg (by omega), pI_g, if_neg (by omega)]
    refine sim_I hM (by decide) r1 (CR_set (n' := z) (t' := t) hC en ⟨z0, z1, k3⟩ (by unfold setI; simp [pI_g]) (by unfold setI; simp [pI_g]; exact k5) (by unfold setI; simp [pI_g])) (fun q j hq => en q j (by omega)) (by decide : 1 ≤ 12) (fun h => ?_)
    have r2 := c_X9_set0 (nI z) (setI g 7 (nI z)) v1 v2
    rw [h.1.2.2.2.1] at r2
    have dn : ∀ q j, ¬ (q = 31 ∧ (j = 5 ∨ j = 6)) → (pI (setI g 7 (nI z)) 31 5 (nI z)).1 q j = (setI g 7 (nI z)).1 q j := fun q j hq => by rw [pI_g, if_neg (by omega)]
    exact ⟨_, r2, MR_set h dn ⟨z0, z1, k3⟩ (by rw [pI_g, if_pos ⟨rfl, rfl⟩]) (by rw [pI_g, if_neg (by decide)]; exact h.1.2.2.2.2), fun q j hq => dn q j (by omega)⟩
  · by_cases w1 : w = 1 ∧ ¬ v < 0 ∧ ¬ 7 ≤ v
    · obtain ⟨rfl, v1, v2⟩ := w1
      obtain ⟨z, z1, rfl, _⟩ := pk_mu (L := 7) v1 v2 (by decide)
      have r1 := c_X8_set1 (nI z) g v1 v2
      rw [k5] at r1
      have en : ∀ q j, ¬ (q = 0 ∧ (j = 7 ∨ j = 8 ∨ j = 11)) → (setI g 8 (nI z)).1 q j = g.1 q j := fun q j hq => by unfold setI; rw [pI_g, if_neg (by omega), pI_g, if_neg (by omega)]
      refine sim_I hM (by decide) r1 (CR_set (n' := n) (t' := z) hC en ⟨k1, k2, by omega⟩ (by unfold setI; simp [pI_g]; exact k4) (by unfold setI; simp [pI_g]) (by unfold setI; simp [pI_g])) (fun q j hq => en q j (by omega)) (by decide : 1 ≤ 12) (fun h => ?_)
      have r2 := c_X9_set1 (nI z) (setI g 8 (nI z)) v1 (fun q => v2 ((c67 _).mpr q))
      rw [h.1.2.2.2.2] at r2
      have dn : ∀ q j, ¬ (q = 31 ∧ (j = 5 ∨ j = 6)) → (pI (setI g 8 (nI z)) 31 6 (nI z)).1 q j = (setI g 8 (nI z)).1 q j := fun q j hq => by rw [pI_g, if_neg (by omega)]
      exact ⟨_, r2, MR_set h dn ⟨k1, k2, by omega⟩ (by rw [pI_g, if_neg (by decide)]; exact h.1.2.2.2.1) (by rw [pI_g, if_pos ⟨rfl, rfl⟩]), fun q j hq => dn q j (by omega)⟩
    · refine sim_0 hC hM (by decide) (c_X8_set_bad w v g ⟨w0, w1⟩) (by decide) (c_X9_set_bad w v g ?_)
      by_cases e0 : w = 0
      · right; left
        refine ⟨e0, ?_⟩
        by_cases q : v < 1
        · exact Or.inl q
        · exact Or.inr (Classical.byContradiction (fun z => w0 ⟨e0, q, z⟩))
      · by_cases e1 : w = 1
        · right; right
          refine ⟨e1, ?_⟩
          by_cases q : v < 0
          · exact Or.inl q
          · exact Or.inr ((c67 v).mp (Classical.byContradiction (fun z => w1 ⟨e1, q, z⟩)))
        · exact Or.inl (c01 w e0 e1)
/-- all that is told is believed -/
def BBo : Option Nat → Nat
  | some k => 2 ^ k - 1
  | none => 0
def BB (bt : Nat → Nat) (ln : Nat) : Nat := BBo (RDg bt ln).1
theorem BB_some {bt : Nat → Nat} {ln k : Nat} (h : (RDg bt ln).1 = some k) : BB bt ln = 2 ^ k - 1 ∧ BB bt ln < 2 ^ k ∧ fAll (nI k) = nI (BB bt ln) := by
  have e : BB bt ln = 2 ^ k - 1 := by unfold BB; rw [h]; rfl
  have := Nat.pow_pos (n := k) (show 0 < 2 by decide)
  have k10 := (g_ok h).1
  refine ⟨e, by omega, ?_⟩
  rw [e]
  exact (fAll_N k (by omega)).1
theorem BB_none {bt : Nat → Nat} {ln : Nat} (h : (RDg bt ln).1 = none) : BB bt ln = 0 := by unfold BB; rw [h]; rfl
theorem CR_rc (hC : CR g n t ln bt B fd sh) {h : Hp} {bt' : Nat → Nat} {ln' : Nat} (eh : ∀ q j, q ≠ 2 → ¬ (q = 1 ∧ j = 8) → h.1 q j = g.1 q j) (hT : TX h bt' ln') : CR (rcH h bt' ln') n t ln' bt' (BB bt' ln') fd sh ∧ FC g (rcH h bt' ln') := by
  have hq := rdR_q bt' ln' (c := c0H h) (d := ZC) rfl
  have en0 : ∀ q j, ¬ (3 ≤ q ∧ q ≤ 7) → ¬ (q = 1 ∧ (j = 9 ∨ j = 10 ∨ j = 11)) → ¬ (q = 0 ∧ (j = 9 ∨ j = 12)) → (rcH h bt' ln').1 q j = h.1 q j := by
    intro q j q1 q2 q3
    unfold rcH rdH rdHr ctH
    rw [pI_g, if_neg (by omega), pI_g, if_neg (by omega)]
    dsimp only
    rw [if_neg (by omega), if_neg (by omega), if_neg (by omega), if_neg (by omega), if_neg (by omega), if_neg (by omega), pI_g, if_neg (by omega), pI_g, if_neg (by omega)]
  have e : ∀ q j, ¬ (2 ≤ q ∧ q ≤ 7) → ¬ (q = 1 ∧ (j = 8 ∨ j = 9 ∨ j = 10 ∨ j = 11)) → ¬ (q = 0 ∧ (j = 9 ∨ j = 12)) → (rcH h bt' ln').1 q j = g.1 q j := fun q j q1 q2 q3 => (en0 q j (by omega) (by omega) q3).trans (eh q j (by omega) (by omega))
  have r9 : (rcH h bt' ln').1 1 9 = rSz (RDg bt' ln').1 := by
    have : (RDg bt' ln').1 = (rdR bt' ln' (c0H h)).1 := hq.1.symm
    rw [this]
    unfold rcH rdH rdHr ctH
    simp [pI_g]
  have r10 : (rcH h bt' ln').1 1 10 = rFl (RDg bt' ln') := by
    have : rFl (RDg bt' ln') = rFl (rdR bt' ln' (c0H h)) := (rFl_RQ hq).symm
    rw [this]
    unfold rcH rdH rdHr ctH
    simp [pI_g]
  have r09 : (rcH h bt' ln').1 0 9 = fAll (rSz (RDg bt' ln').1) := by
    rw [← r9]
    unfold rcH
    rw [pI_g, if_neg (by decide), pI_g, if_pos ⟨rfl, rfl⟩, pI_g, if_neg (by decide), pI_g, if_neg (by decide)]
  have r012 : (rcH h bt' ln').1 0 12 = 0 := by unfold rcH; simp [pI_g]
  have rc : ∀ j, QE j (c0H (rcH h bt' ln')) (rdR bt' ln' (c0H h)).2 := by
    intro j
    unfold QE c0H rcH rdH rdHr ctH
    simp [pI_g]
    exact ⟨rfl, rfl, rfl, rfl, rfl⟩
  obtain ⟨⟨k1, k2, k3, k4, k5, k6⟩, ⟨t1, t2, t3⟩, ⟨r1, r2⟩, cl, ⟨b1, b2⟩, f1, s4, ss⟩ := hC
  have ez : ∀ j, j < 4 → szN (rcH h bt' ln') (18 + j) = szN g (18 + j) := fun j hj => by unfold szN; rw [e _ _ (by omega) (by omega) (by omega)]
  refine ⟨⟨⟨k1, k2, k3, by rw [e _ _ (by omega) (by omega) (by omega)]; exact k4, by rw [e _ _ (by omega) (by omega) (by omega)]; exact k5, ?_⟩, ⟨by rw [en0 _ _ (by omega) (by omega) (by omega)]; exact hT.1, hT.2.1, fun j hj => by rw [en0 _ _ (by omega) (by omega) (by omega)]; exact hT.2.2 j hj⟩, ⟨r9, r10⟩, fun k hk => ⟨fun j hj => ?_, Or.inl r012⟩, ⟨?_, fun q => BB_none q⟩, by rw [e _ _ (by omega) (by omega) (by omega)]; exact f1, fun j hj => ?_, fun j hj => ?_⟩, fun q j hq => e q j (by omega) (by omega) (by omega)⟩
  · rw [e 0 11 (by omega) (by omega) (by omega)]
    rcases k6 with q | ⟨q, c1, c2, c3⟩
    · exact Or.inl q
    · exact Or.inr ⟨q, by rw [e _ _ (by omega) (by omega) (by omega)]; exact c1, c2, fun k hk => by rw [e _ _ (by omega) (by omega) (by omega)]; exact c3 k hk⟩
  · exact (rc j).trans' (hq.2.2 k (hq.1.trans hk) j hj)
  · rw [r09]
    cases hh : (RDg bt' ln').1 with
    | none => rw [BB_none hh]; rfl
    | some k => exact (BB_some hh).2.2
  · obtain ⟨a, b, c⟩ := s4 j hj
    rw [ez j hj, e (18 + j) 3 (by omega) (by omega) (by omega), e (18 + j) 1 (by omega) (by omega) (by omega)]
    exact ⟨a, b, c⟩
  · have := ss j hj
    cases hh : sh j with
    | none => rw [hh] at this; show (rcH h bt' ln').1 (18 + j) 1 = 1; rw [e _ _ (by omega) (by omega) (by omega)]; exact this
    | some x =>
      rw [hh] at this
      obtain ⟨a, b, c, d⟩ := this
      refine ⟨by rw [e _ _ (by omega) (by omega) (by omega)]; exact a, by rw [e _ _ (by omega) (by omega) (by omega)]; exact b, by rw [e _ _ (by omega) (by omega) (by omega)]; exact c, ?_⟩
      rw [← d]
      funext x
      exact e _ _ (by omega) (by omega) (by omega)
theorem MR_txt {g1 : Hp} {bt' : Nat → Nat} {ln' : Nat} (hM : MR g n t ln bt B fd sh) (e : ∀ q j, q ≠ 36 → ¬ (q = 31 ∧ (j = 8 ∨ j = 16)) → g1.1 q j = g.1 q j) (hT : MTX g1 bt' ln') (h16 : g1.1 31 16 = 0) : MR g1 n t ln' bt' (BB bt' ln') fd sh := by
  obtain ⟨⟨k1, k2, k3, k4, k5⟩, ⟨t1, t2, t3⟩, cl, f1, s4, ss⟩ := hM
  have ez : ∀ j, mz g1 j = mz g j := fun j => by unfold mz; rw [e _ _ (by omega) (by omega)]
  refine ⟨⟨k1, k2, k3, by rw [e _ _ (by omega) (by omega)]; exact k4, by rw [e _ _ (by omega) (by omega)]; exact k5⟩, hT, fun k hk => ?_, by rw [e _ _ (by omega) (by omega)]; exact f1, fun j hj => ?_, fun j hj => ?_⟩
  · obtain ⟨q1, q2, q3⟩ := BB_some hk
    refine ⟨?_, q2⟩
    rw [h16, q3, show (0 : Int32) ^^^ -1 = -1 by decide, Int32.and_neg_one]
  · rw [ez, e _ _ (by omega) (by omega)]; exact s4 j hj
  · have := ss j hj
    cases hh : sh j with
    | none => rw [hh] at this; show g1.1 32 j < 0; rw [e _ _ (by omega) (by omega)]; exact this
    | some x =>
      rw [hh] at this
      obtain ⟨a, b, c, d, f⟩ := this
      exact ⟨by rw [e _ _ (by omega) (by omega)]; exact a, b, by rw [e _ _ (by omega) (by omega)]; exact c, d, fun i hi => by rw [e _ _ (by omega) (by omega)]; exact f i hi⟩
theorem s_type (b : Int32) (hC : CR g n t ln bt B fd sh) (hM : MR g n t ln bt B fd sh) : SimI MX8_type MX9_type [.int b] g := by
  by_cases hb : b < 0 ∨ 255 < b
  · exact sim_0 hC hM (by decide) (c_X8_type_bad b g hb) (by decide) (c_X9_type_bad b g hb)
  · simp only [not_or] at hb
    obtain ⟨z, z1, rfl⟩ := nI_of2 (x := b) (M := 255) (n := 255) (by decide) hb.1 (Int32.not_lt.mp hb.2)
    have hT := hC.2.1
    have hT' := hM.2.1
    by_cases c : ln = 100
    · subst c
      exact sim_0 hC hM (by decide) (c_X8_type_full z 0 g z1 hT.1) (by decide) (c_X9_type_full z g z1 hT'.1)
    · have hl : ln < 100 := by have := hT.2.1; omega
      have r1 := c_X8_type z hT hl z1
      obtain ⟨q1, q2⟩ := CR_rc hC (h := tyH g ln z) (bt' := tyB bt ln z) (ln' := ln + 1) (fun q j h1 h2 => by unfold tyH; rw [pI_g, if_neg h2, pI_g, if_neg (fun w => h1 w.1)]) (tyT hT hl z1)
      refine sim_I hM (by decide) r1 q1 q2 (by decide : 1 ≤ 12) (fun h => ?_)
      have r2 := c_X9_type z ln _ z1 hl h.2.1.1
      generalize rcH (tyH g ln z) (tyB bt ln z) (ln + 1) = w at *
      have dn : ∀ q j, q ≠ 36 → ¬ (q = 31 ∧ (j = 8 ∨ j = 16)) → (mtyH w ln z).1 q j = w.1 q j := fun q j h1 h2 => by unfold mtyH; rw [pI_g, if_neg (by omega), pI_g, if_neg (by omega), pI_g, if_neg (by omega)]
      refine ⟨_, r2, MR_txt h dn ⟨by unfold mtyH; simp [pI_g], by omega, fun j hj => ?_⟩ (by unfold mtyH; simp [pI_g]), fun q j hq => dn q j (by omega) (by omega)⟩
      unfold mtyH tyB
      rw [pI_g, if_neg (by omega), pI_g, if_neg (by omega), pI_g]
      by_cases ej : j = ln
      · subst ej
        rw [if_pos ⟨rfl, rfl⟩, if_pos rfl]
        exact ⟨rfl, by omega⟩
      · rw [if_neg (fun q => ej q.2), if_neg ej]
        exact h.2.1.2.2 j (by omega)
theorem s_wipe (hC : CR g n t ln bt B fd sh) (hM : MR g n t ln bt B fd sh) : SimI MX8_wipe MX9_wipe [] g := by
  have r1 := c_X8_wipe (h := g)
  rw [hC.2.1.1] at r1
  obtain ⟨q1, q2⟩ := CR_rc hC (h := pI g 1 8 0) (bt' := fun _ => 0) (ln' := 0) (fun q j h1 h2 => by rw [pI_g, if_neg h2]) ⟨by rw [pI_g, if_pos ⟨rfl, rfl⟩]; rfl, by omega, fun j hj => absurd hj (Nat.not_lt_zero j)⟩
  refine sim_I hM (by decide) r1 q1 q2 (by decide : 0 ≤ 12) (fun h => ?_)
  have r2 := c_X9_wipe (rcH (pI g 1 8 0) (fun _ => 0) 0)
  rw [h.2.1.1] at r2
  generalize rcH (pI g 1 8 0) (fun _ => 0) 0 = w at *
  have dn : ∀ q j, q ≠ 36 → ¬ (q = 31 ∧ (j = 8 ∨ j = 16)) → (pI (pI w 31 8 0) 31 16 0).1 q j = w.1 q j := fun q j h1 h2 => by rw [pI_g, if_neg (by omega), pI_g, if_neg (by omega)]
  exact ⟨_, r2, MR_txt h dn ⟨by simp [pI_g]; rfl, by omega, fun j hj => absurd hj (Nat.not_lt_zero j)⟩ (by simp [pI_g]), fun q j hq => dn q j (by omega) (by omega)⟩
theorem s_fault (hC : CR g n t ln bt B fd sh) (hM : MR g n t ln bt B fd sh) : SimI MX8_fault MX9_fault [] g := by
  have r1 := c_X8_fault g
  rw [hC.2.2.1.2] at r1
  refine sim_I hM (by decide) r1 hC (FC.rf g) (by decide : 5 ≤ 12) (fun h => ?_)
  obtain ⟨g1, r, m, f, _⟩ := M_reads h
  exact ⟨g1, c_X9_fault r, m, f⟩
theorem s_claims (hC : CR g n t ln bt B fd sh) (hM : MR g n t ln bt B fd sh) : SimI MX8_claims MX9_claims [] g := by
  obtain ⟨_, _, ⟨r9, r10⟩, _⟩ := id hC
  cases hk : (RDg bt ln).1 with
  | none =>
    refine sim_I hM (by decide) (c_X8_claims_n g (by rw [r10]; exact rFl_none hk)) hC (FC.rf g) (by decide : 5 ≤ 12) (fun h => ?_)
    obtain ⟨g1, r, m, f, _⟩ := M_reads h
    exact ⟨g1, c_X9_claims_n r (rFl_none hk), m, f⟩
  | some k =>
    have r1 := c_X8_claims_y g (by rw [r10]; exact rFl_some hk)
    rw [r9, hk] at r1
    refine sim_I hM (by decide) r1 hC (FC.rf g) (by decide : 5 ≤ 12) (fun h => ?_)
    obtain ⟨g1, r, m, f, a⟩ := M_reads h
    rw [rFl_some hk] at r
    have r2 := c_X9_claims_y r
    rw [(a k hk).1] at r2
    exact ⟨g1, r2, m, f⟩
theorem s_claim (i w : Int32) (hC : CR g n t ln bt B fd sh) (hM : MR g n t ln bt B fd sh) : SimI MX8_claim MX9_claim [.int i, .int w] g := by
  obtain ⟨_, _, ⟨r9, r10⟩, cl, _⟩ := id hC
  by_cases hb : i < 0 ∨ w < 0 ∨ 5 ≤ w
  · exact sim_0 hC hM (by decide) (c_X8_claim_bad i w g hb) (by decide) (c_X9_claim_bad i w g (by rw [c45] at hb; exact hb))
  · simp only [not_or] at hb
    obtain ⟨h1, h2, h3⟩ := hb
    have h3' : ¬ 4 < w := fun q => h3 ((c45 w).mpr q)
    cases hk : (RDg bt ln).1 with
    | none =>
      refine sim_I hM (by decide) (c_X8_claim_not i w g h1 h2 (Int32.not_le.mp h3) (by rw [r10]; exact rFl_none hk)) hC (FC.rf g) (by decide : 5 ≤ 12) (fun h => ?_)
      obtain ⟨g1, r, m, f, _⟩ := M_reads h
      exact ⟨g1, c_X9_claim_not i w h1 h2 h3' r (rFl_none hk), m, f⟩
    | some k =>
      have k10 := (g_ok hk).1
      have e9 : g.1 1 9 = nI k := by rw [r9, hk]; rfl
      by_cases ho : nI k ≤ i
      · refine sim_I hM (by decide) (c_X8_claim_bad2 i w g h1 h2 (Int32.not_le.mp h3) (by rw [r10]; exact rFl_some hk) (by rw [e9]; exact ho)) hC (FC.rf g) (by decide : 5 ≤ 12) (fun h => ?_)
        obtain ⟨g1, r, m, f, a⟩ := M_reads h
        rw [rFl_some hk] at r
        exact ⟨g1, c_X9_claim_out i w h1 h2 h3' r (by rw [(a k hk).1]; exact ho), m, f⟩
      · obtain ⟨x, x1, rfl, _⟩ := pk_mu (L := k) h1 ho (by omega)
        obtain ⟨y, y1, rfl, _⟩ := pk_mu (L := 5) h2 h3 (by decide)
        have r1 := c_X8_claim x y k g y1 (by rw [r10]; exact rFl_some hk) e9 k10 x1
        refine sim_I hM (by decide) r1 hC (FC.rf g) (by decide : 5 ≤ 12) (fun h => ?_)
        obtain ⟨g1, r, m, f, a⟩ := M_reads h
        rw [rFl_some hk] at r
        obtain ⟨a1, a2, _⟩ := a k hk
        have r2 := c_X9_claim x y k (by omega) r a1 k10 x1
        have q1 := (cl k hk).1 x x1
        have q2 := a2 x x1
        have ev : g1.1 (37 + y) x = g.1 (3 + y) x := by
          have : y = 0 ∨ y = 1 ∨ y = 2 ∨ y = 3 ∨ y = 4 := by omega
          rcases this with rfl | rfl | rfl | rfl | rfl
          · exact q2.1.trans q1.1.symm
          · exact q2.2.1.trans q1.2.1.symm
          · exact q2.2.2.1.trans q1.2.2.1.symm
          · exact q2.2.2.2.1.trans q1.2.2.2.1.symm
          · exact q2.2.2.2.2.trans q1.2.2.2.2.symm
        rw [ev] at r2
        exact ⟨g1, r2, m, f⟩
end SIM
