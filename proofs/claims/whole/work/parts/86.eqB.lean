/-! alone and fewest: class and reference -/
theorem nI_tb (a : Nat) : (nI a).toBitVec = BitVec.ofNat 32 a := rfl
theorem and_nN {a b : Nat} (ha : a < 1024) (hb : b < 1024) : nI a &&& (nI b ^^^ -1) = nI (a &&& (1023 ^^^ b)) := by
  apply Int32.toBitVec_inj.mp
  rw [Int32.toBitVec_and, Int32.toBitVec_xor, nI_tb, nI_tb, nI_tb, show (-1 : Int32).toBitVec = BitVec.allOnes 32 by decide]
  apply BitVec.eq_of_getLsbD_eq
  intro i hi
  simp only [BitVec.getLsbD_and, BitVec.getLsbD_xor, BitVec.getLsbD_ofNat, BitVec.getLsbD_allOnes, Nat.testBit_and, Nat.testBit_xor]
  rw [decide_eq_true hi]
  by_cases c : i < 10
  · have : (1023 : Nat).testBit i = true := by
      have : i = 0 ∨ i = 1 ∨ i = 2 ∨ i = 3 ∨ i = 4 ∨ i = 5 ∨ i = 6 ∨ i = 7 ∨ i = 8 ∨ i = 9 := by omega
      rcases this with rfl | rfl | rfl | rfl | rfl | rfl | rfl | rfl | rfl | rfl <;> decide
    rw [this]
    cases a.testBit i <;> cases b.testBit i <;> rfl
  · rw [tb_hi ha (by omega)]
    simp
theorem or_nN (a b : Nat) : nI a ||| nI b = nI (a ||| b) := by
  apply Int32.toBitVec_inj.mp
  rw [Int32.toBitVec_or, nI_tb, nI_tb, nI_tb]
  apply BitVec.eq_of_getLsbD_eq
  intro i hi
  simp only [BitVec.getLsbD_or, BitVec.getLsbD_ofNat, Nat.testBit_or, Bool.and_or_distrib_left]
theorem or_lt {a b : Nat} (ha : a < 1024) (hb : b < 1024) : a ||| b < 1024 := Nat.or_lt_two_pow (n := 10) ha hb
theorem and_lt {a : Nat} (b : Nat) (ha : a < 1024) : a &&& b < 1024 := Nat.lt_of_le_of_lt Nat.and_le_left ha
theorem tb_1023 {i : Nat} (h : i < 10) : (1023 : Nat).testBit i = true := by
  have : i = 0 ∨ i = 1 ∨ i = 2 ∨ i = 3 ∨ i = 4 ∨ i = 5 ∨ i = 6 ∨ i = 7 ∨ i = 8 ∨ i = 9 := by omega
  rcases this with rfl | rfl | rfl | rfl | rfl | rfl | rfl | rfl | rfl | rfl <;> decide
/-- what of a is not in b -/
def dif (a b : Nat) : Nat := a &&& (1023 ^^^ b)
theorem dif_tb {a : Nat} (ha : a < 1024) (b j : Nat) : (dif a b).testBit j = (a.testBit j && !b.testBit j) := by
  unfold dif
  rw [Nat.testBit_and, Nat.testBit_xor]
  by_cases c : j < 10
  · rw [tb_1023 c]; cases b.testBit j <;> rfl
  · rw [tb_hi ha (by omega)]; rfl
theorem dif_lt {a : Nat} (ha : a < 1024) (b : Nat) : dif a b < 1024 := and_lt _ ha
theorem dif_Sb {a : Nat} (ha : a < 1024) (b : Nat) : Sb (dif a b) a := by
  intro j h
  rw [dif_tb ha, Bool.and_eq_true] at h
  exact h.1
theorem dif_sw {a s u : Nat} (ha : a < 1024) : Sb (dif a s) u ↔ Sb (dif a u) s := by
  have one : ∀ s u, Sb (dif a s) u → Sb (dif a u) s := by
    intro s u h j q
    rw [dif_tb ha, Bool.and_eq_true] at q
    cases c : s.testBit j with
    | true => rfl
    | false =>
      have := h j (by rw [dif_tb ha, q.1, c]; rfl)
      rw [this] at q
      exact absurd q.2 (by decide)
  exact ⟨one s u, one u s⟩
theorem ix_nI {a : Nat} (ha : a < 1024) : ix (nI a) = a := by
  unfold ix
  rw [pk_tn (by omega), Nat.mod_eq_of_lt ha]
theorem fEH_tb (H : Nat → Int32) : ∀ m, (∀ k, k < m → H k = nI (ix (H k))) → ∃ e, e < 1024 ∧ fEH H m = nI e ∧ ∀ j, (e.testBit j = true ↔ ∃ k, k < m ∧ (ix (H k)).testBit j = true) := by
  intro m
  induction m with
  | zero => intro _; exact ⟨0, by decide, rfl, fun j => ⟨fun q => absurd q (by rw [Nat.zero_testBit]; decide), fun ⟨k, hk, _⟩ => absurd hk (Nat.not_lt_zero k)⟩⟩
  | succ m ih =>
    intro hH
    obtain ⟨e, e1, e2, e3⟩ := ih (fun k hk => hH k (by omega))
    refine ⟨e ||| ix (H m), or_lt e1 (ix_lt _), ?_, fun j => ?_⟩
    · unfold fEH at e2 ⊢
      rw [lp_last, Nat.zero_add, e2, ← or_nN, ← hH m (by omega)]
    · rw [Nat.testBit_or, Bool.or_eq_true, e3]
      constructor
      · rintro (⟨k, k1, k2⟩ | q)
        · exact ⟨k, by omega, k2⟩
        · exact ⟨m, by omega, q⟩
      · rintro ⟨k, k1, k2⟩
        by_cases c : k = m
        · subst c; exact Or.inr k2
        · exact Or.inl ⟨k, by omega, k2⟩
theorem al_tb (T : Nat → Int32) : ∀ k, k ≤ 10 → ∃ a, a < 1024 ∧ lp (alF T) 0 k 0 = nI a ∧ ∀ j, (a.testBit j = true ↔ j < k ∧ T (2 ^ j) = 0) := by
  intro k
  induction k with
  | zero => intro _; exact ⟨0, by decide, rfl, fun j => ⟨fun q => absurd q (by rw [Nat.zero_testBit]; decide), fun q => absurd q.1 (Nat.not_lt_zero j)⟩⟩
  | succ k ih =>
    intro hk
    obtain ⟨a, a1, a2, a3⟩ := ih (by omega)
    obtain ⟨s1, s2⟩ := sh1 k (by omega)
    rw [lp_last, Nat.zero_add, a2]
    unfold alF
    by_cases c : T (2 ^ k) = 0
    · rw [if_pos c, s1, or_nN]
      refine ⟨_, or_lt a1 s2, rfl, fun j => ?_⟩
      rw [Nat.testBit_or, Bool.or_eq_true, a3, Nat.testBit_two_pow]
      constructor
      · rintro (⟨q1, q2⟩ | q)
        · exact ⟨by omega, q2⟩
        · have : k = j := by simpa using q
          subst this; exact ⟨by omega, c⟩
      · rintro ⟨q1, q2⟩
        by_cases e : k = j
        · right; simpa using e
        · exact Or.inl ⟨by omega, q2⟩
    · rw [if_neg c, Int32.or_zero]
      refine ⟨a, a1, rfl, fun j => ?_⟩
      rw [a3]
      constructor
      · rintro ⟨q1, q2⟩; exact ⟨by omega, q2⟩
      · rintro ⟨q1, q2⟩
        refine ⟨?_, q2⟩
        by_cases e : j = k
        · subst e; exact absurd q2 c
        · omega
theorem fAll_N : ∀ k, k < 11 → fAll (nI k) = nI (2 ^ k - 1) ∧ 2 ^ k - 1 < 1024 := by decide +kernel
theorem tb_all : ∀ k, k < 11 → ∀ j, j < 10 → (2 ^ k - 1).testBit j = decide (j < k) := by decide +kernel
theorem Sb_one {i u : Nat} : Sb (2 ^ i) u ↔ u.testBit i = true := by
  constructor
  · intro h; exact h i (Nat.testBit_two_pow_self)
  · intro h j q
    rw [Nat.testBit_two_pow] at q
    have : i = j := by simpa using q
    subst this; exact h
theorem alone_eq (H H' : Nat → Int32) {m kc : Nat} {z' : Nat → Int32} (hz' : ∀ s, s < 1024 → z' s = 0) (hH : ∀ k, k < m → H k = H' k) (hx : ∀ k, k < m → H k = nI (ix (H k))) (hk : kc ≤ 10) : fAll (nI kc) &&& (fEH H m ^^^ (-1)) = lp (alF (mkM H' m z')) 0 kc 0 := by
  obtain ⟨e, e1, e2, e3⟩ := fEH_tb H m hx
  obtain ⟨a, a1, a2, a3⟩ := al_tb (mkM H' m z') kc hk
  obtain ⟨f1, f2⟩ := fAll_N kc (by omega)
  rw [e2, a2, f1, and_nN f2 e1]
  congr 1
  show dif (2 ^ kc - 1) e = a
  apply Nat.eq_of_testBit_eq
  intro j
  rw [dif_tb f2]
  by_cases c : j < 10
  · rw [tb_all kc (by omega) j c]
    have t := mkM_iff H' m hz' (s := 2 ^ j) (sh1 j c).2
    have key : (e.testBit j = true ↔ mkM H' m z' (2 ^ j) ≠ 0) := by
      rw [e3, t]
      constructor
      · rintro ⟨k, k1, k2⟩; exact ⟨k, k1, Sb_one.mpr (by rw [← hH k k1]; exact k2)⟩
      · rintro ⟨k, k1, k2⟩; exact ⟨k, k1, by rw [hH k k1]; exact Sb_one.mp k2⟩
    have a3 := a3 j
    cases ea : a.testBit j with
    | true =>
      obtain ⟨q1, q2⟩ := a3.mp ea
      cases ee : e.testBit j with
      | true => exact absurd q2 (key.mp ee)
      | false => rw [decide_eq_true q1]; rfl
    | false =>
      cases ee : e.testBit j with
      | true => rw [Bool.not_true, Bool.and_false]
      | false =>
        by_cases q : j < kc
        · have z : mkM H' m z' (2 ^ j) = 0 := Classical.byContradiction (fun n => by
            have := key.mpr n
            rw [ee] at this
            exact absurd this (by decide))
          have := a3.mpr ⟨q, z⟩
          rw [ea] at this
          exact absurd this (by decide)
        · rw [decide_eq_false q]; rfl
  · rw [tb_hi f2 (by omega), tb_hi a1 (by omega)]; rfl
def pcS (s : Nat) : Nat := sg (fun i => if s.testBit i = true then 1 else 0) 10
theorem pc_on : ∀ s, s < 1024 → onN 10 s = pcS s := by decide +kernel
theorem pc_bit {s : Nat} (hs : s < 1024) : bitc (nI s) = nI (pcS s) := by rw [← (on_bitc s hs).1, pc_on s hs]
theorem sg_mle {g g' : Nat → Nat} : ∀ f, (∀ j, j < f → g j ≤ g' j) → sg g f ≤ sg g' f := by
  intro f
  induction f with
  | zero => intro _; exact Nat.le_refl _
  | succ f ih => intro h; rw [sg_s, sg_s]; have := ih (fun j hj => h j (by omega)); have := h f (by omega); omega
theorem sg_lt {g g' : Nat → Nat} : ∀ f, (∀ j, j < f → g j ≤ g' j) → (∃ j, j < f ∧ g j < g' j) → sg g f < sg g' f := by
  intro f
  induction f with
  | zero => rintro _ ⟨j, hj, _⟩; omega
  | succ f ih =>
    rintro h ⟨j, hj, hl⟩
    rw [sg_s, sg_s]
    by_cases c : j = f
    · subst c
      have := sg_mle j (fun i hi => h i (by omega))
      omega
    · have := ih (fun i hi => h i (by omega)) ⟨j, by omega, hl⟩
      have := h f (by omega)
      omega
theorem pc_lt {x y : Nat} (hx : x < 1024) (hy : y < 1024) (h : Sb x y) (hne : x ≠ y) : pcS x < pcS y := by
  unfold pcS
  refine sg_lt 10 (fun j _ => ?_) ?_
  · by_cases c : x.testBit j = true
    · rw [if_pos c, if_pos (h j c)]; exact Nat.le_refl _
    · rw [if_neg c]; exact Nat.zero_le _
  · apply Classical.byContradiction
    intro n
    apply hne
    apply Nat.eq_of_testBit_eq
    intro j
    by_cases q : j < 10
    · cases cx : x.testBit j with
      | true => exact (h j cx).symm
      | false =>
        cases cy : y.testBit j with
        | false => rfl
        | true => exact absurd ⟨j, q, by rw [cx, cy]; decide⟩ n
    · rw [tb_hi hx (by omega), tb_hi hy (by omega)]
/-- fewer first, then the smaller -/
def kyS (s : Nat) : Nat := pcS s * 1024 + s
theorem pc_le10 (s : Nat) : pcS s ≤ 10 := by
  have h : sg (fun i => if s.testBit i = true then 1 else 0) 10 ≤ sg (fun _ => 1) 10 := sg_mle 10 (fun j _ => by split <;> omega)
  exact h
theorem ahead_k {x y : Nat} (hx : x < 1024) (hy : y < 1024) : ahead (nI x) (nI y) = decide (kyS x < kyS y) := by
  have b1 := pc_le10 x
  have b2 := pc_le10 y
  unfold ahead
  rw [pc_bit hx, pc_bit hy]
  have e1 : (nI (pcS x) - nI (pcS y) < 0) ↔ pcS x < pcS y := by
    rw [fa_lt, pk_sub_toInt (by omega) (by omega)]
    have e : (0 : Int32).toInt = 0 := by decide
    omega
  have e2 : (nI (pcS x) - nI (pcS y) = 0) ↔ pcS x = pcS y := by
    rw [fa_eq, pk_sub_toInt (by omega) (by omega)]
    have e : (0 : Int32).toInt = 0 := by decide
    omega
  have e3 : nI x < nI y ↔ x < y := nI_ltI (by omega) (by omega)
  have e4 : kyS x < kyS y ↔ (pcS x < pcS y ∨ (pcS x = pcS y ∧ x < y)) := by unfold kyS; omega
  rw [Bool.eq_iff_iff]
  simp only [Bool.or_eq_true, Bool.and_eq_true, decide_eq_true_eq]
  rw [e1, e2, e3, e4]
theorem fFD_min (H : Nat → Int32) {B : Nat} (hB : B < 1024) : ∀ m, (∀ k, k < m → H k = nI (ix (H k))) → ∃ r, r < 1024 ∧ fFD H (nI B) m = nI r ∧ (r = B ∨ ∃ k, k < m ∧ r = dif B (ix (H k))) ∧ kyS r ≤ kyS B ∧ ∀ k, k < m → kyS r ≤ kyS (dif B (ix (H k))) := by
  intro m
  induction m with
  | zero => intro _; exact ⟨B, hB, rfl, Or.inl rfl, Nat.le_refl _, fun k hk => absurd hk (Nat.not_lt_zero k)⟩
  | succ m ih =>
    intro hH
    obtain ⟨r, r1, r2, r3, r4, r5⟩ := ih (fun k hk => hH k (by omega))
    have dl := dif_lt hB (ix (H m))
    unfold fFD at r2 ⊢
    rw [lp_last, Nat.zero_add, r2]
    unfold fdF
    have e : nI B &&& (H m ^^^ -1) = nI (dif B (ix (H m))) := by
      rw [hH m (by omega), and_nN hB (ix_lt _), ix_nI (ix_lt _)]
      rfl
    rw [e, ahead_k dl r1]
    by_cases c : kyS (dif B (ix (H m))) < kyS r
    · rw [if_pos (decide_eq_true c)]
      refine ⟨_, dl, rfl, Or.inr ⟨m, by omega, rfl⟩, by omega, fun k hk => ?_⟩
      by_cases q : k = m
      · subst q; exact Nat.le_refl _
      · have := r5 k (by omega); omega
    · rw [if_neg (by simpa using c)]
      refine ⟨r, r1, rfl, ?_, r4, fun k hk => ?_⟩
      · rcases r3 with q | ⟨k, k1, k2⟩
        · exact Or.inl q
        · exact Or.inr ⟨k, by omega, k2⟩
      · by_cases q : k = m
        · subst q; omega
        · exact r5 k (by omega)
theorem fwF_N (T : Nat → Int32) {B s a : Nat} (hB : B < 1024) (hs : s < 1024) (ha : a < 1024) : fwF T (nI B) s (nI a) = if dif s B = 0 then (if pcS a < pcS s then nI a else if T (dif B s) = 0 then nI a else nI s) else nI a := by
  have b1 := pc_le10 a
  have b2 := pc_le10 s
  unfold fwF
  rw [and_nN hs hB, and_nN hB hs, pc_bit ha, pc_bit hs]
  have e1 : nI (s &&& (1023 ^^^ B)) = 0 ↔ dif s B = 0 := by
    show nI (dif s B) = nI 0 ↔ _
    have := dif_lt hs B
    exact nI_eq (by omega) (by decide)
  have e2 : nI (pcS a) < nI (pcS s) ↔ pcS a < pcS s := nI_ltI (by omega) (by omega)
  have e3 : ix (nI (B &&& (1023 ^^^ s))) = dif B s := ix_nI (dif_lt hB s)
  rw [e3]
  by_cases c1 : dif s B = 0
  · rw [if_pos (e1.mpr c1), if_pos c1]
    by_cases c2 : pcS a < pcS s
    · rw [if_pos (e2.mpr c2), if_pos c2]
    · rw [if_neg (fun q => c2 (e2.mp q)), if_neg c2]
  · rw [if_neg (fun q => c1 (e1.mp q)), if_neg c1]
/-- a set that may be doubted: the rest holds together -/
def Dbt (T : Nat → Int32) (B s : Nat) : Prop := dif s B = 0 ∧ T (dif B s) ≠ 0
theorem fwD_min (T : Nat → Int32) {B : Nat} (hB : B < 1024) : ∀ s a, s < 1024 → a < 1024 → s < a ∨ (s = a ∧ a = B) → ∃ r, r < 1024 ∧ fwD T (nI B) s (nI a) = nI r ∧ (r = a ∨ (r ≤ s ∧ Dbt T B r)) ∧ kyS r ≤ kyS a ∧ ∀ x, x ≤ s → Dbt T B x → kyS r ≤ kyS x := by
  have step : ∀ s a, s < 1024 → a < 1024 → s < a ∨ (s = a ∧ a = B) → ∃ r, r < 1024 ∧ fwF T (nI B) s (nI a) = nI r ∧ (r = a ∨ (r = s ∧ Dbt T B r)) ∧ kyS r ≤ kyS a ∧ (Dbt T B s → kyS r ≤ kyS s) := by
    intro s a hs ha hsa
    rw [fwF_N T hB hs ha]
    by_cases c1 : dif s B = 0
    · rw [if_pos c1]
      by_cases c2 : pcS a < pcS s
      · rw [if_pos c2]
        exact ⟨a, ha, rfl, Or.inl rfl, Nat.le_refl _, fun _ => by unfold kyS; omega⟩
      · rw [if_neg c2]
        by_cases c3 : T (dif B s) = 0
        · rw [if_pos c3]
          exact ⟨a, ha, rfl, Or.inl rfl, Nat.le_refl _, fun q => absurd c3 q.2⟩
        · rw [if_neg c3]
          refine ⟨s, hs, rfl, Or.inr ⟨rfl, c1, c3⟩, ?_, fun _ => Nat.le_refl _⟩
          unfold kyS
          rcases hsa with q | ⟨q, _⟩
          · omega
          · subst q; exact Nat.le_refl _
    · rw [if_neg c1]
      exact ⟨a, ha, rfl, Or.inl rfl, Nat.le_refl _, fun q => absurd q.1 c1⟩
  intro s
  induction s with
  | zero =>
    intro a hs ha hsa
    obtain ⟨r, r1, r2, r3, r4, r5⟩ := step 0 a hs ha hsa
    rw [fwD]
    refine ⟨r, r1, r2, ?_, r4, fun x hx q => ?_⟩
    · rcases r3 with q | ⟨q1, q2⟩
      · exact Or.inl q
      · exact Or.inr ⟨by omega, q2⟩
    · have : x = 0 := by omega
      subst this; exact r5 q
  | succ s ih =>
    intro a hs ha hsa
    obtain ⟨r, r1, r2, r3, r4, r5⟩ := step (s + 1) a hs ha hsa
    rw [fwD, r2]
    obtain ⟨t, t1, t2, t3, t4, t5⟩ := ih r (by omega) r1 (by
      left
      rcases r3 with q | ⟨q1, q2⟩
      · rcases hsa with z | ⟨z, _⟩ <;> omega
      · omega)
    refine ⟨t, t1, t2, ?_, by omega, fun x hx q => ?_⟩
    · rcases t3 with q | ⟨q1, q2⟩
      · rcases r3 with z | ⟨z1, z2⟩
        · exact Or.inl (q.trans z)
        · exact Or.inr ⟨by omega, by rw [q]; exact z2⟩
      · exact Or.inr ⟨by omega, q2⟩
    · by_cases c : x = s + 1
      · subst c
        have := r5 q
        omega
      · exact t5 x (by omega) q
theorem ky_pc {x y : Nat} (hx : x < 1024) (h : pcS x < pcS y) : kyS x ≤ kyS y := by
  unfold kyS
  omega
theorem ky_inj {x y : Nat} (hx : x < 1024) (hy : y < 1024) (h : kyS x = kyS y) : x = y := by
  unfold kyS at h
  omega
theorem Sb_le {x y : Nat} (h : Sb x y) : x ≤ y := by
  have e : x &&& y = x := by
    apply Nat.eq_of_testBit_eq
    intro j
    rw [Nat.testBit_and]
    cases c : x.testBit j with
    | true => rw [h j c]; rfl
    | false => rfl
  rw [← e]
  exact Nat.and_le_right
theorem dif_0 {x y : Nat} (hx : x < 1024) : dif x y = 0 ↔ Sb x y := by
  constructor
  · intro h j q
    cases c : y.testBit j with
    | true => rfl
    | false =>
      have t := dif_tb hx y j
      rw [h, Nat.zero_testBit, q, c] at t
      exact absurd t (by decide)
  · intro h
    apply Nat.eq_of_testBit_eq
    intro j
    rw [dif_tb hx, Nat.zero_testBit]
    cases c : x.testBit j with
    | true => rw [h j c]; rfl
    | false => rfl
theorem fewest_eq (H H' : Nat → Int32) {m B : Nat} {z' : Nat → Int32} (hz' : ∀ s, s < 1024 → z' s = 0) (hH : ∀ k, k < m → H k = H' k) (hx : ∀ k, k < m → H k = nI (ix (H k))) (hB : B < 1024) : fFD H (nI B) m = fwD (mkM H' m z') (nI B) B (nI B) := by
  obtain ⟨r, r1, r2, r3, r4, r5⟩ := fFD_min H hB m hx
  obtain ⟨t, t1, t2, t3, t4, t5⟩ := fwD_min (mkM H' m z') hB B B hB hB (Or.inr ⟨rfl, rfl⟩)
  rw [r2, t2]
  congr 1
  have tT : ∀ s, s < 1024 → (mkM H' m z' (dif B s) ≠ 0 ↔ ∃ k, k < m ∧ Sb (dif B (ix (H k))) s) := by
    intro s hs
    rw [mkM_iff H' m hz' (dif_lt hB s)]
    constructor
    · rintro ⟨k, k1, k2⟩; exact ⟨k, k1, by rw [hH k k1]; exact (dif_sw hB).mp k2⟩
    · rintro ⟨k, k1, k2⟩; exact ⟨k, k1, (dif_sw hB).mpr (by rw [← hH k k1]; exact k2)⟩
  have dD : ∀ k, k < m → Dbt (mkM H' m z') B (dif B (ix (H k))) := fun k hk => ⟨(dif_0 (dif_lt hB _)).mpr (dif_Sb hB _), (tT _ (dif_lt hB _)).mpr ⟨k, hk, Sb.rfl' _⟩⟩
  have h1 : kyS t ≤ kyS r := by
    rcases r3 with q | ⟨k, k1, k2⟩
    · rw [q]; exact t4
    · rw [k2]; exact t5 _ (Sb_le (dif_Sb hB _)) (dD k k1)
  have h2 : kyS r ≤ kyS t := by
    rcases t3 with q | ⟨q1, q2⟩
    · rw [q]; exact r4
    · obtain ⟨k, k1, k2⟩ := (tT t t1).mp q2.2
      by_cases c : dif B (ix (H k)) = t
      · rw [← c]; exact r5 k k1
      · have := pc_lt (dif_lt hB _) t1 k2 c
        exact Nat.le_trans (r5 k k1) (ky_pc (dif_lt hB _) this)
  exact ky_inj r1 t1 (by omega)
