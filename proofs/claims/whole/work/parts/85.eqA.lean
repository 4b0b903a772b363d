/-! which claims some row holds together: class and reference find the same sets -/
def Sb (s u : Nat) : Prop := ∀ j, s.testBit j = true → u.testBit j = true
theorem Sb.rfl' (s : Nat) : Sb s s := fun _ h => h
theorem Sb.trans' {s t u : Nat} (h : Sb s t) (k : Sb t u) : Sb s u := fun j q => k j (h j q)
theorem tb_hi {s : Nat} (hs : s < 1024) {j : Nat} (hj : 10 ≤ j) : s.testBit j = false := Nat.testBit_lt_two_pow (Nat.lt_of_lt_of_le hs (Nat.pow_le_pow_right (by decide) hj : 2 ^ 10 ≤ 2 ^ j))
theorem tb_m : ∀ i, i < 10 → ∀ j, j < 10 → (1023 - 2 ^ i).testBit j = decide (j ≠ i) := by decide +kernel
theorem clr_tb {s i : Nat} (hs : s < 1024) (hi : i < 10) (j : Nat) : (clr s i).testBit j = (s.testBit j && decide (j ≠ i)) := by
  unfold clr
  rw [Nat.testBit_and]
  by_cases c : j < 10
  · rw [tb_m i hi j c]
  · rw [tb_hi hs (by omega)]; rfl
theorem clr_Sb {s i : Nat} (hs : s < 1024) (hi : i < 10) : Sb (clr s i) s := by
  intro j h
  rw [clr_tb hs hi, Bool.and_eq_true] at h
  exact h.1
/-- from u to s, place by place -/
def chn (s u : Nat) : Nat → Nat
  | 0 => u
  | i + 1 => if s.testBit i = true then chn s u i else clr (chn s u i) i
theorem chn_lt (s : Nat) {u : Nat} (hu : u < 1024) : ∀ i, chn s u i < 1024 := by
  intro i
  induction i with
  | zero => exact hu
  | succ i ih =>
    rw [chn]
    split
    · exact ih
    · exact clr_lt ih
theorem chn_tb (s : Nat) {u : Nat} (hu : u < 1024) : ∀ i, i ≤ 10 → ∀ j, (chn s u i).testBit j = (u.testBit j && (decide (i ≤ j) || s.testBit j)) := by
  intro i
  induction i with
  | zero => intro _ j; rw [chn]; simp
  | succ i ih =>
    intro hi j
    have ih := ih (by omega) j
    rw [chn]
    by_cases c : s.testBit i = true
    · rw [if_pos c, ih]
      by_cases e : j = i
      · subst e; simp [c]
      · have : decide (i ≤ j) = decide (i + 1 ≤ j) := by
          by_cases q : i ≤ j
          · rw [decide_eq_true q, decide_eq_true (by omega)]
          · rw [decide_eq_false q, decide_eq_false (by omega)]
        rw [this]
    · rw [if_neg c, clr_tb (chn_lt s hu i) (by omega), ih]
      have c' : s.testBit i = false := by simpa using c
      by_cases e : j = i
      · subst e; simp [c']
      · have : decide (i ≤ j) = decide (i + 1 ≤ j) := by
          by_cases q : i ≤ j
          · rw [decide_eq_true q, decide_eq_true (by omega)]
          · rw [decide_eq_false q, decide_eq_false (by omega)]
        rw [this, decide_eq_true e, Bool.and_true]
theorem chn_end {s u : Nat} (hu : u < 1024) (h : Sb s u) : chn s u 10 = s := by
  apply Nat.eq_of_testBit_eq
  intro j
  rw [chn_tb s hu 10 (Nat.le_refl _) j]
  by_cases c : s.testBit j = true
  · rw [h j c, c]; simp
  · have c' : s.testBit j = false := by simpa using c
    rw [c']
    by_cases q : 10 ≤ j
    · rw [tb_hi hu q]; rfl
    · simp [q]
theorem mk1_iff (H : Nat → Int32) (z : Nat → Int32) (hz : ∀ s, s < 1024 → z s = 0) : ∀ m s, s < 1024 → (mk1 H m z s ≠ 0 ↔ ∃ k, k < m ∧ ix (H k) = s) := by
  intro m
  induction m with
  | zero => intro s hs; exact ⟨fun q => absurd (hz s hs) q, fun ⟨k, hk, _⟩ => absurd hk (Nat.not_lt_zero k)⟩
  | succ m ih =>
    intro s hs
    have ih := ih s hs
    have e : mk1 H (m + 1) z = upd (mk1 H m z) (ix (H m)) 1 := by
      unfold mk1
      rw [lp_last, Nat.zero_add]
    rw [e]
    unfold upd
    by_cases c : s = ix (H m)
    · rw [if_pos c]
      exact ⟨fun _ => ⟨m, by omega, c.symm⟩, fun _ => by decide⟩
    · rw [if_neg c, ih]
      constructor
      · rintro ⟨k, h1, h2⟩; exact ⟨k, by omega, h2⟩
      · rintro ⟨k, h1, h2⟩
        refine ⟨k, ?_, h2⟩
        by_cases e : k = m
        · subst e; exact absurd h2.symm c
        · omega
theorem or_z {x y : Int32} : x ||| y = 0 ↔ x = 0 ∧ y = 0 := Int32.or_eq_zero_iff
/-- all that is set lies within a row -/
def SnD (H : Nat → Int32) (m : Nat) (T : Nat → Int32) : Prop := ∀ s, s < 1024 → T s ≠ 0 → ∃ k, k < m ∧ Sb s (ix (H k))
theorem snd_1 (H : Nat → Int32) (m : Nat) {z : Nat → Int32} (hz : ∀ s, s < 1024 → z s = 0) : SnD H m (mk1 H m z) := by
  intro s hs h
  obtain ⟨k, h1, h2⟩ := (mk1_iff H z hz m s hs).mp h
  exact ⟨k, h1, by rw [h2]; exact Sb.rfl' s⟩
theorem snd_u {H : Nat → Int32} {m : Nat} {T : Nat → Int32} (h : SnD H m T) {s i : Nat} (hs : s < 1024) (hi : i < 10) (x : Int32) (hx : x ≠ 0 → T (clr s i) ≠ 0 ∨ T s ≠ 0) : SnD H m (upd T (clr s i) x) := by
  intro u hu q
  unfold upd at q
  by_cases c : u = clr s i
  · rw [if_pos c] at q
    rcases hx q with a | a
    · rw [← c] at a; exact h u hu a
    · obtain ⟨k, k1, k2⟩ := h s hs a
      exact ⟨k, k1, by rw [c]; exact (clr_Sb hs hi).trans' k2⟩
  · rw [if_neg c] at q
    exact h u hu q
theorem snd_orP {H : Nat → Int32} {m : Nat} {T : Nat → Int32} (h : SnD H m T) {i : Nat} (hi : i < 10) : SnD H m (orP i T) := by
  unfold orP
  refine lp_inv (orS i) (fun _ T => SnD H m T) 1024 (fun s T hs hT => ?_) 1024 0 T rfl h
  unfold orS
  refine snd_u hT hs hi _ (fun q => ?_)
  by_cases a : T (clr s i) = 0
  · right
    intro b
    exact q (or_z.mpr ⟨a, b⟩)
  · exact Or.inl a
theorem snd_tog (H : Nat → Int32) (m : Nat) {z : Nat → Int32} (hz : ∀ s, s < 1024 → z s = 0) : SnD H m (tog H m z) := by
  unfold tog
  exact lp_inv orP (fun _ T => SnD H m T) 10 (fun i T hi hT => snd_orP hT hi) 10 0 _ rfl (snd_1 H m hz)
def Le1 (T U : Nat → Int32) : Prop := ∀ s, T s ≠ 0 → U s ≠ 0
theorem le_orS (i s : Nat) (T : Nat → Int32) : Le1 T (orS i s T) := by
  intro u h
  unfold orS upd
  by_cases c : u = clr s i
  · rw [if_pos c]
    intro q
    rw [c] at h
    exact h (or_z.mp q).1
  · rw [if_neg c]; exact h
theorem lp_le {f : Nat → (Nat → Int32) → (Nat → Int32)} (hf : ∀ i T, Le1 T (f i T)) : ∀ k i T, Le1 T (lp f i k T) := by
  intro k
  induction k with
  | zero => intro i T s h; exact h
  | succ k ih => intro i T s h; rw [lp_s]; exact ih _ _ s (hf i T s h)
theorem lp_ad {α : Type} (f : Nat → α → α) : ∀ a b i (x : α), lp f i (a + b) x = lp f (i + a) b (lp f i a x) := by
  intro a
  induction a with
  | zero => intro b i x; rw [Nat.zero_add]; rfl
  | succ a ih =>
    intro b i x
    rw [show a + 1 + b = (a + b) + 1 by omega, lp_s, ih, lp_s, show i + 1 + a = i + (a + 1) by omega]
theorem orP_clr {i : Nat} {T : Nat → Int32} {s : Nat} (hs : s < 1024) (h : T s ≠ 0) : orP i T (clr s i) ≠ 0 := by
  unfold orP
  rw [show (1024 : Nat) = s + (1 + (1023 - s)) by omega, lp_ad, lp_ad]
  refine lp_le (le_orS i) _ _ _ _ ?_
  have h1 := lp_le (le_orS i) s 0 T s h
  show orS i (0 + s) _ (clr s i) ≠ 0
  rw [Nat.zero_add]
  unfold orS upd
  rw [if_pos rfl]
  intro q
  exact h1 (or_z.mp q).2
theorem tog_iff (H : Nat → Int32) (m : Nat) {z : Nat → Int32} (hz : ∀ s, s < 1024 → z s = 0) {s : Nat} (hs : s < 1024) : tog H m z s ≠ 0 ↔ ∃ k, k < m ∧ Sb s (ix (H k)) := by
  refine ⟨snd_tog H m hz s hs, ?_⟩
  rintro ⟨k, h1, h2⟩
  have hu := ix_lt (H k)
  have key : ∀ i, i ≤ 10 → lp orP 0 i (mk1 H m z) (chn s (ix (H k)) i) ≠ 0 := by
    intro i
    induction i with
    | zero =>
      intro _
      rw [lp_0, chn]
      exact (mk1_iff H z hz m _ hu).mpr ⟨k, h1, rfl⟩
    | succ i ih =>
      intro hi
      have ih := ih (by omega)
      rw [lp_last, Nat.zero_add, chn]
      split
      · exact lp_le (le_orS i) _ _ _ _ ih
      · exact orP_clr (chn_lt s hu i) ih
  have k10 := key 10 (Nat.le_refl _)
  rw [chn_end hu h2] at k10
  exact k10
theorem le_up1 (s i : Nat) (T : Nat → Int32) : Le1 T (upd T (clr s i) 1) := by
  intro u h
  unfold upd
  split
  · decide
  · exact h
theorem mdS_le (s : Nat) (T : Nat → Int32) : Le1 T (mdS s T) := by
  unfold mdS
  split
  · exact fun u h => h
  · exact lp_le (le_up1 s) 10 0 T
theorem mdD_le : ∀ s T, Le1 T (mdD s T) := by
  intro s
  induction s with
  | zero => intro T u h; exact h
  | succ s ih => intro T u h; rw [mdD]; exact ih _ u (mdS_le _ T u h)
theorem clr_le (s i : Nat) : clr s i ≤ s := Nat.and_le_left
theorem mdS_hi {s x : Nat} (T : Nat → Int32) (hx : s < x) : mdS s T x = T x := by
  unfold mdS
  split
  · rfl
  · refine lp_inv (fun i T => upd T (clr s i) 1) (fun _ U => U x = T x) 10 (fun i U _ hU => ?_) 10 0 T rfl rfl
    show upd U (clr s i) 1 x = T x
    unfold upd
    rw [if_neg (by have := clr_le s i; omega)]
    exact hU
theorem mdD_hi : ∀ s T x, s < x → mdD s T x = T x := by
  intro s
  induction s with
  | zero => intro T x _; rfl
  | succ s ih => intro T x hx; rw [mdD, ih _ x (by omega), mdS_hi T hx]
theorem mdS_clr {s : Nat} {T : Nat → Int32} (h : T s ≠ 0) {i : Nat} (hi : i < 10) : mdS s T (clr s i) ≠ 0 := by
  unfold mdS
  rw [if_neg h, show (10 : Nat) = i + (1 + (9 - i)) by omega, lp_ad, lp_ad]
  refine lp_le (le_up1 s) _ _ _ _ ?_
  show upd _ (clr s (0 + i)) 1 (clr s i) ≠ 0
  rw [Nat.zero_add]
  unfold upd
  rw [if_pos rfl]
  decide
theorem mdD_cl : ∀ s T x, x ≤ s → mdD s T x ≠ 0 → ∀ i, i < 10 → mdD s T (clr x i) ≠ 0 := by
  intro s
  induction s with
  | zero =>
    intro T x hx h i hi
    have : x = 0 := by omega
    subst this
    have e : clr 0 i = 0 := Nat.zero_and _
    rw [e]; exact h
  | succ s ih =>
    intro T x hx h i hi
    rw [mdD] at h ⊢
    by_cases e : x = s + 1
    · subst e
      rw [mdD_hi _ _ _ (by omega)] at h
      have h0 : T (s + 1) ≠ 0 := by
        intro q
        unfold mdS at h
        rw [if_pos q] at h
        exact h q
      exact mdD_le _ _ _ (mdS_clr h0 hi)
    · exact ih _ x (by omega) h i hi
theorem snd_mdS {H : Nat → Int32} {m : Nat} {T : Nat → Int32} (h : SnD H m T) {s : Nat} (hs : s < 1024) : SnD H m (mdS s T) := by
  unfold mdS
  by_cases c : T s = 0
  · rw [if_pos c]; exact h
  · rw [if_neg c]
    have r := lp_inv (fun i T => upd T (clr s i) 1) (fun _ U => SnD H m U ∧ U s ≠ 0) 10 (fun i U hi hU => ⟨snd_u hU.1 hs hi 1 (fun _ => Or.inr hU.2), le_up1 s i U s hU.2⟩) 10 0 T rfl ⟨h, c⟩
    exact r.1
theorem snd_mdD {H : Nat → Int32} {m : Nat} : ∀ s T, s < 1024 → SnD H m T → SnD H m (mdD s T) := by
  intro s
  induction s with
  | zero => intro T _ h; exact h
  | succ s ih => intro T hs h; rw [mdD]; exact ih _ (by omega) (snd_mdS h hs)
theorem mkM_iff (H : Nat → Int32) (m : Nat) {z : Nat → Int32} (hz : ∀ s, s < 1024 → z s = 0) {s : Nat} (hs : s < 1024) : mkM H m z s ≠ 0 ↔ ∃ k, k < m ∧ Sb s (ix (H k)) := by
  refine ⟨fun h => snd_mdD 1023 _ (by decide) (snd_1 H m hz) s hs h, ?_⟩
  rintro ⟨k, h1, h2⟩
  have hu := ix_lt (H k)
  have key : ∀ i, i ≤ 10 → mkM H m z (chn s (ix (H k)) i) ≠ 0 := by
    intro i
    induction i with
    | zero => intro _; exact mdD_le _ _ _ ((mk1_iff H z hz m _ hu).mpr ⟨k, h1, rfl⟩)
    | succ i ih =>
      intro hi
      have ih := ih (by omega)
      rw [chn]
      split
      · exact ih
      · have := chn_lt s hu i
        exact mdD_cl 1023 _ _ (by omega) ih i (by omega)
  have k10 := key 10 (Nat.le_refl _)
  rw [chn_end hu h2] at k10
  exact k10
/-- quarrel: over the same rows the same set -/
theorem quarrel_TM (H H' : Nat → Int32) {m : Nat} {z z' : Nat → Int32} (hz : ∀ s, s < 1024 → z s = 0) (hz' : ∀ s, s < 1024 → z' s = 0) (hH : ∀ k, k < m → H k = H' k) (b : Int32) : fLQ (tog H m z) b = lp (quF (mkM H' m z') b) 1 1023 0 := by
  rw [quarrel_eq]
  refine lp_cong _ _ _ (fun s a h1 h2 => ?_)
  have hs : s < 1024 := by omega
  have e : tog H m z s = 0 ↔ mkM H' m z' s = 0 := by
    have a1 := tog_iff H m hz hs
    have a2 := mkM_iff H' m hz' hs
    have a3 : (∃ k, k < m ∧ Sb s (ix (H k))) ↔ ∃ k, k < m ∧ Sb s (ix (H' k)) := ⟨fun ⟨k, k1, k2⟩ => ⟨k, k1, by rw [← hH k k1]; exact k2⟩, fun ⟨k, k1, k2⟩ => ⟨k, k1, by rw [hH k k1]; exact k2⟩⟩
    have a4 : tog H m z s ≠ 0 ↔ mkM H' m z' s ≠ 0 := a1.trans (a3.trans a2.symm)
    constructor
    · intro q; exact Classical.byContradiction (fun n => a4.mpr n q)
    · intro q; exact Classical.byContradiction (fun n => a4.mp n q)
  unfold quF
  by_cases c : tog H m z s = 0
  · rw [if_pos c, if_pos (e.mp c)]
  · rw [if_neg c, if_neg (fun q => c (e.mpr q))]
