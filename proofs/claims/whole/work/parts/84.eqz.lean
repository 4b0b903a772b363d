/-! shares: class and reference -/
theorem ls_iff {v f d x : Nat} (r : Int32) (hf : 1 ≤ f) : lsN v r f d ≤ x ↔ (if r = 1 ∧ v % 2 = 1 then loN v r * d < x * (2 * f) else loN v r * d ≤ x * (2 * f)) := by
  unfold lsN
  rw [least_le _ _ _ _ (by omega)]
  by_cases c : r = 1 ∧ v % 2 = 1
  · rw [if_pos c, if_pos c, if_neg (show ¬ (1 : Int32) = 0 by decide)]
  · rw [if_neg c, if_neg c, if_pos rfl]
theorem ms_iff {v f d x : Nat} (r : Int32) (hf : 1 ≤ f) (hd : 1 ≤ d) : x ≤ msN v r f d ↔ (if r = 1 ∧ ¬ v % 2 = 1 then x * (2 * f) ≤ hiN v r * d else x * (2 * f) < hiN v r * d) := by
  unfold msN
  have : 1 * 1 ≤ hiN v r * d := Nat.mul_le_mul (lo_le v r).2.2 hd
  rw [most_ge _ _ _ _ (by omega) (by omega)]
  by_cases c : r = 1 ∧ ¬ v % 2 = 1
  · rw [if_pos c, if_pos c, if_neg (show ¬ (1 : Int32) = 0 by decide)]
  · rw [if_neg c, if_neg c, if_pos rfl]
/-- above the window of w no smaller window begins, below it none ends -/
theorem ls_up {v w f d x : Nat} (r : Int32) (hf : 1 ≤ f) (hd : 1 ≤ d) (hvw : v < w) (h : lsN w r f d ≤ x) : lsN v r f d ≤ x := by
  rw [ls_iff r hf] at h ⊢
  have h1 : loN w r * d ≤ x * (2 * f) := by
    split at h <;> omega
  have h2 : loN v r * d + d ≤ loN w r * d := by
    have e : loN v r + 1 ≤ loN w r := by
      unfold loN
      split <;> omega
    have := Nat.mul_le_mul_right d e
    rw [Nat.add_mul, Nat.one_mul] at this
    exact this
  split <;> omega
theorem ls_dn {v w f d x : Nat} (r : Int32) (hf : 1 ≤ f) (hd : 1 ≤ d) (hr : r = 0 ∨ r = 1 ∨ r = 2) (hvw : w < v) (h : x ≤ msN w r f d) : ¬ lsN v r f d ≤ x := by
  rw [ms_iff r hf hd] at h
  rw [ls_iff r hf]
  have e : hiN w r ≤ loN v r ∧ (hiN w r = loN v r ∨ hiN w r + 1 ≤ loN v r) := by
    unfold loN hiN
    split <;> omega
  have h2 := Nat.mul_le_mul_right d e.1
  have hs : hiN w r = loN v r → r ≠ 2 → v = w + 1 := by
    unfold loN hiN
    intro q q2
    rw [if_neg q2, if_neg q2] at q
    omega
  rcases e.2 with e2 | e2
  · rcases hr with rfl | rfl | rfl
    · rw [if_neg (fun q => absurd q.1 (by decide))] at h
      rw [if_neg (fun q => absurd q.1 (by decide))]
      omega
    · have := hs e2 (by decide)
      subst this
      by_cases q : w % 2 = 1
      · rw [if_neg (fun z => z.2 q)] at h
        rw [if_neg (fun z => by have := z.2; omega)]
        omega
      · rw [if_pos ⟨rfl, q⟩] at h
        rw [if_pos ⟨rfl, by omega⟩]
        omega
    · rw [if_neg (fun q => absurd q.1 (by decide))] at h
      rw [if_neg (fun q => absurd q.1 (by decide))]
      omega
  · have := Nat.mul_le_mul_right d e2
    rw [Nat.add_mul, Nat.one_mul] at this
    have h1 : x * (2 * f) ≤ hiN w r * d := by
      split at h <;> omega
    split <;> omega
theorem rd_ge {v f d x : Nat} (r : Int32) (hf : 1 ≤ f) (hd : 1 ≤ d) (hr : r = 0 ∨ r = 1 ∨ r = 2) : rdN (x * f) d r < v ↔ ¬ lsN v r f d ≤ x := by
  have hb := (rd_bounds (v := rdN (x * f) d r) (x := x) r hf hd hr).mp rfl
  generalize rdN (x * f) d r = w at *
  constructor
  · intro q; exact ls_dn r hf hd hr q hb.2
  · intro q
    apply Classical.byContradiction
    intro z
    by_cases e : v = w
    · subst e; exact q hb.1
    · exact q (ls_up r hf hd (by omega) hb.1)
theorem rd_full {T : Nat} (r : Int32) (hT : 1 ≤ T) (hr : r = 0 ∨ r = 1 ∨ r = 2) : rdN (T * 100) T r = 100 := by
  have e1 : T * 100 % T = 0 := Nat.mul_mod_right T 100
  have e2 : T * 100 / T = 100 := Nat.mul_div_cancel_left 100 (by omega)
  unfold rdN
  rw [e1, e2]
  rcases hr with rfl | rfl | rfl
  · rw [if_neg (by decide), if_neg (by omega), if_neg (by omega)]
  · rw [if_neg (by decide), if_neg (by omega), if_neg (by omega)]
  · rw [if_pos rfl]
theorem csF_eq {T v : Nat} (r : Int32) (hT : 1 ≤ T) (hv : v ≤ 100) (hr : r = 0 ∨ r = 1 ∨ r = 2) : csF r T v = lsN v r 100 T ∧ lsN v r 100 T ≤ T := by
  have hle : lsN v r 100 T ≤ T := by
    apply Classical.byContradiction
    intro q
    have := (rd_ge (v := v) (x := T) r (by decide : 1 ≤ 100) hT hr).mpr q
    rw [rd_full r hT hr] at this
    omega
  refine ⟨?_, hle⟩
  unfold csF
  refine upF_at _ _ ?_ (fun j hj => ?_) _ _ (by omega) (by omega)
  · rw [decide_eq_false_iff_not, Nat.mul_comm, rd_ge r (by decide) hT hr]
    exact fun q => q (Nat.le_refl _)
  · rw [decide_eq_true_eq, Nat.mul_comm, rd_ge r (by decide) hT hr]
    omega
theorem upF_end (p : Nat → Bool) : ∀ f k, (∀ j, k ≤ j → j < k + f → p j = true) → upF p f k = k + f := by
  intro f
  induction f with
  | zero => intro k _; rfl
  | succ f ih =>
    intro k h
    rw [upF, if_pos (h k (Nat.le_refl _) (by omega)), ih (k + 1) (fun j h1 h2 => h j (by omega) (by omega))]
    omega
theorem upF_at2 (p : Nat → Bool) (m : Nat) (hm : p m = false) : ∀ f k, k ≤ m → (∀ j, k ≤ j → j < m → p j = true) → m < k + f → upF p f k = m := by
  intro f
  induction f with
  | zero => intro k h1 _ h2; omega
  | succ f ih =>
    intro k h1 h0 h2
    rw [upF]
    by_cases e : k = m
    · subst e; rw [hm]; exact if_neg (by decide)
    · rw [if_pos (h0 k (by omega) (by omega))]
      exact ih (k + 1) (by omega) (fun j h3 h4 => h0 j (by omega) h4) (by omega)
theorem csG_eq {T v : Nat} (r : Int32) (hT : 1 ≤ T) (hv : v ≤ 100) (hr : r = 0 ∨ r = 1 ∨ r = 2) : (lsN v r 100 T ≤ msN v r 100 T → csG r T v = min (msN v r 100 T) T + 1) ∧ (¬ lsN v r 100 T ≤ msN v r 100 T → csG r T v = lsN v r 100 T) := by
  obtain ⟨e1, e2⟩ := csF_eq r hT hv hr
  have hp : ∀ j, rdN (100 * j) T r = v ↔ lsN v r 100 T ≤ j ∧ j ≤ msN v r 100 T := fun j => by rw [Nat.mul_comm, rd_bounds r (by decide) hT hr]
  unfold csG
  rw [e1]
  generalize lsN v r 100 T = lo at *
  generalize msN v r 100 T = hi at *
  constructor
  · intro hl
    by_cases c : hi < T
    · rw [Nat.min_eq_left (by omega)]
      refine upF_at2 _ _ ?_ _ _ (by omega) (fun j h1 h2 => ?_) (by omega)
      · rw [decide_eq_false_iff_not, hp]; omega
      · rw [decide_eq_true_eq, hp]; omega
    · rw [Nat.min_eq_right (by omega), upF_end _ _ _ (fun j h1 h2 => by rw [decide_eq_true_eq, hp]; omega)]
      omega
  · intro hl
    refine upF_at2 _ _ ?_ _ _ (Nat.le_refl _) (fun j h1 h2 => by omega) (by omega)
    rw [decide_eq_false_iff_not, hp]; omega
theorem cs_0 (a : Nat → Int32) (r : Int32) (T : Nat) : ∀ f i (s : CS), s.2.2 = 0 → csE T (lp (csS a r T) i f s) = 0 := by
  intro f
  induction f with
  | zero => intro i s h; show csE T s = 0; unfold csE; rw [if_pos h]
  | succ f ih =>
    intro i s h
    rw [lp_s]
    refine ih (i + 1) _ ?_
    show (if s.2.2 = 0 then (0 : Int32) else _) = 0
    rw [if_pos h]
theorem cbt_rel (a : Nat → Int32) (r : Int32) {T : Nat} (hT : 1 ≤ T) (hT3 : T ≤ 300) (hr : r = 0 ∨ r = 1 ∨ r = 2) : ∀ f i lo hi hi', (∀ j, i ≤ j → j < i + f → ¬ a j < 0 ∧ a j ≤ 100) → i + f ≤ 60 → lo ≤ 400 * i → hi ≤ 400 * i → hi' ≤ hi → (hi < T → hi' = hi) → (T ≤ hi → T ≤ hi') → cbtF a r (nI T) f i (nI lo) (nI hi) = csE T (lp (csS a r T) i f (nI lo, nI hi', 1)) := by
  intro f
  induction f with
  | zero =>
    intro i lo hi hi' _ h60 h1 h2 h3 h4 h5
    rw [cbtF]
    show _ = csE T (nI lo, nI hi', 1)
    unfold csE
    dsimp only
    rw [if_neg (show ¬ (1 : Int32) = 0 by decide)]
    by_cases c : nI T < nI lo
    · rw [if_pos c, if_pos c]
    · rw [if_neg c, if_neg c]
      by_cases d : hi < T
      · rw [if_pos (nI_lt d (by omega)), if_pos (nI_lt (by have := h4 d; omega) (by omega))]
      · rw [if_neg (nI_nlt (by omega) (by omega)), if_neg (nI_nlt (h5 (by omega)) (by omega))]
  | succ f ih =>
    intro i lo hi hi' ha h60 h1 h2 h3 h4 h5
    obtain ⟨a1, a2⟩ := ha i (Nat.le_refl _) (by omega)
    obtain ⟨v, v1, v2⟩ := nI_of2 (n := 100) (by decide) a1 a2
    obtain ⟨f1, f2⟩ := csF_eq (v := v) r hT v1 hr
    obtain ⟨g1, g2⟩ := csG_eq (v := v) r hT v1 hr
    have bl := lsN_b v r (f := 100) (d := T) (by decide) (by omega) hT3
    have bm := msN_b v r (f := 100) (d := T) (by omega) hT3
    have bm4 : msN v r 100 T ≤ 400 := by
      have hl := lo_le v r
      have h1 : hiN v r * T ≤ 202 * 300 := Nat.mul_le_mul (by omega) hT3
      unfold msN
      exact Nat.div_le_of_le_mul (ite_b (by omega) (by omega))
    have el : fLeast (a i) r 100 (nI T) = nI (lsN v r 100 T) := by
      rw [v2]; exact fLeast_N (f := 100) r (by omega) (by decide) (by decide) (by omega)
    have em : fMost (a i) r 100 (nI T) = nI (msN v r 100 T) := by
      rw [v2]; exact fMost_N (f := 100) r (by omega) (by decide) (by decide) hT (by omega)
    have eS : csS a r T i (nI lo, nI hi', 1) = (nI (lo + lsN v r 100 T), nI hi' + (nI (csG r T v) - 1), if lsN v r 100 T < csG r T v then 1 else 0) := by
      unfold csS
      dsimp only
      rw [if_neg (show ¬ (1 : Int32) = 0 by decide), v2, nI_clamp (by omega), f1, nI_add]
    rw [cbtF, el, em, lp_s, eS]
    generalize lsN v r 100 T = L at *
    generalize msN v r 100 T = M at *
    by_cases c : L ≤ M
    · rw [if_pos (nI_le c bm), g1 c, if_pos (by have := Nat.min_le_left M T; omega), nI_add, nI_add, show nI (min M T + 1) - 1 = nI (min M T) from nI_pred _, nI_add]
      refine ih (i + 1) _ _ _ (fun j q1 q2 => ha j (by omega) (by omega)) (by omega) (by omega) (by omega) (by omega) (fun q => ?_) (fun q => ?_)
      · have := h4 (by omega)
        rw [Nat.min_eq_left (by omega)]; omega
      · by_cases q1 : T ≤ hi
        · have := h5 q1; omega
        · have := h4 (by omega)
          by_cases q2 : T ≤ M
          · rw [Nat.min_eq_right q2]; omega
          · rw [Nat.min_eq_left (by omega)]; omega
    · rw [if_neg (nI_ge (by omega) bl), g2 c, if_neg (Nat.lt_irrefl _)]
      exact (cs_0 a r T f (i + 1) _ rfl).symm
theorem cbt_eq (a : Nat → Int32) (r : Int32) {T n : Nat} (hT : 1 ≤ T) (hT3 : T ≤ 300) (hr : r = 0 ∨ r = 1 ∨ r = 2) (hn : n ≤ 60) (ha : ∀ j, j < n → ¬ a j < 0 ∧ a j ≤ 100) : cbt a r (nI T) n = csR a r T n := by
  unfold cbt csR
  exact cbt_rel a r hT hT3 hr n 0 0 0 0 (fun j _ h => ha j (by omega)) (by omega) (by omega) (by omega) (by omega) (fun _ => rfl) (fun q => by omega)
theorem shD_1 (c : Nat → Int32) : ∀ T s l, (shD c T s l).1 = s + lp (fun T a => if c T = 0 then a else a + 1) 1 T 0 := by
  intro T
  induction T with
  | zero => intro s l; show s = s + 0; rw [Int32.add_zero]
  | succ T ih =>
    intro s l
    rw [shD, ih, lp_last, Nat.add_comm 1 T]
    by_cases q : c (T + 1) = 0
    · rw [if_pos q, if_pos q]
    · rw [if_neg q, if_neg q, Int32.add_assoc, Int32.add_comm 1]
def ltF (c : Nat → Int32) : Nat → Nat → Int32
  | 0, _ => -1
  | f + 1, T => if c T = 0 then ltF c f (T + 1) else nI T
theorem ltF_last (c : Nat → Int32) : ∀ f T, T + f < 2 ^ 31 → ltF c (f + 1) T = if ltF c f T = -1 then (if c (T + f) = 0 then -1 else nI (T + f)) else ltF c f T := by
  intro f
  induction f with
  | zero =>
    intro T _
    have e : ltF c 0 T = -1 := rfl
    rw [e, if_pos rfl, ltF, Nat.add_zero]
    rfl
  | succ f ih =>
    intro T hT
    rw [ltF]
    by_cases q : c T = 0
    · rw [if_pos q, ih (T + 1) (by omega), show T + 1 + f = T + (f + 1) by omega]
      have e : ltF c (f + 1) T = ltF c f (T + 1) := by rw [ltF, if_pos q]
      rw [e]
    · have e : ltF c (f + 1) T = nI T := by rw [ltF, if_neg q]
      rw [if_neg q, e, if_neg (nI_nm1 (by omega))]
theorem shD_2 (c : Nat → Int32) : ∀ T s l, T < 2 ^ 30 → (shD c T s l).2 = if ltF c T 1 = -1 then l else ltF c T 1 := by
  intro T
  induction T with
  | zero => intro s l _; exact (if_pos rfl).symm
  | succ T ih =>
    intro s l hT
    rw [shD, ih _ _ (by omega), ltF_last c T 1 (by omega), Nat.add_comm 1 T]
    by_cases z : ltF c T 1 = -1
    · rw [if_pos z, if_pos z]
      by_cases q : c (T + 1) = 0
      · rw [if_pos q, if_pos q, if_pos rfl]
      · rw [if_neg q, if_neg q, if_neg (nI_nm1 (by omega))]
    · rw [if_neg z, if_neg z, if_neg z]
theorem fLT_ltF (a : Nat → Int32) (r : Int32) (n : Nat) : ∀ f T, fLT a r n f T = ltF (fun T => cbt a r (nI T) n) f T := by
  intro f
  induction f with
  | zero => intro T; rfl
  | succ f ih => intro T; rw [fLT, ltF, ih]
theorem ltF_c {c c' : Nat → Int32} : ∀ f T, (∀ j, T ≤ j → j < T + f → c j = c' j) → ltF c f T = ltF c' f T := by
  intro f
  induction f with
  | zero => intro T _; rfl
  | succ f ih => intro T h; rw [ltF, ltF, h T (Nat.le_refl _) (by omega), ih (T + 1) (fun j h1 h2 => h j (by omega) (by omega))]
/-- the same totals, as many and the least -/
theorem shares_eq (a : Nat → Int32) (r : Int32) {n : Nat} (hr : r = 0 ∨ r = 1 ∨ r = 2) (hn : n ≤ 60) (ha : ∀ j, j < n → ¬ a j < 0 ∧ a j ≤ 100) : fHT a r n = (shD (fun T => csR a r T n) 300 0 (-1)).1 ∧ fLT a r n 300 1 = (shD (fun T => csR a r T n) 300 0 (-1)).2 := by
  constructor
  · rw [shD_1, Int32.zero_add]
    unfold fHT
    refine lp_cong _ _ _ (fun T b h1 h2 => ?_)
    rw [cbt_eq a r h1 (by omega) hr hn ha]
  · rw [shD_2 _ _ _ _ (by decide), fLT_ltF]
    rw [ltF_c (c' := fun T => csR a r T n) 300 1 (fun T h1 h2 => cbt_eq a r h1 (by omega) hr hn ha)]
    by_cases z : ltF (fun T => csR a r T n) 300 1 = -1
    · rw [if_pos z, z]
    · rw [if_neg z]
