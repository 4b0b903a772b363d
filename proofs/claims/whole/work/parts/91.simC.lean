/-! class and reference: sheet, lay, get, copy -/
section SIM
variable {g : Hp} {n t ln : Nat} {bt : Nat → Nat} {B : Nat} {fd : Int32} {sh : Nat → Option Sht}
theorem fClamp_N {z : Nat} (h : z ≤ 60) : fClamp (nI z) = nI z := by
  unfold fClamp
  rw [if_neg (show ¬ (60 : Int32) < nI z from nI_nlt (a := 60) h (by decide))]
  by_cases c : z = 0
  · subst c; rfl
  · rw [if_pos (show (0 : Int32) < nI z from nI_lt (a := 0) (by omega) (by omega))]
theorem s_sheet (s f v : Int32) (hC : CR g n t ln bt B fd sh) (hM : MR g n t ln bt B fd sh) : SimI MX8_sheet MX9_sheet [.int s, .int f, .int v] g := by
  by_cases hb : ¬ okS s ∨ ¬ okF f ∨ 60 < v
  · exact sim_0 hC hM (by decide) (c_X8_sheet_bad s f v g hb) (by decide) (c_X9_sheet_bad s f v g hb)
  · simp only [not_or, Classical.not_not] at hb
    obtain ⟨h0, hf, h2⟩ := hb
    by_cases h1 : v < 0
    · exact sim_fd 5 hC hM (by decide) (c_X8_sheet_size s f v g h0 hf h1) (by decide) (fun g1 _ => c_X9_sheet_size s f v g1 h0 hf h1)
    · obtain ⟨j, hj, rfl⟩ := okS_n h0
      obtain ⟨z, z1, rfl⟩ := nI_of2 (x := v) (M := 60) (n := 60) (by decide) h1 (Int32.not_lt.mp h2)
      have r1 := c_X8_sheet j z f g hj hf z1
      have e1 : (beginH g (18 + j) f (nI z)).1 (18 + j) 1 = 0 := by unfold beginH; simp [pI_g]
      have e2 : (beginH g (18 + j) f (nI z)).1 (18 + j) 2 = f := by unfold beginH; simp [pI_g]
      have e3 : (beginH g (18 + j) f (nI z)).1 (18 + j) 3 = nI z := by unfold beginH; rw [fClamp_N z1]; simp [pI_g]
      have e4 : (beginH g (18 + j) f (nI z)).1 (18 + j + 4) = fun i => if i < 60 then 0 else g.1 (18 + j + 4) i := by
        funext i
        unfold beginH
        rw [pI_g, if_neg (by omega), pI_g, if_neg (by omega), pI_g, if_neg (by omega), pA_g, if_pos rfl]
      have en : ∀ q i, q ≠ 18 + j → q ≠ 18 + j + 4 → (beginH g (18 + j) f (nI z)).1 q i = g.1 q i := by
        intro q i q1 q2
        unfold beginH
        rw [pI_g, if_neg (fun w => q1 w.1), pI_g, if_neg (fun w => q1 w.1), pI_g, if_neg (fun w => q1 w.1), pA_g, if_neg q2]
      have ez : szN (beginH g (18 + j) f (nI z)) (18 + j) = z := by unfold szN; rw [e3, nI_clamp (by omega)]
      refine sim_I hM (by decide) r1 (CR_sh (b := j) (o := some (f, z, fun i => if i < 60 then 0 else g.1 (18 + j + 4) i)) (fun q i hq => en q i (by omega) (by omega)) hj ⟨by rw [ez]; exact e3, by rw [ez]; exact z1, Or.inl e1⟩ ⟨e1, e2, e3, e4⟩ hC) (fun q i hq => en q i (by omega) (by omega)) (by decide : 2 ≤ 12) (fun h => ?_)
      have r2 := c_X9_sheet j z f (beginH g (18 + j) f (nI z)) hj hf z1
      generalize beginH g (18 + j) f (nI z) = w at *
      have d2 : (mshH w j f z z).1 32 j = f := by unfold mshH; rw [pA_g, if_neg (by decide), pI_g, if_neg (by omega), pI_g, if_pos ⟨rfl, rfl⟩]
      have d3 : (mshH w j f z z).1 33 j = nI z := by unfold mshH; rw [pA_g, if_neg (by decide), pI_g, if_pos ⟨rfl, rfl⟩]
      have d4 : ∀ i, (mshH w j f z z).1 34 i = if 60 * j ≤ i ∧ i < 60 * j + z then 0 else w.1 34 i := by intro i; unfold mshH; rw [pA_g, if_pos rfl]
      have dn : ∀ q i, ¬ (q = 32 ∧ i = j) → ¬ (q = 33 ∧ i = j) → q ≠ 34 → (mshH w j f z z).1 q i = w.1 q i := by
        intro q i q1 q2 q3
        unfold mshH
        rw [pA_g, if_neg q3, pI_g, if_neg q2, pI_g, if_neg q1]
      have dz : mz (mshH w j f z z) j = z := by unfold mz; rw [d3, nI_clamp (by omega)]
      refine ⟨_, r2, MR_sh (b := j) (fun q i hq => ?_) ⟨by rw [dz]; exact d3, by rw [dz]; exact z1⟩ ⟨d2, hf, d3, z1, fun i hi => ?_⟩ h, fun q i hq => dn q i (by omega) (by omega) (by omega)⟩
      · by_cases q34 : q = 34
        · subst q34
          rw [d4, if_neg (by omega)]
        · exact dn q i (by omega) (by omega) q34
      · have hi : i < z := hi
        rw [d4, if_pos (by omega)]
        dsimp only
        rw [if_pos (by omega)]
theorem trb_some (hC : CR g n t ln bt B fd sh) {j : Nat} {x : Sht} (hj : j < 4) (hx : sh j = some x) (h60 : x.2.1 ≤ 60) (f i : Int32) : trb g (18 + j) f i = if x.1 = f then (if i < 0 then 2 else if i < nI x.2.1 then 0 else 2) else 3 := by
  obtain ⟨c1, c2, c3, c4, c5, c6⟩ := shC_some hC hj hx h60
  unfold trb
  rw [if_pos c1, c2, c3]
theorem mtr_some (hM : MR g n t ln bt B fd sh) {j : Nat} {x : Sht} (hj : j < 4) (hx : sh j = some x) (f i : Int32) : mtr g j f i = if x.1 = f then (if i < 0 then 2 else if i < nI x.2.1 then 0 else 2) else 3 := by
  obtain ⟨m1, m2, m3, m4, m5, m6, m7, m8⟩ := shM_some hM hj hx
  unfold mtr
  rw [if_neg m7, m1, m3]
theorem trb_none (hC : CR g n t ln bt B fd sh) {j : Nat} (hj : j < 4) (hx : sh j = none) (f i : Int32) : trb g (18 + j) f i = 1 := by
  unfold trb
  rw [shC_none hC hj hx, if_neg (by decide)]
theorem mtr_none (hM : MR g n t ln bt B fd sh) {j : Nat} (hj : j < 4) (hx : sh j = none) (f i : Int32) : mtr g j f i = 1 := by
  unfold mtr
  rw [if_pos (shM_none hM hj hx)]
theorem trb_mtr {w : Hp} (hC : CR g n t ln bt B fd sh) (hM : MR w n t ln bt B fd sh) {j : Nat} (hj : j < 4) (f i : Int32) : mtr w j f i = trb g (18 + j) f i := by
  cases hx : sh j with
  | none => rw [mtr_none hM hj hx, trb_none hC hj hx]
  | some x => rw [mtr_some hM hj hx, trb_some hC hj hx (shM_some hM hj hx).2.2.2.2.1]
theorem trb_0 (hC : CR g n t ln bt B fd sh) (hM : MR g n t ln bt B fd sh) {j : Nat} (hj : j < 4) {f i : Int32} (h : trb g (18 + j) f i = 0) : ∃ x a, sh j = some x ∧ x.1 = f ∧ i = nI a ∧ a < x.2.1 := by
  cases hx : sh j with
  | none => rw [trb_none hC hj hx] at h; exact absurd h (by decide)
  | some x =>
    have h60 := (shM_some hM hj hx).2.2.2.2.1
    rw [trb_some hC hj hx h60] at h
    by_cases c1 : x.1 = f
    · rw [if_pos c1] at h
      by_cases c2 : i < 0
      · rw [if_pos c2] at h; exact absurd h (by decide)
      · rw [if_neg c2] at h
        by_cases c3 : i < nI x.2.1
        · obtain ⟨a, a1, a2, _⟩ := pk_mu (L := x.2.1) c2 (Int32.not_le.mpr c3) (by omega)
          exact ⟨x, a, rfl, c1, a2, a1⟩
        · rw [if_neg c3] at h; exact absurd h (by decide)
    · rw [if_neg c1] at h; exact absurd h (by decide)
theorem s_lay (s f i v : Int32) (hC : CR g n t ln bt B fd sh) (hM : MR g n t ln bt B fd sh) : SimI MX8_lay MX9_lay [.int s, .int f, .int i, .int v] g := by
  by_cases hb : ¬ okS s ∨ ¬ okF f
  · exact sim_0 hC hM (by decide) (c_X8_lay_bad s f i v g hb) (by decide) (c_X9_lay_bad s f i v g hb)
  · simp only [not_or, Classical.not_not] at hb
    obtain ⟨h0, hf⟩ := hb
    obtain ⟨j, hj, rfl⟩ := okS_n h0
    have s4 : SH4 g := hC.2.2.2.2.2.2.1
    have r1 := c_X8_lay j f i v g hj hf s4
    by_cases c : trb g (18 + j) f i = 0
    · rw [if_pos c] at r1
      obtain ⟨x, a, hx, xf, rfl, ax⟩ := trb_0 hC hM hj c
      obtain ⟨m1, m2, m3, m4, m5, m6, m7, m8⟩ := shM_some hM hj hx
      obtain ⟨c1, c2, c3, c4, c5, c6⟩ := shC_some hC hj hx m5
      have eK : keepH g (18 + j) (nI a) v = pI g (18 + j + 4) a (cutF f v) := by
        unfold keepH
        rw [if_neg (nI_pos (by omega)), c3, if_neg (nI_ge ax (by omega)), c2, xf, nI_clamp (by omega)]
      rw [eK] at r1
      have en : ∀ q k, ¬ (q = 18 + j + 4 ∧ k = a) → (pI g (18 + j + 4) a (cutF f v)).1 q k = g.1 q k := fun q k hq => by rw [pI_g, if_neg hq]
      refine sim_I hM (by decide) r1 (CR_sh (b := j) (o := some (x.1, x.2.1, upd x.2.2 a (cutF f v))) (fun q k hq => en q k (by omega)) hj ?_ ⟨by rw [en _ _ (by omega)]; exact c1, by rw [en _ _ (by omega)]; exact c2, by rw [en _ _ (by omega)]; exact c3, ?_⟩ hC) (fun q k hq => en q k (by omega)) (by decide : 2 ≤ 12) (fun h => ?_)
      · unfold szN
        rw [en _ _ (by omega), en _ _ (by omega)]
        exact c6 j hj
      · rw [pI_same, c5]
      · obtain ⟨o1, o2, o3, o4, o5, o6, o7, o8⟩ := shM_some h hj hx
        have r2 := c_X9_lay j f (nI a) v _ hj hf o8
        have eT := trb_mtr (w := pI g (18 + j + 4) a (cutF f v)) hC h hj f (nI a)
        rw [eT, if_pos c, nI_clamp (by omega)] at r2
        generalize pI g (18 + j + 4) a (cutF f v) = w at *
        have dn : ∀ q k, ¬ (q = 34 ∧ k = 60 * j + a) → (pI w 34 (60 * j + a) (cutF f v)).1 q k = w.1 q k := fun q k hq => by rw [pI_g, if_neg hq]
        refine ⟨_, r2, MR_sh (b := j) (fun q k hq => dn q k (by omega)) ?_ ⟨by rw [dn _ _ (by omega)]; exact o1, o2, by rw [dn _ _ (by omega)]; exact o3, o5, fun k hk => ?_⟩ h, fun q k hq => dn q k (by omega)⟩
        · unfold mz
          rw [dn _ _ (by omega)]
          exact o8 j hj
        · have hk : k < x.2.1 := hk
          show _ = upd x.2.2 a (cutF f v) k
          unfold upd
          by_cases q : k = a
          · subst q; rw [if_pos rfl, pI_g, if_pos ⟨rfl, rfl⟩]
          · rw [if_neg q, dn _ _ (by omega)]; exact o6 k hk
    · rw [if_neg c] at r1
      refine sim_fd (trb g (18 + j) f i) hC hM (by decide) r1 (by decide : 2 ≤ 12) (fun g1 h => ?_)
      have r2 := c_X9_lay j f i v g1 hj hf h.2.2.2.2.1
      rw [trb_mtr hC h hj, if_neg c] at r2
      exact r2
theorem s_get (s f i : Int32) (hC : CR g n t ln bt B fd sh) (hM : MR g n t ln bt B fd sh) : SimI MX8_get MX9_get [.int s, .int f, .int i] g := by
  by_cases hb : ¬ okS s ∨ ¬ okF f
  · exact sim_0 hC hM (by decide) (c_X8_get_bad s f i g hb) (by decide) (c_X9_get_bad s f i g hb)
  · simp only [not_or, Classical.not_not] at hb
    obtain ⟨h0, hf⟩ := hb
    obtain ⟨j, hj, rfl⟩ := okS_n h0
    have s4 : SH4 g := hC.2.2.2.2.2.2.1
    have r1 := c_X8_get j f i g hj hf s4
    by_cases c : trb g (18 + j) f i = 0
    · rw [if_pos c] at r1
      obtain ⟨x, a, hx, xf, rfl, ax⟩ := trb_0 hC hM hj c
      obtain ⟨m1, m2, m3, m4, m5, m6, m7, m8⟩ := shM_some hM hj hx
      obtain ⟨c1, c2, c3, c4, c5, c6⟩ := shC_some hC hj hx m5
      rw [fItem_at c3 ax m5, c5] at r1
      have r2 := c_X9_get j f (nI a) g hj hf m8
      rw [trb_mtr hC hM hj, if_pos c, nI_clamp (by omega), m6 a ax] at r2
      exact sim_0 hC hM (by decide) r1 (by decide) r2
    · rw [if_neg c] at r1
      refine sim_fd (trb g (18 + j) f i) hC hM (by decide) r1 (by decide : 2 ≤ 12) (fun g1 h => ?_)
      have r2 := c_X9_get j f i g1 hj hf h.2.2.2.2.1
      rw [trb_mtr hC h hj, if_neg c] at r2
      exact r2
theorem fStr_1 {z : Nat} (hz : z ≤ 60) {i m : Int32} (h : fStretch (nI z) i m = 1) : ∃ a k, i = nI a ∧ m = nI k ∧ a + k ≤ z := by
  unfold fStretch at h
  by_cases c1 : i < 0
  · rw [if_pos c1] at h; exact absurd h (by decide)
  · rw [if_neg c1] at h
    by_cases c2 : m < 0
    · rw [if_pos c2] at h; exact absurd h (by decide)
    · rw [if_neg c2] at h
      by_cases c3 : nI z < i
      · rw [if_pos c3] at h; exact absurd h (by decide)
      · rw [if_neg c3] at h
        by_cases c4 : nI z - i < m
        · rw [if_pos c4] at h; exact absurd h (by decide)
        · obtain ⟨a, a1, rfl⟩ := nI_of c1
          obtain ⟨k, k1, rfl⟩ := nI_of c2
          have q1 : a ≤ z := by
            apply Classical.byContradiction
            intro q; exact c3 (nI_lt (by omega) a1)
          refine ⟨a, k, rfl, rfl, ?_⟩
          rw [pk_sub q1] at c4
          apply Classical.byContradiction
          intro q; exact c4 (nI_lt (by omega) k1)
theorem fStr_0 {z : Nat} (hz : z ≤ 60) {i m : Int32} (h : ¬ fStretch (nI z) i m = 1) : i < 0 ∨ m < 0 ∨ (nI z).toInt64 < i.toInt64 + m.toInt64 := by
  by_cases c1 : i < 0
  · exact Or.inl c1
  · by_cases c2 : m < 0
    · exact Or.inr (Or.inl c2)
    · right; right
      obtain ⟨a, a1, rfl⟩ := nI_of c1
      obtain ⟨k, k1, rfl⟩ := nI_of c2
      rw [nI_l (by omega), nI_l a1, nI_l k1, lN_add, pk_lLT (by omega) (by omega)]
      apply Classical.byContradiction
      intro q
      apply h
      unfold fStretch
      rw [if_neg c1, if_neg c2, if_neg (nI_nlt (by omega) (by omega)), pk_sub (by omega), if_neg (nI_nlt (by omega) (by omega))]
theorem s_copy (s i u k m : Int32) (hC : CR g n t ln bt B fd sh) (hM : MR g n t ln bt B fd sh) : SimI MX8_copy MX9_copy [.int s, .int i, .int u, .int k, .int m] g := by
  by_cases hb : ¬ okS s ∨ ¬ okS u
  · exact sim_0 hC hM (by decide) (c_X8_copy_bad s i u k m g hb) (by decide) (c_X9_copy_bad s i u k m g hb)
  · simp only [not_or, Classical.not_not] at hb
    obtain ⟨h0, h0'⟩ := hb
    obtain ⟨a, ha, rfl⟩ := okS_n h0
    obtain ⟨b, hb, rfl⟩ := okS_n h0'
    have s4 : SH4 g := hC.2.2.2.2.2.2.1
    have nul : (sh a = none ∨ sh b = none) → SimI MX8_copy MX9_copy [.int (nI a), .int i, .int (nI b), .int k, .int m] g := by
      intro q
      refine sim_fd 1 hC hM (by decide) (c_X8_copy_null a b i k m g ha hb s4 ?_) (by decide : 2 ≤ 12) (fun g1 h => c_X9_copy_null a b i k m g1 ha hb ?_)
      · rcases q with q | q
        · exact Or.inl (shC_none hC ha q)
        · exact Or.inr (shC_none hC hb q)
      · rcases q with q | q
        · exact Or.inl (shM_none h ha q)
        · exact Or.inr (shM_none h hb q)
    cases hx : sh a with
    | none => exact nul (Or.inl hx)
    | some x =>
      cases hy : sh b with
      | none => exact nul (Or.inr hy)
      | some y =>
        obtain ⟨m1, m2, m3, m4, m5, m6, m7, m8⟩ := shM_some hM ha hx
        obtain ⟨c1, c2, c3, c4, c5, c6⟩ := shC_some hC ha hx m5
        obtain ⟨m1', m2', m3', m4', m5', m6', m7', m8'⟩ := shM_some hM hb hy
        obtain ⟨c1', c2', c3', c4', c5', c6'⟩ := shC_some hC hb hy m5'
        have r1 := c_X8_copy a b i k m g ha hb s4 c1 c1'
        rw [c2, c2', c3, c3'] at r1
        by_cases hs : x.1 = y.1
        · rw [if_pos hs] at r1
          by_cases hq : fStretch (nI x.2.1) i m = 1 ∧ fStretch (nI y.2.1) k m = 1
          · rw [if_pos hq] at r1
            obtain ⟨i', p, rfl, rfl, l1⟩ := fStr_1 m5 hq.1
            obtain ⟨k', p', rfl, ep, l2⟩ := fStr_1 m5' hq.2
            have : p = p' := (nI_eq (by omega) (by omega)).mp ep
            subst this
            have eK : cpyH g a b (nI i') (nI k') (nI p) = pA g (18 + b + 4) (va_cpy x.2.2 y.2.2 i' k' p) := by
              unfold cpyH
              rw [c5, c5', nI_clamp (by omega), nI_clamp (by omega), nI_clamp (by omega)]
            rw [eK] at r1
            have en : ∀ q k, q ≠ 18 + b + 4 → (pA g (18 + b + 4) (va_cpy x.2.2 y.2.2 i' k' p)).1 q k = g.1 q k := fun q k hq => by rw [pA_g, if_neg hq]
            refine sim_I hM (by decide) r1 (CR_sh (b := b) (o := some (y.1, y.2.1, va_cpy x.2.2 y.2.2 i' k' p)) (fun q k hq => en q k (by omega)) hb ?_ ⟨by rw [en _ _ (by omega)]; exact c1', by rw [en _ _ (by omega)]; exact c2', by rw [en _ _ (by omega)]; exact c3', ?_⟩ hC) (fun q k hq => en q k (by omega)) (by decide : 2 ≤ 12) (fun h => ?_)
            · unfold szN
              rw [en _ _ (by omega), en _ _ (by omega)]
              exact c6 b hb
            · funext z
              rw [pA_g, if_pos rfl]
            · obtain ⟨o1, o2, o3, o4, o5, o6, o7, o8⟩ := shM_some h ha hx
              obtain ⟨o1', o2', o3', o4', o5', o6', o7', o8'⟩ := shM_some h hb hy
              have r2 := c_X9_copy a b i' k' p _ ha hb o7 o7' (by rw [o1, o1', hs]) o8 (by rw [o4]; exact l1) (by rw [o4']; exact l2)
              generalize pA g (18 + b + 4) (va_cpy x.2.2 y.2.2 i' k' p) = w at *
              have d4 : ∀ z, (mcH w a i' b k' p p).1 34 z = if 60 * b + k' ≤ z ∧ z < 60 * b + k' + p then w.1 34 (60 * a + i' + (z - (60 * b + k'))) else w.1 34 z := by intro z; unfold mcH; rw [pA_g, if_pos rfl]
              have dn : ∀ q z, q ≠ 34 → q ≠ 35 → (mcH w a i' b k' p p).1 q z = w.1 q z := by
                intro q z q1 q2
                unfold mcH mvH
                rw [pA_g, if_neg q1, pA_g, if_neg q2]
              refine ⟨_, r2, MR_sh (b := b) (fun q z hq => ?_) ?_ ⟨by rw [dn _ _ (by omega) (by omega)]; exact o1', o2', by rw [dn _ _ (by omega) (by omega)]; exact o3', o5', fun z hz => ?_⟩ h, fun q z hq => dn q z (by omega) (by omega)⟩
              · by_cases q34 : q = 34
                · subst q34
                  rw [d4, if_neg (by omega)]
                · exact dn q z q34 (by omega)
              · unfold mz
                rw [dn _ _ (by omega) (by omega)]
                exact o8 b hb
              · have hz : z < y.2.1 := hz
                show _ = va_cpy x.2.2 y.2.2 i' k' p z
                rw [d4]
                by_cases q : k' ≤ z ∧ z < k' + p
                · rw [if_pos (by omega), pk_cpy_in q.1 q.2, show 60 * a + i' + (60 * b + z - (60 * b + k')) = 60 * a + (i' + (z - k')) by omega]
                  exact o6 _ (by omega)
                · rw [if_neg (by omega), pk_cpy_out (by omega)]
                  exact o6' z hz
          · rw [if_neg hq] at r1
            refine sim_fd 2 hC hM (by decide) r1 (by decide : 2 ≤ 12) (fun g1 h => ?_)
            obtain ⟨o1, o2, o3, o4, o5, o6, o7, o8⟩ := shM_some h ha hx
            obtain ⟨o1', o2', o3', o4', o5', o6', o7', o8'⟩ := shM_some h hb hy
            refine c_X9_copy_index a b i k m g1 ha hb o7 o7' (by rw [o1, o1', hs]) ?_
            rw [o3, o3']
            by_cases q : fStretch (nI x.2.1) i m = 1
            · have q2 : ¬ fStretch (nI y.2.1) k m = 1 := fun z => hq ⟨q, z⟩
              rcases fStr_0 m5' q2 with z | z | z
              · exact Or.inr (Or.inl z)
              · exact Or.inr (Or.inr (Or.inl z))
              · exact Or.inr (Or.inr (Or.inr (Or.inr z)))
            · rcases fStr_0 m5 q with z | z | z
              · exact Or.inl z
              · exact Or.inr (Or.inr (Or.inl z))
              · exact Or.inr (Or.inr (Or.inr (Or.inl z)))
        · rw [if_neg hs] at r1
          refine sim_fd 4 hC hM (by decide) r1 (by decide : 2 ≤ 12) (fun g1 h => ?_)
          obtain ⟨o1, o2, o3, o4, o5, o6, o7, o8⟩ := shM_some h ha hx
          obtain ⟨o1', o2', o3', o4', o5', o6', o7', o8'⟩ := shM_some h hb hy
          exact c_X9_copy_store a b i k m g1 ha hb o7 o7' (by rw [o1, o1']; exact hs)
end SIM
