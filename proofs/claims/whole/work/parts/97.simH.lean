/-! class and reference: write, digest -/
theorem wr_eq2 (H Nb : Nat → Int32) (b f : Int32) (j z : Nat) (hz : z ≤ 60) : ∀ g r k A A', (∀ x, x < z → A (60 * j + x) = A' x) → (mwR H Nb b f j z g r k A).1 = (wrF H Nb b f z g r k A').1 ∧ (∀ x, x < z → (mwR H Nb b f j z g r k A).2 (60 * j + x) = (wrF H Nb b f z g r k A').2 x) ∧ ∀ y, ¬ (60 * j ≤ y ∧ y < 60 * j + 60) → (mwR H Nb b f j z g r k A).2 y = A y := by
  intro g
  induction g with
  | zero => intro r k A A' h; exact ⟨rfl, h, fun y _ => rfl⟩
  | succ g ih =>
    intro r k A A' h
    rw [mwR, wrF]
    by_cases c : k < z
    · rw [if_pos c, if_pos c]
      by_cases e : cbe (H r) b = true
      · rw [if_pos e, if_pos e]
        obtain ⟨i1, i2, i3⟩ := ih (r + 1) (k + 1) (upd A (60 * j + k) (cutF f (Nb r))) (upd A' k (cutF f (Nb r))) (fun x hx => by
          unfold upd
          by_cases q : x = k
          · rw [if_pos (by omega), if_pos q]
          · rw [if_neg (by omega), if_neg q]; exact h x hx)
        refine ⟨i1, i2, fun y hy => ?_⟩
        rw [i3 y hy]
        unfold upd
        rw [if_neg (by omega)]
      · rw [if_neg e, if_neg e]
        exact ih (r + 1) k A A' h
    · rw [if_neg c, if_neg c]
      exact ⟨rfl, h, fun y _ => rfl⟩
theorem wrF_c {H H' Nb Nb' : Nat → Int32} (b f : Int32) (z : Nat) {m : Nat} (h : ∀ k, k < m → H k = H' k ∧ Nb k = Nb' k) : ∀ g k w A, k + g = m → wrF H Nb b f z g k w A = wrF H' Nb' b f z g k w A := by
  intro g
  induction g with
  | zero => intro k w A _; rfl
  | succ g ih =>
    intro k w A hk
    obtain ⟨h1, h2⟩ := h k (by omega)
    rw [wrF, wrF, h1, h2]
    rw [ih (k + 1) (w + 1) _ (by omega), ih (k + 1) w A (by omega)]
theorem mwR_c {H H' Nb Nb' : Nat → Int32} (b f : Int32) (j z : Nat) {m : Nat} (h : ∀ k, k < m → H k = H' k ∧ Nb k = Nb' k) : ∀ g k w A, k + g = m → mwR H Nb b f j z g k w A = mwR H' Nb' b f j z g k w A := by
  intro g
  induction g with
  | zero => intro k w A _; rfl
  | succ g ih =>
    intro k w A hk
    obtain ⟨h1, h2⟩ := h k (by omega)
    rw [mwR, mwR, h1, h2]
    rw [ih (k + 1) (w + 1) _ (by omega), ih (k + 1) w A (by omega)]
section SIM
variable {g : Hp} {n t ln : Nat} {bt : Nat → Nat} {B : Nat} {fd : Int32} {sh : Nat → Option Sht}
theorem s_write (s : Int32) (hC : CR g n t ln bt B fd sh) (hM : MR g n t ln bt B fd sh) : SimI MX8_write MX9_write [.int s] g := by
  by_cases hb : ¬ okS s
  · exact sim_0 hC hM (by decide) (c_X8_write_bad s g hb) (by decide) (c_X9_write_bad s g hb)
  · obtain ⟨j, hj, rfl⟩ := okS_n (Classical.not_not.mp hb)
    cases hx : sh j with
    | none => exact sim_fd 1 hC hM (by decide) (c_X8_write_null j g hj (shC_none hC hj hx)) (by decide : 2 ≤ 12) (fun g1 h => c_X9_write_null j g1 hj (shM_none h hj hx))
    | some x =>
      obtain ⟨m1, m2, m3, m4, m5, m6, m7, m8⟩ := shM_some hM hj hx
      obtain ⟨c1, c2, c3, c4, c5, c6⟩ := shC_some hC hj hx m5
      cases hk : (RDg bt ln).1 with
      | none =>
        refine sim_I hM (by decide) (c_X8_write_not j g hj c1 (C_no hC hk)) hC (FC.rf g) (by decide : 6 ≤ 12) (fun h => ?_)
        obtain ⟨g1, r, m, f⟩ := M_no h hk
        exact ⟨g1, c_X9_write_not j hj m7 r, m, f⟩
      | some k =>
        obtain ⟨g1, r, hJ⟩ := c_X8_write j hj c1 c6 (CR_KI hC hk) (C_yes hC hk)
        obtain ⟨j1, j2, j3, j4⟩ := CR_JP hC hk hJ
        rw [wrF_c (H' := gH bt ln n t k) (Nb' := fun i => nI (rowN n t i)) _ _ _ (fun i hi => ⟨j3 i hi, j4 i hi⟩) (NR n t) 0 0 _ (Nat.zero_add _), hC.2.2.2.2.1.1, c2, c4, c5] at r
        obtain ⟨c1', c2', c3', c4', c5', c6'⟩ := shC_some j1 hj hx m5
        generalize hW : wrF (gH bt ln n t k) (fun i => nI (rowN n t i)) (nI B) x.1 x.2.1 (NR n t) 0 0 x.2.2 = W at *
        have en : ∀ q i, q ≠ 18 + j + 4 → (pA g1 (18 + j + 4) W.2).1 q i = g1.1 q i := fun q i hq => by rw [pA_g, if_neg hq]
        refine sim_I hM (by decide) r (CR_sh (b := j) (o := some (x.1, x.2.1, W.2)) (fun q i hq => en q i (by omega)) hj ?_ ⟨by rw [en _ _ (by omega)]; exact c1', by rw [en _ _ (by omega)]; exact c2', by rw [en _ _ (by omega)]; exact c3', ?_⟩ j1) (fun q i hq => (en q i (by omega)).trans (j2 q i hq)) (by decide : 6 ≤ 12) (fun h => ?_)
        · unfold szN
          rw [en _ _ (by omega), en _ _ (by omega)]
          exact c6' j hj
        · funext i
          rw [pA_g, if_pos rfl]
        · obtain ⟨g2, r2, m, f, a1, a2, a3, a4, a5⟩ := M_ok h hk
          obtain ⟨p1, p2, p3, p4, p5, p6, p7, p8⟩ := shM_some h hj hx
          obtain ⟨o1, o2, o3, o4, o5, o6, o7, o8⟩ := shM_some m hj hx
          have r3 := c_X9_write j (NR n t) hj p7 r2 a1 (NRm_lt hM) o8
          rw [mwR_c (H' := gH bt ln n t k) (Nb' := fun i => nI (rowN n t i)) _ _ _ _ (fun i hi => a2 i hi) (NR n t) 0 0 _ (Nat.zero_add _), a4, o1, o4] at r3
          obtain ⟨w1, w2, w3⟩ := wr_eq2 (gH bt ln n t k) (fun i => nI (rowN n t i)) (nI B) x.1 j x.2.1 m5 (NR n t) 0 0 (g2.1 34) x.2.2 o6
          rw [hW] at w1 w2
          rw [w1] at r3
          generalize mwR (gH bt ln n t k) (fun i => nI (rowN n t i)) (nI B) x.1 j x.2.1 (NR n t) 0 0 (g2.1 34) = V at *
          have dn : ∀ q i, q ≠ 34 → (pA g2 34 V.2).1 q i = g2.1 q i := fun q i hq => by rw [pA_g, if_neg hq]
          have d34 : ∀ i, (pA g2 34 V.2).1 34 i = V.2 i := fun i => by rw [pA_g, if_pos rfl]
          refine ⟨_, r3, MR_sh (b := j) (fun q i hq => ?_) ?_ ⟨by rw [dn _ _ (by omega)]; exact o1, o2, by rw [dn _ _ (by omega)]; exact o3, o5, fun i hi => ?_⟩ m, f.tr (fun q i hq => dn q i (by omega))⟩
          · by_cases q34 : q = 34
            · subst q34
              rw [d34]
              exact w3 i (by omega)
            · exact dn q i q34
          · unfold mz
            rw [dn _ _ (by omega)]
            exact o8 j hj
          · rw [d34]
            exact w2 i hi
theorem dgCl_c {A A' : Nat → Nat → Int32} {kc : Nat} (h : ∀ k i, k < 5 → i < kc → A k i = A' k i) (v : Int64) : dgCl A kc v = dgCl A' kc v := by
  unfold dgCl
  refine lp_cong _ _ _ (fun i v _ hi => ?_)
  unfold dgK
  refine lp_cong _ _ _ (fun k v _ hk => ?_)
  rw [h k i (by omega) (by omega)]
theorem s_digest (hC : CR g n t ln bt B fd sh) (hM : MR g n t ln bt B fd sh) : SimL MX8_digest MX9_digest [] g := by
  obtain ⟨⟨k1, k2, k3, k4, k5, k6⟩, ⟨t1, _⟩, ⟨r9, r10⟩, cl, ⟨b9, bn⟩, f1, s4, _⟩ := id hC
  obtain ⟨g3, q1, c3, F3⟩ := C_can hC
  obtain ⟨g4, q2, c4, F4⟩ := C_alone c3
  obtain ⟨g5, q3, c5, F5⟩ := C_fewest c4
  obtain ⟨g6, q4, c6, F6⟩ := C_ask c5
  have FF : FC g g6 := fun q j hq => (F6 q j hq).trans ((F5 q j hq).trans ((F4 q j hq).trans (F3 q j hq)))
  cases hk : (RDg bt ln).1 with
  | none =>
    have r1 := c_X8_digest_n s4 (C_no hC hk) q1 q2 q3 q4
    rw [k4, k5, t1, b9, r10] at r1
    refine sim_L hM (by decide) r1 c6 FF (by decide : 8 ≤ 12) (fun h => ?_)
    obtain ⟨h1, r3, m1, e1⟩ := M_c3 h bn
    obtain ⟨h2, rr, m2, e2, _⟩ := M_reads m1
    obtain ⟨h3, p1, m3, e3⟩ := M_can m2
    obtain ⟨h4, p2, m4, e4⟩ := M_alone m3
    obtain ⟨h5, p3, m5, e5⟩ := M_fewest m4
    obtain ⟨h6, p4, m6, e6⟩ := M_ask m5
    have r2 := c_X9_digest_n r3 rr (rFl_none hk) p1 p2 p3 p4
    rw [h.1.2.2.2.1, h.1.2.2.2.2, h.2.1.1, ← there_iff hC m1] at r2
    exact ⟨h6, r2, m6, e1.tr (e2.tr (e3.tr (e4.tr (e5.tr e6))))⟩
  | some k =>
    have k10 := (g_ok hk).1
    have r1 := c_X8_digest_y k s4 (C_yes hC hk) (by rw [r9, hk]; rfl) k10 q1 q2 q3 q4
    rw [k4, k5, t1, b9] at r1
    refine sim_L hM (by decide) r1 c6 FF (by decide : 8 ≤ 12) (fun h => ?_)
    obtain ⟨h1, r3, m1, e1⟩ := M_c3 h bn
    obtain ⟨h2, rr, m2, e2, a⟩ := M_reads m1
    obtain ⟨h3, p1, m3, e3⟩ := M_can m2
    obtain ⟨h4, p2, m4, e4⟩ := M_alone m3
    obtain ⟨h5, p3, m5, e5⟩ := M_fewest m4
    obtain ⟨h6, p4, m6, e6⟩ := M_ask m5
    rw [rFl_some hk] at rr
    obtain ⟨a1, a2, _⟩ := a k hk
    have r2 := c_X9_digest_y k r3 rr a1 k10 p1 p2 p3 p4
    have ec : ∀ v, dgCl (fun k i => h2.1 (37 + k) i) k v = dgCl (fun k i => g.1 (3 + k) i) k v := fun v => dgCl_c (fun w i hw hi => by
      have q1 := (cl k hk).1 i hi
      have q2 := a2 i hi
      have : w = 0 ∨ w = 1 ∨ w = 2 ∨ w = 3 ∨ w = 4 := by omega
      rcases this with rfl | rfl | rfl | rfl | rfl
      · exact q2.1.trans q1.1.symm
      · exact q2.2.1.trans q1.2.1.symm
      · exact q2.2.2.1.trans q1.2.2.1.symm
      · exact q2.2.2.2.1.trans q1.2.2.2.1.symm
      · exact q2.2.2.2.2.trans q1.2.2.2.2.symm) v
    rw [h.1.2.2.2.1, h.1.2.2.2.2, h.2.1.1, ← there_iff hC m1, ec] at r2
    exact ⟨h6, r2, m6, e1.tr (e2.tr (e3.tr (e4.tr (e5.tr e6))))⟩
end SIM
