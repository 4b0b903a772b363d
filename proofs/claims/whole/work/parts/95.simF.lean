/-! class and reference: put, rows, can, ranked, ways, bound, alone, fewest, quarrel, ask -/
theorem hbM_R (C : Nat → Nat) (n : Nat) (Kd Mk Nb Bh : Nat → Nat) {R R' : Nat → Int32} {k : Nat} (h : ∀ i, i < k → R i = R' i) : hbM C n Kd Mk Nb Bh R k = hbM C n Kd Mk Nb Bh R' k := by
  unfold hbM
  refine lp_cong _ _ _ (fun j b _ hj => ?_)
  rw [h j (by omega)]
theorem rkF_c {H H' Nb Nb' : Nat → Int32} (b i : Int32) {m : Nat} (h : ∀ k, k < m → H k = H' k ∧ Nb k = Nb' k) : ∀ f k a, k + f = m → rkF H Nb b i f k a = rkF H' Nb' b i f k a := by
  intro f
  induction f with
  | zero => intro k a _; rfl
  | succ f ih =>
    intro k a hk
    obtain ⟨h1, h2⟩ := h k (by omega)
    rw [rkF, rkF, h1, h2, ih (k + 1) (a + 1) (by omega), ih (k + 1) a (by omega)]
theorem fOr_c {H H' : Nat → Int32} (Nf : Nat → Nat) (b : Int32) (n : Nat) {m : Nat} (h : ∀ k, k < m → H k = H' k) : fOr H Nf b n m = fOr H' Nf b n m := by
  unfold fOr
  refine lp_cong _ _ _ (fun k s _ hk => ?_)
  rw [h k (by omega)]
theorem fOM_c {H H' : Nat → Int32} (Nf : Nat → Nat) (b : Int32) (o : Option Nat) (e : Bool) {m : Nat} (h : ∀ k, k < m → H k = H' k) : fOM H Nf b o e m = fOM H' Nf b o e m := by
  unfold fOM
  refine lp_cong _ _ _ (fun k s _ hk => ?_)
  unfold omF
  rw [h k (by omega)]
theorem fEH_c {H H' : Nat → Int32} {m : Nat} (h : ∀ k, k < m → H k = H' k) : fEH H m = fEH H' m := by
  unfold fEH
  refine lp_cong _ _ _ (fun k s _ hk => ?_)
  rw [h k (by omega)]
theorem fFD_c {H H' : Nat → Int32} (b : Int32) {m : Nat} (h : ∀ k, k < m → H k = H' k) : fFD H b m = fFD H' b m := by
  unfold fFD
  refine lp_cong _ _ _ (fun k s _ hk => ?_)
  unfold fdF
  rw [h k (by omega)]
theorem fBQ_c {H H' : Nat → Int32} (Nf : Nat → Nat) (b : Int32) {m : Nat} (hm : m < 2 ^ 30) {z z' : Nat → Int32} (hz : ∀ j, j < 70 → z j = 0) (hz' : ∀ j, j < 70 → z' j = 0) (h : ∀ k, k < m → H k = H' k) : fBQ H Nf b m z = fBQ H' Nf b m z' := by
  unfold fBQ
  rw [fHM_c b h, ask_eq H H' Nf b hm hz z h, ask_eq H' H' Nf b hm hz' z (fun _ _ => rfl)]
theorem z16_0 (h : Hp) : ∀ j, j < 70 → z16 h j = 0 := fun j hj => by unfold z16; rw [if_pos hj]
theorem z15_0 (h : Hp) : ∀ j, j < 1024 → z15 h j = 0 := fun j hj => by unfold z15; rw [if_pos hj]
theorem z45_0 (h : Hp) : ∀ j, j < 1024 → z45 h j = 0 := fun j hj => by unfold z45; rw [if_pos hj]
def aCan (bt : Nat → Nat) (ln n t B : Nat) : Option Nat → Int32
  | none => -3
  | some k => fHM (gH bt ln n t k) (nI B) (NR n t)
def aAl (bt : Nat → Nat) (ln n t : Nat) : Option Nat → Int32
  | none => -3
  | some k => fAll (nI k) &&& (fEH (gH bt ln n t k) (NR n t) ^^^ (-1))
def aFw (bt : Nat → Nat) (ln n t B : Nat) : Option Nat → Int32
  | none => -3
  | some k => fFD (gH bt ln n t k) (nI B) (NR n t)
def aAs (bt : Nat → Nat) (ln n t B : Nat) : Option Nat → Int32
  | none => -3
  | some k => fBQ (gH bt ln n t k) (rowN n t) (nI B) (NR n t) (fun _ => 0)
theorem c6_can (h : Hp) (hf : ¬ h.1 1 10 = -1) : Rn 6 MX8_can [.ref 0] h (EI (-3) h) := by
  refine rn_of mm_X8_can (le_b rfl) rfl ?_
  refine r_aload0 dX8_can_0 ?_
  refine r_cV0I dX8_can_1 mm_X8_faulty im_X8_faulty se_X8_faulty ml_X8_82 rfl rfl rfl (c_faulty_y h hf) (by decide) (Nat.le_of_ble_eq_true rfl) ?_
  refine r_ifeq (tgt := 10) dX8_can_4 (by decide) (fun c9 => absurd c9 (by decide)) (fun _ => ?_)
  refine r_bipush bv_m3 dX8_can_7 ?_
  exact r_iretE dX8_can_9 rfl (rfl) (rfl)
theorem c6_alone (h : Hp) (hf : ¬ h.1 1 10 = -1) : Rn 6 MX8_alone [.ref 0] h (EI (-3) h) := by
  refine rn_of mm_X8_alone (le_b rfl) rfl ?_
  refine r_aload0 dX8_alone_0 ?_
  refine r_cV0I dX8_alone_1 mm_X8_faulty im_X8_faulty se_X8_faulty ml_X8_82 rfl rfl rfl (c_faulty_y h hf) (by decide) (Nat.le_of_ble_eq_true rfl) ?_
  refine r_ifeq (tgt := 10) dX8_alone_4 (by decide) (fun c9 => absurd c9 (by decide)) (fun _ => ?_)
  refine r_bipush bv_m3 dX8_alone_7 ?_
  exact r_iretE dX8_alone_9 rfl (rfl) (rfl)
theorem c6_fewest (h : Hp) (hf : ¬ h.1 1 10 = -1) : Rn 6 MX8_fewest [.ref 0] h (EI (-3) h) := by
  refine rn_of mm_X8_fewest (le_b rfl) rfl ?_
  refine r_aload0 dX8_fewest_0 ?_
  refine r_cV0I dX8_fewest_1 mm_X8_faulty im_X8_faulty se_X8_faulty ml_X8_82 rfl rfl rfl (c_faulty_y h hf) (by decide) (Nat.le_of_ble_eq_true rfl) ?_
  refine r_ifeq (tgt := 10) dX8_fewest_4 (by decide) (fun c9 => absurd c9 (by decide)) (fun _ => ?_)
  refine r_bipush bv_m3 dX8_fewest_7 ?_
  exact r_iretE dX8_fewest_9 rfl (rfl) (rfl)
theorem c6_ask (h : Hp) (hf : ¬ h.1 1 10 = -1) : Rn 6 MX8_ask [.ref 0] h (EI (-3) h) := by
  refine rn_of mm_X8_ask (le_b rfl) rfl ?_
  refine r_aload0 dX8_ask_0 ?_
  refine r_cV0I dX8_ask_1 mm_X8_faulty im_X8_faulty se_X8_faulty ml_X8_82 rfl rfl rfl (c_faulty_y h hf) (by decide) (Nat.le_of_ble_eq_true rfl) ?_
  refine r_ifeq (tgt := 10) dX8_ask_4 (by decide) (fun c9 => absurd c9 (by decide)) (fun _ => ?_)
  refine r_bipush bv_m3 dX8_ask_7 ?_
  exact r_iretE dX8_ask_9 rfl (rfl) (rfl)
section SIM
variable {g : Hp} {n t ln : Nat} {bt : Nat → Nat} {B : Nat} {fd : Int32} {sh : Nat → Option Sht}
theorem C_no (hC : CR g n t ln bt B fd sh) (h : (RDg bt ln).1 = none) : ¬ g.1 1 10 = -1 := by rw [hC.2.2.1.2]; exact rFl_none h
theorem C_yes (hC : CR g n t ln bt B fd sh) {k : Nat} (h : (RDg bt ln).1 = some k) : g.1 1 10 = -1 := by rw [hC.2.2.1.2]; exact rFl_some h
theorem C_can (hC : CR g n t ln bt B fd sh) : ∃ g1, Rn 6 MX8_can [.ref 0] g (EI (aCan bt ln n t B (RDg bt ln).1) g1) ∧ CR g1 n t ln bt B fd sh ∧ FC g g1 := by
  cases hk : (RDg bt ln).1 with
  | none => exact ⟨g, c6_can g (C_no hC hk), hC, FC.rf g⟩
  | some k =>
    obtain ⟨g1, r, hJ⟩ := c_X8_can (CR_KI hC hk) (C_yes hC hk)
    obtain ⟨j1, j2, _⟩ := CR_JP hC hk hJ
    rw [fHM_c _ (fun i hi => CR_Hs hC hk hi), hC.2.2.2.2.1.1] at r
    exact ⟨g1, r, j1, j2⟩
theorem C_alone (hC : CR g n t ln bt B fd sh) : ∃ g1, Rn 6 MX8_alone [.ref 0] g (EI (aAl bt ln n t (RDg bt ln).1) g1) ∧ CR g1 n t ln bt B fd sh ∧ FC g g1 := by
  cases hk : (RDg bt ln).1 with
  | none => exact ⟨g, c6_alone g (C_no hC hk), hC, FC.rf g⟩
  | some k =>
    obtain ⟨g1, r, hJ⟩ := c_X8_alone (CR_KI hC hk) (C_yes hC hk)
    obtain ⟨j1, j2, _⟩ := CR_JP hC hk hJ
    rw [fEH_c (fun i hi => CR_Hs hC hk hi)] at r
    exact ⟨g1, r, j1, j2⟩
theorem C_fewest (hC : CR g n t ln bt B fd sh) : ∃ g1, Rn 6 MX8_fewest [.ref 0] g (EI (aFw bt ln n t B (RDg bt ln).1) g1) ∧ CR g1 n t ln bt B fd sh ∧ FC g g1 := by
  cases hk : (RDg bt ln).1 with
  | none => exact ⟨g, c6_fewest g (C_no hC hk), hC, FC.rf g⟩
  | some k =>
    obtain ⟨g1, r, hJ⟩ := c_X8_fewest (CR_KI hC hk) (C_yes hC hk)
    obtain ⟨j1, j2, _⟩ := CR_JP hC hk hJ
    rw [fFD_c _ (fun i hi => CR_Hs hC hk hi), hC.2.2.2.2.1.1] at r
    exact ⟨g1, r, j1, j2⟩
theorem NR_lt (hC : CR g n t ln bt B fd sh) : NR n t ≤ 5005 := (NR_le hC.1.1 hC.1.2.1 hC.1.2.2.1).2
theorem NRm_lt (hM : MR g n t ln bt B fd sh) : NR n t ≤ 5005 := (NR_le hM.1.1 hM.1.2.1 hM.1.2.2.1).2
theorem C_ask (hC : CR g n t ln bt B fd sh) : ∃ g1, Rn 6 MX8_ask [.ref 0] g (EI (aAs bt ln n t B (RDg bt ln).1) g1) ∧ CR g1 n t ln bt B fd sh ∧ FC g g1 := by
  cases hk : (RDg bt ln).1 with
  | none => exact ⟨g, c6_ask g (C_no hC hk), hC, FC.rf g⟩
  | some k =>
    have hN := NR_lt hC
    obtain ⟨g1, r, hJ⟩ := c_X8_ask (CR_KI hC hk) (C_yes hC hk)
    obtain ⟨j1, j2, j3, _⟩ := CR_JP hC hk hJ
    rw [fBQ_c (H' := gH bt ln n t k) (z' := fun _ => 0) (rowN n t) (g.1 0 9) (by omega) (z16_0 g1) (fun _ _ => rfl) j3, hC.2.2.2.2.1.1] at r
    refine ⟨_, r, ?_, ?_⟩
    · split
      · exact CR_f (fun q j hq => by rw [pA_g, if_neg (by omega)]) j1
      · exact j1
    · split
      · exact fun q j hq => by rw [pA_g, if_neg (by omega)]; exact j2 q j hq
      · exact j2
theorem M_can (hM : MR g n t ln bt B fd sh) : ∃ g1, Rn 6 MX9_canNow [.ref 31] g (EI (aCan bt ln n t B (RDg bt ln).1) g1) ∧ MR g1 n t ln bt B fd sh ∧ FM g g1 := by
  cases hk : (RDg bt ln).1 with
  | none =>
    obtain ⟨g1, r, m, f⟩ := M_no hM hk
    exact ⟨g1, c_X9_canNow_n r, m, f⟩
  | some k =>
    obtain ⟨g2, r, m, f, a1, a2, a3, a4, a5⟩ := M_ok hM hk
    have r2 := c_X9_canNow _ r a1 (NRm_lt hM)
    rw [fHM_c _ (fun i hi => (a2 i hi).1), a4] at r2
    exact ⟨g2, r2, m, f⟩
theorem M_made {g2 : Hp} {k : Nat} (hM : MR g n t ln bt B fd sh) (hk : (RDg bt ln).1 = some k) (m : MR g2 n t ln bt B fd sh) (a : MJ g2 n t ln bt B k) : Rn 0 MX9_findMade [.ref 31] g2 (EV (pA g2 45 (mkM (g2.1 44) (NR n t) (z45 g2)))) ∧ MR (pA g2 45 (mkM (g2.1 44) (NR n t) (z45 g2))) n t ln bt B fd sh ∧ FM g2 (pA g2 45 (mkM (g2.1 44) (NR n t) (z45 g2))) ∧ (pA g2 45 (mkM (g2.1 44) (NR n t) (z45 g2))).1 31 10 = nI k ∧ mBel (pA g2 45 (mkM (g2.1 44) (NR n t) (z45 g2))) = nI B := by
  obtain ⟨a1, a2, a3, a4, a5⟩ := a
  refine ⟨c_X9_findMade _ g2 a1 (NRm_lt hM) (fun i hi => by rw [(a2 i hi).1]; exact gH_ix hk n t i), MR_f (fun q j hq => by rw [pA_g, if_neg (by omega)]) m, fun q j hq => by rw [pA_g, if_neg (by omega)], by rw [pA_g, if_neg (by decide)]; exact a3, ?_⟩
  unfold mBel at a4 ⊢
  rw [pA_g, if_neg (by decide), pA_g, if_neg (by decide)]
  exact a4
theorem M_alone (hM : MR g n t ln bt B fd sh) : ∃ g1, Rn 6 MX9_aloneNow [.ref 31] g (EI (aAl bt ln n t (RDg bt ln).1) g1) ∧ MR g1 n t ln bt B fd sh ∧ FM g g1 := by
  cases hk : (RDg bt ln).1 with
  | none =>
    obtain ⟨g1, r, m, f⟩ := M_no hM hk
    exact ⟨g1, c_X9_aloneNow_n r, m, f⟩
  | some k =>
    obtain ⟨g2, r, m, f, a⟩ := M_ok hM hk
    obtain ⟨d1, d2, d3, d4, d5⟩ := M_made hM hk m a
    have k10 := (g_ok hk).1
    have r2 := c_X9_aloneNow (mkM (g2.1 44) (NR n t) (z45 g2)) k r d1 (by funext j; rw [pA_g, if_pos rfl]) d4 k10
    rw [← alone_eq (gH bt ln n t k) (g2.1 44) (z45_0 g2) (fun i hi => (a.2.1 i hi).1.symm) (fun i _ => gH_ix hk n t i) k10] at r2
    exact ⟨_, r2, d2, f.tr d3⟩
theorem B_lt (hM : MR g n t ln bt B fd sh) {k : Nat} (hk : (RDg bt ln).1 = some k) : B < 1024 := by
  have k10 := (g_ok hk).1
  have h := (hM.2.2.1 k hk).2
  have : 2 ^ k ≤ 2 ^ 10 := Nat.pow_le_pow_right (by decide) k10
  omega
theorem M_fewest (hM : MR g n t ln bt B fd sh) : ∃ g1, Rn 6 MX9_fewestNow [.ref 31] g (EI (aFw bt ln n t B (RDg bt ln).1) g1) ∧ MR g1 n t ln bt B fd sh ∧ FM g g1 := by
  cases hk : (RDg bt ln).1 with
  | none =>
    obtain ⟨g1, r, m, f⟩ := M_no hM hk
    exact ⟨g1, c_X9_fewestNow_n r, m, f⟩
  | some k =>
    obtain ⟨g2, r, m, f, a⟩ := M_ok hM hk
    obtain ⟨d1, d2, d3, d4, d5⟩ := M_made hM hk m a
    have r2 := c_X9_fewestNow (mkM (g2.1 44) (NR n t) (z45 g2)) B r d1 (by funext j; rw [pA_g, if_pos rfl]) d5 (B_lt hM hk)
    rw [← fewest_eq (gH bt ln n t k) (g2.1 44) (z45_0 g2) (fun i hi => (a.2.1 i hi).1.symm) (fun i _ => gH_ix hk n t i) (B_lt hM hk)] at r2
    exact ⟨_, r2, d2, f.tr d3⟩
theorem row7 (hM : MR g n t ln bt B fd sh) {i : Nat} (hi : i < NR n t) : rowN n t i < 10000000 := (row_ok hM.1.1 hM.1.2.1 hM.1.2.2.1 hi).1
theorem M_ask (hM : MR g n t ln bt B fd sh) : ∃ g1, Rn 7 MX9_askNow [.ref 31] g (EI (aAs bt ln n t B (RDg bt ln).1) g1) ∧ MR g1 n t ln bt B fd sh ∧ FM g g1 := by
  have hN := NRm_lt hM
  cases hk : (RDg bt ln).1 with
  | none =>
    obtain ⟨g1, r, m, f⟩ := M_no hM hk
    have r2 := c_X9_askNow_few (-3) (c_X9_canNow_n r) (by decide)
    rw [if_pos (by decide)] at r2
    exact ⟨g1, r2, m, f⟩
  | some k =>
    obtain ⟨g2, r, m, f, a1, a2, a3, a4, a5⟩ := M_ok hM hk
    have rc := c_X9_canNow _ r a1 hN
    have hH : ∀ i, i < NR n t → gH bt ln n t k i = g2.1 44 i := fun i hi => (a2 i hi).1.symm
    rw [← fHM_c _ hH, a4] at rc
    obtain ⟨c, c1, c2⟩ := fHM_nn (gH bt ln n t k) (nI B) (NR n t)
    show ∃ g1, Rn 7 MX9_askNow [.ref 31] g (EI (fBQ (gH bt ln n t k) (rowN n t) (nI B) (NR n t) (fun _ => 0)) g1) ∧ _
    unfold fBQ
    rw [c2] at rc ⊢
    by_cases q : 2 ≤ c
    · rw [if_pos (show (2 : Int32) ≤ nI c from nI_le (a := 2) q (by omega))]
      have r2 := c_X9_askNow (nI c) (NR n t) (rowN n t) rc (show ¬ nI c < 2 from nI_nlt (b := 2) q (by omega)) a1 hN (fun i hi => ⟨(a2 i hi).2, row7 hM hi⟩)
      rw [a4, ← ask_eq (gH bt ln n t k) (g2.1 44) (rowN n t) (nI B) (by omega) (z := fun _ => 0) (fun _ _ => rfl) (g2.1 46) hH] at r2
      exact ⟨_, r2, MR_f (fun q j hq => by rw [pA_g, if_neg (by omega)]) m, f.tr (fun q j hq => by rw [pA_g, if_neg (by omega)])⟩
    · rw [if_neg (show ¬ (2 : Int32) ≤ nI c from nI_ge (b := 2) (by omega) (by decide))]
      have r2 := c_X9_askNow_few (nI c) rc (show nI c < 2 from nI_lt (b := 2) (by omega) (by decide))
      rw [if_neg (nI_pos (by omega))] at r2
      exact ⟨g2, r2, m, f⟩
theorem s_can (hC : CR g n t ln bt B fd sh) (hM : MR g n t ln bt B fd sh) : SimI MX8_can MX9_can [] g := by
  obtain ⟨g1, r1, c1, f1⟩ := C_can hC
  refine sim_I hM (by decide) r1 c1 f1 (by decide : 7 ≤ 12) (fun h => ?_)
  obtain ⟨g2, r2, m2, f2⟩ := M_can h
  exact ⟨g2, c_X9_can r2, m2, f2⟩
theorem s_alone (hC : CR g n t ln bt B fd sh) (hM : MR g n t ln bt B fd sh) : SimI MX8_alone MX9_alone [] g := by
  obtain ⟨g1, r1, c1, f1⟩ := C_alone hC
  refine sim_I hM (by decide) r1 c1 f1 (by decide : 7 ≤ 12) (fun h => ?_)
  obtain ⟨g2, r2, m2, f2⟩ := M_alone h
  exact ⟨g2, c_X9_alone r2, m2, f2⟩
theorem s_fewest (hC : CR g n t ln bt B fd sh) (hM : MR g n t ln bt B fd sh) : SimI MX8_fewest MX9_fewest [] g := by
  obtain ⟨g1, r1, c1, f1⟩ := C_fewest hC
  refine sim_I hM (by decide) r1 c1 f1 (by decide : 7 ≤ 12) (fun h => ?_)
  obtain ⟨g2, r2, m2, f2⟩ := M_fewest h
  exact ⟨g2, c_X9_fewest r2, m2, f2⟩
theorem s_ask (hC : CR g n t ln bt B fd sh) (hM : MR g n t ln bt B fd sh) : SimI MX8_ask MX9_ask [] g := by
  obtain ⟨g1, r1, c1, f1⟩ := C_ask hC
  refine sim_I hM (by decide) r1 c1 f1 (by decide : 8 ≤ 12) (fun h => ?_)
  obtain ⟨g2, r2, m2, f2⟩ := M_ask h
  exact ⟨g2, c_X9_ask r2, m2, f2⟩
end SIM
