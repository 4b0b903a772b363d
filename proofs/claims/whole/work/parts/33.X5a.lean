/-! class RowTable: place 12; numbers 13, held 14, holdTogether 15, tally 16 -/
def itN (t : Nat) : Nat → Nat → Nat
  | 0, N => N
  | k + 1, N => itN t k ((stepN t N).getD 0)
def lenN (t : Nat) : Nat → Nat → Nat
  | 0, _ => 0
  | f + 1, N => match stepN t N with
    | none => 1
    | some N' => lenN t f N' + 1
theorem run_facts (n t : Nat) : ∀ f N, okRun n t f N = true → 1 ≤ lenN t f N ∧ lenN t f N ≤ f ∧ (∀ k, k < lenN t f N → okOne n t (itN t k N) = true) ∧ (∀ k, k + 1 < lenN t f N → ∃ m, fm (dgt (itN t k N)) t = some m ∧ okTo t (itN t k N) m (itN t (k + 1) N) = true) ∧ fm (dgt (itN t (lenN t f N - 1) N)) t = none := by
  intro f
  induction f with
  | zero => intro N h; cases h
  | succ f ih =>
    intro N h
    rw [okRun] at h
    split at h
    · cases h
    · rename_i h1
      split at h
      · rename_i h2
        have e : stepN t N = none := by rw [stepN, h2]
        have el : lenN t (f + 1) N = 1 := by rw [lenN, e]
        rw [el]
        refine ⟨Nat.le_refl _, by omega, fun k hk => ?_, fun k hk => by omega, h2⟩
        have : k = 0 := by omega
        subst this
        exact h1
      · rename_i m h2
        split at h
        · cases h
        · rename_i h3
          generalize hN : N - dgt N t * 10 ^ (6 - t) - 10 ^ (6 - m) + (dgt N t + 1) * 10 ^ (6 - (m + 1)) = N' at h h3
          have e : stepN t N = some N' := by rw [stepN, h2, ← hN]
          have el : lenN t (f + 1) N = lenN t f N' + 1 := by rw [lenN, e]
          have ei : ∀ k, itN t (k + 1) N = itN t k N' := by intro k; rw [itN, e]; rfl
          obtain ⟨a1, a2, a3, a4, a5⟩ := ih N' h
          rw [el]
          refine ⟨by omega, by omega, fun k hk => ?_, fun k hk => ?_, ?_⟩
          · cases k with
            | zero => exact h1
            | succ k => rw [ei]; exact a3 k (by omega)
          · cases k with
            | zero => exact ⟨m, h2, by rw [ei]; exact h3⟩
            | succ k => rw [ei, ei]; exact a4 k (by omega)
          · rw [show lenN t f N' + 1 - 1 = (lenN t f N' - 1) + 1 by omega, ei]
            exact a5
/-- how many rows of n marks up to t there are, and the k-th -/
def NR (n t : Nat) : Nat := lenN t 5005 (n * 1000000)
def rowN (n t k : Nat) : Nat := itN t k (n * 1000000)
theorem okR {n t : Nat} (hn : 1 ≤ n) (hn9 : n ≤ 9) (ht : t ≤ 6) : okRun n t 5005 (n * 1000000) = true := by
  by_cases h : t < 6
  · exact okR5 t h n (by omega) hn
  · have : t = 6 := by omega
    subst this
    exact okR6 n (by omega) hn
theorem okOne_of {n t N : Nat} (h : okOne n t N = true) : N < 10000000 ∧ sg (dgt N) 7 = n ∧ ∀ j, j < 7 → t < j → dgt N j = 0 := by
  unfold okOne at h
  simp only [Bool.and_eq_true, decide_eq_true_eq, beq_iff_eq, List.all_eq_true, List.mem_range, Bool.or_eq_true] at h
  refine ⟨h.1.1, h.1.2, fun j hj ht => ?_⟩
  rcases h.2 j hj with q | q
  · omega
  · exact q
theorem okTo_of {t N m N' : Nat} (h : okTo t N m N' = true) : ∀ j, j < 7 → dgt N' j = stepC (dgt N) t m j := by
  unfold okTo at h
  simp only [List.all_eq_true, List.mem_range, beq_iff_eq] at h
  exact h
theorem num_dgt {N : Nat} (h : N < 10000000) : numN (dgt N) 7 = N := by
  simp only [numN, sg, dgt]
  omega
def fH (h : Hp) (A : Nat → Int32) (D : Nat → Nat) (s : Int32) : Hp := (fun q j => if q = 13 then A j else if q = 11 then (if j < 7 then nI (D j) else h.1 11 j) else if q = 12 ∧ j = 4 then s else h.1 q j, h.2)
theorem fH_n (h : Hp) (A : Nat → Int32) (D : Nat → Nat) (s : Int32) (k : Nat) (x : Int32) : pI (fH h A D s) 13 k x = fH h (upd A k x) D s := by
  refine hp_ext (fun q j => ?_) (fun q j => rfl)
  simp only [pI_g, fH, upd]
  by_cases e : q = 13
  · subst e
    by_cases e2 : j = k <;> simp [e2]
  · simp [e]
theorem fH_s (h : Hp) (A : Nat → Int32) (D : Nat → Nat) (s s' : Int32) : pI (fH h A D s) 12 4 s' = fH h A D s' := by
  refine hp_ext (fun q j => ?_) (fun q j => rfl)
  simp only [pI_g, fH]
  by_cases e : q = 12 ∧ j = 4
  · obtain ⟨rfl, rfl⟩ := e; simp
  · simp [e]
theorem fH_step (h : Hp) (A : Nat → Int32) (D D' : Nat → Nat) (s : Int32) {t m : Nat} (ht : t ≤ 6) (hm : m < t) (h0 : 0 < D m) (hD : ∀ j, j < 7 → D' j = stepC D t m j) : stepH (fH h A D s) t m = fH h A D' s := by
  have e1 : (fH h A D s).1 11 m = nI (D m) := by simp [fH, show m < 7 by omega]
  have e2 : (fH h A D s).1 11 t = nI (D t) := by simp [fH, show t < 7 by omega]
  have e3 : nI (D m) - 1 = nI (D m - 1) := by
    obtain ⟨x, hx⟩ : ∃ x, D m = x + 1 := ⟨D m - 1, by omega⟩
    rw [hx, nI_pred]
    rfl
  unfold stepH
  rw [e1, e2, e3, nI_1]
  refine hp_ext (fun q j => ?_) (fun q j => rfl)
  simp only [pI_g, fH]
  by_cases e : q = 11
  · subst e
    by_cases hj : j < 7
    · have := hD j hj
      unfold stepC at this
      by_cases a : j = m + 1
      · subst a; simp [hj, this]
      · by_cases b : j = m
        · subst b; simp [hj, this]
        · by_cases c : j = t
          · subst c; simp [hj, this, a, b]; rfl
          · simp [hj, this, a, b, c]
    · simp [hj, show j ≠ m + 1 by omega, show j ≠ m by omega, show j ≠ t by omega]
  · simp [e]
theorem fm_pos {C : Nat → Nat} : ∀ {t m : Nat}, fm C t = some m → 0 < C m
  | 0, m, h => by simp [fm] at h
  | t + 1, m, h => by
    rw [fm] at h
    split at h
    · cases h; assumption
    · exact fm_pos h
def nbA (g : Nat → Int32) (n t k : Nat) : Nat → Int32 := fun j => if j < k then nI (rowN n t j) else g j
theorem dgt0 : ∀ n, n < 10 → ∀ j, j < 7 → dgt (n * 1000000) j = if j = 0 then n else 0 := by decide +kernel
theorem c_X5_fill (n t : Nat) (h : Hp) (hn : 1 ≤ n) (hn9 : n ≤ 9) (ht : t ≤ 6) : Rn 2 MX5_fill [.ref 12, .int (nI n), .int (nI t), .ref 10] h (EV (fH h (nbA (h.1 13) n t (NR n t)) (dgt (rowN n t (NR n t - 1))) (nI (NR n t)))) := by
  obtain ⟨l1, l2, f1, f2, f3⟩ := run_facts n t 5005 _ (okR hn hn9 ht)
  refine rn_of mm_X5_fill (le_b rfl) rfl ?_
  refine r_aload0 dX5_fill_0 ?_
  refine r_iconst_0 dX5_fill_1 ?_
  refine r_putI dX5_fill_2 fw_X5_24 rfl rfl ?_
  refine r_aload3 dX5_fill_5 ?_
  refine r_iload1 dX5_fill_6 ?_
  refine r_cV1V dX5_fill_7 mm_X4_begin im_X4_begin se_X4_begin ml_X5_28 rfl rfl rfl (c_X4_begin _ _) (by decide) (Nat.le_of_ble_eq_true rfl) ?_
  refine r_iconst_1 dX5_fill_10 ?_
  refine r_istore4 dX5_fill_11 rfl (by decide) ?_
  have e0 : pI (pA (pI h 12 4 0) 11 (fun j => if j < 7 then 0 else (pI h 12 4 0).1 11 j)) 11 0 (nI n) = fH h (nbA (h.1 13) n t 0) (dgt (rowN n t 0)) (nI 0) := by
    refine hp_ext (fun q j => ?_) (fun q j => rfl)
    simp only [pI_g, pA_g, fH]
    by_cases e : q = 11
    · subst e
      by_cases hj : j < 7
      · have := dgt0 n (by omega) j hj
        have er : rowN n t 0 = n * 1000000 := rfl
        rw [er, this]
        by_cases a : j = 0
        · subst a; simp
        · simp [a, hj]; rfl
      · simp [hj, show j ≠ 0 by omega]
    · by_cases e13 : q = 13
      · subst e13; simp [nbA]
      · simp [e, e13]; rfl
  rw [e0]
  change Aw _ _ _ _ [some (.ref 12), some (.int (nI n)), some (.int (nI t)), some (.ref 10), some (.int 1)] _ _
  have key : ∀ r k, k + 1 + r = NR n t → Aw 2 MX5_fill (Kp (EV (fH h (nbA (h.1 13) n t (NR n t)) (dgt (rowN n t (NR n t - 1))) (nI (NR n t))))) 13 [some (.ref 12), some (.int (nI n)), some (.int (nI t)), some (.ref 10), some (.int 1)] [] (fH h (nbA (h.1 13) n t k) (dgt (rowN n t k)) (nI k)) := by
    have hsz : ∀ A D (s : Int32), (fH h A D s).1 12 4 = s := by intro A D s; simp [fH]
    have hcn : ∀ A D (s : Int32) j, j < 7 → (fH h A D s).1 11 j = nI (D j) := by intro A D s j hj; simp [fH, hj]
    have body : ∀ k, k < NR n t → ∀ P, Aw 2 MX5_fill (Kp P) 51 [some (.ref 12), some (.int (nI n)), some (.int (nI t)), some (.ref 10), some (.int 1)] [] (fH h (nbA (h.1 13) n t (k + 1)) (dgt (rowN n t k)) (nI (k + 1))) → Aw 2 MX5_fill (Kp P) 13 [some (.ref 12), some (.int (nI n)), some (.int (nI t)), some (.ref 10), some (.int 1)] [] (fH h (nbA (h.1 13) n t k) (dgt (rowN n t k)) (nI k)) := by
      intro k hk P kk
      have hk5 : k < 5005 := Nat.lt_of_lt_of_le hk l2
      obtain ⟨o1, o2, o3⟩ := okOne_of (f1 k hk)
      have rnum := c_X4_number (dgt (rowN n t k)) (fH h (nbA (h.1 13) n t k) (dgt (rowN n t k)) (nI k)) (hcn _ _ _)
      have en : numN (dgt (rowN n t k)) 7 = rowN n t k := num_dgt o1
      rw [en] at rnum
      refine r_iload4 dX5_fill_13 ?_
      refine r_ifeq (tgt := 61) dX5_fill_15 (by decide) (fun c9 => absurd c9 (by decide)) (fun _ => ?_)
      refine r_aload0 dX5_fill_18 ?_
      refine r_getI dX5_fill_19 fl_X5_24 rfl rfl ?_
      refine r_sipush sv_5005 dX5_fill_22 ?_
      rw [hsz]
      refine r_icmpge (tgt := 61) dX5_fill_25 (by decide) (fun c9 => absurd c9 (nI_ge (b := 5005) hk5 (by decide))) (fun _ => ?_)
      refine r_aload0 dX5_fill_28 ?_
      refine r_getR dX5_fill_29 fl_X5_9 rfl rfl ?_
      refine r_aload0 dX5_fill_32 ?_
      refine r_getI dX5_fill_33 fl_X5_24 rfl rfl ?_
      rw [hsz]
      refine r_aload3 dX5_fill_36 ?_
      refine r_cV0I dX5_fill_37 mm_X4_number im_X4_number se_X4_number ml_X5_34 rfl rfl rfl (rnum) (by decide) (Nat.le_of_ble_eq_true rfl) ?_
      refine r_iastN dX5_fill_40 rfl hk5 ?_
      have eA : upd (nbA (h.1 13) n t k) k (nI (rowN n t k)) = nbA (h.1 13) n t (k + 1) := by
        funext j
        unfold upd nbA
        by_cases a : j = k
        · subst a; simp
        · by_cases b : j < k
          · simp [a, b, show j < k + 1 by omega]
          · simp [a, b, show ¬ j < k + 1 by omega]
      rw [fH_n, eA]
      refine r_aload0 dX5_fill_41 ?_
      refine r_dup rfl dX5_fill_42 ?_
      refine r_getI dX5_fill_43 fl_X5_24 rfl rfl ?_
      refine r_iconst_1 dX5_fill_46 ?_
      rw [hsz]
      refine r_iadd dX5_fill_47 ?_
      refine r_putI dX5_fill_48 fw_X5_24 rfl rfl ?_
      rw [nI_1, fH_s]
      exact kk
    intro r
    induction r with
    | zero =>
      intro k hk
      refine body k (by omega) _ ?_
      have : NR n t = k + 1 := by omega
      have hno : fm (dgt (rowN n t (NR n t - 1))) t = none := f3
      rw [this] at hno ⊢
      have hno : fm (dgt (rowN n t k)) t = none := hno
      have st := (c_X4_step t (dgt (rowN n t k)) (fH h (nbA (h.1 13) n t (k + 1)) (dgt (rowN n t k)) (nI (k + 1))) ht (fun j hj => ⟨hcn _ _ _ j hj, by have := dgt_lt (rowN n t k) j; omega⟩)).1 hno
      refine r_aload3 dX5_fill_51 ?_
      refine r_iload2 dX5_fill_52 ?_
      refine r_cV1I dX5_fill_53 mm_X4_step im_X4_step se_X4_step ml_X5_38 rfl rfl rfl (st) (by decide) (Nat.le_of_ble_eq_true rfl) ?_
      refine r_istore4 dX5_fill_56 rfl (by decide) ?_
      refine r_goto (tgt := 13) dX5_fill_58 (by decide) ?_
      refine r_iload4 dX5_fill_13 ?_
      refine r_ifeq (tgt := 61) dX5_fill_15 (by decide) (fun _ => ?_) (fun c9 => absurd (rfl) c9)
      exact r_vretE dX5_fill_61 rfl (rfl)
    | succ r ih =>
      intro k hk
      refine body k (by omega) _ ?_
      obtain ⟨m, hm1, hm2⟩ := f2 k (by show k + 1 < NR n t; omega)
      have st := (c_X4_step t (dgt (rowN n t k)) (fH h (nbA (h.1 13) n t (k + 1)) (dgt (rowN n t k)) (nI (k + 1))) ht (fun j hj => ⟨hcn _ _ _ j hj, by have := dgt_lt (rowN n t k) j; omega⟩)).2 m hm1
      rw [fH_step h _ (dgt (rowN n t k)) (dgt (rowN n t (k + 1))) _ ht (fm_lt hm1) (fm_pos hm1) (okTo_of hm2)] at st
      refine r_aload3 dX5_fill_51 ?_
      refine r_iload2 dX5_fill_52 ?_
      refine r_cV1I dX5_fill_53 mm_X4_step im_X4_step se_X4_step ml_X5_38 rfl rfl rfl (st) (by decide) (Nat.le_of_ble_eq_true rfl) ?_
      refine r_istore4 dX5_fill_56 rfl (by decide) ?_
      refine r_goto (tgt := 13) dX5_fill_58 (by decide) ?_
      exact ih (k + 1) (by omega)
  exact key (NR n t - 1) 0 (by have : 1 ≤ NR n t := l1; omega)
theorem tk_1 (D : Nat → Nat) : ∀ u (a : TK), (tk D u a).1 = a.1 + nI (sg D u) := by
  intro u
  induction u with
  | zero => intro a; show a.1 = a.1 + 0; rw [Int32.add_zero]
  | succ u ih =>
    intro a
    rw [tk, ih, tkF]
    have e : sg D (u + 1) = sg D u + D u := rfl
    by_cases h : 0 < D u
    · rw [if_pos h, e, ← nI_add]
      show a.1 + nI (D u) + nI (sg D u) = a.1 + (nI (sg D u) + nI (D u))
      rw [Int32.add_assoc, Int32.add_comm (nI (D u))]
    · rw [if_neg h, e, show D u = 0 by omega, Nat.add_zero]
def tk0 (D : Nat → Nat) : TK := tk D 7 (0, 0, 0, -1, -1, -1, 0)
/-- the figure of the row of number N that decides a claim of kind kd with mark mk -/
def figN (N n kd mk : Nat) : Int32 :=
  if kd = 0 then (tk0 (dgt N)).2.1
  else if kd = 1 ∨ kd = 2 then (tk0 (dgt N)).1 * (tk0 (dgt N)).2.2.1 - (tk0 (dgt N)).2.1 * (tk0 (dgt N)).2.1
  else if kd = 3 then nI (mid2 (dgt N) n 7)
  else if kd = 4 then nI (dgt N mk)
  else if kd = 5 then nI (frm (dgt N) mk)
  else if kd = 6 then (tk0 (dgt N)).2.2.2.1
  else if kd = 7 then (tk0 (dgt N)).2.2.2.2.1
  else (tk0 (dgt N)).2.2.2.2.2.1
def hbN (lo hi : Nat → Int32) (Kd Mk : Nat → Nat) (n k N : Nat) : Int32 := lp (fun i b => if figN N n (Kd i) (Mk i) < lo i then b else if hi i < figN N n (Kd i) (Mk i) then b else b ||| (1 <<< (nI i &&& 31))) 0 k 0
theorem hld_N (h : Hp) (C : Nat → Int32) (Kd Mk : Nat → Nat) (n k N : Nat) (hk : ∀ i, i < k → Mk i < 7 ∨ Kd i < 4) : hld (rowH h (dgC N C 0) (tk0 (dgt N))) Kd Mk (dgt N) n k = hbN (h.1 8) (h.1 9) Kd Mk n k N := by
  unfold hld hbN
  apply lp_cong
  intro i b _ hi
  have e8 : (rowH h (dgC N C 0) (tk0 (dgt N))).1 8 i = h.1 8 i := by simp [rowH]
  have e9 : (rowH h (dgC N C 0) (tk0 (dgt N))).1 9 i = h.1 9 i := by simp [rowH]
  have ef : figV (rowH h (dgC N C 0) (tk0 (dgt N))) Kd Mk (dgt N) n i = figN N n (Kd i) (Mk i) := by
    unfold figV figN
    by_cases h4 : Kd i = 4
    · have hm : Mk i < 7 := by
        rcases hk i (by omega) with q | q <;> omega
      simp [h4, rowH, dgC, hm]
    · simp [h4, rowH]
  unfold hldF
  rw [e8, e9, ef]
theorem rowH_rowH (h : Hp) (C C' : Nat → Int32) (a a' : TK) : rowH (rowH h C a) C' a' = rowH h C' a' := by
  refine hp_ext (fun q j => ?_) (fun q j => rfl)
  simp only [rowH]
  by_cases e : q = 11
  · simp [e]
  · by_cases e2 : q = 10
    · subst e2; simp
      split
      · rfl
      · split
        · rfl
        · split
          · rfl
          · split
            · rfl
            · split
              · rfl
              · split
                · rfl
                · rename_i a1 a2 a3 a4 a5 a6; simp [a1, a2, a3, a4, a5, a6]
    · simp [e, e2]
theorem rowH_ne (h : Hp) (C : Nat → Int32) (a : TK) {q : Nat} (j : Nat) (h1 : q ≠ 10) (h2 : q ≠ 11) : (rowH h C a).1 q j = h.1 q j := by simp [rowH, h1, h2]
/-- the table: m rows, of numbers Nf -/
def TB (h : Hp) (m : Nat) (Nf : Nat → Nat) : Prop := h.1 12 4 = nI m ∧ m ≤ 5005 ∧ ∀ k, k < m → h.1 13 k = nI (Nf k) ∧ Nf k < 10000000
def hdA (g : Nat → Int32) (B : Nat → Int32) (k : Nat) : Nat → Int32 := fun j => if j < k then B j else g j
theorem hdA_s (g B : Nat → Int32) (k : Nat) : upd (hdA g B k) k (B k) = hdA g B (k + 1) := by
  funext j
  unfold upd hdA
  by_cases a : j = k
  · subst a; simp
  · by_cases b : j < k
    · simp [a, b, show j < k + 1 by omega]
    · simp [a, b, show ¬ j < k + 1 by omega]
theorem pI_pA (h : Hp) (p k : Nat) (g : Nat → Int32) (x : Int32) : pI (pA h p g) p k x = pA h p (upd g k x) := by
  refine hp_ext (fun q j => ?_) (fun q j => rfl)
  simp only [pI_g, pA_g, upd]
  by_cases e : q = p
  · subst e; simp
  · simp [e]
theorem rowH_14 (h : Hp) (C : Nat → Int32) (a : TK) (g : Nat → Int32) (k : Nat) (x : Int32) : pI (rowH (pA h 14 g) C a) 14 k x = rowH (pA h 14 (upd g k x)) C a := by
  refine hp_ext (fun q j => ?_) (fun q j => rfl)
  simp only [pI_g, rowH, pA_g, upd]
  by_cases e : q = 14
  · subst e; simp
  · simp [e]
theorem c_X5_judge (m n kc : Nat) (Nf Kd Mk Bh : Nat → Nat) (h : Hp) (hT : TB h m Nf) (hC : CLM h kc Kd Mk Bh) (hn : 1 ≤ n) (hn9 : n ≤ 63) (hsum : ∀ k, k < m → sg (dgt (Nf k)) 7 = n) : ∃ C a, Rn 4 MX5_judge [.ref 12, .ref 1, .ref 10] h (EV (rowH (pA h 14 (hdA (h.1 14) (fun k => hbN (h.1 8) (h.1 9) Kd Mk n kc (Nf k)) m)) C a)) := by
  obtain ⟨t1, t2, t3⟩ := hT
  have key : ∀ r k (C : Nat → Int32) (a : TK), k + r = m → ∃ C' a', Aw 4 MX5_judge (Kp (EV (rowH (pA h 14 (hdA (h.1 14) (fun k => hbN (h.1 8) (h.1 9) Kd Mk n kc (Nf k)) m)) C' a'))) 2 [some (.ref 12), some (.ref 1), some (.ref 10), some (.int (nI k))] [] (rowH (pA h 14 (hdA (h.1 14) (fun k => hbN (h.1 8) (h.1 9) Kd Mk n kc (Nf k)) k)) C a) := by
    intro r
    induction r with
    | zero =>
      intro k C a hk
      have : k = m := by omega
      subst this
      refine ⟨C, a, ?_⟩
      refine r_iload3 dX5_judge_2 ?_
      refine r_aload0 dX5_judge_3 ?_
      refine r_getI dX5_judge_4 fl_X5_24 rfl rfl ?_
      refine r_icmpge (tgt := 37) dX5_judge_7 (by decide) (fun _ => ?_) (fun c9 => absurd (by rw [rowH_ne _ _ _ _ (by decide) (by decide), pA_g, if_neg (by decide), t1]; exact Int32.le_refl _) c9)
      exact r_vretE dX5_judge_37 rfl (rfl)
    | succ r ih =>
      intro k C a hk
      obtain ⟨n1, n2⟩ := t3 k (by omega)
      obtain ⟨C', a', hA⟩ := ih (k + 1) (dgC (Nf k) C 0) (tk0 (dgt (Nf k))) (by omega)
      refine ⟨C', a', ?_⟩
      refine r_iload3 dX5_judge_2 ?_
      refine r_aload0 dX5_judge_3 ?_
      refine r_getI dX5_judge_4 fl_X5_24 rfl rfl ?_
      refine r_icmpge (tgt := 37) dX5_judge_7 (by decide) (fun c9 => absurd c9 (by rw [rowH_ne _ _ _ _ (by decide) (by decide), pA_g, if_neg (by decide), t1]; exact nI_ge (by omega) (by omega))) (fun _ => ?_)
      refine r_aload2 dX5_judge_10 ?_
      refine r_aload0 dX5_judge_11 ?_
      refine r_getR dX5_judge_12 fl_X5_9 rfl rfl ?_
      refine r_iload3 dX5_judge_15 ?_
      refine r_ialdN dX5_judge_16 rfl (by omega) ?_
      rw [rowH_ne _ _ _ _ (by decide) (by decide), pA_g, if_neg (by decide), n1]
      have rt := c_X4_take (Nf k) (rowH (pA h 14 (hdA (h.1 14) (fun k => hbN (h.1 8) (h.1 9) Kd Mk n kc (Nf k)) k)) C a) (by omega)
      rw [rowH_rowH] at rt
      have ec : (rowH (pA h 14 (hdA (h.1 14) (fun k => hbN (h.1 8) (h.1 9) Kd Mk n kc (Nf k)) k)) C a).1 11 = C := by funext j; simp [rowH]
      rw [ec] at rt
      generalize hg : pA h 14 (hdA (h.1 14) (fun k => hbN (h.1 8) (h.1 9) Kd Mk n kc (Nf k)) k) = g at rt ⊢
      have gne : ∀ q j, q ≠ 14 → g.1 q j = h.1 q j := by intro q j hq; rw [← hg, pA_g, if_neg hq]
      have hC' : CLM (rowH g (dgC (Nf k) C 0) (tk0 (dgt (Nf k)))) kc Kd Mk Bh := by
        obtain ⟨c1, c2, c3⟩ := hC
        refine ⟨by rw [rowH_ne _ _ _ _ (by decide) (by decide), gne _ _ (by decide)]; exact c1, c2, fun i hi => ?_⟩
        obtain ⟨d1, d2, d3, d4, d5⟩ := c3 i hi
        exact ⟨by rw [rowH_ne _ _ _ _ (by decide) (by decide), gne _ _ (by decide)]; exact d1, d2, by rw [rowH_ne _ _ _ _ (by decide) (by decide), gne _ _ (by decide)]; exact d3, d4, fun h4 => by rw [rowH_ne _ _ _ _ (by decide) (by decide), gne _ _ (by decide)]; exact d5 h4⟩
      have hs7 := hsum k (by omega)
      have mono : ∀ j, j ≤ 7 → sg (dgt (Nf k)) j ≤ sg (dgt (Nf k)) 7 := by
        intro j hj
        have : j = 0 ∨ j = 1 ∨ j = 2 ∨ j = 3 ∨ j = 4 ∨ j = 5 ∨ j = 6 ∨ j = 7 := by omega
        rcases this with rfl | rfl | rfl | rfl | rfl | rfl | rfl | rfl <;> simp only [sg] <;> omega
      have hR : RW (rowH g (dgC (Nf k) C 0) (tk0 (dgt (Nf k)))) (dgt (Nf k)) n := by
        refine ⟨?_, hn, hn9, fun j hj => by simp [rowH, dgC, hj], fun j hj => by have := mono j hj; omega⟩
        have e : (rowH g (dgC (Nf k) C 0) (tk0 (dgt (Nf k)))).1 10 1 = (tk0 (dgt (Nf k))).1 := by simp [rowH]
        rw [e, tk0, tk_1, hs7]
        show (0 : Int32) + nI n = nI n
        rw [Int32.zero_add]
      have rh := c_X1_heldBy kc Kd Mk Bh (dgt (Nf k)) n _ hC' hR
      have e8 : g.1 8 = h.1 8 := funext fun j => gne 8 j (by decide)
      have e9 : g.1 9 = h.1 9 := funext fun j => gne 9 j (by decide)
      rw [hld_N g C Kd Mk n kc (Nf k) (fun i hi => by
        obtain ⟨d1, d2, d3, d4, d5⟩ := hC.2.2 i hi
        by_cases q : 4 ≤ Kd i
        · exact Or.inl (d5 q).2
        · exact Or.inr (by omega)), e8, e9] at rh
      refine r_cV1V dX5_judge_17 mm_X4_take im_X4_take se_X4_take ml_X5_42 rfl rfl rfl (rt) (by decide) (Nat.le_of_ble_eq_true rfl) ?_
      refine r_aload0 dX5_judge_20 ?_
      refine r_getR dX5_judge_21 fl_X5_15 rfl rfl ?_
      refine r_iload3 dX5_judge_24 ?_
      refine r_aload1 dX5_judge_25 ?_
      refine r_aload2 dX5_judge_26 ?_
      refine r_cV1I dX5_judge_27 mm_X1_heldBy im_X1_heldBy se_X1_heldBy ml_X5_45 rfl rfl rfl (rh) (by decide) (Nat.le_of_ble_eq_true rfl) ?_
      refine r_iastN dX5_judge_30 rfl (by omega) ?_
      subst hg
      rw [rowH_14, hdA_s (h.1 14) (fun k => hbN (h.1 8) (h.1 9) Kd Mk n kc (Nf k)) k]
      refine r_iinc3_1 dX5_judge_31 rfl (by decide) ?_
      refine r_goto (tgt := 2) dX5_judge_34 (by decide) ?_
      rw [nI_1]
      exact hA
  obtain ⟨C', a', hA⟩ := key m 0 (h.1 11) (h.1 10 1, h.1 10 2, h.1 10 3, h.1 10 4, h.1 10 5, h.1 10 6, 0) (by omega)
  refine ⟨C', a', ?_⟩
  refine rn_of mm_X5_judge (le_b rfl) rfl ?_
  refine r_iconst_0 dX5_judge_0 ?_
  refine r_istore3 dX5_judge_1 rfl (by decide) ?_
  have e0 : hdA (h.1 14) (fun k => hbN (h.1 8) (h.1 9) Kd Mk n kc (Nf k)) 0 = h.1 14 := by funext j; simp [hdA]
  have e1 : pA h 14 (h.1 14) = h := by
    refine hp_ext (fun q j => ?_) (fun q j => rfl)
    rw [pA_g]
    split
    · rename_i e; rw [e]
    · rfl
  rw [e0, e1, rowH_0] at hA
  exact hA
