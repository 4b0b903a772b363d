/-! RowTable: what holds together, quarrels, tallies, writing -/
def ix (x : Int32) : Nat := x.toBitVec.toNat % 1024
theorem ix_lt (x : Int32) : ix x < 1024 := Nat.mod_lt _ (by decide)
theorem ix_and (x : Int32) : x &&& 1023 = nI (ix x) := pk_and x 10 (by decide)
def clr (s i : Nat) : Nat := s &&& (1023 - 2 ^ i)
theorem clr_and : ∀ i, i < 10 → ∀ s, s < 1024 → nI s &&& ((1 <<< (nI i &&& 31)) ^^^ (-1)) = nI (clr s i) := by decide +kernel
theorem clr_lt {s i : Nat} (hs : s < 1024) : clr s i < 1024 := Nat.lt_of_le_of_lt Nat.and_le_left hs
def mk1 (H : Nat → Int32) (m : Nat) (z : Nat → Int32) : Nat → Int32 := lp (fun k T => upd T (ix (H k)) 1) 0 m z
def orS (i s : Nat) (T : Nat → Int32) : Nat → Int32 := upd T (clr s i) (T (clr s i) ||| T s)
def orP (i : Nat) (T : Nat → Int32) : Nat → Int32 := lp (orS i) 0 1024 T
def tog (H : Nat → Int32) (m : Nat) (z : Nat → Int32) : Nat → Int32 := lp orP 0 10 (mk1 H m z)
def z15 (h : Hp) : Nat → Int32 := fun j => if j < 1024 then 0 else h.1 15 j
theorem c_X5_findWhat (m : Nat) (h : Hp) (hs : h.1 12 4 = nI m) (hm : m ≤ 5005) : Rn 1 MX5_findWhatHoldsTogether [.ref 12] h (EV (pA h 15 (tog (h.1 14) m (z15 h)))) := by
  refine rn_of mm_X5_findWhatHoldsTogether (le_b rfl) rfl ?_
  refine r_aload0 dX5_findWhatHoldsTogether_0 ?_
  refine r_getR dX5_findWhatHoldsTogether_1 fl_X5_18 rfl rfl ?_
  refine r_iconst_0 dX5_findWhatHoldsTogether_4 ?_
  refine r_cS2V dX5_findWhatHoldsTogether_5 mm_J7_fill_53178 st_J7_fill_53178 ml_X5_80 (c_fillI 15 1024 0 h rfl) (by decide) (Nat.le_of_ble_eq_true rfl) ?_
  refine r_iconst_0 dX5_findWhatHoldsTogether_8 ?_
  refine r_istore1 dX5_findWhatHoldsTogether_9 rfl (by decide) ?_
  change Aw _ _ _ _ _ _ (pA h 15 (z15 h))
  have gn : ∀ T q j, q ≠ 15 → (pA h 15 T).1 q j = h.1 q j := by intro T q j hq; rw [pA_g, if_neg hq]
  have ge : ∀ T j, (pA h 15 T).1 15 j = T j := by intro T j; rw [pA_g, if_pos rfl]
  refine lpA (fun k T => upd T (ix (h.1 14 k)) 1) (fun k T => Aw 1 MX5_findWhatHoldsTogether (Kp (EV (pA h 15 (tog (h.1 14) m (z15 h))))) 10 [some (.ref 12), some (.int (nI k)), none] [] (pA h 15 T)) m ?_ (z15 h) ?_
  · intro k T hk kk
    refine r_iload1 dX5_findWhatHoldsTogether_10 ?_
    refine r_aload0 dX5_findWhatHoldsTogether_11 ?_
    refine r_getI dX5_findWhatHoldsTogether_12 fl_X5_24 rfl rfl ?_
    refine r_icmpge (tgt := 40) dX5_findWhatHoldsTogether_15 (by decide) (fun c9 => absurd c9 (by rw [gn _ _ _ (by decide), hs]; exact nI_ge hk (by omega))) (fun _ => ?_)
    refine r_aload0 dX5_findWhatHoldsTogether_18 ?_
    refine r_getR dX5_findWhatHoldsTogether_19 fl_X5_18 rfl rfl ?_
    refine r_aload0 dX5_findWhatHoldsTogether_22 ?_
    refine r_getR dX5_findWhatHoldsTogether_23 fl_X5_15 rfl rfl ?_
    refine r_iload1 dX5_findWhatHoldsTogether_26 ?_
    refine r_ialdN dX5_findWhatHoldsTogether_27 rfl (by omega) ?_
    refine r_sipush sv_1023 dX5_findWhatHoldsTogether_28 ?_
    refine r_iand dX5_findWhatHoldsTogether_31 ?_
    rw [gn _ _ _ (by decide), ix_and]
    refine r_iconst_1 dX5_findWhatHoldsTogether_32 ?_
    refine r_iastN dX5_findWhatHoldsTogether_33 rfl (ix_lt _) ?_
    refine r_iinc1_1 dX5_findWhatHoldsTogether_34 rfl (by decide) ?_
    refine r_goto (tgt := 10) dX5_findWhatHoldsTogether_37 (by decide) ?_
    rw [pI_pA, nI_1]
    exact kk
  · refine r_iload1 dX5_findWhatHoldsTogether_10 ?_
    refine r_aload0 dX5_findWhatHoldsTogether_11 ?_
    refine r_getI dX5_findWhatHoldsTogether_12 fl_X5_24 rfl rfl ?_
    refine r_icmpge (tgt := 40) dX5_findWhatHoldsTogether_15 (by decide) (fun _ => ?_) (fun c9 => absurd (by rw [gn _ _ _ (by decide), hs]; exact Int32.le_refl _) c9)
    refine r_iconst_0 dX5_findWhatHoldsTogether_40 ?_
    refine r_istore1 dX5_findWhatHoldsTogether_41 rfl (by decide) ?_
    have outer : ∀ r i T (x2 : Option Value), i + r = 10 → lp orP i r T = tog (h.1 14) m (z15 h) → Aw 1 MX5_findWhatHoldsTogether (Kp (EV (pA h 15 (tog (h.1 14) m (z15 h))))) 42 [some (.ref 12), some (.int (nI i)), x2] [] (pA h 15 T) := by
      intro r
      induction r with
      | zero =>
        intro i T x2 hi he
        have : i = 10 := by omega
        subst this
        have he : T = tog (h.1 14) m (z15 h) := he
        rw [← he]
        refine r_iload1 dX5_findWhatHoldsTogether_42 ?_
        refine r_bipush bv_10 dX5_findWhatHoldsTogether_43 ?_
        refine r_icmpge (tgt := 90) dX5_findWhatHoldsTogether_45 (by decide) (fun _ => ?_) (fun c9 => absurd (Int32.le_refl _) c9)
        exact r_vretE dX5_findWhatHoldsTogether_90 rfl (rfl)
      | succ r ih =>
        intro i T x2 hi he
        rw [lp_s] at he
        refine r_iload1 dX5_findWhatHoldsTogether_42 ?_
        refine r_bipush bv_10 dX5_findWhatHoldsTogether_43 ?_
        refine r_icmpge (tgt := 90) dX5_findWhatHoldsTogether_45 (by decide) (fun c9 => absurd c9 (nI_ge (b := 10) (by omega) (by decide))) (fun _ => ?_)
        refine r_iconst_0 dX5_findWhatHoldsTogether_48 ?_
        refine r_istore2 dX5_findWhatHoldsTogether_49 rfl (by decide) ?_
        refine lpA (orS i) (fun s T' => Aw 1 MX5_findWhatHoldsTogether (Kp (EV (pA h 15 (tog (h.1 14) m (z15 h))))) 50 [some (.ref 12), some (.int (nI i)), some (.int (nI s))] [] (pA h 15 T')) 1024 ?_ T ?_
        · intro s T' hsl kk
          refine r_iload2 dX5_findWhatHoldsTogether_50 ?_
          refine r_sipush sv_1024 dX5_findWhatHoldsTogether_51 ?_
          refine r_icmpge (tgt := 84) dX5_findWhatHoldsTogether_54 (by decide) (fun c9 => absurd c9 (nI_ge (b := 1024) hsl (by decide))) (fun _ => ?_)
          refine r_aload0 dX5_findWhatHoldsTogether_57 ?_
          refine r_getR dX5_findWhatHoldsTogether_58 fl_X5_18 rfl rfl ?_
          refine r_iload2 dX5_findWhatHoldsTogether_61 ?_
          refine r_iconst_1 dX5_findWhatHoldsTogether_62 ?_
          refine r_iload1 dX5_findWhatHoldsTogether_63 ?_
          refine r_ishl dX5_findWhatHoldsTogether_64 ?_
          refine r_iconst_m1 dX5_findWhatHoldsTogether_65 ?_
          refine r_ixor dX5_findWhatHoldsTogether_66 ?_
          refine r_iand dX5_findWhatHoldsTogether_67 ?_
          rw [clr_and i (by omega) s hsl]
          refine r_dup2 rfl rfl dX5_findWhatHoldsTogether_68 ?_
          refine r_ialdN dX5_findWhatHoldsTogether_69 rfl (clr_lt hsl) ?_
          refine r_aload0 dX5_findWhatHoldsTogether_70 ?_
          refine r_getR dX5_findWhatHoldsTogether_71 fl_X5_18 rfl rfl ?_
          refine r_iload2 dX5_findWhatHoldsTogether_74 ?_
          refine r_ialdN dX5_findWhatHoldsTogether_75 rfl hsl ?_
          refine r_ior dX5_findWhatHoldsTogether_76 ?_
          refine r_iastN dX5_findWhatHoldsTogether_77 rfl (clr_lt hsl) ?_
          refine r_iinc2_1 dX5_findWhatHoldsTogether_78 rfl (by decide) ?_
          refine r_goto (tgt := 50) dX5_findWhatHoldsTogether_81 (by decide) ?_
          rw [ge, ge, pI_pA, nI_1]
          exact kk
        · refine r_iload2 dX5_findWhatHoldsTogether_50 ?_
          refine r_sipush sv_1024 dX5_findWhatHoldsTogether_51 ?_
          refine r_icmpge (tgt := 84) dX5_findWhatHoldsTogether_54 (by decide) (fun _ => ?_) (fun c9 => absurd (Int32.le_refl _) c9)
          refine r_iinc1_1 dX5_findWhatHoldsTogether_84 rfl (by decide) ?_
          refine r_goto (tgt := 42) dX5_findWhatHoldsTogether_87 (by decide) ?_
          rw [nI_1]
          exact ih (i + 1) _ _ (by omega) he
    exact outer 10 0 _ none rfl rfl
def lqF (T : Nat → Int32) (b : Int32) (s : Nat) (a : Int32) : Int32 := if nI s &&& (b ^^^ (-1)) = 0 then (if T s = 0 then (if a = 0 then nI s else if ahead (nI s) a then nI s else a) else a) else a
def fLQ (T : Nat → Int32) (b : Int32) : Int32 := lp (lqF T b) 1 1023 0
theorem c_X5_leastQuarrel (m : Nat) (b : Int32) (h : Hp) (hs : h.1 12 4 = nI m) (hm : m ≤ 5005) : Rn 2 MX5_leastQuarrel [.ref 12, .int b] h (EI (fLQ (tog (h.1 14) m (z15 h)) b) (pA h 15 (tog (h.1 14) m (z15 h)))) := by
  refine rn_of mm_X5_leastQuarrel (le_b rfl) rfl ?_
  refine r_aload0 dX5_leastQuarrel_0 ?_
  refine r_cV0V dX5_leastQuarrel_1 mm_X5_findWhatHoldsTogether im_X5_findWhatHoldsTogether se_X5_findWhatHoldsTogether ml_X5_72 rfl rfl rfl (c_X5_findWhat m h hs hm) (by decide) (Nat.le_of_ble_eq_true rfl) ?_
  refine r_iconst_0 dX5_leastQuarrel_4 ?_
  refine r_istore2 dX5_leastQuarrel_5 rfl (by decide) ?_
  refine r_iconst_1 dX5_leastQuarrel_6 ?_
  refine r_istore3 dX5_leastQuarrel_7 rfl (by decide) ?_
  generalize tog (h.1 14) m (z15 h) = T
  have ge : ∀ j, (pA h 15 T).1 15 j = T j := by intro j; rw [pA_g, if_pos rfl]
  have key : ∀ r s a (x4 : Option Value), s + r = 1024 → lp (lqF T b) s r a = fLQ T b → Aw 2 MX5_leastQuarrel (Kp (EI (fLQ T b) (pA h 15 T))) 8 [some (.ref 12), some (.int b), some (.int a), some (.int (nI s)), x4] [] (pA h 15 T) := by
    intro r
    induction r with
    | zero =>
      intro s a x4 hi he
      have : s = 1024 := by omega
      subst this
      refine r_iload3 dX5_leastQuarrel_8 ?_
      refine r_sipush sv_1024 dX5_leastQuarrel_9 ?_
      refine r_icmpge (tgt := 64) dX5_leastQuarrel_12 (by decide) (fun _ => ?_) (fun c9 => absurd (Int32.le_refl _) c9)
      refine r_iload2 dX5_leastQuarrel_64 ?_
      exact r_iretE dX5_leastQuarrel_65 rfl (he) (rfl)
    | succ r ih =>
      intro s a x4 hi he
      rw [lp_s] at he
      unfold lqF at he ih
      have next : ∀ a' (x4 : Option Value), lp (lqF T b) (s + 1) r a' = fLQ T b → Aw 2 MX5_leastQuarrel (Kp (EI (fLQ T b) (pA h 15 T))) 58 [some (.ref 12), some (.int b), some (.int a'), some (.int (nI s)), x4] [] (pA h 15 T) := by
        intro a' x4 he'
        refine r_iinc3_1 dX5_leastQuarrel_58 rfl (by decide) ?_
        refine r_goto (tgt := 8) dX5_leastQuarrel_61 (by decide) ?_
        rw [nI_1]
        exact ih (s + 1) _ _ (by omega) he'
      refine r_iload3 dX5_leastQuarrel_8 ?_
      refine r_sipush sv_1024 dX5_leastQuarrel_9 ?_
      refine r_icmpge (tgt := 64) dX5_leastQuarrel_12 (by decide) (fun c9 => absurd c9 (nI_ge (b := 1024) (by omega) (by decide))) (fun _ => ?_)
      refine r_iload3 dX5_leastQuarrel_15 ?_
      refine r_iload1 dX5_leastQuarrel_16 ?_
      refine r_iconst_m1 dX5_leastQuarrel_17 ?_
      refine r_ixor dX5_leastQuarrel_18 ?_
      refine r_iand dX5_leastQuarrel_19 ?_
      refine r_ifne (tgt := 36) dX5_leastQuarrel_20 (by decide) (fun c => ?_) (fun c => ?_)
      · rw [if_neg c] at he
        refine r_iconst_0 dX5_leastQuarrel_36 ?_
        refine r_istore4 dX5_leastQuarrel_37 rfl (by decide) ?_
        refine r_iload4 dX5_leastQuarrel_39 ?_
        refine r_ifeq (tgt := 58) dX5_leastQuarrel_41 (by decide) (fun _ => ?_) (fun c9 => absurd (rfl) c9)
        exact next _ _ he
      · rw [if_pos c] at he
        refine r_aload0 dX5_leastQuarrel_23 ?_
        refine r_getR dX5_leastQuarrel_24 fl_X5_18 rfl rfl ?_
        refine r_iload3 dX5_leastQuarrel_27 ?_
        refine r_ialdN dX5_leastQuarrel_28 rfl (by omega) ?_
        rw [ge]
        refine r_ifne (tgt := 36) dX5_leastQuarrel_29 (by decide) (fun c2 => ?_) (fun c2 => ?_)
        · rw [if_neg c2] at he
          refine r_iconst_0 dX5_leastQuarrel_36 ?_
          refine r_istore4 dX5_leastQuarrel_37 rfl (by decide) ?_
          refine r_iload4 dX5_leastQuarrel_39 ?_
          refine r_ifeq (tgt := 58) dX5_leastQuarrel_41 (by decide) (fun _ => ?_) (fun c9 => absurd (rfl) c9)
          exact next _ _ he
        · rw [if_pos c2] at he
          refine r_iconst_1 dX5_leastQuarrel_32 ?_
          refine r_goto (tgt := 37) dX5_leastQuarrel_33 (by decide) ?_
          refine r_istore4 dX5_leastQuarrel_37 rfl (by decide) ?_
          refine r_iload4 dX5_leastQuarrel_39 ?_
          refine r_ifeq (tgt := 58) dX5_leastQuarrel_41 (by decide) (fun c9 => absurd c9 (by decide)) (fun _ => ?_)
          refine r_iload2 dX5_leastQuarrel_44 ?_
          refine r_ifeq (tgt := 56) dX5_leastQuarrel_45 (by decide) (fun c3 => ?_) (fun c3 => ?_)
          · rw [if_pos c3] at he
            refine r_iload3 dX5_leastQuarrel_56 ?_
            refine r_istore2 dX5_leastQuarrel_57 rfl (by decide) ?_
            exact next _ _ he
          · rw [if_neg c3] at he
            refine r_iload3 dX5_leastQuarrel_48 ?_
            refine r_iload2 dX5_leastQuarrel_49 ?_
            refine r_cS2I dX5_leastQuarrel_50 mm_X5_isAhead st_X5_isAhead ml_X5_69 (c_X5_isAhead _ _ _) (by decide) (Nat.le_of_ble_eq_true rfl) ?_
            refine r_ifeq (tgt := 58) dX5_leastQuarrel_53 (by decide) (fun c4 => ?_) (fun c4 => ?_)
            · rw [b2i_0 c4] at he
              exact next _ _ he
            · rw [b2i_n c4, if_pos rfl] at he
              refine r_iload3 dX5_leastQuarrel_56 ?_
              refine r_istore2 dX5_leastQuarrel_57 rfl (by decide) ?_
              exact next _ _ he
  exact key 1023 1 0 none rfl rfl
def tlD (N : Nat) : Nat → (Nat → Int32) → (Nat → Int32)
  | 0, A => A
  | u + 1, A => tlD N u (upd A (10 * u + dgt N u) (A (10 * u + dgt N u) + 1))
def tlF (H : Nat → Int32) (Nf : Nat → Nat) (b : Int32) (k : Nat) (A : Nat → Int32) : Nat → Int32 := if cbe (H k) b then tlD (Nf k) 7 A else A
def tly (H : Nat → Int32) (Nf : Nat → Nat) (b : Int32) (m : Nat) (z : Nat → Int32) : Nat → Int32 := lp (tlF H Nf b) 0 m z
def z16 (h : Hp) : Nat → Int32 := fun j => if j < 70 then 0 else h.1 16 j
theorem c_X5_tallyMarks (m : Nat) (Nf : Nat → Nat) (b : Int32) (h : Hp) (hT : TB h m Nf) : Rn 1 MX5_tallyMarks [.ref 12, .int b] h (EV (pA h 16 (tly (h.1 14) Nf b m (z16 h)))) := by
  obtain ⟨hs, hm, hN⟩ := hT
  refine rn_of mm_X5_tallyMarks (le_b rfl) rfl ?_
  refine r_aload0 dX5_tallyMarks_0 ?_
  refine r_getR dX5_tallyMarks_1 fl_X5_21 rfl rfl ?_
  refine r_iconst_0 dX5_tallyMarks_4 ?_
  refine r_cS2V dX5_tallyMarks_5 mm_J7_fill_53178 st_J7_fill_53178 ml_X5_80 (c_fillI 16 70 0 h rfl) (by decide) (Nat.le_of_ble_eq_true rfl) ?_
  refine r_iconst_0 dX5_tallyMarks_8 ?_
  refine r_istore2 dX5_tallyMarks_9 rfl (by decide) ?_
  change Aw _ _ _ _ _ _ (pA h 16 (z16 h))
  have gn : ∀ T q j, q ≠ 16 → (pA h 16 T).1 q j = h.1 q j := by intro T q j hq; rw [pA_g, if_neg hq]
  have ge : ∀ T j, (pA h 16 T).1 16 j = T j := by intro T j; rw [pA_g, if_pos rfl]
  have key : ∀ r k T (x3 x4 : Option Value), nl1 x3 = true → k + r = m → lp (tlF (h.1 14) Nf b) k r T = tly (h.1 14) Nf b m (z16 h) → Aw 1 MX5_tallyMarks (Kp (EV (pA h 16 (tly (h.1 14) Nf b m (z16 h))))) 10 [some (.ref 12), some (.int b), some (.int (nI k)), x3, x4] [] (pA h 16 T) := by
    intro r
    induction r with
    | zero =>
      intro k T x3 x4 hx hk he
      have : k = m := by omega
      subst this
      have he : T = tly (h.1 14) Nf b k (z16 h) := he
      subst he
      refine r_iload2 dX5_tallyMarks_10 ?_
      refine r_aload0 dX5_tallyMarks_11 ?_
      refine r_getI dX5_tallyMarks_12 fl_X5_24 rfl rfl ?_
      refine r_icmpge (tgt := 83) dX5_tallyMarks_15 (by decide) (fun _ => ?_) (fun c9 => absurd (by rw [gn _ _ _ (by decide), hs]; exact Int32.le_refl _) c9)
      exact r_vretE dX5_tallyMarks_83 rfl (rfl)
    | succ r ih =>
      intro k T x3 x4 hx hk he
      obtain ⟨n1, n2⟩ := hN k (by omega)
      rw [lp_s] at he
      unfold tlF at he ih
      have rc := c_X5_canBe k b (pA h 16 T) (by omega)
      rw [gn _ _ _ (by decide)] at rc
      refine r_iload2 dX5_tallyMarks_10 ?_
      refine r_aload0 dX5_tallyMarks_11 ?_
      refine r_getI dX5_tallyMarks_12 fl_X5_24 rfl rfl ?_
      refine r_icmpge (tgt := 83) dX5_tallyMarks_15 (by decide) (fun c9 => absurd c9 (by rw [gn _ _ _ (by decide), hs]; exact nI_ge (by omega) (by omega))) (fun _ => ?_)
      refine r_aload0 dX5_tallyMarks_18 ?_
      refine r_iload2 dX5_tallyMarks_19 ?_
      refine r_iload1 dX5_tallyMarks_20 ?_
      refine r_cV2I dX5_tallyMarks_21 mm_X5_canBe im_X5_canBe se_X5_canBe ml_X5_51 rfl rfl rfl (rc) (by decide) (Nat.le_of_ble_eq_true rfl) ?_
      refine r_ifeq (tgt := 77) dX5_tallyMarks_24 (by decide) (fun c => ?_) (fun c => ?_)
      · rw [b2i_0 c] at he
        refine r_iinc2_1 dX5_tallyMarks_77 rfl (by decide) ?_
        refine r_goto (tgt := 10) dX5_tallyMarks_80 (by decide) ?_
        rw [nI_1]
        exact ih (k + 1) _ _ _ hx (by omega) he
      · rw [b2i_n c, if_pos rfl] at he
        refine r_aload0 dX5_tallyMarks_27 ?_
        refine r_getR dX5_tallyMarks_28 fl_X5_9 rfl rfl ?_
        refine r_iload2 dX5_tallyMarks_31 ?_
        refine r_ialdN dX5_tallyMarks_32 rfl (by omega) ?_
        rw [gn _ _ _ (by decide), n1]
        refine r_iconst_0 dX5_tallyMarks_33 ?_
        refine r_mmax dX5_tallyMarks_34 ml_X5_95 (by decide) (Nat.le_of_ble_eq_true rfl) ?_
        have e : (if nI (Nf k) < (0 : Int32) then 0 else nI (Nf k)) = nI (Nf k) := if_neg (nI_pos (by omega))
        rw [e]
        refine r_istore3 dX5_tallyMarks_37 rfl (by decide) ?_
        refine r_bipush bv_6 dX5_tallyMarks_38 ?_
        refine r_istore4 dX5_tallyMarks_40 rfl (by decide) ?_
        have inner : ∀ u T', u ≤ 7 → tlD (Nf k) u T' = tlD (Nf k) 7 T → Aw 1 MX5_tallyMarks (Kp (EV (pA h 16 (tly (h.1 14) Nf b m (z16 h))))) 42 [some (.ref 12), some (.int b), some (.int (nI k)), some (.int (nI (Nf k / 10 ^ (7 - u)))), some (.int (nI u - 1))] [] (pA h 16 T') := by
          intro u
          induction u with
          | zero =>
            intro T' _ ht
            have ht : T' = tlD (Nf k) 7 T := ht
            subst ht
            refine r_iload4 dX5_tallyMarks_42 ?_
            refine r_iflt (tgt := 77) dX5_tallyMarks_44 (by decide) (fun _ => ?_) (fun c9 => absurd (by decide) c9)
            refine r_iinc2_1 dX5_tallyMarks_77 rfl (by decide) ?_
            refine r_goto (tgt := 10) dX5_tallyMarks_80 (by decide) ?_
            rw [nI_1]
            exact ih (k + 1) _ _ _ rfl (by omega) he
          | succ u ihu =>
            intro T' hu ht
            rw [show 7 - (u + 1) = 6 - u by omega, nI_pred]
            have hd1 : Nf k / 10 ^ (6 - u) < 2 ^ 31 := Nat.lt_of_le_of_lt (Nat.div_le_self _ _) (by omega)
            have hdl := dgt_lt (Nf k) u
            refine r_iload4 dX5_tallyMarks_42 ?_
            refine r_iflt (tgt := 77) dX5_tallyMarks_44 (by decide) (fun c9 => absurd c9 (nI_pos (by omega))) (fun _ => ?_)
            refine r_aload0 dX5_tallyMarks_47 ?_
            refine r_getR dX5_tallyMarks_48 fl_X5_21 rfl rfl ?_
            refine r_bipush bv_10 dX5_tallyMarks_51 ?_
            refine r_iload4 dX5_tallyMarks_53 ?_
            refine r_imul dX5_tallyMarks_55 ?_
            refine r_iload3 dX5_tallyMarks_56 ?_
            refine r_bipush bv_10 dX5_tallyMarks_57 ?_
            refine r_irem (by decide) dX5_tallyMarks_59 ?_
            have e1 : rem32 (nI (Nf k / 10 ^ (6 - u))) 10 = nI (dgt (Nf k) u) := nI_rem (d := 10) hd1 (by decide) (by decide)
            rw [e1]
            refine r_iadd dX5_tallyMarks_60 ?_
            have e2 : (10 : Int32) * nI u + nI (dgt (Nf k) u) = nI (10 * u + dgt (Nf k) u) := by
              rw [show (10 : Int32) = nI 10 from rfl, pk_mul, nI_add]
            rw [e2]
            refine r_dup2 rfl rfl dX5_tallyMarks_61 ?_
            refine r_ialdN dX5_tallyMarks_62 rfl (by omega) ?_
            refine r_iconst_1 dX5_tallyMarks_63 ?_
            refine r_iadd dX5_tallyMarks_64 ?_
            refine r_iastN dX5_tallyMarks_65 rfl (by omega) ?_
            rw [ge, pI_pA]
            refine r_iload3 dX5_tallyMarks_66 ?_
            refine r_bipush bv_10 dX5_tallyMarks_67 ?_
            refine r_idiv (by decide) dX5_tallyMarks_69 ?_
            have e3 : nI (Nf k / 10 ^ (6 - u)) / 10 = nI (Nf k / 10 ^ (7 - u)) := by
              have q1 := pk_div (d := 10) hd1 (by decide) (by decide)
              rw [Nat.div_div_eq_div_mul, ← Nat.pow_succ, show (6 - u).succ = 7 - u by omega] at q1
              exact q1
            rw [e3]
            refine r_istore3 dX5_tallyMarks_70 rfl (by decide) ?_
            refine r_iinc4_m1 dX5_tallyMarks_71 rfl (by decide) ?_
            refine r_goto (tgt := 42) dX5_tallyMarks_74 (by decide) ?_
            rw [← Int32.sub_eq_add_neg]
            exact ihu _ (by omega) ht
        have i7 := inner 7 T (Nat.le_refl 7) rfl
        rw [show Nf k / 10 ^ (7 - 7) = Nf k from Nat.div_one _, show nI 7 - 1 = 6 by decide] at i7
        exact i7
  exact key m 0 (z16 h) none none rfl (by omega) rfl
def mlF (A : Nat → Int32) (mk : Nat) : Int32 := lp (fun j a => if a < A (10 * mk + j) then A (10 * mk + j) else a) 0 10 0
theorem c_X5_mostLeft (mk : Nat) (h : Hp) (hm : mk < 7) : Rn 1 MX5_mostLeft [.ref 12, .int (nI mk)] h (EI (mlF (h.1 16) mk) h) := by
  refine rn_of mm_X5_mostLeft (le_b rfl) rfl ?_
  refine r_iconst_0 dX5_mostLeft_0 ?_
  refine r_istore2 dX5_mostLeft_1 rfl (by decide) ?_
  refine r_iconst_0 dX5_mostLeft_2 ?_
  refine r_istore3 dX5_mostLeft_3 rfl (by decide) ?_
  refine lpA (fun j a => if a < h.1 16 (10 * mk + j) then h.1 16 (10 * mk + j) else a) (fun j a => Aw 1 MX5_mostLeft (Kp (EI (mlF (h.1 16) mk) h)) 4 [some (.ref 12), some (.int (nI mk)), some (.int a), some (.int (nI j))] [] h) 10 ?_ 0 ?_
  · intro j a hj k
    refine r_iload3 dX5_mostLeft_4 ?_
    refine r_bipush bv_10 dX5_mostLeft_5 ?_
    refine r_icmpge (tgt := 32) dX5_mostLeft_7 (by decide) (fun c9 => absurd c9 (nI_ge (b := 10) hj (by decide))) (fun _ => ?_)
    refine r_iload2 dX5_mostLeft_10 ?_
    refine r_aload0 dX5_mostLeft_11 ?_
    refine r_getR dX5_mostLeft_12 fl_X5_21 rfl rfl ?_
    refine r_bipush bv_10 dX5_mostLeft_15 ?_
    refine r_iload1 dX5_mostLeft_17 ?_
    refine r_imul dX5_mostLeft_18 ?_
    refine r_iload3 dX5_mostLeft_19 ?_
    refine r_iadd dX5_mostLeft_20 ?_
    rw [show (10 : Int32) = nI 10 from rfl, pk_mul, nI_add]
    refine r_ialdN dX5_mostLeft_21 rfl (by omega) ?_
    refine r_mmax dX5_mostLeft_22 ml_X5_95 (by decide) (Nat.le_of_ble_eq_true rfl) ?_
    refine r_istore2 dX5_mostLeft_25 rfl (by decide) ?_
    refine r_iinc3_1 dX5_mostLeft_26 rfl (by decide) ?_
    refine r_goto (tgt := 4) dX5_mostLeft_29 (by decide) ?_
    rw [nI_1]
    exact k
  · refine r_iload3 dX5_mostLeft_4 ?_
    refine r_bipush bv_10 dX5_mostLeft_5 ?_
    refine r_icmpge (tgt := 32) dX5_mostLeft_7 (by decide) (fun _ => ?_) (fun c9 => absurd (Int32.le_refl _) c9)
    refine r_iload2 dX5_mostLeft_32 ?_
    exact r_iretE dX5_mostLeft_33 rfl (rfl) (rfl)
def bqF (A : Nat → Int32) : Nat := lp (fun i l => if mlF A l ≤ mlF A i then l else i) 1 6 0
def fBQ (H : Nat → Int32) (Nf : Nat → Nat) (b : Int32) (m : Nat) (z : Nat → Int32) : Int32 := if 2 ≤ fHM H b m then nI (bqF (tly H Nf b m z)) else -1
theorem c_X5_bestQuestion (m : Nat) (Nf : Nat → Nat) (b : Int32) (h : Hp) (hT : TB h m Nf) : Rn 2 MX5_bestQuestion [.ref 12, .int b] h (EI (fBQ (h.1 14) Nf b m (z16 h)) (if 2 ≤ fHM (h.1 14) b m then pA h 16 (tly (h.1 14) Nf b m (z16 h)) else h)) := by
  refine rn_of mm_X5_bestQuestion (le_b rfl) rfl ?_
  unfold fBQ
  refine r_aload0 dX5_bestQuestion_0 ?_
  refine r_iload1 dX5_bestQuestion_1 ?_
  refine r_cV1I dX5_bestQuestion_2 mm_X5_howMany im_X5_howMany se_X5_howMany ml_X5_86 rfl rfl rfl (c_X5_howMany m b h hT.1 hT.2.1) (by decide) (Nat.le_of_ble_eq_true rfl) ?_
  refine r_iconst_2 dX5_bestQuestion_5 ?_
  refine r_icmpge (tgt := 11) dX5_bestQuestion_6 (by decide) (fun c => ?_) (fun c => ?_)
  · rw [if_pos c, if_pos c]
    refine r_aload0 dX5_bestQuestion_11 ?_
    refine r_iload1 dX5_bestQuestion_12 ?_
    refine r_cV1V dX5_bestQuestion_13 mm_X5_tallyMarks im_X5_tallyMarks se_X5_tallyMarks ml_X5_89 rfl rfl rfl (c_X5_tallyMarks m Nf b h hT) (by decide) (Nat.le_of_ble_eq_true rfl) ?_
    refine r_iconst_0 dX5_bestQuestion_16 ?_
    refine r_istore2 dX5_bestQuestion_17 rfl (by decide) ?_
    refine r_iconst_1 dX5_bestQuestion_18 ?_
    refine r_istore3 dX5_bestQuestion_19 rfl (by decide) ?_
    generalize tly (h.1 14) Nf b m (z16 h) = A
    have ge : (pA h 16 A).1 16 = A := by funext j; rw [pA_g, if_pos rfl]
    refine lpI (fun i l => if mlF A l ≤ mlF A i then l else i) (fun i l => Aw 2 MX5_bestQuestion (Kp (EI (nI (bqF A)) (pA h 16 A))) 20 [some (.ref 12), some (.int b), some (.int (nI l)), some (.int (nI i))] [] (pA h 16 A)) (fun i l => l < i) 7 (fun i l hi hl => ?_) (fun i l hi hl k => ?_) 6 1 0 rfl (by decide) (fun _ => ?_)
    · split <;> omega
    · have r1 := c_X5_mostLeft i (pA h 16 A) hi
      have r2 := c_X5_mostLeft l (pA h 16 A) (by omega)
      rw [ge] at r1 r2
      refine r_iload3 dX5_bestQuestion_20 ?_
      refine r_bipush bv_7 dX5_bestQuestion_21 ?_
      refine r_icmpge (tgt := 47) dX5_bestQuestion_23 (by decide) (fun c9 => absurd c9 (nI_ge (b := 7) hi (by decide))) (fun _ => ?_)
      refine r_aload0 dX5_bestQuestion_26 ?_
      refine r_iload3 dX5_bestQuestion_27 ?_
      refine r_cV1I dX5_bestQuestion_28 mm_X5_mostLeft im_X5_mostLeft se_X5_mostLeft ml_X5_92 rfl rfl rfl (r1) (by decide) (Nat.le_of_ble_eq_true rfl) ?_
      refine r_aload0 dX5_bestQuestion_31 ?_
      refine r_iload2 dX5_bestQuestion_32 ?_
      refine r_cV1I dX5_bestQuestion_33 mm_X5_mostLeft im_X5_mostLeft se_X5_mostLeft ml_X5_92 rfl rfl rfl (r2) (by decide) (Nat.le_of_ble_eq_true rfl) ?_
      refine r_icmpge (tgt := 41) dX5_bestQuestion_36 (by decide) (fun c2 => ?_) (fun c2 => ?_)
      · rw [if_pos c2] at k
        refine r_iinc3_1 dX5_bestQuestion_41 rfl (by decide) ?_
        refine r_goto (tgt := 20) dX5_bestQuestion_44 (by decide) ?_
        rw [nI_1]
        exact k
      · rw [if_neg c2] at k
        refine r_iload3 dX5_bestQuestion_39 ?_
        refine r_istore2 dX5_bestQuestion_40 rfl (by decide) ?_
        refine r_iinc3_1 dX5_bestQuestion_41 rfl (by decide) ?_
        refine r_goto (tgt := 20) dX5_bestQuestion_44 (by decide) ?_
        rw [nI_1]
        exact k
    · refine r_iload3 dX5_bestQuestion_20 ?_
      refine r_bipush bv_7 dX5_bestQuestion_21 ?_
      refine r_icmpge (tgt := 47) dX5_bestQuestion_23 (by decide) (fun _ => ?_) (fun c9 => absurd (Int32.le_refl _) c9)
      refine r_iload2 dX5_bestQuestion_47 ?_
      exact r_iretE dX5_bestQuestion_48 rfl (rfl) (rfl)
  · rw [if_neg c, if_neg c]
    refine r_iconst_m1 dX5_bestQuestion_9 ?_
    exact r_iretE dX5_bestQuestion_10 rfl (rfl) (rfl)
def wrF (H Nb : Nat → Int32) (b form : Int32) (sz : Nat) : Nat → Nat → Nat → (Nat → Int32) → Nat × (Nat → Int32)
  | 0, _, w, A => (w, A)
  | f + 1, k, w, A => if w < sz then (if cbe (H k) b then wrF H Nb b form sz f (k + 1) (w + 1) (upd A w (cutF form (Nb k))) else wrF H Nb b form sz f (k + 1) w A) else (w, A)
theorem c_X5_writeTo (m p sz : Nat) (b : Int32) (h : Hp) (hs : h.1 12 4 = nI m) (hm : m ≤ 5005) (hp : isSh p) (hz : sz ≤ 60) (hsz : h.1 p 3 = nI sz) : Rn 1 MX5_writeTo [.ref 12, .ref p, .int b] h (EI (nI (wrF (h.1 14) (h.1 13) b (h.1 p 2) sz m 0 0 (h.1 (p + 4))).1) (pA h (p + 4) (wrF (h.1 14) (h.1 13) b (h.1 p 2) sz m 0 0 (h.1 (p + 4))).2)) := by
  have ho := oSh hp
  have p1 := hp.1
  have p2 := hp.2
  refine rn_of mm_X5_writeTo (le_b rfl) rfl ?_
  refine r_iconst_0 dX5_writeTo_0 ?_
  refine r_istore3 dX5_writeTo_1 rfl (by decide) ?_
  refine r_iconst_0 dX5_writeTo_2 ?_
  refine r_istore4 dX5_writeTo_3 rfl (by decide) ?_
  generalize hr : wrF (h.1 14) (h.1 13) b (h.1 p 2) sz m 0 0 (h.1 (p + 4)) = R
  have gn : ∀ T q j, q ≠ p + 4 → (pA h (p + 4) T).1 q j = h.1 q j := by intro T q j hq; rw [pA_g, if_neg hq]
  have key : ∀ f k w A, k + f = m → w ≤ sz → wrF (h.1 14) (h.1 13) b (h.1 p 2) sz f k w A = R → Aw 1 MX5_writeTo (Kp (EI (nI R.1) (pA h (p + 4) R.2))) 5 [some (.ref 12), some (.ref p), some (.int b), some (.int (nI w)), some (.int (nI k))] [] (pA h (p + 4) A) := by
    intro f
    induction f with
    | zero =>
      intro k w A hk hw he
      have : k = m := by omega
      subst this
      have he : (w, A) = R := he
      subst he
      refine r_iload4 dX5_writeTo_5 ?_
      refine r_aload0 dX5_writeTo_7 ?_
      refine r_getI dX5_writeTo_8 fl_X5_24 rfl rfl ?_
      refine r_icmpge (tgt := 53) dX5_writeTo_11 (by decide) (fun _ => ?_) (fun c9 => absurd (by rw [gn _ _ _ (by omega), hs]; exact Int32.le_refl _) c9)
      refine r_iload3 dX5_writeTo_53 ?_
      exact r_iretE dX5_writeTo_54 rfl (rfl) (rfl)
    | succ f ih =>
      intro k w A hk hw he
      rw [wrF] at he
      refine r_iload4 dX5_writeTo_5 ?_
      refine r_aload0 dX5_writeTo_7 ?_
      refine r_getI dX5_writeTo_8 fl_X5_24 rfl rfl ?_
      refine r_icmpge (tgt := 53) dX5_writeTo_11 (by decide) (fun c9 => absurd c9 (by rw [gn _ _ _ (by omega), hs]; exact nI_ge (by omega) (by omega))) (fun _ => ?_)
      refine r_iload3 dX5_writeTo_14 ?_
      refine r_aload1 dX5_writeTo_15 ?_
      refine r_getI dX5_writeTo_16 fl_X5_100 ho rfl ?_
      rw [gn _ _ _ (by omega), hsz]
      by_cases c : w < sz
      · rw [if_pos c] at he
        have rc := c_X5_canBe k b (pA h (p + 4) A) (by omega)
        rw [gn _ _ _ (by omega)] at rc
        refine r_icmpge (tgt := 53) dX5_writeTo_19 (by decide) (fun c9 => absurd c9 (nI_ge c (by omega))) (fun _ => ?_)
        refine r_aload0 dX5_writeTo_22 ?_
        refine r_iload4 dX5_writeTo_23 ?_
        refine r_iload2 dX5_writeTo_25 ?_
        refine r_cV2I dX5_writeTo_26 mm_X5_canBe im_X5_canBe se_X5_canBe ml_X5_51 rfl rfl rfl (rc) (by decide) (Nat.le_of_ble_eq_true rfl) ?_
        refine r_ifeq (tgt := 47) dX5_writeTo_29 (by decide) (fun c2 => ?_) (fun c2 => ?_)
        · rw [b2i_0 c2] at he
          refine r_iinc4_1 dX5_writeTo_47 rfl (by decide) ?_
          refine r_goto (tgt := 5) dX5_writeTo_50 (by decide) ?_
          rw [nI_1]
          exact ih (k + 1) _ _ (by omega) hw he
        · rw [b2i_n c2, if_pos rfl] at he
          have rk := c_X6_keep p sz (nI w) (h.1 13 k) (pA h (p + 4) A) hp hz (by rw [gn _ _ _ (by omega)]; exact hsz)
          have ek : keepH (pA h (p + 4) A) p (nI w) (h.1 13 k) = pA h (p + 4) (upd A w (cutF (h.1 p 2) (h.1 13 k))) := by
            unfold keepH
            rw [if_neg (nI_pos (by omega)), gn _ _ _ (by omega), hsz, if_neg (nI_ge c (by omega)), pI_pA, nI_clamp (by omega), gn _ _ _ (by omega)]
          rw [ek] at rk
          refine r_aload1 dX5_writeTo_32 ?_
          refine r_iload3 dX5_writeTo_33 ?_
          refine r_aload0 dX5_writeTo_34 ?_
          refine r_getR dX5_writeTo_35 fl_X5_9 rfl rfl ?_
          refine r_iload4 dX5_writeTo_38 ?_
          refine r_ialdN dX5_writeTo_40 rfl (by omega) ?_
          rw [gn _ _ _ (by omega)]
          refine r_cV2V dX5_writeTo_41 mm_X6_keep im_X6_keep se_X6_keep ml_X5_103 ho rfl rfl (rk) (by decide) (Nat.le_of_ble_eq_true rfl) ?_
          refine r_iinc3_1 dX5_writeTo_44 rfl (by decide) ?_
          refine r_iinc4_1 dX5_writeTo_47 rfl (by decide) ?_
          refine r_goto (tgt := 5) dX5_writeTo_50 (by decide) ?_
          rw [nI_1, nI_1]
          exact ih (k + 1) _ _ (by omega) (by omega) he
      · rw [if_neg c] at he
        have : (w, A) = R := he
        subst this
        refine r_icmpge (tgt := 53) dX5_writeTo_19 (by decide) (fun _ => ?_) (fun c9 => absurd (nI_le (by omega) (by omega)) c9)
        refine r_iload3 dX5_writeTo_53 ?_
        exact r_iretE dX5_writeTo_54 rfl (rfl) (rfl)
  have k0 := key m 0 0 (h.1 (p + 4)) (by omega) (by omega) hr
  have e1 : pA h (p + 4) (h.1 (p + 4)) = h := by
    refine hp_ext (fun q j => ?_) (fun q j => rfl)
    rw [pA_g]
    split
    · rename_i e; rw [e]
    · rfl
  rw [e1] at k0
  exact k0
