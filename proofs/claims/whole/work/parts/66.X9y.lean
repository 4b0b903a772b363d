/-! the reference: ones, findMade, alone, fewest, quarrel -/
def onN : Nat → Nat → Nat
  | 0, _ => 0
  | f + 1, s => if s = 0 then 0 else onN f (s &&& (s - 1)) + 1
theorem on_and : ∀ s, s < 1024 → 0 < s → nI s &&& (nI s - 1) = nI (s &&& (s - 1)) ∧ s &&& (s - 1) < s := by decide +kernel
theorem on_bitc : ∀ s, s < 1024 → nI (onN 10 s) = bitc (nI s) ∧ onN 11 s = onN 10 s := by decide +kernel
theorem on_end : ∀ s, s < 1024 → lp (fun _ x => x &&& (x - 1)) 0 10 s = 0 := by decide +kernel
theorem c_X9_ones (s : Nat) (h : Hp) (hs : s < 1024) : Rn 0 MX9_ones [.int (nI s)] h (EI (bitc (nI s)) h) := by
  refine rn_of mm_X9_ones (le_b rfl) rfl ?_
  rw [← (on_bitc s hs).1]
  refine r_iconst_0 dX9_ones_0 ?_
  refine r_istore1 dX9_ones_1 rfl (by decide) ?_
  refine r_iload0 dX9_ones_2 ?_
  refine r_istore2 dX9_ones_3 rfl (by decide) ?_
  have key : ∀ f c x, x < 1024 → lp (fun _ x => x &&& (x - 1)) 0 f x = 0 → c + onN f x = onN 10 s → Aw 0 MX9_ones (Kp (EI (nI (onN 10 s)) h)) 4 [some (.int (nI s)), some (.int (nI c)), some (.int (nI x))] [] h := by
    intro f
    induction f with
    | zero =>
      intro c x hx hz he
      have hz : x = 0 := hz
      have he : c + 0 = onN 10 s := he
      subst hz
      have he : c = onN 10 s := he
      refine r_iload2 dX9_ones_4 ?_
      refine r_ifeq (tgt := 20) dX9_ones_5 (by decide) (fun _ => ?_) (fun c9 => absurd (rfl) c9)
      refine r_iload1 dX9_ones_20 ?_
      exact r_iretE dX9_ones_21 rfl (by rw [he]) (rfl)
    | succ f ih =>
      intro c x hx hz he
      rw [onN] at he
      by_cases z : x = 0
      · subst z
        rw [if_pos rfl] at he
        refine r_iload2 dX9_ones_4 ?_
        refine r_ifeq (tgt := 20) dX9_ones_5 (by decide) (fun _ => ?_) (fun c9 => absurd (rfl) c9)
        refine r_iload1 dX9_ones_20 ?_
        exact r_iretE dX9_ones_21 rfl (by rw [← he, Nat.add_zero]) (rfl)
      · rw [if_neg z] at he
        obtain ⟨a1, a2⟩ := on_and x hx (by omega)
        have hsh : ∀ g i j y, lp (fun _ x => x &&& (x - 1)) i g y = lp (fun (_ : Nat) x => x &&& (x - 1)) j g y := by
          intro g
          induction g with
          | zero => intro i j y; rfl
          | succ g ihg => intro i j y; rw [lp_s, lp_s]; exact ihg _ _ _
        rw [lp_s] at hz
        refine r_iload2 dX9_ones_4 ?_
        refine r_ifeq (tgt := 20) dX9_ones_5 (by decide) (fun c9 => absurd c9 (nI_ne0 (by omega) (by omega))) (fun _ => ?_)
        refine r_iinc1_1 dX9_ones_8 rfl (by decide) ?_
        refine r_iload2 dX9_ones_11 ?_
        refine r_iload2 dX9_ones_12 ?_
        refine r_iconst_1 dX9_ones_13 ?_
        refine r_isub dX9_ones_14 ?_
        refine r_iand dX9_ones_15 ?_
        rw [a1]
        refine r_istore2 dX9_ones_16 rfl (by decide) ?_
        refine r_goto (tgt := 4) dX9_ones_17 (by decide) ?_
        rw [nI_1]
        exact ih (c + 1) _ (by omega) (by rw [← hz]; exact hsh _ _ _ _) (by omega)
  exact key 10 0 s hs (on_end s hs) (Nat.zero_add _)
def z45 (h : Hp) : Nat → Int32 := fun j => if j < 1024 then 0 else h.1 45 j
def mdS (s : Nat) (T : Nat → Int32) : Nat → Int32 := if T s = 0 then T else lp (fun i T => upd T (clr s i) 1) 0 10 T
def mdD : Nat → (Nat → Int32) → (Nat → Int32)
  | 0, T => T
  | s + 1, T => mdD s (mdS (s + 1) T)
/-- the reference's sets that rows make: from m rows of bits H -/
def mkM (H : Nat → Int32) (m : Nat) (z : Nat → Int32) : Nat → Int32 := mdD 1023 (mk1 H m z)
theorem pA_pA (h : Hp) (p : Nat) (f g : Nat → Int32) : pA (pA h p f) p g = pA h p g := by
  refine hp_ext (fun q j => ?_) (fun q j => rfl)
  by_cases e : q = p
  · rw [pA_g, if_pos e, pA_g, if_pos e]
  · rw [pA_g, if_neg e, pA_g, if_neg e, pA_g, if_neg e]
theorem c_X9_findMade (m : Nat) (h : Hp) (hm : h.1 31 20 = nI m) (hm2 : m ≤ 5005) (hB : ∀ k, k < m → h.1 44 k = nI (ix (h.1 44 k))) : Rn 0 MX9_findMade [.ref 31] h (EV (pA h 45 (mkM (h.1 44) m (z45 h)))) := by
  have g1 : ∀ T, (pA h 45 T).1 31 20 = nI m := fun T => by rw [pA_g, if_neg (by decide), hm]
  have g2 : ∀ T k, (pA h 45 T).1 44 k = h.1 44 k := fun T k => by rw [pA_g, if_neg (by decide)]
  have g3 : ∀ T k, (pA h 45 T).1 45 k = T k := fun T k => by rw [pA_g, if_pos rfl]
  refine rn_of mm_X9_findMade (le_b rfl) rfl ?_
  refine r_iconst_0 dX9_findMade_0 ?_
  refine r_istore1 dX9_findMade_1 rfl (by decide) ?_
  have third : ∀ s T x2, s ≤ 1023 → Aw 0 MX9_findMade (Kp (EV (pA h 45 (mdD s T)))) 54 [some (.ref 31), some (.int (nI s)), x2] [] (pA h 45 T) := by
    intro s
    induction s with
    | zero =>
      intro T x2 _
      refine r_iload1 dX9_findMade_54 ?_
      refine r_ifle (tgt := 100) dX9_findMade_55 (by decide) (fun _ => ?_) (fun c9 => absurd (by decide) c9)
      exact r_vretE dX9_findMade_100 rfl (rfl)
    | succ s ih =>
      intro T x2 hs
      rw [mdD]
      refine r_iload1 dX9_findMade_54 ?_
      refine r_ifle (tgt := 100) dX9_findMade_55 (by decide) (fun c9 => absurd c9 (nI_nle (by omega) (by omega))) (fun _ => ?_)
      refine r_iconst_0 dX9_findMade_58 ?_
      refine r_istore2 dX9_findMade_59 rfl (by decide) ?_
      have tail : ∀ U x2, Aw 0 MX9_findMade (Kp (EV (pA h 45 (mdD s U)))) 94 [some (.ref 31), some (.int (nI (s + 1))), x2] [] (pA h 45 U) := by
        intro U x2
        refine r_iinc1_m1 dX9_findMade_94 rfl (by decide) ?_
        refine r_goto (tgt := 54) dX9_findMade_97 (by decide) ?_
        rw [pk_m1]
        exact ih U x2 (by omega)
      by_cases z : T (s + 1) = 0
      · have e : mdS (s + 1) T = T := if_pos z
        rw [e]
        refine r_iload2 dX9_findMade_60 ?_
        refine r_bipush bv_10 dX9_findMade_61 ?_
        refine r_icmpge (tgt := 94) dX9_findMade_63 (by decide) (fun c9 => absurd c9 (by decide)) (fun _ => ?_)
        refine r_aload0 dX9_findMade_66 ?_
        refine r_getR dX9_findMade_67 fl_X9_56 rfl rfl ?_
        refine r_iload1 dX9_findMade_70 ?_
        refine r_zaldN dX9_findMade_71 rfl (by omega : s + 1 < 1024) ?_
        rw [g3, z]
        refine r_ifeq (tgt := 94) dX9_findMade_72 (by decide) (fun _ => ?_) (fun c9 => absurd (rfl) c9)
        exact tail T _
      · have e : mdS (s + 1) T = lp (fun i T => upd T (clr (s + 1) i) 1) 0 10 T := if_neg z
        rw [e]
        refine lpI (fun i T => upd T (clr (s + 1) i) 1) (fun i U => Aw 0 MX9_findMade (Kp (EV (pA h 45 (mdD s (lp (fun i T => upd T (clr (s + 1) i) 1) 0 10 T))))) 60 [some (.ref 31), some (.int (nI (s + 1))), some (.int (nI i))] [] (pA h 45 U)) (fun _ U => ¬ U (s + 1) = 0) 10 ?_ ?_ 10 0 T rfl z ?_
        · intro i U hi hU
          unfold upd
          by_cases q : s + 1 = clr (s + 1) i
          · rw [if_pos q]; decide
          · rw [if_neg q]; exact hU
        · intro i U hi hU kk
          have hc : clr (s + 1) i < 1024 := clr_lt (by omega)
          refine r_iload2 dX9_findMade_60 ?_
          refine r_bipush bv_10 dX9_findMade_61 ?_
          refine r_icmpge (tgt := 94) dX9_findMade_63 (by decide) (fun c9 => absurd c9 (nI_ge (b := 10) hi (by decide))) (fun _ => ?_)
          refine r_aload0 dX9_findMade_66 ?_
          refine r_getR dX9_findMade_67 fl_X9_56 rfl rfl ?_
          refine r_iload1 dX9_findMade_70 ?_
          refine r_zaldN dX9_findMade_71 rfl (by omega : s + 1 < 1024) ?_
          rw [g3]
          refine r_ifeq (tgt := 94) dX9_findMade_72 (by decide) (fun c9 => absurd c9 (hU)) (fun _ => ?_)
          refine r_aload0 dX9_findMade_75 ?_
          refine r_getR dX9_findMade_76 fl_X9_56 rfl rfl ?_
          refine r_iload1 dX9_findMade_79 ?_
          refine r_iconst_1 dX9_findMade_80 ?_
          refine r_iload2 dX9_findMade_81 ?_
          refine r_ishl dX9_findMade_82 ?_
          refine r_iconst_m1 dX9_findMade_83 ?_
          refine r_ixor dX9_findMade_84 ?_
          refine r_iand dX9_findMade_85 ?_
          rw [clr_and i hi (s + 1) (by omega)]
          refine r_iconst_1 dX9_findMade_86 ?_
          refine r_zastN dX9_findMade_87 rfl hc (Or.inr rfl) ?_
          rw [pI_pA]
          refine r_iinc2_1 dX9_findMade_88 rfl (by decide) ?_
          refine r_goto (tgt := 60) dX9_findMade_91 (by decide) ?_
          rw [nI_1]
          exact kk
        · intro hU
          refine r_iload2 dX9_findMade_60 ?_
          refine r_bipush bv_10 dX9_findMade_61 ?_
          refine r_icmpge (tgt := 94) dX9_findMade_63 (by decide) (fun _ => ?_) (fun c9 => absurd (by decide) c9)
          exact tail _ _
  have second : Aw 0 MX9_findMade (Kp (EV (pA h 45 (mkM (h.1 44) m (z45 h))))) 24 [some (.ref 31), some (.int (nI 0)), none] [] (pA h 45 (z45 h)) := by
    refine lpA (fun k T => upd T (ix (h.1 44 k)) 1) (fun k T => Aw 0 MX9_findMade (Kp (EV (pA h 45 (mkM (h.1 44) m (z45 h))))) 24 [some (.ref 31), some (.int (nI k)), none] [] (pA h 45 T)) m ?_ (z45 h) ?_
    · intro k T hk kk
      have hl := ix_lt (h.1 44 k)
      refine r_iload1 dX9_findMade_24 ?_
      refine r_aload0 dX9_findMade_25 ?_
      refine r_getI dX9_findMade_26 fl_X9_183 rfl rfl ?_
      refine r_icmpge (tgt := 50) dX9_findMade_29 (by decide) (fun c9 => absurd c9 (by rw [g1]; exact nI_ge hk (by omega))) (fun _ => ?_)
      refine r_aload0 dX9_findMade_32 ?_
      refine r_getR dX9_findMade_33 fl_X9_56 rfl rfl ?_
      refine r_aload0 dX9_findMade_36 ?_
      refine r_getR dX9_findMade_37 fl_X9_53 rfl rfl ?_
      refine r_iload1 dX9_findMade_40 ?_
      refine r_ialdN dX9_findMade_41 rfl (by omega) ?_
      rw [g2, hB k hk]
      refine r_iconst_1 dX9_findMade_42 ?_
      refine r_zastN dX9_findMade_43 rfl hl (Or.inr rfl) ?_
      rw [pI_pA]
      refine r_iinc1_1 dX9_findMade_44 rfl (by decide) ?_
      refine r_goto (tgt := 24) dX9_findMade_47 (by decide) ?_
      rw [nI_1]
      exact kk
    · refine r_iload1 dX9_findMade_24 ?_
      refine r_aload0 dX9_findMade_25 ?_
      refine r_getI dX9_findMade_26 fl_X9_183 rfl rfl ?_
      refine r_icmpge (tgt := 50) dX9_findMade_29 (by decide) (fun _ => ?_) (fun c9 => absurd (by rw [g1]; exact Int32.le_refl _) c9)
      refine r_sipush sv_1023 dX9_findMade_50 ?_
      refine r_istore1 dX9_findMade_53 rfl (by decide) ?_
      exact third 1023 _ none (Nat.le_refl _)
  have first : ∀ r i, i + r = 1024 → Aw 0 MX9_findMade (Kp (EV (pA h 45 (mkM (h.1 44) m (z45 h))))) 2 [some (.ref 31), some (.int (nI i)), none] [] (pA h 45 (fun j => if j < i then 0 else h.1 45 j)) := by
    intro r
    induction r with
    | zero =>
      intro i hi
      have : i = 1024 := by omega
      subst this
      refine r_iload1 dX9_findMade_2 ?_
      refine r_sipush sv_1024 dX9_findMade_3 ?_
      refine r_icmpge (tgt := 22) dX9_findMade_6 (by decide) (fun _ => ?_) (fun c9 => absurd (by decide) c9)
      refine r_iconst_0 dX9_findMade_22 ?_
      refine r_istore1 dX9_findMade_23 rfl (by decide) ?_
      exact second
    | succ r ih =>
      intro i hi
      refine r_iload1 dX9_findMade_2 ?_
      refine r_sipush sv_1024 dX9_findMade_3 ?_
      refine r_icmpge (tgt := 22) dX9_findMade_6 (by decide) (fun c9 => absurd c9 (nI_ge (b := 1024) (by omega) (by decide))) (fun _ => ?_)
      refine r_aload0 dX9_findMade_9 ?_
      refine r_getR dX9_findMade_10 fl_X9_56 rfl rfl ?_
      refine r_iload1 dX9_findMade_13 ?_
      refine r_iconst_0 dX9_findMade_14 ?_
      refine r_zastN dX9_findMade_15 rfl (by omega : i < 1024) (Or.inl rfl) ?_
      rw [pI_pA]
      have e : upd (fun j => if j < i then 0 else h.1 45 j) i 0 = fun j => if j < i + 1 then 0 else h.1 45 j := by
        funext y
        unfold upd
        by_cases c : y = i
        · subst c; rw [if_pos rfl, if_pos (show y < y + 1 by omega)]
        · rw [if_neg c]
          dsimp only
          by_cases d : y < i
          · rw [if_pos d, if_pos (show y < i + 1 by omega)]
          · rw [if_neg d, if_neg (show ¬ y < i + 1 by omega)]
      rw [e]
      refine r_iinc1_1 dX9_findMade_16 rfl (by decide) ?_
      refine r_goto (tgt := 2) dX9_findMade_19 (by decide) ?_
      rw [nI_1]
      exact ih (i + 1) (by omega)
  have f0 := first 1024 0 rfl
  have e0 : pA h 45 (fun j => if j < 0 then 0 else h.1 45 j) = h := by
    refine hp_ext (fun p j => ?_) (fun p j => rfl)
    rw [pA_g]
    by_cases e : p = 45
    · subst e; rw [if_pos rfl, if_neg (by omega)]
    · rw [if_neg e]
  rw [e0] at f0
  exact f0
theorem c_X9_aloneNow_n {h h1 : Hp} (r : Rn 5 MX9_isFaulty [.ref 31] h (EI 1 h1)) : Rn 6 MX9_aloneNow [.ref 31] h (EI (-3) h1) := by
  refine rn_of mm_X9_aloneNow (le_b rfl) rfl ?_
  refine r_aload0 dX9_aloneNow_0 ?_
  refine r_cV0I dX9_aloneNow_1 mm_X9_isFaulty im_X9_isFaulty se_X9_isFaulty ml_X9_207 rfl rfl rfl (r) (by decide) (Nat.le_of_ble_eq_true rfl) ?_
  refine r_ifeq (tgt := 10) dX9_aloneNow_4 (by decide) (fun c9 => absurd c9 (by decide)) (fun _ => ?_)
  refine r_bipush bv_m3 dX9_aloneNow_7 ?_
  exact r_iretE dX9_aloneNow_9 rfl (rfl) (rfl)
theorem sh1 : ∀ i, i < 10 → (1 : Int32) <<< (nI i &&& 31) = nI (2 ^ i) ∧ 2 ^ i < 1024 := by decide +kernel
def alF (T : Nat → Int32) (i : Nat) (a : Int32) : Int32 := a ||| (if T (2 ^ i) = 0 then 1 <<< (nI i &&& 31) else 0)
theorem c_X9_aloneNow {h h1 h2 : Hp} (T : Nat → Int32) (k : Nat) (r : Rn 5 MX9_isFaulty [.ref 31] h (EI 0 h1)) (f : Rn 0 MX9_findMade [.ref 31] h1 (EV h2)) (hT : h2.1 45 = T) (hk : h2.1 31 10 = nI k) (hk2 : k ≤ 10) : Rn 6 MX9_aloneNow [.ref 31] h (EI (lp (alF T) 0 k 0) h2) := by
  refine rn_of mm_X9_aloneNow (le_b rfl) rfl ?_
  refine r_aload0 dX9_aloneNow_0 ?_
  refine r_cV0I dX9_aloneNow_1 mm_X9_isFaulty im_X9_isFaulty se_X9_isFaulty ml_X9_207 rfl rfl rfl (r) (by decide) (Nat.le_of_ble_eq_true rfl) ?_
  refine r_ifeq (tgt := 10) dX9_aloneNow_4 (by decide) (fun _ => ?_) (fun c9 => absurd (rfl) c9)
  refine r_aload0 dX9_aloneNow_10 ?_
  refine r_cV0V dX9_aloneNow_11 mm_X9_findMade im_X9_findMade se_X9_findMade ml_X9_227 rfl rfl rfl (f) (by decide) (Nat.le_of_ble_eq_true rfl) ?_
  refine r_iconst_0 dX9_aloneNow_14 ?_
  refine r_istore1 dX9_aloneNow_15 rfl (by decide) ?_
  refine r_iconst_0 dX9_aloneNow_16 ?_
  refine r_istore2 dX9_aloneNow_17 rfl (by decide) ?_
  refine lpA (alF T) (fun i a => Aw 6 MX9_aloneNow (Kp (EI (lp (alF T) 0 k 0) h2)) 18 [some (.ref 31), some (.int a), some (.int (nI i))] [] h2) k ?_ 0 ?_
  · intro i a hi kk
    obtain ⟨s1, s2⟩ := sh1 i (by omega)
    unfold alF at kk
    refine r_iload2 dX9_aloneNow_18 ?_
    refine r_aload0 dX9_aloneNow_19 ?_
    refine r_getI dX9_aloneNow_20 fl_X9_120 rfl rfl ?_
    refine r_icmpge (tgt := 53) dX9_aloneNow_23 (by decide) (fun c9 => absurd c9 (by rw [hk]; exact nI_ge hi (by omega))) (fun _ => ?_)
    refine r_iload1 dX9_aloneNow_26 ?_
    refine r_aload0 dX9_aloneNow_27 ?_
    refine r_getR dX9_aloneNow_28 fl_X9_56 rfl rfl ?_
    refine r_iconst_1 dX9_aloneNow_31 ?_
    refine r_iload2 dX9_aloneNow_32 ?_
    refine r_ishl dX9_aloneNow_33 ?_
    rw [s1]
    refine r_zaldN dX9_aloneNow_34 rfl s2 ?_
    rw [hT]
    by_cases z : T (2 ^ i) = 0
    · rw [if_pos z] at kk
      refine r_ifeq (tgt := 42) dX9_aloneNow_35 (by decide) (fun _ => ?_) (fun c9 => absurd (z) c9)
      refine r_iconst_1 dX9_aloneNow_42 ?_
      refine r_iload2 dX9_aloneNow_43 ?_
      refine r_ishl dX9_aloneNow_44 ?_
      refine r_ior dX9_aloneNow_45 ?_
      refine r_istore1 dX9_aloneNow_46 rfl (by decide) ?_
      refine r_iinc2_1 dX9_aloneNow_47 rfl (by decide) ?_
      refine r_goto (tgt := 18) dX9_aloneNow_50 (by decide) ?_
      rw [nI_1]
      exact kk
    · rw [if_neg z] at kk
      refine r_ifeq (tgt := 42) dX9_aloneNow_35 (by decide) (fun c9 => absurd c9 (z)) (fun _ => ?_)
      refine r_iconst_0 dX9_aloneNow_38 ?_
      refine r_goto (tgt := 45) dX9_aloneNow_39 (by decide) ?_
      refine r_ior dX9_aloneNow_45 ?_
      refine r_istore1 dX9_aloneNow_46 rfl (by decide) ?_
      refine r_iinc2_1 dX9_aloneNow_47 rfl (by decide) ?_
      refine r_goto (tgt := 18) dX9_aloneNow_50 (by decide) ?_
      rw [nI_1]
      exact kk
  · refine r_iload2 dX9_aloneNow_18 ?_
    refine r_aload0 dX9_aloneNow_19 ?_
    refine r_getI dX9_aloneNow_20 fl_X9_120 rfl rfl ?_
    refine r_icmpge (tgt := 53) dX9_aloneNow_23 (by decide) (fun _ => ?_) (fun c9 => absurd (by rw [hk]; exact Int32.le_refl _) c9)
    refine r_iload1 dX9_aloneNow_53 ?_
    exact r_iretE dX9_aloneNow_54 rfl (rfl) (rfl)
theorem c_X9_alone {v : Int32} {h h1 : Hp} (r : Rn 6 MX9_aloneNow [.ref 31] h (EI v h1)) : Rn 7 MX9_alone [.ref 31] h (EI v h1) := by
  refine rn_of mm_X9_alone (le_b rfl) rfl ?_
  refine r_aload0 dX9_alone_0 ?_
  refine r_cV0I dX9_alone_1 mm_X9_aloneNow im_X9_aloneNow se_X9_aloneNow ml_X9_230 rfl rfl rfl (r) (by decide) (Nat.le_of_ble_eq_true rfl) ?_
  exact r_iretE dX9_alone_4 rfl (rfl) (rfl)
theorem and_ix {b0 : Nat} (hb : b0 < 1024) (y : Int32) : nI b0 &&& y = nI (ix (nI b0 &&& y)) := by
  rw [← ix_and]
  have e : nI b0 &&& 1023 = nI b0 := by
    rw [ix_and]
    unfold ix
    rw [pk_tn (by omega), Nat.mod_eq_of_lt hb]
  rw [Int32.and_assoc, Int32.and_comm y, ← Int32.and_assoc, e]
def fwF (T : Nat → Int32) (b : Int32) (s : Nat) (a : Int32) : Int32 := if nI s &&& (b ^^^ -1) = 0 then (if bitc a < bitc (nI s) then a else if T (ix (b &&& (nI s ^^^ -1))) = 0 then a else nI s) else a
def fwD (T : Nat → Int32) (b : Int32) : Nat → Int32 → Int32
  | 0, a => fwF T b 0 a
  | s + 1, a => fwD T b s (fwF T b (s + 1) a)
theorem c_X9_fewestNow_n {h h1 : Hp} (r : Rn 5 MX9_isFaulty [.ref 31] h (EI 1 h1)) : Rn 6 MX9_fewestNow [.ref 31] h (EI (-3) h1) := by
  refine rn_of mm_X9_fewestNow (le_b rfl) rfl ?_
  refine r_aload0 dX9_fewestNow_0 ?_
  refine r_cV0I dX9_fewestNow_1 mm_X9_isFaulty im_X9_isFaulty se_X9_isFaulty ml_X9_207 rfl rfl rfl (r) (by decide) (Nat.le_of_ble_eq_true rfl) ?_
  refine r_ifeq (tgt := 10) dX9_fewestNow_4 (by decide) (fun c9 => absurd c9 (by decide)) (fun _ => ?_)
  refine r_bipush bv_m3 dX9_fewestNow_7 ?_
  exact r_iretE dX9_fewestNow_9 rfl (rfl) (rfl)
theorem c_X9_fewestNow {h h1 h2 : Hp} (T : Nat → Int32) (b0 : Nat) (r : Rn 5 MX9_isFaulty [.ref 31] h (EI 0 h1)) (f : Rn 0 MX9_findMade [.ref 31] h1 (EV h2)) (hT : h2.1 45 = T) (hb : mBel h2 = nI b0) (hb2 : b0 < 1024) : Rn 6 MX9_fewestNow [.ref 31] h (EI (fwD T (nI b0) b0 (nI b0)) h2) := by
  have rb := c_X9_believed h2
  rw [hb] at rb
  refine rn_of mm_X9_fewestNow (le_b rfl) rfl ?_
  refine r_aload0 dX9_fewestNow_0 ?_
  refine r_cV0I dX9_fewestNow_1 mm_X9_isFaulty im_X9_isFaulty se_X9_isFaulty ml_X9_207 rfl rfl rfl (r) (by decide) (Nat.le_of_ble_eq_true rfl) ?_
  refine r_ifeq (tgt := 10) dX9_fewestNow_4 (by decide) (fun _ => ?_) (fun c9 => absurd (rfl) c9)
  refine r_aload0 dX9_fewestNow_10 ?_
  refine r_cV0V dX9_fewestNow_11 mm_X9_findMade im_X9_findMade se_X9_findMade ml_X9_227 rfl rfl rfl (f) (by decide) (Nat.le_of_ble_eq_true rfl) ?_
  refine r_aload0 dX9_fewestNow_14 ?_
  refine r_cV0I dX9_fewestNow_15 mm_X9_believed im_X9_believed se_X9_believed ml_X9_195 rfl rfl rfl (rb) (by decide) (Nat.le_of_ble_eq_true rfl) ?_
  refine r_istore1 dX9_fewestNow_18 rfl (by decide) ?_
  refine r_iload1 dX9_fewestNow_19 ?_
  refine r_istore2 dX9_fewestNow_20 rfl (by decide) ?_
  generalize hQ : fwD T (nI b0) b0 (nI b0) = Q
  have one : ∀ s a x3 P, s < 1024 → a < 1024 → (∀ x3 c, c < 1024 → fwF T (nI b0) s (nI a) = nI c → Aw 6 MX9_fewestNow P 79 [some (.ref 31), some (.int (nI c)), some (.int (nI s)), x3] [] h2) → Aw 6 MX9_fewestNow P 21 [some (.ref 31), some (.int (nI a)), some (.int (nI s)), x3] [] h2 := by
    intro s a x3 P hs ha kk
    unfold fwF at kk
    refine r_iload2 dX9_fewestNow_21 ?_
    refine r_iflt (tgt := 85) dX9_fewestNow_22 (by decide) (fun c9 => absurd c9 (nI_pos (by omega))) (fun _ => ?_)
    refine r_iload2 dX9_fewestNow_25 ?_
    refine r_aload0 dX9_fewestNow_26 ?_
    refine r_cV0I dX9_fewestNow_27 mm_X9_believed im_X9_believed se_X9_believed ml_X9_195 rfl rfl rfl (rb) (by decide) (Nat.le_of_ble_eq_true rfl) ?_
    refine r_iconst_m1 dX9_fewestNow_30 ?_
    refine r_ixor dX9_fewestNow_31 ?_
    refine r_iand dX9_fewestNow_32 ?_
    by_cases z : nI s &&& (nI b0 ^^^ -1) = 0
    · rw [if_pos z] at kk
      refine r_ifne (tgt := 40) dX9_fewestNow_33 (by decide) (fun c9 => absurd (z) c9) (fun _ => ?_)
      refine r_iconst_1 dX9_fewestNow_36 ?_
      refine r_goto (tgt := 41) dX9_fewestNow_37 (by decide) ?_
      refine r_istore3 dX9_fewestNow_41 rfl (by decide) ?_
      refine r_iload3 dX9_fewestNow_42 ?_
      refine r_ifeq (tgt := 77) dX9_fewestNow_43 (by decide) (fun c9 => absurd c9 (by decide)) (fun _ => ?_)
      refine r_iload2 dX9_fewestNow_46 ?_
      refine r_cS1I dX9_fewestNow_47 mm_X9_ones st_X9_ones ml_X9_233 (c_X9_ones s h2 hs) (by decide) (Nat.le_of_ble_eq_true rfl) ?_
      refine r_iload1 dX9_fewestNow_50 ?_
      refine r_cS1I dX9_fewestNow_51 mm_X9_ones st_X9_ones ml_X9_233 (c_X9_ones a h2 ha) (by decide) (Nat.le_of_ble_eq_true rfl) ?_
      by_cases d : bitc (nI a) < bitc (nI s)
      · rw [if_pos d] at kk
        refine r_icmpgt (tgt := 77) dX9_fewestNow_54 (by decide) (fun _ => ?_) (fun c9 => absurd (d) c9)
        refine r_iload1 dX9_fewestNow_77 ?_
        refine r_istore1 dX9_fewestNow_78 rfl (by decide) ?_
        exact kk _ a ha rfl
      · rw [if_neg d] at kk
        refine r_icmpgt (tgt := 77) dX9_fewestNow_54 (by decide) (fun c9 => absurd c9 (d)) (fun _ => ?_)
        refine r_aload0 dX9_fewestNow_57 ?_
        refine r_getR dX9_fewestNow_58 fl_X9_56 rfl rfl ?_
        refine r_aload0 dX9_fewestNow_61 ?_
        refine r_cV0I dX9_fewestNow_62 mm_X9_believed im_X9_believed se_X9_believed ml_X9_195 rfl rfl rfl (rb) (by decide) (Nat.le_of_ble_eq_true rfl) ?_
        refine r_iload2 dX9_fewestNow_65 ?_
        refine r_iconst_m1 dX9_fewestNow_66 ?_
        refine r_ixor dX9_fewestNow_67 ?_
        refine r_iand dX9_fewestNow_68 ?_
        rw [and_ix hb2]
        refine r_zaldN dX9_fewestNow_69 rfl (ix_lt _) ?_
        rw [hT]
        by_cases e : T (ix (nI b0 &&& (nI s ^^^ -1))) = 0
        · rw [if_pos e] at kk
          refine r_ifeq (tgt := 77) dX9_fewestNow_70 (by decide) (fun _ => ?_) (fun c9 => absurd (e) c9)
          refine r_iload1 dX9_fewestNow_77 ?_
          refine r_istore1 dX9_fewestNow_78 rfl (by decide) ?_
          exact kk _ a ha rfl
        · rw [if_neg e] at kk
          refine r_ifeq (tgt := 77) dX9_fewestNow_70 (by decide) (fun c9 => absurd c9 (e)) (fun _ => ?_)
          refine r_iload2 dX9_fewestNow_73 ?_
          refine r_goto (tgt := 78) dX9_fewestNow_74 (by decide) ?_
          refine r_istore1 dX9_fewestNow_78 rfl (by decide) ?_
          exact kk _ s hs rfl
    · rw [if_neg z] at kk
      refine r_ifne (tgt := 40) dX9_fewestNow_33 (by decide) (fun _ => ?_) (fun c9 => absurd c9 (z))
      refine r_iconst_0 dX9_fewestNow_40 ?_
      refine r_istore3 dX9_fewestNow_41 rfl (by decide) ?_
      refine r_iload3 dX9_fewestNow_42 ?_
      refine r_ifeq (tgt := 77) dX9_fewestNow_43 (by decide) (fun _ => ?_) (fun c9 => absurd (rfl) c9)
      refine r_iload1 dX9_fewestNow_77 ?_
      refine r_istore1 dX9_fewestNow_78 rfl (by decide) ?_
      exact kk _ a ha rfl
  have key : ∀ s a x3, s < 1024 → a < 1024 → fwD T (nI b0) s (nI a) = Q → Aw 6 MX9_fewestNow (Kp (EI Q h2)) 21 [some (.ref 31), some (.int (nI a)), some (.int (nI s)), x3] [] h2 := by
    intro s
    induction s with
    | zero =>
      intro a x3 hs ha he
      refine one 0 a x3 _ hs ha (fun x3 c hc ec => ?_)
      rw [fwD, ec] at he
      refine r_iinc2_m1 dX9_fewestNow_79 rfl (by decide) ?_
      refine r_goto (tgt := 21) dX9_fewestNow_82 (by decide) ?_
      refine r_iload2 dX9_fewestNow_21 ?_
      refine r_iflt (tgt := 85) dX9_fewestNow_22 (by decide) (fun _ => ?_) (fun c9 => absurd (by decide) c9)
      refine r_iload1 dX9_fewestNow_85 ?_
      exact r_iretE dX9_fewestNow_86 rfl (he) (rfl)
    | succ s ih =>
      intro a x3 hs ha he
      refine one (s + 1) a x3 _ hs ha (fun x3 c hc ec => ?_)
      rw [fwD, ec] at he
      refine r_iinc2_m1 dX9_fewestNow_79 rfl (by decide) ?_
      refine r_goto (tgt := 21) dX9_fewestNow_82 (by decide) ?_
      rw [pk_m1]
      exact ih c x3 (by omega) hc he
  exact key b0 b0 none hb2 hb2 hQ
theorem c_X9_fewest {v : Int32} {h h1 : Hp} (r : Rn 6 MX9_fewestNow [.ref 31] h (EI v h1)) : Rn 7 MX9_fewest [.ref 31] h (EI v h1) := by
  refine rn_of mm_X9_fewest (le_b rfl) rfl ?_
  refine r_aload0 dX9_fewest_0 ?_
  refine r_cV0I dX9_fewest_1 mm_X9_fewestNow im_X9_fewestNow se_X9_fewestNow ml_X9_236 rfl rfl rfl (r) (by decide) (Nat.le_of_ble_eq_true rfl) ?_
  exact r_iretE dX9_fewest_4 rfl (rfl) (rfl)
def quF (T : Nat → Int32) (b : Int32) (s : Nat) (a : Int32) : Int32 := if nI s &&& (b ^^^ -1) = 0 then (if T s = 0 then (if a = 0 then nI s else if bitc (nI s) < bitc a then nI s else a) else a) else a
theorem c_X9_quarrel_n {h h1 : Hp} (r : Rn 5 MX9_isFaulty [.ref 31] h (EI 1 h1)) : Rn 6 MX9_quarrel [.ref 31] h (EI (-3) h1) := by
  refine rn_of mm_X9_quarrel (le_b rfl) rfl ?_
  refine r_aload0 dX9_quarrel_0 ?_
  refine r_cV0I dX9_quarrel_1 mm_X9_isFaulty im_X9_isFaulty se_X9_isFaulty ml_X9_207 rfl rfl rfl (r) (by decide) (Nat.le_of_ble_eq_true rfl) ?_
  refine r_ifeq (tgt := 10) dX9_quarrel_4 (by decide) (fun c9 => absurd c9 (by decide)) (fun _ => ?_)
  refine r_bipush bv_m3 dX9_quarrel_7 ?_
  exact r_iretE dX9_quarrel_9 rfl (rfl) (rfl)
theorem c_X9_quarrel {h h1 h2 : Hp} (T : Nat → Int32) (r : Rn 5 MX9_isFaulty [.ref 31] h (EI 0 h1)) (f : Rn 0 MX9_findMade [.ref 31] h1 (EV h2)) (hT : h2.1 45 = T) : Rn 6 MX9_quarrel [.ref 31] h (EI (lp (quF T (mBel h2)) 1 1023 0) h2) := by
  have rb := c_X9_believed h2
  refine rn_of mm_X9_quarrel (le_b rfl) rfl ?_
  refine r_aload0 dX9_quarrel_0 ?_
  refine r_cV0I dX9_quarrel_1 mm_X9_isFaulty im_X9_isFaulty se_X9_isFaulty ml_X9_207 rfl rfl rfl (r) (by decide) (Nat.le_of_ble_eq_true rfl) ?_
  refine r_ifeq (tgt := 10) dX9_quarrel_4 (by decide) (fun _ => ?_) (fun c9 => absurd (rfl) c9)
  refine r_aload0 dX9_quarrel_10 ?_
  refine r_cV0V dX9_quarrel_11 mm_X9_findMade im_X9_findMade se_X9_findMade ml_X9_227 rfl rfl rfl (f) (by decide) (Nat.le_of_ble_eq_true rfl) ?_
  refine r_iconst_0 dX9_quarrel_14 ?_
  refine r_istore1 dX9_quarrel_15 rfl (by decide) ?_
  refine r_iconst_1 dX9_quarrel_16 ?_
  refine r_istore2 dX9_quarrel_17 rfl (by decide) ?_
  generalize hQ : lp (quF T (mBel h2)) 1 1023 0 = Q
  have key : ∀ g s a x3, s + g = 1024 → a < 1024 → lp (quF T (mBel h2)) s g (nI a) = Q → Aw 6 MX9_quarrel (Kp (EI Q h2)) 18 [some (.ref 31), some (.int (nI a)), some (.int (nI s)), x3] [] h2 := by
    intro g
    induction g with
    | zero =>
      intro s a x3 hs ha he
      have : s = 1024 := by omega
      subst this
      refine r_iload2 dX9_quarrel_18 ?_
      refine r_sipush sv_1024 dX9_quarrel_19 ?_
      refine r_icmpge (tgt := 82) dX9_quarrel_22 (by decide) (fun _ => ?_) (fun c9 => absurd (by decide) c9)
      refine r_iload1 dX9_quarrel_82 ?_
      exact r_iretE dX9_quarrel_83 rfl (he) (rfl)
    | succ g ih =>
      intro s a x3 hs ha he
      rw [lp_s, quF] at he
      have tail : ∀ c x3, c < 1024 → lp (quF T (mBel h2)) (s + 1) g (nI c) = Q → Aw 6 MX9_quarrel (Kp (EI Q h2)) 76 [some (.ref 31), some (.int (nI c)), some (.int (nI s)), x3] [] h2 := by
        intro c x3 hc e
        refine r_iinc2_1 dX9_quarrel_76 rfl (by decide) ?_
        refine r_goto (tgt := 18) dX9_quarrel_79 (by decide) ?_
        rw [nI_1]
        exact ih (s + 1) c x3 (by omega) hc e
      refine r_iload2 dX9_quarrel_18 ?_
      refine r_sipush sv_1024 dX9_quarrel_19 ?_
      refine r_icmpge (tgt := 82) dX9_quarrel_22 (by decide) (fun c9 => absurd c9 (nI_ge (b := 1024) (by omega) (by decide))) (fun _ => ?_)
      refine r_iload2 dX9_quarrel_25 ?_
      refine r_aload0 dX9_quarrel_26 ?_
      refine r_cV0I dX9_quarrel_27 mm_X9_believed im_X9_believed se_X9_believed ml_X9_195 rfl rfl rfl (rb) (by decide) (Nat.le_of_ble_eq_true rfl) ?_
      refine r_iconst_m1 dX9_quarrel_30 ?_
      refine r_ixor dX9_quarrel_31 ?_
      refine r_iand dX9_quarrel_32 ?_
      by_cases z : nI s &&& (mBel h2 ^^^ -1) = 0
      · rw [if_pos z] at he
        refine r_ifne (tgt := 49) dX9_quarrel_33 (by decide) (fun c9 => absurd (z) c9) (fun _ => ?_)
        refine r_aload0 dX9_quarrel_36 ?_
        refine r_getR dX9_quarrel_37 fl_X9_56 rfl rfl ?_
        refine r_iload2 dX9_quarrel_40 ?_
        refine r_zaldN dX9_quarrel_41 rfl (by omega : s < 1024) ?_
        rw [hT]
        by_cases t : T s = 0
        · rw [if_pos t] at he
          by_cases q : a = 0
          · subst q
            rw [if_pos (show nI 0 = 0 from rfl)] at he
            refine r_ifne (tgt := 49) dX9_quarrel_42 (by decide) (fun c9 => absurd (t) c9) (fun _ => ?_)
            refine r_iconst_1 dX9_quarrel_45 ?_
            refine r_goto (tgt := 50) dX9_quarrel_46 (by decide) ?_
            refine r_istore3 dX9_quarrel_50 rfl (by decide) ?_
            refine r_iload3 dX9_quarrel_51 ?_
            refine r_ifeq (tgt := 74) dX9_quarrel_52 (by decide) (fun c9 => absurd c9 (by decide)) (fun _ => ?_)
            refine r_iload1 dX9_quarrel_55 ?_
            refine r_ifeq (tgt := 70) dX9_quarrel_56 (by decide) (fun _ => ?_) (fun c9 => absurd (rfl) c9)
            refine r_iload2 dX9_quarrel_70 ?_
            refine r_goto (tgt := 75) dX9_quarrel_71 (by decide) ?_
            refine r_istore1 dX9_quarrel_75 rfl (by decide) ?_
            exact tail s _ (by omega) he
          · have nq : ¬ nI a = 0 := nI_ne0 (by omega) (by omega)
            rw [if_neg nq] at he
            by_cases d : bitc (nI s) < bitc (nI a)
            · rw [if_pos d] at he
              refine r_ifne (tgt := 49) dX9_quarrel_42 (by decide) (fun c9 => absurd (t) c9) (fun _ => ?_)
              refine r_iconst_1 dX9_quarrel_45 ?_
              refine r_goto (tgt := 50) dX9_quarrel_46 (by decide) ?_
              refine r_istore3 dX9_quarrel_50 rfl (by decide) ?_
              refine r_iload3 dX9_quarrel_51 ?_
              refine r_ifeq (tgt := 74) dX9_quarrel_52 (by decide) (fun c9 => absurd c9 (by decide)) (fun _ => ?_)
              refine r_iload1 dX9_quarrel_55 ?_
              refine r_ifeq (tgt := 70) dX9_quarrel_56 (by decide) (fun c9 => absurd c9 (nq)) (fun _ => ?_)
              refine r_iload2 dX9_quarrel_59 ?_
              refine r_cS1I dX9_quarrel_60 mm_X9_ones st_X9_ones ml_X9_233 (c_X9_ones s h2 (by omega)) (by decide) (Nat.le_of_ble_eq_true rfl) ?_
              refine r_iload1 dX9_quarrel_63 ?_
              refine r_cS1I dX9_quarrel_64 mm_X9_ones st_X9_ones ml_X9_233 (c_X9_ones a h2 ha) (by decide) (Nat.le_of_ble_eq_true rfl) ?_
              refine r_icmpge (tgt := 74) dX9_quarrel_67 (by decide) (fun c9 => absurd c9 (Int32.not_le.mpr d)) (fun _ => ?_)
              refine r_iload2 dX9_quarrel_70 ?_
              refine r_goto (tgt := 75) dX9_quarrel_71 (by decide) ?_
              refine r_istore1 dX9_quarrel_75 rfl (by decide) ?_
              exact tail s _ (by omega) he
            · rw [if_neg d] at he
              refine r_ifne (tgt := 49) dX9_quarrel_42 (by decide) (fun c9 => absurd (t) c9) (fun _ => ?_)
              refine r_iconst_1 dX9_quarrel_45 ?_
              refine r_goto (tgt := 50) dX9_quarrel_46 (by decide) ?_
              refine r_istore3 dX9_quarrel_50 rfl (by decide) ?_
              refine r_iload3 dX9_quarrel_51 ?_
              refine r_ifeq (tgt := 74) dX9_quarrel_52 (by decide) (fun c9 => absurd c9 (by decide)) (fun _ => ?_)
              refine r_iload1 dX9_quarrel_55 ?_
              refine r_ifeq (tgt := 70) dX9_quarrel_56 (by decide) (fun c9 => absurd c9 (nq)) (fun _ => ?_)
              refine r_iload2 dX9_quarrel_59 ?_
              refine r_cS1I dX9_quarrel_60 mm_X9_ones st_X9_ones ml_X9_233 (c_X9_ones s h2 (by omega)) (by decide) (Nat.le_of_ble_eq_true rfl) ?_
              refine r_iload1 dX9_quarrel_63 ?_
              refine r_cS1I dX9_quarrel_64 mm_X9_ones st_X9_ones ml_X9_233 (c_X9_ones a h2 ha) (by decide) (Nat.le_of_ble_eq_true rfl) ?_
              refine r_icmpge (tgt := 74) dX9_quarrel_67 (by decide) (fun _ => ?_) (fun c9 => absurd (Int32.not_lt.mp d) c9)
              refine r_iload1 dX9_quarrel_74 ?_
              refine r_istore1 dX9_quarrel_75 rfl (by decide) ?_
              exact tail a _ ha he
        · rw [if_neg t] at he
          refine r_ifne (tgt := 49) dX9_quarrel_42 (by decide) (fun _ => ?_) (fun c9 => absurd c9 (t))
          refine r_iconst_0 dX9_quarrel_49 ?_
          refine r_istore3 dX9_quarrel_50 rfl (by decide) ?_
          refine r_iload3 dX9_quarrel_51 ?_
          refine r_ifeq (tgt := 74) dX9_quarrel_52 (by decide) (fun _ => ?_) (fun c9 => absurd (rfl) c9)
          refine r_iload1 dX9_quarrel_74 ?_
          refine r_istore1 dX9_quarrel_75 rfl (by decide) ?_
          exact tail a _ ha he
      · rw [if_neg z] at he
        refine r_ifne (tgt := 49) dX9_quarrel_33 (by decide) (fun _ => ?_) (fun c9 => absurd c9 (z))
        refine r_iconst_0 dX9_quarrel_49 ?_
        refine r_istore3 dX9_quarrel_50 rfl (by decide) ?_
        refine r_iload3 dX9_quarrel_51 ?_
        refine r_ifeq (tgt := 74) dX9_quarrel_52 (by decide) (fun _ => ?_) (fun c9 => absurd (rfl) c9)
        refine r_iload1 dX9_quarrel_74 ?_
        refine r_istore1 dX9_quarrel_75 rfl (by decide) ?_
        exact tail a _ ha he
  exact key 1023 1 0 none (by omega) (by decide) hQ
