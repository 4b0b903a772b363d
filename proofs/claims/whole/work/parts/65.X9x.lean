/-! the reference: bound, put -/
theorem c_X9_bound_bad (m e : Int32) (h : Hp) (hb : m < -1 ∨ 6 < m ∨ e < 0 ∨ 1 < e) : Rn 1 MX9_bound [.ref 31, .int m, .int e] h (EI (-2) h) := by
  refine rn_of mm_X9_bound (le_b rfl) rfl ?_
  by_cases c : m < -1 ∨ 6 < m
  · refine r_iload1 dX9_bound_0 ?_
    refine r_i2l dX9_bound_1 ?_
    refine r_ldc2 ct_X9_222 dX9_bound_2 ?_
    refine r_ldc2 ct_X9_99 dX9_bound_5 ?_
    refine r_cS3I dX9_bound_8 mm_X9_in st_X9_in ml_X9_74 (c_inI_n (lo := -1) (hi := 6) h (by decide) (by decide) c) (by decide) (Nat.le_of_ble_eq_true rfl) ?_
    refine r_ifeq (tgt := 24) dX9_bound_11 (by decide) (fun _ => ?_) (fun c9 => absurd (rfl) c9)
    refine r_bipush bv_m2 dX9_bound_24 ?_
    exact r_iretE dX9_bound_26 rfl (rfl) (rfl)
  · have c2 : e < 0 ∨ 1 < e := by
      rcases hb with q | q | q
      · exact absurd (Or.inl q) c
      · exact absurd (Or.inr q) c
      · exact q
    refine r_iload1 dX9_bound_0 ?_
    refine r_i2l dX9_bound_1 ?_
    refine r_ldc2 ct_X9_222 dX9_bound_2 ?_
    refine r_ldc2 ct_X9_99 dX9_bound_5 ?_
    refine r_cS3I dX9_bound_8 mm_X9_in st_X9_in ml_X9_74 (c_inI_y (lo := -1) (hi := 6) h (by decide) (by decide) (fun q => c (Or.inl q)) (fun q => c (Or.inr q))) (by decide) (Nat.le_of_ble_eq_true rfl) ?_
    refine r_ifeq (tgt := 24) dX9_bound_11 (by decide) (fun c9 => absurd c9 (by decide)) (fun _ => ?_)
    refine r_iload2 dX9_bound_14 ?_
    refine r_i2l dX9_bound_15 ?_
    refine r_lconst_0 dX9_bound_16 ?_
    refine r_lconst_1 dX9_bound_17 ?_
    refine r_cS3I dX9_bound_18 mm_X9_in st_X9_in ml_X9_74 (c_inI_n (lo := 0) (hi := 1) h (by decide) (by decide) c2) (by decide) (Nat.le_of_ble_eq_true rfl) ?_
    refine r_ifne (tgt := 27) dX9_bound_21 (by decide) (fun c9 => absurd (rfl) c9) (fun _ => ?_)
    refine r_bipush bv_m2 dX9_bound_24 ?_
    exact r_iretE dX9_bound_26 rfl (rfl) (rfl)
theorem o2i_in {o : Option Nat} (ho : ∀ j, o = some j → j < 7) : ¬ o2i o < -1 ∧ ¬ 6 < o2i o := by
  cases o with
  | none => exact ⟨by decide, by decide⟩
  | some d =>
    have := ho d rfl
    refine ⟨fun q => ?_, nI_nlt (a := 6) (by omega) (by decide)⟩
    have q := (fa_lt _ _).mp q
    have e : (-1 : Int32).toInt = -1 := by decide
    have e2 : (o2i (some d)).toInt = (d : Int) := nI_toInt (by omega)
    omega
theorem b2i_in (g : Bool) : ¬ b2i g < 0 ∧ ¬ 1 < b2i g := by
  cases g
  · exact ⟨by decide, by decide⟩
  · exact ⟨by decide, by decide⟩
theorem c_X9_bound_n {h h1 : Hp} (o : Option Nat) (g : Bool) (ho : ∀ j, o = some j → j < 7) (r : Rn 5 MX9_isFaulty [.ref 31] h (EI 1 h1)) : Rn 6 MX9_bound [.ref 31, .int (o2i o), .int (b2i g)] h (EI (-3) h1) := by
  have i1 := o2i_in ho
  have i2 := b2i_in g
  refine rn_of mm_X9_bound (le_b rfl) rfl ?_
  refine r_iload1 dX9_bound_0 ?_
  refine r_i2l dX9_bound_1 ?_
  refine r_ldc2 ct_X9_222 dX9_bound_2 ?_
  refine r_ldc2 ct_X9_99 dX9_bound_5 ?_
  refine r_cS3I dX9_bound_8 mm_X9_in st_X9_in ml_X9_74 (c_inI_y (lo := -1) (hi := 6) h (by decide) (by decide) i1.1 i1.2) (by decide) (Nat.le_of_ble_eq_true rfl) ?_
  refine r_ifeq (tgt := 24) dX9_bound_11 (by decide) (fun c9 => absurd c9 (by decide)) (fun _ => ?_)
  refine r_iload2 dX9_bound_14 ?_
  refine r_i2l dX9_bound_15 ?_
  refine r_lconst_0 dX9_bound_16 ?_
  refine r_lconst_1 dX9_bound_17 ?_
  refine r_cS3I dX9_bound_18 mm_X9_in st_X9_in ml_X9_74 (c_inI_y (lo := 0) (hi := 1) h (by decide) (by decide) i2.1 i2.2) (by decide) (Nat.le_of_ble_eq_true rfl) ?_
  refine r_ifne (tgt := 27) dX9_bound_21 (by decide) (fun _ => ?_) (fun c9 => absurd c9 (by decide))
  refine r_aload0 dX9_bound_27 ?_
  refine r_cV0I dX9_bound_28 mm_X9_isFaulty im_X9_isFaulty se_X9_isFaulty ml_X9_207 rfl rfl rfl (r) (by decide) (Nat.le_of_ble_eq_true rfl) ?_
  refine r_ifeq (tgt := 37) dX9_bound_31 (by decide) (fun c9 => absurd c9 (by decide)) (fun _ => ?_)
  refine r_bipush bv_m3 dX9_bound_34 ?_
  exact r_iretE dX9_bound_36 rfl (rfl) (rfl)
theorem c_X9_bound {h h1 : Hp} (m : Nat) (Nf : Nat → Nat) (o : Option Nat) (g : Bool) (ho : ∀ j, o = some j → j < 7) (r : Rn 5 MX9_isFaulty [.ref 31] h (EI 0 h1)) (hm : h1.1 31 20 = nI m) (hm2 : m ≤ 5005) (hN : ∀ k, k < m → h1.1 43 k = nI (Nf k) ∧ Nf k < 10000000) : Rn 6 MX9_bound [.ref 31, .int (o2i o), .int (b2i g)] h (EI (fOM (h1.1 44) Nf (mBel h1) o g m) h1) := by
  have i1 := o2i_in ho
  have i2 := b2i_in g
  refine rn_of mm_X9_bound (le_b rfl) rfl ?_
  refine r_iload1 dX9_bound_0 ?_
  refine r_i2l dX9_bound_1 ?_
  refine r_ldc2 ct_X9_222 dX9_bound_2 ?_
  refine r_ldc2 ct_X9_99 dX9_bound_5 ?_
  refine r_cS3I dX9_bound_8 mm_X9_in st_X9_in ml_X9_74 (c_inI_y (lo := -1) (hi := 6) h (by decide) (by decide) i1.1 i1.2) (by decide) (Nat.le_of_ble_eq_true rfl) ?_
  refine r_ifeq (tgt := 24) dX9_bound_11 (by decide) (fun c9 => absurd c9 (by decide)) (fun _ => ?_)
  refine r_iload2 dX9_bound_14 ?_
  refine r_i2l dX9_bound_15 ?_
  refine r_lconst_0 dX9_bound_16 ?_
  refine r_lconst_1 dX9_bound_17 ?_
  refine r_cS3I dX9_bound_18 mm_X9_in st_X9_in ml_X9_74 (c_inI_y (lo := 0) (hi := 1) h (by decide) (by decide) i2.1 i2.2) (by decide) (Nat.le_of_ble_eq_true rfl) ?_
  refine r_ifne (tgt := 27) dX9_bound_21 (by decide) (fun _ => ?_) (fun c9 => absurd c9 (by decide))
  refine r_aload0 dX9_bound_27 ?_
  refine r_cV0I dX9_bound_28 mm_X9_isFaulty im_X9_isFaulty se_X9_isFaulty ml_X9_207 rfl rfl rfl (r) (by decide) (Nat.le_of_ble_eq_true rfl) ?_
  refine r_ifeq (tgt := 37) dX9_bound_31 (by decide) (fun _ => ?_) (fun c9 => absurd (rfl) c9)
  refine r_iconst_m1 dX9_bound_37 ?_
  refine r_istore3 dX9_bound_38 rfl (by decide) ?_
  refine r_iconst_0 dX9_bound_39 ?_
  refine r_istore4 dX9_bound_40 rfl (by decide) ?_
  refine lpA (omF (h1.1 44) Nf (mBel h1) o g) (fun k a => ∀ x5 x6, Aw 6 MX9_bound (Kp (EI (fOM (h1.1 44) Nf (mBel h1) o g m) h1)) 42 [some (.ref 31), some (.int (o2i o)), some (.int (b2i g)), some (.int a), some (.int (nI k)), x5, x6] [] h1) m ?_ (-1) ?_ _ _
  · intro k a hk kk x5 x6
    have rc := c_X9_canBe k h1 (by omega)
    obtain ⟨n1, n2⟩ := hN k hk
    unfold omF at kk
    by_cases e : cbe (h1.1 44 k) (mBel h1) = true
    · rw [if_pos e] at kk
      rw [e] at rc
      refine r_iload4 dX9_bound_42 ?_
      refine r_aload0 dX9_bound_44 ?_
      refine r_getI dX9_bound_45 fl_X9_183 rfl rfl ?_
      refine r_icmpge (tgt := 122) dX9_bound_48 (by decide) (fun c9 => absurd c9 (by rw [hm]; exact nI_ge hk (by omega))) (fun _ => ?_)
      refine r_aload0 dX9_bound_51 ?_
      refine r_iload4 dX9_bound_52 ?_
      refine r_cV1I dX9_bound_54 mm_X9_canBe im_X9_canBe se_X9_canBe ml_X9_210 rfl rfl rfl (rc) (by decide) (Nat.le_of_ble_eq_true rfl) ?_
      refine r_ifeq (tgt := 116) dX9_bound_57 (by decide) (fun c9 => absurd c9 ((by decide : ¬ (1 : Int32) = 0))) (fun _ => ?_)
      refine r_aload0 dX9_bound_60 ?_
      refine r_getR dX9_bound_61 fl_X9_50 rfl rfl ?_
      refine r_iload4 dX9_bound_64 ?_
      refine r_ialdN dX9_bound_66 rfl (by omega) ?_
      rw [n1]
      refine r_iload1 dX9_bound_67 ?_
      refine r_cS2I dX9_bound_68 mm_X9_toldOf st_X9_toldOf ml_X9_224 (c_X9_toldOf (Nf k) o h1 (by omega) ho) (by decide) (Nat.le_of_ble_eq_true rfl) ?_
      refine r_istore5 dX9_bound_71 rfl (by decide) ?_
      generalize thr (Nf k) o = w at *
      have yes : (∀ x5 x6, Aw 6 MX9_bound (Kp (EI (fOM (h1.1 44) Nf (mBel h1) o g m) h1)) 42 [some (.ref 31), some (.int (o2i o)), some (.int (b2i g)), some (.int w), some (.int (nI (k + 1))), x5, x6] [] h1) → Aw 6 MX9_bound (Kp (EI (fOM (h1.1 44) Nf (mBel h1) o g m) h1)) 97 [some (.ref 31), some (.int (o2i o)), some (.int (b2i g)), some (.int a), some (.int (nI k)), some (.int w), x6] [] h1 := by
        intro k3
        refine r_iconst_1 dX9_bound_97 ?_
        refine r_goto (tgt := 102) dX9_bound_98 (by decide) ?_
        refine r_istore6 dX9_bound_102 rfl (by decide) ?_
        refine r_iload6 dX9_bound_104 ?_
        refine r_ifeq (tgt := 114) dX9_bound_106 (by decide) (fun c9 => absurd c9 (by decide)) (fun _ => ?_)
        refine r_iload5 dX9_bound_109 ?_
        refine r_goto (tgt := 115) dX9_bound_111 (by decide) ?_
        refine r_istore3 dX9_bound_115 rfl (by decide) ?_
        refine r_iinc4_1 dX9_bound_116 rfl (by decide) ?_
        refine r_goto (tgt := 42) dX9_bound_119 (by decide) ?_
        rw [nI_1]
        exact k3 _ _
      have no : (∀ x5 x6, Aw 6 MX9_bound (Kp (EI (fOM (h1.1 44) Nf (mBel h1) o g m) h1)) 42 [some (.ref 31), some (.int (o2i o)), some (.int (b2i g)), some (.int a), some (.int (nI (k + 1))), x5, x6] [] h1) → Aw 6 MX9_bound (Kp (EI (fOM (h1.1 44) Nf (mBel h1) o g m) h1)) 101 [some (.ref 31), some (.int (o2i o)), some (.int (b2i g)), some (.int a), some (.int (nI k)), some (.int w), x6] [] h1 := by
        intro k3
        refine r_iconst_0 dX9_bound_101 ?_
        refine r_istore6 dX9_bound_102 rfl (by decide) ?_
        refine r_iload6 dX9_bound_104 ?_
        refine r_ifeq (tgt := 114) dX9_bound_106 (by decide) (fun _ => ?_) (fun c9 => absurd (rfl) c9)
        refine r_iload3 dX9_bound_114 ?_
        refine r_istore3 dX9_bound_115 rfl (by decide) ?_
        refine r_iinc4_1 dX9_bound_116 rfl (by decide) ?_
        refine r_goto (tgt := 42) dX9_bound_119 (by decide) ?_
        rw [nI_1]
        exact k3 _ _
      by_cases z : a = -1
      · rw [if_pos z] at kk
        refine r_iload3 dX9_bound_73 ?_
        refine r_iconst_m1 dX9_bound_74 ?_
        refine r_icmpeq (tgt := 97) dX9_bound_75 (by decide) (fun _ => ?_) (fun c9 => absurd (z) c9)
        exact yes kk
      · rw [if_neg z] at kk
        cases g
        · rw [if_neg (by decide)] at kk
          by_cases d : a ≤ w
          · rw [if_pos d] at kk
            refine r_iload3 dX9_bound_73 ?_
            refine r_iconst_m1 dX9_bound_74 ?_
            refine r_icmpeq (tgt := 97) dX9_bound_75 (by decide) (fun c9 => absurd c9 (z)) (fun _ => ?_)
            refine r_iload2 dX9_bound_78 ?_
            refine r_ifne (tgt := 91) dX9_bound_79 (by decide) (fun c9 => absurd (rfl) c9) (fun _ => ?_)
            refine r_iload5 dX9_bound_82 ?_
            refine r_iload3 dX9_bound_84 ?_
            refine r_icmpge (tgt := 101) dX9_bound_85 (by decide) (fun _ => ?_) (fun c9 => absurd (d) c9)
            exact no kk
          · rw [if_neg d] at kk
            refine r_iload3 dX9_bound_73 ?_
            refine r_iconst_m1 dX9_bound_74 ?_
            refine r_icmpeq (tgt := 97) dX9_bound_75 (by decide) (fun c9 => absurd c9 (z)) (fun _ => ?_)
            refine r_iload2 dX9_bound_78 ?_
            refine r_ifne (tgt := 91) dX9_bound_79 (by decide) (fun c9 => absurd (rfl) c9) (fun _ => ?_)
            refine r_iload5 dX9_bound_82 ?_
            refine r_iload3 dX9_bound_84 ?_
            refine r_icmpge (tgt := 101) dX9_bound_85 (by decide) (fun c9 => absurd c9 (d)) (fun _ => ?_)
            refine r_goto (tgt := 97) dX9_bound_88 (by decide) ?_
            exact yes kk
        · rw [if_pos rfl] at kk
          by_cases d : w ≤ a
          · rw [if_pos d] at kk
            refine r_iload3 dX9_bound_73 ?_
            refine r_iconst_m1 dX9_bound_74 ?_
            refine r_icmpeq (tgt := 97) dX9_bound_75 (by decide) (fun c9 => absurd c9 (z)) (fun _ => ?_)
            refine r_iload2 dX9_bound_78 ?_
            refine r_ifne (tgt := 91) dX9_bound_79 (by decide) (fun _ => ?_) (fun c9 => absurd c9 ((by decide : ¬ (1 : Int32) = 0)))
            refine r_iload5 dX9_bound_91 ?_
            refine r_iload3 dX9_bound_93 ?_
            refine r_icmple (tgt := 101) dX9_bound_94 (by decide) (fun _ => ?_) (fun c9 => absurd (d) c9)
            exact no kk
          · rw [if_neg d] at kk
            refine r_iload3 dX9_bound_73 ?_
            refine r_iconst_m1 dX9_bound_74 ?_
            refine r_icmpeq (tgt := 97) dX9_bound_75 (by decide) (fun c9 => absurd c9 (z)) (fun _ => ?_)
            refine r_iload2 dX9_bound_78 ?_
            refine r_ifne (tgt := 91) dX9_bound_79 (by decide) (fun _ => ?_) (fun c9 => absurd c9 ((by decide : ¬ (1 : Int32) = 0)))
            refine r_iload5 dX9_bound_91 ?_
            refine r_iload3 dX9_bound_93 ?_
            refine r_icmple (tgt := 101) dX9_bound_94 (by decide) (fun c9 => absurd c9 (d)) (fun _ => ?_)
            exact yes kk
    · rw [if_neg e] at kk
      rw [show cbe (h1.1 44 k) (mBel h1) = false from Bool.eq_false_iff.mpr e] at rc
      refine r_iload4 dX9_bound_42 ?_
      refine r_aload0 dX9_bound_44 ?_
      refine r_getI dX9_bound_45 fl_X9_183 rfl rfl ?_
      refine r_icmpge (tgt := 122) dX9_bound_48 (by decide) (fun c9 => absurd c9 (by rw [hm]; exact nI_ge hk (by omega))) (fun _ => ?_)
      refine r_aload0 dX9_bound_51 ?_
      refine r_iload4 dX9_bound_52 ?_
      refine r_cV1I dX9_bound_54 mm_X9_canBe im_X9_canBe se_X9_canBe ml_X9_210 rfl rfl rfl (rc) (by decide) (Nat.le_of_ble_eq_true rfl) ?_
      refine r_ifeq (tgt := 116) dX9_bound_57 (by decide) (fun _ => ?_) (fun c9 => absurd (rfl) c9)
      refine r_iinc4_1 dX9_bound_116 rfl (by decide) ?_
      refine r_goto (tgt := 42) dX9_bound_119 (by decide) ?_
      rw [nI_1]
      exact kk _ _
  · intro x5 x6
    refine r_iload4 dX9_bound_42 ?_
    refine r_aload0 dX9_bound_44 ?_
    refine r_getI dX9_bound_45 fl_X9_183 rfl rfl ?_
    refine r_icmpge (tgt := 122) dX9_bound_48 (by decide) (fun _ => ?_) (fun c9 => absurd (by rw [hm]; exact Int32.le_refl _) c9)
    refine r_iload3 dX9_bound_122 ?_
    exact r_iretE dX9_bound_123 rfl (rfl) (rfl)
def hiF (N t : Nat) : Nat → Bool
  | 0 => false
  | k + 1 => hiF N t k || (decide (t < k) && decide (0 < dgt N k))
theorem c_X9_put_bad (r : Int32) (h : Hp) (hb : r < 0 ∨ 9999999 < r) : Rn 1 MX9_put [.ref 31, .int r] h (EI (-2) h) := by
  refine rn_of mm_X9_put (le_b rfl) rfl ?_
  refine r_iload1 dX9_put_0 ?_
  refine r_i2l dX9_put_1 ?_
  refine r_lconst_0 dX9_put_2 ?_
  refine r_ldc2 ct_X9_201 dX9_put_3 ?_
  refine r_cS3I dX9_put_6 mm_X9_in st_X9_in ml_X9_74 (c_inI_n (lo := 0) (hi := 9999999) h (by decide) (by decide) hb) (by decide) (Nat.le_of_ble_eq_true rfl) ?_
  refine r_ifne (tgt := 15) dX9_put_9 (by decide) (fun c9 => absurd (rfl) c9) (fun _ => ?_)
  refine r_bipush bv_m2 dX9_put_12 ?_
  exact r_iretE dX9_put_14 rfl (rfl) (rfl)
theorem put_loop (N t : Nat) (h : Hp) (K : KQT) (hN : N ≤ 9999999) (h6 : h.1 31 6 = nI t) (ht : t ≤ 6) (kk : Aw 6 MX9_put K 72 [some (.ref 31), some (.int (nI N)), some (.int (nI (sg (dgt N) 7))), some (.int (b2i (hiF N t 7))), some (.int (nI 7))] [] h) : Aw 6 MX9_put K 0 [some (.ref 31), some (.int (nI N)), none, none, none] [] h := by
  refine r_iload1 dX9_put_0 ?_
  refine r_i2l dX9_put_1 ?_
  refine r_lconst_0 dX9_put_2 ?_
  refine r_ldc2 ct_X9_201 dX9_put_3 ?_
  refine r_cS3I dX9_put_6 mm_X9_in st_X9_in ml_X9_74 (c_inI_y (lo := 0) (hi := 9999999) h (by decide) (by decide) (nI_pos (by omega)) (nI_nlt (a := 9999999) hN (by decide))) (by decide) (Nat.le_of_ble_eq_true rfl) ?_
  refine r_ifne (tgt := 15) dX9_put_9 (by decide) (fun _ => ?_) (fun c9 => absurd c9 (by decide))
  refine r_iconst_0 dX9_put_15 ?_
  refine r_istore2 dX9_put_16 rfl (by decide) ?_
  refine r_iconst_0 dX9_put_17 ?_
  refine r_istore3 dX9_put_18 rfl (by decide) ?_
  refine r_iconst_0 dX9_put_19 ?_
  refine r_istore4 dX9_put_20 rfl (by decide) ?_
  have key : ∀ f k, k + f = 7 → Aw 6 MX9_put K 22 [some (.ref 31), some (.int (nI N)), some (.int (nI (sg (dgt N) k))), some (.int (b2i (hiF N t k))), some (.int (nI k))] [] h := by
    intro f
    induction f with
    | zero =>
      intro k hk
      have : k = 7 := by omega
      subst this
      refine r_iload4 dX9_put_22 ?_
      refine r_bipush bv_7 dX9_put_24 ?_
      refine r_icmpge (tgt := 72) dX9_put_26 (by decide) (fun _ => ?_) (fun c9 => absurd (by decide) c9)
      exact kk
    | succ f ih =>
      intro k hk
      have ih := ih (k + 1) (by omega)
      have hd := dgt_lt N k
      rw [sg_s, hiF] at ih
      have rp := c_X9_part N k h (by omega) (by omega)
      refine r_iload4 dX9_put_22 ?_
      refine r_bipush bv_7 dX9_put_24 ?_
      refine r_icmpge (tgt := 72) dX9_put_26 (by decide) (fun c9 => absurd c9 (nI_ge (b := 7) (by omega) (by decide))) (fun _ => ?_)
      refine r_iload2 dX9_put_29 ?_
      refine r_iload1 dX9_put_30 ?_
      refine r_iload4 dX9_put_31 ?_
      refine r_cS2I dX9_put_33 mm_X9_part st_X9_part ml_X9_180 (rp) (by decide) (Nat.le_of_ble_eq_true rfl) ?_
      refine r_iadd dX9_put_36 ?_
      rw [nI_add]
      cases e : hiF N t k
      · rw [e, Bool.false_or] at ih
        by_cases c : t < k
        · rw [decide_eq_true c, Bool.true_and] at ih
          by_cases d : 0 < dgt N k
          · rw [decide_eq_true d] at ih
            refine r_istore2 dX9_put_37 rfl (by decide) ?_
            refine r_iload3 dX9_put_38 ?_
            refine r_ifne (tgt := 60) dX9_put_39 (by decide) (fun c9 => absurd (rfl) c9) (fun _ => ?_)
            refine r_iload4 dX9_put_42 ?_
            refine r_aload0 dX9_put_44 ?_
            refine r_getI dX9_put_45 fl_X9_26 rfl rfl ?_
            rw [h6]
            refine r_icmple (tgt := 64) dX9_put_48 (by decide) (fun c9 => absurd c9 (nI_ge c (by omega))) (fun _ => ?_)
            refine r_iload1 dX9_put_51 ?_
            refine r_iload4 dX9_put_52 ?_
            refine r_cS2I dX9_put_54 mm_X9_part st_X9_part ml_X9_180 (rp) (by decide) (Nat.le_of_ble_eq_true rfl) ?_
            refine r_ifle (tgt := 64) dX9_put_57 (by decide) (fun c9 => absurd c9 (nI_nle d (by omega))) (fun _ => ?_)
            refine r_iconst_1 dX9_put_60 ?_
            refine r_goto (tgt := 65) dX9_put_61 (by decide) ?_
            refine r_istore3 dX9_put_65 rfl (by decide) ?_
            refine r_iinc4_1 dX9_put_66 rfl (by decide) ?_
            refine r_goto (tgt := 22) dX9_put_69 (by decide) ?_
            rw [nI_1]
            exact ih
          · rw [decide_eq_false d] at ih
            refine r_istore2 dX9_put_37 rfl (by decide) ?_
            refine r_iload3 dX9_put_38 ?_
            refine r_ifne (tgt := 60) dX9_put_39 (by decide) (fun c9 => absurd (rfl) c9) (fun _ => ?_)
            refine r_iload4 dX9_put_42 ?_
            refine r_aload0 dX9_put_44 ?_
            refine r_getI dX9_put_45 fl_X9_26 rfl rfl ?_
            rw [h6]
            refine r_icmple (tgt := 64) dX9_put_48 (by decide) (fun c9 => absurd c9 (nI_ge c (by omega))) (fun _ => ?_)
            refine r_iload1 dX9_put_51 ?_
            refine r_iload4 dX9_put_52 ?_
            refine r_cS2I dX9_put_54 mm_X9_part st_X9_part ml_X9_180 (rp) (by decide) (Nat.le_of_ble_eq_true rfl) ?_
            refine r_ifle (tgt := 64) dX9_put_57 (by decide) (fun _ => ?_) (fun c9 => absurd (by rw [show dgt N k = 0 by omega]; decide) c9)
            refine r_iconst_0 dX9_put_64 ?_
            refine r_istore3 dX9_put_65 rfl (by decide) ?_
            refine r_iinc4_1 dX9_put_66 rfl (by decide) ?_
            refine r_goto (tgt := 22) dX9_put_69 (by decide) ?_
            rw [nI_1]
            exact ih
        · rw [decide_eq_false c, Bool.false_and] at ih
          refine r_istore2 dX9_put_37 rfl (by decide) ?_
          refine r_iload3 dX9_put_38 ?_
          refine r_ifne (tgt := 60) dX9_put_39 (by decide) (fun c9 => absurd (rfl) c9) (fun _ => ?_)
          refine r_iload4 dX9_put_42 ?_
          refine r_aload0 dX9_put_44 ?_
          refine r_getI dX9_put_45 fl_X9_26 rfl rfl ?_
          rw [h6]
          refine r_icmple (tgt := 64) dX9_put_48 (by decide) (fun _ => ?_) (fun c9 => absurd (nI_le (by omega) (by omega)) c9)
          refine r_iconst_0 dX9_put_64 ?_
          refine r_istore3 dX9_put_65 rfl (by decide) ?_
          refine r_iinc4_1 dX9_put_66 rfl (by decide) ?_
          refine r_goto (tgt := 22) dX9_put_69 (by decide) ?_
          rw [nI_1]
          exact ih
      · rw [e, Bool.true_or] at ih
        refine r_istore2 dX9_put_37 rfl (by decide) ?_
        refine r_iload3 dX9_put_38 ?_
        refine r_ifne (tgt := 60) dX9_put_39 (by decide) (fun _ => ?_) (fun c9 => absurd c9 ((by decide : ¬ (1 : Int32) = 0)))
        refine r_iconst_1 dX9_put_60 ?_
        refine r_goto (tgt := 65) dX9_put_61 (by decide) ?_
        refine r_istore3 dX9_put_65 rfl (by decide) ?_
        refine r_iinc4_1 dX9_put_66 rfl (by decide) ?_
        refine r_goto (tgt := 22) dX9_put_69 (by decide) ?_
        rw [nI_1]
        exact ih
  exact key 7 0 rfl
theorem c_X9_put_bad2 (N n t : Nat) (h : Hp) (hN : N ≤ 9999999) (h5 : h.1 31 5 = nI n) (hn : n ≤ 9) (h6 : h.1 31 6 = nI t) (ht : t ≤ 6) (hb : ¬ sg (dgt N) 7 = n ∨ hiF N t 7 = true) : Rn 6 MX9_put [.ref 31, .int (nI N)] h (EI (-2) h) := by
  have sl := sg_le N
  refine rn_of mm_X9_put (le_b rfl) rfl ?_
  refine put_loop N t h _ hN h6 ht ?_
  refine r_iload2 dX9_put_72 ?_
  refine r_aload0 dX9_put_73 ?_
  refine r_getI dX9_put_74 fl_X9_22 rfl rfl ?_
  rw [h5]
  by_cases c : sg (dgt N) 7 = n
  · rw [hb.resolve_left (fun q => q c)]
    refine r_icmpne (tgt := 84) dX9_put_77 (by decide) (fun c9 => absurd (by rw [c]) c9) (fun _ => ?_)
    refine r_iload3 dX9_put_80 ?_
    refine r_ifeq (tgt := 87) dX9_put_81 (by decide) (fun c9 => absurd c9 ((by decide : ¬ (1 : Int32) = 0))) (fun _ => ?_)
    refine r_bipush bv_m2 dX9_put_84 ?_
    exact r_iretE dX9_put_86 rfl (rfl) (rfl)
  · refine r_icmpne (tgt := 84) dX9_put_77 (by decide) (fun _ => ?_) (fun c9 => absurd c9 (fun q => c ((nI_eq (by omega) (by omega)).mp q)))
    refine r_bipush bv_m2 dX9_put_84 ?_
    exact r_iretE dX9_put_86 rfl (rfl) (rfl)
theorem c_X9_put_not {v : Int32} {h h1 : Hp} (N n t : Nat) (hN : N ≤ 9999999) (h5 : h.1 31 5 = nI n) (h6 : h.1 31 6 = nI t) (ht : t ≤ 6) (hs : sg (dgt N) 7 = n) (hg : hiF N t 7 = false) (r : Rn 4 MX9_reads [.ref 31] h (EI v h1)) (hv : ¬ v = -1) : Rn 6 MX9_put [.ref 31, .int (nI N)] h (EI (-3) h1) := by
  refine rn_of mm_X9_put (le_b rfl) rfl ?_
  refine put_loop N t h _ hN h6 ht ?_
  refine r_iload2 dX9_put_72 ?_
  refine r_aload0 dX9_put_73 ?_
  refine r_getI dX9_put_74 fl_X9_22 rfl rfl ?_
  rw [h5, hg, hs]
  refine r_icmpne (tgt := 84) dX9_put_77 (by decide) (fun c9 => absurd (rfl) c9) (fun _ => ?_)
  refine r_iload3 dX9_put_80 ?_
  refine r_ifeq (tgt := 87) dX9_put_81 (by decide) (fun _ => ?_) (fun c9 => absurd (rfl) c9)
  refine r_aload0 dX9_put_87 ?_
  refine r_cV0I dX9_put_88 mm_X9_reads im_X9_reads se_X9_reads ml_X9_147 rfl rfl rfl (r) (by decide) (Nat.le_of_ble_eq_true rfl) ?_
  refine r_iconst_m1 dX9_put_91 ?_
  refine r_icmpeq (tgt := 98) dX9_put_92 (by decide) (fun c9 => absurd c9 (hv)) (fun _ => ?_)
  refine r_bipush bv_m3 dX9_put_95 ?_
  exact r_iretE dX9_put_97 rfl (rfl) (rfl)
theorem c_X9_put {h h1 : Hp} (N n t kc : Nat) (Kd Mk Nb Bh : Nat → Nat) (hN : N ≤ 9999999) (h5 : h.1 31 5 = nI n) (hn : 1 ≤ n) (hn9 : n ≤ 9) (h6 : h.1 31 6 = nI t) (ht : t ≤ 6) (hs : sg (dgt N) 7 = n) (hg : hiF N t 7 = false) (r : Rn 4 MX9_reads [.ref 31] h (EI (-1) h1)) (h15 : h1.1 31 5 = nI n) (hcl : MCL h1 kc Kd Mk Nb Bh) : Rn 6 MX9_put [.ref 31, .int (nI N)] h (EI (hbM (dgt N) n Kd Mk Nb Bh (h1.1 41) kc) (spH h1 N 7)) := by
  refine rn_of mm_X9_put (le_b rfl) rfl ?_
  refine put_loop N t h _ hN h6 ht ?_
  have ne : ∀ q j, q ≠ 42 → (spH h1 N 7).1 q j = h1.1 q j := fun q j hq => by unfold spH; rw [pA_g, if_neg hq]
  have hC : MC (spH h1 N 7) (dgt N) := fun j hj => by unfold spH; rw [pA_g, if_pos rfl, if_pos hj]
  have hb := c_X9_holdBits (dgt N) n kc Kd Mk Nb Bh (spH h1 N 7) hC hn hn9 (by rw [ne _ _ (by decide), h15]) hs (clm_ne (fun q j hq => ne q j (by omega)) hcl)
  have e41 : (spH h1 N 7).1 41 = h1.1 41 := by funext j; exact ne 41 j (by decide)
  rw [e41] at hb
  refine r_iload2 dX9_put_72 ?_
  refine r_aload0 dX9_put_73 ?_
  refine r_getI dX9_put_74 fl_X9_22 rfl rfl ?_
  rw [h5, hg, hs]
  refine r_icmpne (tgt := 84) dX9_put_77 (by decide) (fun c9 => absurd (rfl) c9) (fun _ => ?_)
  refine r_iload3 dX9_put_80 ?_
  refine r_ifeq (tgt := 87) dX9_put_81 (by decide) (fun _ => ?_) (fun c9 => absurd (rfl) c9)
  refine r_aload0 dX9_put_87 ?_
  refine r_cV0I dX9_put_88 mm_X9_reads im_X9_reads se_X9_reads ml_X9_147 rfl rfl rfl (r) (by decide) (Nat.le_of_ble_eq_true rfl) ?_
  refine r_iconst_m1 dX9_put_91 ?_
  refine r_icmpeq (tgt := 98) dX9_put_92 (by decide) (fun _ => ?_) (fun c9 => absurd (rfl) c9)
  refine r_aload0 dX9_put_98 ?_
  refine r_iload1 dX9_put_99 ?_
  refine r_cV1V dX9_put_100 mm_X9_spreads im_X9_spreads se_X9_spreads ml_X9_203 rfl rfl rfl (c_X9_spreads N h1 (by omega)) (by decide) (Nat.le_of_ble_eq_true rfl) ?_
  refine r_aload0 dX9_put_103 ?_
  refine r_cV0I dX9_put_104 mm_X9_holdBits im_X9_holdBits se_X9_holdBits ml_X9_189 rfl rfl rfl (hb) (by decide) (Nat.le_of_ble_eq_true rfl) ?_
  exact r_iretE dX9_put_107 rfl (rfl) (rfl)
