/-! the reference: ask, write, count, digest -/
theorem c_X9_askNow_few {h h1 : Hp} (A : Int32) (r : Rn 6 MX9_canNow [.ref 31] h (EI A h1)) (hA : A < 2) : Rn 7 MX9_askNow [.ref 31] h (EI (if A < 0 then A else -1) h1) := by
  refine rn_of mm_X9_askNow (le_b rfl) rfl ?_
  by_cases c : A < 0
  · rw [if_pos c]
    refine r_aload0 dX9_askNow_0 ?_
    refine r_cV0I dX9_askNow_1 mm_X9_canNow im_X9_canNow se_X9_canNow ml_X9_213 rfl rfl rfl (r) (by decide) (Nat.le_of_ble_eq_true rfl) ?_
    refine r_istore1 dX9_askNow_4 rfl (by decide) ?_
    refine r_iload1 dX9_askNow_5 ?_
    refine r_iconst_2 dX9_askNow_6 ?_
    refine r_icmpge (tgt := 20) dX9_askNow_7 (by decide) (fun c9 => absurd c9 (Int32.not_le.mpr hA)) (fun _ => ?_)
    refine r_iload1 dX9_askNow_10 ?_
    refine r_ifge (tgt := 18) dX9_askNow_11 (by decide) (fun c9 => absurd c9 (fun q => absurd c (Int32.not_lt.mpr q))) (fun _ => ?_)
    refine r_iload1 dX9_askNow_14 ?_
    refine r_goto (tgt := 19) dX9_askNow_15 (by decide) ?_
    exact r_iretE dX9_askNow_19 rfl (rfl) (rfl)
  · rw [if_neg c]
    refine r_aload0 dX9_askNow_0 ?_
    refine r_cV0I dX9_askNow_1 mm_X9_canNow im_X9_canNow se_X9_canNow ml_X9_213 rfl rfl rfl (r) (by decide) (Nat.le_of_ble_eq_true rfl) ?_
    refine r_istore1 dX9_askNow_4 rfl (by decide) ?_
    refine r_iload1 dX9_askNow_5 ?_
    refine r_iconst_2 dX9_askNow_6 ?_
    refine r_icmpge (tgt := 20) dX9_askNow_7 (by decide) (fun c9 => absurd c9 (Int32.not_le.mpr hA)) (fun _ => ?_)
    refine r_iload1 dX9_askNow_10 ?_
    refine r_ifge (tgt := 18) dX9_askNow_11 (by decide) (fun _ => ?_) (fun c9 => absurd (Int32.not_lt.mp c) c9)
    refine r_iconst_m1 dX9_askNow_18 ?_
    exact r_iretE dX9_askNow_19 rfl (rfl) (rfl)
abbrev AK : Type := (Nat → Int32) × Int32
def akF (H : Nat → Int32) (Nf : Nat → Nat) (b : Int32) (mk r : Nat) (st : AK) : AK := if cbe (H r) b then (upd st.1 (dgt (Nf r) mk) (st.1 (dgt (Nf r) mk) + 1), if st.1 (dgt (Nf r) mk) + 1 ≤ st.2 then st.2 else st.1 (dgt (Nf r) mk) + 1) else st
def z10 (z : Nat → Int32) (k : Nat) : Nat → Int32 := fun j => if j < k then 0 else z j
theorem z10_0 (z : Nat → Int32) : z10 z 0 = z := by
  funext j
  exact if_neg (Nat.not_lt_zero j)
theorem z10_s (z : Nat → Int32) (i : Nat) : upd (z10 z i) i 0 = z10 z (i + 1) := by
  funext y
  unfold upd z10
  by_cases c : y = i
  · subst c; rw [if_pos rfl, if_pos (show y < y + 1 by omega)]
  · rw [if_neg c]
    by_cases d : y < i
    · rw [if_pos d, if_pos (show y < i + 1 by omega)]
    · rw [if_neg d, if_neg (show ¬ y < i + 1 by omega)]
def akM (H : Nat → Int32) (Nf : Nat → Nat) (b : Int32) (mk m : Nat) (z : Nat → Int32) : AK := lp (akF H Nf b mk) 0 m (z10 z 10, 0)
abbrev AO : Type := Int32 × Int32 × (Nat → Int32)
def akO (H : Nat → Int32) (Nf : Nat → Nat) (b : Int32) (m mk : Nat) (st : AO) : AO := if st.1 = -1 then (nI mk, (akM H Nf b mk m st.2.2).2, (akM H Nf b mk m st.2.2).1) else if (akM H Nf b mk m st.2.2).2 < st.2.1 then (nI mk, (akM H Nf b mk m st.2.2).2, (akM H Nf b mk m st.2.2).1) else (st.1, st.2.1, (akM H Nf b mk m st.2.2).1)
def akR (H : Nat → Int32) (Nf : Nat → Nat) (b : Int32) (m : Nat) (z : Nat → Int32) : AO := lp (akO H Nf b m) 0 7 (-1, 0, z)
theorem mBel_pA (h : Hp) {p : Nat} (f : Nat → Int32) (hp : p ≠ 31) : mBel (pA h p f) = mBel h := by
  unfold mBel
  rw [pA_g, if_neg (fun q => hp q.symm), pA_g, if_neg (fun q => hp q.symm)]
theorem c_X9_askNow {h h1 : Hp} (A : Int32) (m : Nat) (Nf : Nat → Nat) (r : Rn 6 MX9_canNow [.ref 31] h (EI A h1)) (hA : ¬ A < 2) (hm : h1.1 31 20 = nI m) (hm2 : m ≤ 5005) (hN : ∀ k, k < m → h1.1 43 k = nI (Nf k) ∧ Nf k < 10000000) : Rn 7 MX9_askNow [.ref 31] h (EI (akR (h1.1 44) Nf (mBel h1) m (h1.1 46)).1 (pA h1 46 (akR (h1.1 44) Nf (mBel h1) m (h1.1 46)).2.2)) := by
  have ne : ∀ T q k, q ≠ 46 → (pA h1 46 T).1 q k = h1.1 q k := fun T q k hq => by rw [pA_g, if_neg hq]
  have at46 : ∀ T k, (pA h1 46 T).1 46 k = T k := fun T k => by rw [pA_g, if_pos rfl]
  refine rn_of mm_X9_askNow (le_b rfl) rfl ?_
  refine r_aload0 dX9_askNow_0 ?_
  refine r_cV0I dX9_askNow_1 mm_X9_canNow im_X9_canNow se_X9_canNow ml_X9_213 rfl rfl rfl (r) (by decide) (Nat.le_of_ble_eq_true rfl) ?_
  refine r_istore1 dX9_askNow_4 rfl (by decide) ?_
  refine r_iload1 dX9_askNow_5 ?_
  refine r_iconst_2 dX9_askNow_6 ?_
  refine r_icmpge (tgt := 20) dX9_askNow_7 (by decide) (fun _ => ?_) (fun c9 => absurd (Int32.not_lt.mp hA) c9)
  refine r_iconst_m1 dX9_askNow_20 ?_
  refine r_istore2 dX9_askNow_21 rfl (by decide) ?_
  refine r_iconst_0 dX9_askNow_22 ?_
  refine r_istore3 dX9_askNow_23 rfl (by decide) ?_
  refine r_iconst_0 dX9_askNow_24 ?_
  refine r_istore4 dX9_askNow_25 rfl (by decide) ?_
  generalize hQ : akR (h1.1 44) Nf (mBel h1) m (h1.1 46) = Q
  have e0 : pA h1 46 (h1.1 46) = h1 := by
    refine hp_ext (fun q j => ?_) (fun q j => rfl)
    rw [pA_g]
    by_cases e : q = 46
    · subst e; rw [if_pos rfl]
    · rw [if_neg e]
  have k0 : ∀ x5 x6 x7, Aw 7 MX9_askNow (Kp (EI Q.1 (pA h1 46 Q.2.2))) 27 [some (.ref 31), some (.int A), some (.int (-1)), some (.int 0), some (.int (nI 0)), x5, x6, x7] [] (pA h1 46 (h1.1 46)) := by
    refine lpA (akO (h1.1 44) Nf (mBel h1) m) (fun mk st => ∀ x5 x6 x7, Aw 7 MX9_askNow (Kp (EI Q.1 (pA h1 46 Q.2.2))) 27 [some (.ref 31), some (.int A), some (.int st.1), some (.int st.2.1), some (.int (nI mk)), x5, x6, x7] [] (pA h1 46 st.2.2)) 7 ?_ (-1, 0, h1.1 46) ?_
    · intro mk st hk kk x5 x6 x7
      refine r_iload4 dX9_askNow_27 ?_
      refine r_bipush bv_7 dX9_askNow_29 ?_
      refine r_icmpge (tgt := 162) dX9_askNow_31 (by decide) (fun c9 => absurd c9 (nI_ge (b := 7) hk (by decide))) (fun _ => ?_)
      refine r_iconst_0 dX9_askNow_34 ?_
      refine r_istore5 dX9_askNow_35 rfl (by decide) ?_
      have fin : ∀ x6 x7, Aw 7 MX9_askNow (Kp (EI Q.1 (pA h1 46 Q.2.2))) 139 [some (.ref 31), some (.int A), some (.int st.1), some (.int st.2.1), some (.int (nI mk)), some (.int (akM (h1.1 44) Nf (mBel h1) mk m st.2.2).2), x6, x7] [] (pA h1 46 (akM (h1.1 44) Nf (mBel h1) mk m st.2.2).1) := by
        intro x6 x7
        unfold akO at kk
        by_cases z : st.1 = -1
        · rw [if_pos z] at kk
          refine r_iload2 dX9_askNow_139 ?_
          refine r_iconst_m1 dX9_askNow_140 ?_
          refine r_icmpeq (tgt := 150) dX9_askNow_141 (by decide) (fun _ => ?_) (fun c9 => absurd (z) c9)
          refine r_iload4 dX9_askNow_150 ?_
          refine r_istore2 dX9_askNow_152 rfl (by decide) ?_
          refine r_iload5 dX9_askNow_153 ?_
          refine r_istore3 dX9_askNow_155 rfl (by decide) ?_
          refine r_iinc4_1 dX9_askNow_156 rfl (by decide) ?_
          refine r_goto (tgt := 27) dX9_askNow_159 (by decide) ?_
          rw [nI_1]
          exact kk _ _ _
        · rw [if_neg z] at kk
          by_cases d : (akM (h1.1 44) Nf (mBel h1) mk m st.2.2).2 < st.2.1
          · rw [if_pos d] at kk
            refine r_iload2 dX9_askNow_139 ?_
            refine r_iconst_m1 dX9_askNow_140 ?_
            refine r_icmpeq (tgt := 150) dX9_askNow_141 (by decide) (fun c9 => absurd c9 (z)) (fun _ => ?_)
            refine r_iload5 dX9_askNow_144 ?_
            refine r_iload3 dX9_askNow_146 ?_
            refine r_icmpge (tgt := 156) dX9_askNow_147 (by decide) (fun c9 => absurd c9 (Int32.not_le.mpr d)) (fun _ => ?_)
            refine r_iload4 dX9_askNow_150 ?_
            refine r_istore2 dX9_askNow_152 rfl (by decide) ?_
            refine r_iload5 dX9_askNow_153 ?_
            refine r_istore3 dX9_askNow_155 rfl (by decide) ?_
            refine r_iinc4_1 dX9_askNow_156 rfl (by decide) ?_
            refine r_goto (tgt := 27) dX9_askNow_159 (by decide) ?_
            rw [nI_1]
            exact kk _ _ _
          · rw [if_neg d] at kk
            refine r_iload2 dX9_askNow_139 ?_
            refine r_iconst_m1 dX9_askNow_140 ?_
            refine r_icmpeq (tgt := 150) dX9_askNow_141 (by decide) (fun c9 => absurd c9 (z)) (fun _ => ?_)
            refine r_iload5 dX9_askNow_144 ?_
            refine r_iload3 dX9_askNow_146 ?_
            refine r_icmpge (tgt := 156) dX9_askNow_147 (by decide) (fun _ => ?_) (fun c9 => absurd (Int32.not_lt.mp d) c9)
            refine r_iinc4_1 dX9_askNow_156 rfl (by decide) ?_
            refine r_goto (tgt := 27) dX9_askNow_159 (by decide) ?_
            rw [nI_1]
            exact kk _ _ _
      have rws : ∀ x6 x7, Aw 7 MX9_askNow (Kp (EI Q.1 (pA h1 46 Q.2.2))) 58 [some (.ref 31), some (.int A), some (.int st.1), some (.int st.2.1), some (.int (nI mk)), some (.int (nI 10)), x6, x7] [] (pA h1 46 (z10 st.2.2 10)) := by
        intro x6 x7
        refine r_iconst_0 dX9_askNow_58 ?_
        refine r_istore5 dX9_askNow_59 rfl (by decide) ?_
        refine r_iconst_0 dX9_askNow_61 ?_
        refine r_istore6 dX9_askNow_62 rfl (by decide) ?_
        refine lpA (akF (h1.1 44) Nf (mBel h1) mk) (fun k s => ∀ x7, Aw 7 MX9_askNow (Kp (EI Q.1 (pA h1 46 Q.2.2))) 64 [some (.ref 31), some (.int A), some (.int st.1), some (.int st.2.1), some (.int (nI mk)), some (.int s.2), some (.int (nI k)), x7] [] (pA h1 46 s.1)) m ?_ (z10 st.2.2 10, 0) ?_ _
        · intro k s hk k2 x7
          have rc := c_X9_canBe k (pA h1 46 s.1) (by omega)
          rw [mBel_pA h1 _ (by decide), ne _ 44 k (by decide)] at rc
          obtain ⟨n1, n2⟩ := hN k hk
          have hd := dgt_lt (Nf k) mk
          unfold akF at k2
          by_cases e : cbe (h1.1 44 k) (mBel h1) = true
          · rw [if_pos e] at k2
            rw [e] at rc
            refine r_iload6 dX9_askNow_64 ?_
            refine r_aload0 dX9_askNow_66 ?_
            refine r_getI dX9_askNow_67 fl_X9_183 rfl rfl ?_
            refine r_icmpge (tgt := 139) dX9_askNow_70 (by decide) (fun c9 => absurd c9 (by rw [ne _ 31 20 (by decide), hm]; exact nI_ge hk (by omega))) (fun _ => ?_)
            refine r_aload0 dX9_askNow_73 ?_
            refine r_iload6 dX9_askNow_74 ?_
            refine r_cV1I dX9_askNow_76 mm_X9_canBe im_X9_canBe se_X9_canBe ml_X9_210 rfl rfl rfl (rc) (by decide) (Nat.le_of_ble_eq_true rfl) ?_
            refine r_ifeq (tgt := 133) dX9_askNow_79 (by decide) (fun c9 => absurd c9 ((by decide : ¬ (1 : Int32) = 0))) (fun _ => ?_)
            refine r_aload0 dX9_askNow_82 ?_
            refine r_getR dX9_askNow_83 fl_X9_50 rfl rfl ?_
            refine r_iload6 dX9_askNow_86 ?_
            refine r_ialdN dX9_askNow_88 rfl (by omega) ?_
            rw [ne _ 43 k (by decide), n1]
            refine r_iload4 dX9_askNow_89 ?_
            refine r_cS2I dX9_askNow_91 mm_X9_part st_X9_part ml_X9_180 (c_X9_part (Nf k) mk _ (by omega) (by omega)) (by decide) (Nat.le_of_ble_eq_true rfl) ?_
            refine r_istore7 dX9_askNow_94 rfl (by decide) ?_
            refine r_aload0 dX9_askNow_96 ?_
            refine r_getR dX9_askNow_97 fl_X9_60 rfl rfl ?_
            refine r_iload7 dX9_askNow_100 ?_
            refine r_dup2 rfl rfl dX9_askNow_102 ?_
            refine r_ialdN dX9_askNow_103 rfl hd ?_
            rw [at46]
            refine r_iconst_1 dX9_askNow_104 ?_
            refine r_iadd dX9_askNow_105 ?_
            refine r_iastN dX9_askNow_106 rfl hd ?_
            rw [pI_pA]
            have eu : upd s.1 (dgt (Nf k) mk) (s.1 (dgt (Nf k) mk) + 1) (dgt (Nf k) mk) = s.1 (dgt (Nf k) mk) + 1 := if_pos rfl
            refine r_aload0 dX9_askNow_107 ?_
            refine r_getR dX9_askNow_108 fl_X9_60 rfl rfl ?_
            refine r_iload7 dX9_askNow_111 ?_
            refine r_ialdN dX9_askNow_113 rfl hd ?_
            rw [at46, eu]
            by_cases d : s.1 (dgt (Nf k) mk) + 1 ≤ s.2
            · rw [if_pos d] at k2
              refine r_iload5 dX9_askNow_114 ?_
              refine r_icmple (tgt := 129) dX9_askNow_116 (by decide) (fun _ => ?_) (fun c9 => absurd (d) c9)
              refine r_iload5 dX9_askNow_129 ?_
              refine r_istore5 dX9_askNow_131 rfl (by decide) ?_
              refine r_iinc6_1 dX9_askNow_133 rfl (by decide) ?_
              refine r_goto (tgt := 64) dX9_askNow_136 (by decide) ?_
              rw [nI_1]
              exact k2 _
            · rw [if_neg d] at k2
              refine r_iload5 dX9_askNow_114 ?_
              refine r_icmple (tgt := 129) dX9_askNow_116 (by decide) (fun c9 => absurd c9 (d)) (fun _ => ?_)
              refine r_aload0 dX9_askNow_119 ?_
              refine r_getR dX9_askNow_120 fl_X9_60 rfl rfl ?_
              refine r_iload7 dX9_askNow_123 ?_
              refine r_ialdN dX9_askNow_125 rfl hd ?_
              rw [at46, eu]
              refine r_goto (tgt := 131) dX9_askNow_126 (by decide) ?_
              refine r_istore5 dX9_askNow_131 rfl (by decide) ?_
              refine r_iinc6_1 dX9_askNow_133 rfl (by decide) ?_
              refine r_goto (tgt := 64) dX9_askNow_136 (by decide) ?_
              rw [nI_1]
              exact k2 _
          · rw [if_neg e] at k2
            rw [show cbe (h1.1 44 k) (mBel h1) = false from Bool.eq_false_iff.mpr e] at rc
            refine r_iload6 dX9_askNow_64 ?_
            refine r_aload0 dX9_askNow_66 ?_
            refine r_getI dX9_askNow_67 fl_X9_183 rfl rfl ?_
            refine r_icmpge (tgt := 139) dX9_askNow_70 (by decide) (fun c9 => absurd c9 (by rw [ne _ 31 20 (by decide), hm]; exact nI_ge hk (by omega))) (fun _ => ?_)
            refine r_aload0 dX9_askNow_73 ?_
            refine r_iload6 dX9_askNow_74 ?_
            refine r_cV1I dX9_askNow_76 mm_X9_canBe im_X9_canBe se_X9_canBe ml_X9_210 rfl rfl rfl (rc) (by decide) (Nat.le_of_ble_eq_true rfl) ?_
            refine r_ifeq (tgt := 133) dX9_askNow_79 (by decide) (fun _ => ?_) (fun c9 => absurd (rfl) c9)
            refine r_iinc6_1 dX9_askNow_133 rfl (by decide) ?_
            refine r_goto (tgt := 64) dX9_askNow_136 (by decide) ?_
            rw [nI_1]
            exact k2 _
        · intro x7
          refine r_iload6 dX9_askNow_64 ?_
          refine r_aload0 dX9_askNow_66 ?_
          refine r_getI dX9_askNow_67 fl_X9_183 rfl rfl ?_
          refine r_icmpge (tgt := 139) dX9_askNow_70 (by decide) (fun _ => ?_) (fun c9 => absurd (by rw [ne _ 31 20 (by decide), hm]; exact Int32.le_refl _) c9)
          exact fin _ _
      have clr : ∀ f i, i + f = 10 → Aw 7 MX9_askNow (Kp (EI Q.1 (pA h1 46 Q.2.2))) 37 [some (.ref 31), some (.int A), some (.int st.1), some (.int st.2.1), some (.int (nI mk)), some (.int (nI i)), x6, x7] [] (pA h1 46 (z10 st.2.2 i)) := by
        intro f
        induction f with
        | zero =>
          intro i hi
          have : i = 10 := by omega
          subst this
          refine r_iload5 dX9_askNow_37 ?_
          refine r_bipush bv_10 dX9_askNow_39 ?_
          refine r_icmpge (tgt := 58) dX9_askNow_41 (by decide) (fun _ => ?_) (fun c9 => absurd (by decide) c9)
          exact rws _ _
        | succ f ih =>
          intro i hi
          refine r_iload5 dX9_askNow_37 ?_
          refine r_bipush bv_10 dX9_askNow_39 ?_
          refine r_icmpge (tgt := 58) dX9_askNow_41 (by decide) (fun c9 => absurd c9 (nI_ge (b := 10) (by omega) (by decide))) (fun _ => ?_)
          refine r_aload0 dX9_askNow_44 ?_
          refine r_getR dX9_askNow_45 fl_X9_60 rfl rfl ?_
          refine r_iload5 dX9_askNow_48 ?_
          refine r_iconst_0 dX9_askNow_50 ?_
          refine r_iastN dX9_askNow_51 rfl (by omega) ?_
          rw [pI_pA, z10_s]
          refine r_iinc5_1 dX9_askNow_52 rfl (by decide) ?_
          refine r_goto (tgt := 37) dX9_askNow_55 (by decide) ?_
          rw [nI_1]
          exact ih (i + 1) (by omega)
      have c0 := clr 10 0 rfl
      rw [z10_0] at c0
      exact c0
    · intro x5 x6 x7
      have e : lp (akO (h1.1 44) Nf (mBel h1) m) 0 7 (-1, 0, h1.1 46) = Q := hQ
      rw [e]
      refine r_iload4 dX9_askNow_27 ?_
      refine r_bipush bv_7 dX9_askNow_29 ?_
      refine r_icmpge (tgt := 162) dX9_askNow_31 (by decide) (fun _ => ?_) (fun c9 => absurd (by decide) c9)
      refine r_iload2 dX9_askNow_162 ?_
      exact r_iretE dX9_askNow_163 rfl (rfl) (rfl)
  rw [e0] at k0
  exact k0 none none none
theorem c_X9_ask {v : Int32} {h h1 : Hp} (r : Rn 7 MX9_askNow [.ref 31] h (EI v h1)) : Rn 8 MX9_ask [.ref 31] h (EI v h1) := by
  refine rn_of mm_X9_ask (le_b rfl) rfl ?_
  refine r_aload0 dX9_ask_0 ?_
  refine r_cV0I dX9_ask_1 mm_X9_askNow im_X9_askNow se_X9_askNow ml_X9_239 rfl rfl rfl (r) (by decide) (Nat.le_of_ble_eq_true rfl) ?_
  exact r_iretE dX9_ask_4 rfl (rfl) (rfl)
theorem c_X9_write_bad (s : Int32) (h : Hp) (hb : ¬ okS s) : Rn 2 MX9_write [.ref 31, .int s] h (EI (-2) h) := by
  refine rn_of mm_X9_write (le_b rfl) rfl ?_
  refine r_iload1 dX9_write_0 ?_
  refine r_cS1I dX9_write_1 mm_X9_isSheet st_X9_isSheet ml_X9_78 (c_mS_n h hb) (by decide) (Nat.le_of_ble_eq_true rfl) ?_
  refine r_ifne (tgt := 10) dX9_write_4 (by decide) (fun c9 => absurd (rfl) c9) (fun _ => ?_)
  refine r_bipush bv_m2 dX9_write_7 ?_
  exact r_iretE dX9_write_9 rfl (rfl) (rfl)
theorem c_X9_write_null (j : Nat) (h : Hp) (hj : j < 4) (hl : h.1 32 j < 0) : Rn 2 MX9_write [.ref 31, .int (nI j)] h (EI (-11) (pI h 31 4 1)) := by
  refine rn_of mm_X9_write (le_b rfl) rfl ?_
  refine r_iload1 dX9_write_0 ?_
  refine r_cS1I dX9_write_1 mm_X9_isSheet st_X9_isSheet ml_X9_78 (c_mS_y h (okj hj)) (by decide) (Nat.le_of_ble_eq_true rfl) ?_
  refine r_ifne (tgt := 10) dX9_write_4 (by decide) (fun _ => ?_) (fun c9 => absurd c9 (by decide))
  refine r_aload0 dX9_write_10 ?_
  refine r_getR dX9_write_11 fl_X9_7 rfl rfl ?_
  refine r_iload1 dX9_write_14 ?_
  refine r_ialdN dX9_write_15 rfl hj ?_
  refine r_ifge (tgt := 25) dX9_write_16 (by decide) (fun c9 => absurd c9 (fun q => absurd hl (Int32.not_lt.mpr q))) (fun _ => ?_)
  refine r_aload0 dX9_write_19 ?_
  refine r_iconst_1 dX9_write_20 ?_
  refine r_cV1I dX9_write_21 mm_X9_met im_X9_met se_X9_met ml_X9_84 rfl rfl rfl (c_X9_met 1 h) (by decide) (Nat.le_of_ble_eq_true rfl) ?_
  exact r_iretE dX9_write_24 rfl (rfl) (rfl)
theorem c_X9_write_not {h h1 : Hp} (j : Nat) (hj : j < 4) (hl : ¬ h.1 32 j < 0) (r : Rn 5 MX9_isFaulty [.ref 31] h (EI 1 h1)) : Rn 6 MX9_write [.ref 31, .int (nI j)] h (EI (-3) h1) := by
  refine rn_of mm_X9_write (le_b rfl) rfl ?_
  refine r_iload1 dX9_write_0 ?_
  refine r_cS1I dX9_write_1 mm_X9_isSheet st_X9_isSheet ml_X9_78 (c_mS_y h (okj hj)) (by decide) (Nat.le_of_ble_eq_true rfl) ?_
  refine r_ifne (tgt := 10) dX9_write_4 (by decide) (fun _ => ?_) (fun c9 => absurd c9 (by decide))
  refine r_aload0 dX9_write_10 ?_
  refine r_getR dX9_write_11 fl_X9_7 rfl rfl ?_
  refine r_iload1 dX9_write_14 ?_
  refine r_ialdN dX9_write_15 rfl hj ?_
  refine r_ifge (tgt := 25) dX9_write_16 (by decide) (fun _ => ?_) (fun c9 => absurd (Int32.not_lt.mp hl) c9)
  refine r_aload0 dX9_write_25 ?_
  refine r_cV0I dX9_write_26 mm_X9_isFaulty im_X9_isFaulty se_X9_isFaulty ml_X9_207 rfl rfl rfl (r) (by decide) (Nat.le_of_ble_eq_true rfl) ?_
  refine r_ifeq (tgt := 35) dX9_write_29 (by decide) (fun c9 => absurd c9 (by decide)) (fun _ => ?_)
  refine r_bipush bv_m3 dX9_write_32 ?_
  exact r_iretE dX9_write_34 rfl (rfl) (rfl)
def mwR (H Nb : Nat → Int32) (b f : Int32) (j z : Nat) : Nat → Nat → Nat → (Nat → Int32) → Nat × (Nat → Int32)
  | 0, _, k, A => (k, A)
  | g + 1, r, k, A => if k < z then (if cbe (H r) b then mwR H Nb b f j z g (r + 1) (k + 1) (upd A (60 * j + k) (cutF f (Nb r))) else mwR H Nb b f j z g (r + 1) k A) else (k, A)
theorem c_X9_write {h h1 : Hp} (j m : Nat) (hj : j < 4) (hl : ¬ h.1 32 j < 0) (r : Rn 5 MX9_isFaulty [.ref 31] h (EI 0 h1)) (hm : h1.1 31 20 = nI m) (hm2 : m ≤ 5005) (hS : MS4 h1) : Rn 6 MX9_write [.ref 31, .int (nI j)] h (EI (nI (mwR (h1.1 44) (h1.1 43) (mBel h1) (h1.1 32 j) j (mz h1 j) m 0 0 (h1.1 34)).1) (pA h1 34 (mwR (h1.1 44) (h1.1 43) (mBel h1) (h1.1 32 j) j (mz h1 j) m 0 0 (h1.1 34)).2)) := by
  obtain ⟨z1, z2⟩ := hS j hj
  have ne : ∀ T q k, q ≠ 34 → (pA h1 34 T).1 q k = h1.1 q k := fun T q k hq => by rw [pA_g, if_neg hq]
  refine rn_of mm_X9_write (le_b rfl) rfl ?_
  refine r_iload1 dX9_write_0 ?_
  refine r_cS1I dX9_write_1 mm_X9_isSheet st_X9_isSheet ml_X9_78 (c_mS_y h (okj hj)) (by decide) (Nat.le_of_ble_eq_true rfl) ?_
  refine r_ifne (tgt := 10) dX9_write_4 (by decide) (fun _ => ?_) (fun c9 => absurd c9 (by decide))
  refine r_aload0 dX9_write_10 ?_
  refine r_getR dX9_write_11 fl_X9_7 rfl rfl ?_
  refine r_iload1 dX9_write_14 ?_
  refine r_ialdN dX9_write_15 rfl hj ?_
  refine r_ifge (tgt := 25) dX9_write_16 (by decide) (fun _ => ?_) (fun c9 => absurd (Int32.not_lt.mp hl) c9)
  refine r_aload0 dX9_write_25 ?_
  refine r_cV0I dX9_write_26 mm_X9_isFaulty im_X9_isFaulty se_X9_isFaulty ml_X9_207 rfl rfl rfl (r) (by decide) (Nat.le_of_ble_eq_true rfl) ?_
  refine r_ifeq (tgt := 35) dX9_write_29 (by decide) (fun _ => ?_) (fun c9 => absurd (rfl) c9)
  refine r_iconst_0 dX9_write_35 ?_
  refine r_istore2 dX9_write_36 rfl (by decide) ?_
  refine r_iconst_0 dX9_write_37 ?_
  refine r_istore3 dX9_write_38 rfl (by decide) ?_
  generalize hQ : mwR (h1.1 44) (h1.1 43) (mBel h1) (h1.1 32 j) j (mz h1 j) m 0 0 (h1.1 34) = Q
  have key : ∀ g r k A, r + g = m → k ≤ mz h1 j → mwR (h1.1 44) (h1.1 43) (mBel h1) (h1.1 32 j) j (mz h1 j) g r k A = Q → Aw 6 MX9_write (Kp (EI (nI Q.1) (pA h1 34 Q.2))) 39 [some (.ref 31), some (.int (nI j)), some (.int (nI k)), some (.int (nI r))] [] (pA h1 34 A) := by
    intro g
    induction g with
    | zero =>
      intro r k A hr hk he
      have he : (k, A) = Q := he
      subst he
      have : r = m := by omega
      subst this
      refine r_iload3 dX9_write_39 ?_
      refine r_aload0 dX9_write_40 ?_
      refine r_getI dX9_write_41 fl_X9_183 rfl rfl ?_
      refine r_icmpge (tgt := 100) dX9_write_44 (by decide) (fun _ => ?_) (fun c9 => absurd (by rw [ne _ 31 20 (by decide), hm]; exact Int32.le_refl _) c9)
      refine r_iload2 dX9_write_100 ?_
      exact r_iretE dX9_write_101 rfl (rfl) (rfl)
    | succ g ih =>
      intro r k A hr hk he
      rw [mwR] at he
      by_cases c : k < mz h1 j
      · rw [if_pos c] at he
        have rc := c_X9_canBe r (pA h1 34 A) (by omega)
        rw [mBel_pA h1 _ (by decide), ne _ 44 r (by decide)] at rc
        by_cases e : cbe (h1.1 44 r) (mBel h1) = true
        · rw [if_pos e] at he
          rw [e] at rc
          refine r_iload3 dX9_write_39 ?_
          refine r_aload0 dX9_write_40 ?_
          refine r_getI dX9_write_41 fl_X9_183 rfl rfl ?_
          refine r_icmpge (tgt := 100) dX9_write_44 (by decide) (fun c9 => absurd c9 (by rw [ne _ 31 20 (by decide), hm]; exact nI_ge (by omega) (by omega))) (fun _ => ?_)
          refine r_iload2 dX9_write_47 ?_
          refine r_aload0 dX9_write_48 ?_
          refine r_getR dX9_write_49 fl_X9_13 rfl rfl ?_
          refine r_iload1 dX9_write_52 ?_
          refine r_ialdN dX9_write_53 rfl hj ?_
          refine r_icmpge (tgt := 100) dX9_write_54 (by decide) (fun c9 => absurd c9 (by rw [ne _ 33 j (by decide), z1]; exact nI_ge c (by omega))) (fun _ => ?_)
          refine r_aload0 dX9_write_57 ?_
          refine r_iload3 dX9_write_58 ?_
          refine r_cV1I dX9_write_59 mm_X9_canBe im_X9_canBe se_X9_canBe ml_X9_210 rfl rfl rfl (rc) (by decide) (Nat.le_of_ble_eq_true rfl) ?_
          refine r_ifeq (tgt := 94) dX9_write_62 (by decide) (fun c9 => absurd c9 ((by decide : ¬ (1 : Int32) = 0))) (fun _ => ?_)
          refine r_aload0 dX9_write_65 ?_
          refine r_getR dX9_write_66 fl_X9_16 rfl rfl ?_
          refine r_bipush bv_60 dX9_write_69 ?_
          refine r_iload1 dX9_write_71 ?_
          refine r_imul dX9_write_72 ?_
          refine r_iload2 dX9_write_73 ?_
          refine r_iadd dX9_write_74 ?_
          rw [m60]
          refine r_aload0 dX9_write_75 ?_
          refine r_getR dX9_write_76 fl_X9_7 rfl rfl ?_
          refine r_iload1 dX9_write_79 ?_
          refine r_ialdN dX9_write_80 rfl hj ?_
          refine r_aload0 dX9_write_81 ?_
          refine r_getR dX9_write_82 fl_X9_50 rfl rfl ?_
          refine r_iload3 dX9_write_85 ?_
          refine r_ialdN dX9_write_86 rfl (by omega) ?_
          rw [ne _ 32 j (by decide), ne _ 43 r (by decide)]
          refine r_cS2I dX9_write_87 mm_X9_cut st_X9_cut ml_X9_92 (c_X9_cut _ _ _) (by decide) (Nat.le_of_ble_eq_true rfl) ?_
          refine r_iastN dX9_write_90 rfl (by omega) ?_
          rw [pI_pA]
          refine r_iinc2_1 dX9_write_91 rfl (by decide) ?_
          refine r_iinc3_1 dX9_write_94 rfl (by decide) ?_
          refine r_goto (tgt := 39) dX9_write_97 (by decide) ?_
          rw [nI_1, nI_1]
          exact ih (r + 1) (k + 1) _ (by omega) (by omega) he
        · rw [if_neg e] at he
          rw [show cbe (h1.1 44 r) (mBel h1) = false from Bool.eq_false_iff.mpr e] at rc
          refine r_iload3 dX9_write_39 ?_
          refine r_aload0 dX9_write_40 ?_
          refine r_getI dX9_write_41 fl_X9_183 rfl rfl ?_
          refine r_icmpge (tgt := 100) dX9_write_44 (by decide) (fun c9 => absurd c9 (by rw [ne _ 31 20 (by decide), hm]; exact nI_ge (by omega) (by omega))) (fun _ => ?_)
          refine r_iload2 dX9_write_47 ?_
          refine r_aload0 dX9_write_48 ?_
          refine r_getR dX9_write_49 fl_X9_13 rfl rfl ?_
          refine r_iload1 dX9_write_52 ?_
          refine r_ialdN dX9_write_53 rfl hj ?_
          refine r_icmpge (tgt := 100) dX9_write_54 (by decide) (fun c9 => absurd c9 (by rw [ne _ 33 j (by decide), z1]; exact nI_ge c (by omega))) (fun _ => ?_)
          refine r_aload0 dX9_write_57 ?_
          refine r_iload3 dX9_write_58 ?_
          refine r_cV1I dX9_write_59 mm_X9_canBe im_X9_canBe se_X9_canBe ml_X9_210 rfl rfl rfl (rc) (by decide) (Nat.le_of_ble_eq_true rfl) ?_
          refine r_ifeq (tgt := 94) dX9_write_62 (by decide) (fun _ => ?_) (fun c9 => absurd (rfl) c9)
          refine r_iinc3_1 dX9_write_94 rfl (by decide) ?_
          refine r_goto (tgt := 39) dX9_write_97 (by decide) ?_
          rw [nI_1]
          exact ih (r + 1) k _ (by omega) hk he
      · rw [if_neg c] at he
        subst he
        refine r_iload3 dX9_write_39 ?_
        refine r_aload0 dX9_write_40 ?_
        refine r_getI dX9_write_41 fl_X9_183 rfl rfl ?_
        refine r_icmpge (tgt := 100) dX9_write_44 (by decide) (fun c9 => absurd c9 (by rw [ne _ 31 20 (by decide), hm]; exact nI_ge (by omega) (by omega))) (fun _ => ?_)
        refine r_iload2 dX9_write_47 ?_
        refine r_aload0 dX9_write_48 ?_
        refine r_getR dX9_write_49 fl_X9_13 rfl rfl ?_
        refine r_iload1 dX9_write_52 ?_
        refine r_ialdN dX9_write_53 rfl hj ?_
        refine r_icmpge (tgt := 100) dX9_write_54 (by decide) (fun _ => ?_) (fun c9 => absurd (by rw [ne _ 33 j (by decide), z1]; exact nI_le (by omega) (by omega)) c9)
        refine r_iload2 dX9_write_100 ?_
        exact r_iretE dX9_write_101 rfl (rfl) (rfl)
  have k0 := key m 0 0 (h1.1 34) (by omega) (Nat.zero_le _) hQ
  have e0 : pA h1 34 (h1.1 34) = h1 := by
    refine hp_ext (fun q j => ?_) (fun q j => rfl)
    rw [pA_g]
    by_cases e : q = 34
    · subst e; rw [if_pos rfl]
    · rw [if_neg e]
  rw [e0] at k0
  exact k0
