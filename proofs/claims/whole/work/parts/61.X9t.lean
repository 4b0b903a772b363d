/-! the reference: isRoot, goes -/
def abR (X Y v : Nat) (r : Int32) : Bool := decide (v = 0) || (decide ((2 * v - 1) * (2 * v - 1) * Y < 4 * X) || (decide (4 * X = (2 * v - 1) * (2 * v - 1) * Y) && (decide (r = 0) || decide (v % 2 = 0))))
def beR (X Y v : Nat) (r : Int32) : Bool := decide (4 * X < (2 * v + 1) * (2 * v + 1) * Y) || (decide (4 * X = (2 * v + 1) * (2 * v + 1) * Y) && (decide (r = 1) && decide (v % 2 = 0)))
def rtB (X Y v : Nat) (r : Int32) : Bool := if r = 2 then decide (v * v * Y ≤ X) && decide (X < (v + 1) * (v + 1) * Y) else abR X Y v r && beR X Y v r
theorem c_X9_isRoot (X Y v : Nat) (r : Int32) (h : Hp) (hX : X < 2 ^ 40) (hY : Y < 2 ^ 10) (hv : v < 2 ^ 15) : Rn 0 MX9_isRoot [.long (lN X), .long (lN Y), .long (lN v), .int r] h (EI (b2i (rtB X Y v r)) h) := by
  have bd : ∀ a, a ≤ 2 ^ 17 → a * a * Y < 2 ^ 60 := by
    intro a ha
    have h1 : a * a ≤ 2 ^ 17 * 2 ^ 17 := Nat.mul_le_mul ha ha
    have h2 : a * a * Y ≤ 2 ^ 17 * 2 ^ 17 * Y := Nat.mul_le_mul_right _ h1
    omega
  refine rn_of mm_X9_isRoot (le_b rfl) rfl ?_
  unfold rtB
  by_cases c : r = 2
  · rw [if_pos c]
    have b1 := bd v (by omega)
    have b2 := bd (v + 1) (by omega)
    refine r_iload6 dX9_isRoot_0 ?_
    refine r_iconst_2 dX9_isRoot_2 ?_
    refine r_icmpne (tgt := 40) dX9_isRoot_3 (by decide) (fun c9 => absurd (c) c9) (fun _ => ?_)
    refine r_lload4 dX9_isRoot_6 ?_
    refine r_lload4 dX9_isRoot_8 ?_
    refine r_lmul dX9_isRoot_10 ?_
    refine r_lload2 dX9_isRoot_11 ?_
    refine r_lmul dX9_isRoot_12 ?_
    rw [lN_mul, lN_mul]
    by_cases d : v * v * Y ≤ X
    · refine r_lload0 dX9_isRoot_13 ?_
      refine r_lgt (tgt := 38) dX9_isRoot_14 dX9_isRoot_15 (by decide) (fun c9 => absurd c9 (fun q => by have := (pk_lLT (by omega) (by omega)).mp q; omega)) (fun _ => ?_)
      refine r_lload0 dX9_isRoot_18 ?_
      refine r_lload4 dX9_isRoot_19 ?_
      refine r_lconst_1 dX9_isRoot_21 ?_
      refine r_ladd dX9_isRoot_22 ?_
      refine r_lload4 dX9_isRoot_23 ?_
      refine r_lconst_1 dX9_isRoot_25 ?_
      refine r_ladd dX9_isRoot_26 ?_
      refine r_lmul dX9_isRoot_27 ?_
      refine r_lload2 dX9_isRoot_28 ?_
      refine r_lmul dX9_isRoot_29 ?_
      rw [lN_1, lN_mul, lN_mul]
      by_cases e : X < (v + 1) * (v + 1) * Y
      · refine r_lge (tgt := 38) dX9_isRoot_30 dX9_isRoot_31 (by decide) (fun c9 => absurd c9 (fun q => by have := (pk_lLE (by omega) (by omega)).mp q; omega)) (fun _ => ?_)
        refine r_iconst_1 dX9_isRoot_34 ?_
        refine r_goto (tgt := 39) dX9_isRoot_35 (by decide) ?_
        exact r_zretE dX9_isRoot_39 rfl (by decide) (by rw [decide_eq_true d, decide_eq_true e]; rfl) (rfl)
      · refine r_lge (tgt := 38) dX9_isRoot_30 dX9_isRoot_31 (by decide) (fun _ => ?_) (fun c9 => absurd ((pk_lLE (by omega) (by omega)).mpr (by omega)) c9)
        refine r_iconst_0 dX9_isRoot_38 ?_
        exact r_zretE dX9_isRoot_39 rfl (by decide) (by rw [decide_eq_false e, Bool.and_false]; rfl) (rfl)
    · refine r_lload0 dX9_isRoot_13 ?_
      refine r_lgt (tgt := 38) dX9_isRoot_14 dX9_isRoot_15 (by decide) (fun _ => ?_) (fun c9 => absurd ((pk_lLT (by omega) (by omega)).mpr (by omega)) c9)
      refine r_iconst_0 dX9_isRoot_38 ?_
      exact r_zretE dX9_isRoot_39 rfl (by decide) (by rw [decide_eq_false d]; rfl) (rfl)
  · rw [if_neg c]
    have b1 := bd (2 * v - 1) (by omega)
    have b2 := bd (2 * v + 1) (by omega)
    refine r_iload6 dX9_isRoot_0 ?_
    refine r_iconst_2 dX9_isRoot_2 ?_
    refine r_icmpne (tgt := 40) dX9_isRoot_3 (by decide) (fun _ => ?_) (fun c9 => absurd c9 (c))
    refine r_ldc2 ct_X9_150 dX9_isRoot_40 ?_
    refine r_lload0 dX9_isRoot_43 ?_
    refine r_lmul dX9_isRoot_44 ?_
    rw [show (4 : Int64) * lN X = lN (4 * X) from lN_mul 4 X]
    refine r_lstore7 dX9_isRoot_45 rfl (by decide) ?_
    refine r_ldc2 ct_X9_82 dX9_isRoot_47 ?_
    refine r_lload4 dX9_isRoot_50 ?_
    refine r_lmul dX9_isRoot_52 ?_
    refine r_lconst_1 dX9_isRoot_53 ?_
    refine r_lsub dX9_isRoot_54 ?_
    refine r_ldc2 ct_X9_82 dX9_isRoot_55 ?_
    refine r_lload4 dX9_isRoot_58 ?_
    refine r_lmul dX9_isRoot_60 ?_
    refine r_lconst_1 dX9_isRoot_61 ?_
    refine r_lsub dX9_isRoot_62 ?_
    refine r_lmul dX9_isRoot_63 ?_
    refine r_lload2 dX9_isRoot_64 ?_
    refine r_lmul dX9_isRoot_65 ?_
    rw [show (2 : Int64) * lN v = lN (2 * v) from lN_mul 2 v]
    refine r_lstore9 dX9_isRoot_66 rfl (by decide) ?_
    refine r_ldc2 ct_X9_82 dX9_isRoot_68 ?_
    refine r_lload4 dX9_isRoot_71 ?_
    refine r_lmul dX9_isRoot_73 ?_
    refine r_lconst_1 dX9_isRoot_74 ?_
    refine r_ladd dX9_isRoot_75 ?_
    refine r_ldc2 ct_X9_82 dX9_isRoot_76 ?_
    refine r_lload4 dX9_isRoot_79 ?_
    refine r_lmul dX9_isRoot_81 ?_
    refine r_lconst_1 dX9_isRoot_82 ?_
    refine r_ladd dX9_isRoot_83 ?_
    refine r_lmul dX9_isRoot_84 ?_
    refine r_lload2 dX9_isRoot_85 ?_
    refine r_lmul dX9_isRoot_86 ?_
    rw [show (2 : Int64) * lN v = lN (2 * v) from lN_mul 2 v, lN_1, lN_mul, lN_mul]
    refine r_lstore11 dX9_isRoot_87 rfl (by decide) ?_
    have erem : rem64 (lN v) 2 = lN (v % 2) := pk_lRem (b := 2) (by omega) (by decide) (by decide)
    have ev0 : v % 2 = 0 → rem64 (lN v) 2 = 0 := fun q => by rw [erem, q]; rfl
    have ev1 : ¬ v % 2 = 0 → ¬ rem64 (lN v) 2 = 0 := fun q z => by rw [erem, show v % 2 = 1 by omega] at z; exact absurd z (by decide)
    generalize hlow : (lN (2 * v) - 1) * (lN (2 * v) - 1) * lN Y = low
    have last : ∀ a : Bool, Aw 0 MX9_isRoot (Kp (EI (b2i (a && beR X Y v r)) h)) 135 [some (.long (lN X)), none, some (.long (lN Y)), none, some (.long (lN v)), none, some (.int r), some (.long (lN (4 * X))), none, some (.long low), none, some (.long (lN ((2 * v + 1) * (2 * v + 1) * Y))), none, some (.int (b2i a)), none] [] h := by
      intro a
      have fin : ∀ b : Bool, beR X Y v r = b → Aw 0 MX9_isRoot (Kp (EI (b2i (a && beR X Y v r)) h)) 175 [some (.long (lN X)), none, some (.long (lN Y)), none, some (.long (lN v)), none, some (.int r), some (.long (lN (4 * X))), none, some (.long low), none, some (.long (lN ((2 * v + 1) * (2 * v + 1) * Y))), none, some (.int (b2i a)), some (.int (b2i b))] [] h := by
        intro b hb
        rw [hb]
        cases a
        · refine r_iload13 dX9_isRoot_175 ?_
          refine r_ifeq (tgt := 189) dX9_isRoot_177 (by decide) (fun _ => ?_) (fun c9 => absurd (rfl) c9)
          refine r_iconst_0 dX9_isRoot_189 ?_
          exact r_zretE dX9_isRoot_190 rfl (by decide) (rfl) (rfl)
        · cases b
          · refine r_iload13 dX9_isRoot_175 ?_
            refine r_ifeq (tgt := 189) dX9_isRoot_177 (by decide) (fun c9 => absurd c9 ((by decide : ¬ (1 : Int32) = 0))) (fun _ => ?_)
            refine r_iload14 dX9_isRoot_180 ?_
            refine r_ifeq (tgt := 189) dX9_isRoot_182 (by decide) (fun _ => ?_) (fun c9 => absurd (rfl) c9)
            refine r_iconst_0 dX9_isRoot_189 ?_
            exact r_zretE dX9_isRoot_190 rfl (by decide) (rfl) (rfl)
          · refine r_iload13 dX9_isRoot_175 ?_
            refine r_ifeq (tgt := 189) dX9_isRoot_177 (by decide) (fun c9 => absurd c9 ((by decide : ¬ (1 : Int32) = 0))) (fun _ => ?_)
            refine r_iload14 dX9_isRoot_180 ?_
            refine r_ifeq (tgt := 189) dX9_isRoot_182 (by decide) (fun c9 => absurd c9 ((by decide : ¬ (1 : Int32) = 0))) (fun _ => ?_)
            refine r_iconst_1 dX9_isRoot_185 ?_
            refine r_goto (tgt := 190) dX9_isRoot_186 (by decide) ?_
            exact r_zretE dX9_isRoot_190 rfl (by decide) (rfl) (rfl)
      by_cases q1 : 4 * X < (2 * v + 1) * (2 * v + 1) * Y
      · have f1 := fin true (by unfold beR; rw [decide_eq_true q1]; rfl)
        refine r_lload7 dX9_isRoot_135 ?_
        refine r_lload11 dX9_isRoot_137 ?_
        refine r_llt (tgt := 168) dX9_isRoot_139 dX9_isRoot_140 (by decide) (fun _ => ?_) (fun c9 => absurd ((pk_lLT (by omega) (by omega)).mpr q1) c9)
        refine r_iconst_1 dX9_isRoot_168 ?_
        refine r_goto (tgt := 173) dX9_isRoot_169 (by decide) ?_
        refine r_istore14 dX9_isRoot_173 rfl (by decide) ?_
        exact f1
      · have n1 : ¬ lN (4 * X) < lN ((2 * v + 1) * (2 * v + 1) * Y) := fun q => q1 ((pk_lLT (by omega) (by omega)).mp q)
        by_cases q2 : 4 * X = (2 * v + 1) * (2 * v + 1) * Y
        · have e2 : lN (4 * X) = lN ((2 * v + 1) * (2 * v + 1) * Y) := by rw [q2]
          by_cases q3 : r = 1
          · by_cases q4 : v % 2 = 0
            · have f1 := fin true (by unfold beR; rw [decide_eq_true q2, decide_eq_true q3, decide_eq_true q4, Bool.and_true, Bool.and_true, Bool.or_true])
              refine r_lload7 dX9_isRoot_135 ?_
              refine r_lload11 dX9_isRoot_137 ?_
              refine r_llt (tgt := 168) dX9_isRoot_139 dX9_isRoot_140 (by decide) (fun c9 => absurd c9 (n1)) (fun _ => ?_)
              refine r_lload7 dX9_isRoot_143 ?_
              refine r_lload11 dX9_isRoot_145 ?_
              refine r_lne (tgt := 172) dX9_isRoot_147 dX9_isRoot_148 (by decide) (fun c9 => absurd (e2) c9) (fun _ => ?_)
              refine r_iload6 dX9_isRoot_151 ?_
              refine r_iconst_1 dX9_isRoot_153 ?_
              refine r_icmpne (tgt := 172) dX9_isRoot_154 (by decide) (fun c9 => absurd (q3) c9) (fun _ => ?_)
              refine r_lload4 dX9_isRoot_157 ?_
              refine r_ldc2 ct_X9_82 dX9_isRoot_159 ?_
              refine r_lrem (by decide) dX9_isRoot_162 ?_
              refine r_lconst_0 dX9_isRoot_163 ?_
              refine r_lne (tgt := 172) dX9_isRoot_164 dX9_isRoot_165 (by decide) (fun c9 => absurd (ev0 q4) c9) (fun _ => ?_)
              refine r_iconst_1 dX9_isRoot_168 ?_
              refine r_goto (tgt := 173) dX9_isRoot_169 (by decide) ?_
              refine r_istore14 dX9_isRoot_173 rfl (by decide) ?_
              exact f1
            · have f1 := fin false (by unfold beR; rw [decide_eq_false q1, decide_eq_false q4, Bool.and_false, Bool.and_false]; rfl)
              refine r_lload7 dX9_isRoot_135 ?_
              refine r_lload11 dX9_isRoot_137 ?_
              refine r_llt (tgt := 168) dX9_isRoot_139 dX9_isRoot_140 (by decide) (fun c9 => absurd c9 (n1)) (fun _ => ?_)
              refine r_lload7 dX9_isRoot_143 ?_
              refine r_lload11 dX9_isRoot_145 ?_
              refine r_lne (tgt := 172) dX9_isRoot_147 dX9_isRoot_148 (by decide) (fun c9 => absurd (e2) c9) (fun _ => ?_)
              refine r_iload6 dX9_isRoot_151 ?_
              refine r_iconst_1 dX9_isRoot_153 ?_
              refine r_icmpne (tgt := 172) dX9_isRoot_154 (by decide) (fun c9 => absurd (q3) c9) (fun _ => ?_)
              refine r_lload4 dX9_isRoot_157 ?_
              refine r_ldc2 ct_X9_82 dX9_isRoot_159 ?_
              refine r_lrem (by decide) dX9_isRoot_162 ?_
              refine r_lconst_0 dX9_isRoot_163 ?_
              refine r_lne (tgt := 172) dX9_isRoot_164 dX9_isRoot_165 (by decide) (fun _ => ?_) (fun c9 => absurd c9 (ev1 q4))
              refine r_iconst_0 dX9_isRoot_172 ?_
              refine r_istore14 dX9_isRoot_173 rfl (by decide) ?_
              exact f1
          · have f1 := fin false (by unfold beR; rw [decide_eq_false q1, decide_eq_false q3, Bool.false_and, Bool.and_false]; rfl)
            refine r_lload7 dX9_isRoot_135 ?_
            refine r_lload11 dX9_isRoot_137 ?_
            refine r_llt (tgt := 168) dX9_isRoot_139 dX9_isRoot_140 (by decide) (fun c9 => absurd c9 (n1)) (fun _ => ?_)
            refine r_lload7 dX9_isRoot_143 ?_
            refine r_lload11 dX9_isRoot_145 ?_
            refine r_lne (tgt := 172) dX9_isRoot_147 dX9_isRoot_148 (by decide) (fun c9 => absurd (e2) c9) (fun _ => ?_)
            refine r_iload6 dX9_isRoot_151 ?_
            refine r_iconst_1 dX9_isRoot_153 ?_
            refine r_icmpne (tgt := 172) dX9_isRoot_154 (by decide) (fun _ => ?_) (fun c9 => absurd c9 (q3))
            refine r_iconst_0 dX9_isRoot_172 ?_
            refine r_istore14 dX9_isRoot_173 rfl (by decide) ?_
            exact f1
        · have n2 : ¬ lN (4 * X) = lN ((2 * v + 1) * (2 * v + 1) * Y) := fun q => q2 ((pk_lEQ (by omega) (by omega)).mp q)
          have f1 := fin false (by unfold beR; rw [decide_eq_false q1, decide_eq_false q2]; rfl)
          refine r_lload7 dX9_isRoot_135 ?_
          refine r_lload11 dX9_isRoot_137 ?_
          refine r_llt (tgt := 168) dX9_isRoot_139 dX9_isRoot_140 (by decide) (fun c9 => absurd c9 (n1)) (fun _ => ?_)
          refine r_lload7 dX9_isRoot_143 ?_
          refine r_lload11 dX9_isRoot_145 ?_
          refine r_lne (tgt := 172) dX9_isRoot_147 dX9_isRoot_148 (by decide) (fun _ => ?_) (fun c9 => absurd c9 (n2))
          refine r_iconst_0 dX9_isRoot_172 ?_
          refine r_istore14 dX9_isRoot_173 rfl (by decide) ?_
          exact f1
    by_cases z : v = 0
    · have l1 := last true
      have ea : abR X Y v r = true := by unfold abR; rw [decide_eq_true z]; rfl
      rw [ea]
      refine r_lload4 dX9_isRoot_89 ?_
      refine r_lconst_0 dX9_isRoot_91 ?_
      refine r_leq (tgt := 128) dX9_isRoot_92 dX9_isRoot_93 (by decide) (fun _ => ?_) (fun c9 => absurd (by rw [z]; rfl) c9)
      refine r_iconst_1 dX9_isRoot_128 ?_
      refine r_goto (tgt := 133) dX9_isRoot_129 (by decide) ?_
      refine r_istore13 dX9_isRoot_133 rfl (by decide) ?_
      exact l1
    · have nz : ¬ lN v = 0 := fun q => z ((pk_lEQ (b := 0) (by omega) (by omega)).mp q)
      have el : low = lN ((2 * v - 1) * (2 * v - 1) * Y) := by
        rw [← hlow, show lN (2 * v) - 1 = lN (2 * v - 1) from lN_sub (b := 1) (by omega), lN_mul, lN_mul]
      subst el
      by_cases q1 : (2 * v - 1) * (2 * v - 1) * Y < 4 * X
      · have l1 := last true
        have ea : abR X Y v r = true := by unfold abR; rw [decide_eq_true q1, Bool.true_or, Bool.or_true]
        rw [ea]
        refine r_lload4 dX9_isRoot_89 ?_
        refine r_lconst_0 dX9_isRoot_91 ?_
        refine r_leq (tgt := 128) dX9_isRoot_92 dX9_isRoot_93 (by decide) (fun c9 => absurd c9 (nz)) (fun _ => ?_)
        refine r_lload7 dX9_isRoot_96 ?_
        refine r_lload9 dX9_isRoot_98 ?_
        refine r_lgt (tgt := 128) dX9_isRoot_100 dX9_isRoot_101 (by decide) (fun _ => ?_) (fun c9 => absurd ((pk_lLT (by omega) (by omega)).mpr q1) c9)
        refine r_iconst_1 dX9_isRoot_128 ?_
        refine r_goto (tgt := 133) dX9_isRoot_129 (by decide) ?_
        refine r_istore13 dX9_isRoot_133 rfl (by decide) ?_
        exact l1
      · have n1 : ¬ lN ((2 * v - 1) * (2 * v - 1) * Y) < lN (4 * X) := fun q => q1 ((pk_lLT (by omega) (by omega)).mp q)
        by_cases q2 : 4 * X = (2 * v - 1) * (2 * v - 1) * Y
        · have e2 : lN (4 * X) = lN ((2 * v - 1) * (2 * v - 1) * Y) := by rw [q2]
          by_cases q3 : r = 0
          · have l1 := last true
            have ea : abR X Y v r = true := by unfold abR; rw [decide_eq_true q2, decide_eq_true q3, Bool.true_or, Bool.true_and, Bool.or_true, Bool.or_true]
            rw [ea]
            refine r_lload4 dX9_isRoot_89 ?_
            refine r_lconst_0 dX9_isRoot_91 ?_
            refine r_leq (tgt := 128) dX9_isRoot_92 dX9_isRoot_93 (by decide) (fun c9 => absurd c9 (nz)) (fun _ => ?_)
            refine r_lload7 dX9_isRoot_96 ?_
            refine r_lload9 dX9_isRoot_98 ?_
            refine r_lgt (tgt := 128) dX9_isRoot_100 dX9_isRoot_101 (by decide) (fun c9 => absurd c9 (n1)) (fun _ => ?_)
            refine r_lload7 dX9_isRoot_104 ?_
            refine r_lload9 dX9_isRoot_106 ?_
            refine r_lne (tgt := 132) dX9_isRoot_108 dX9_isRoot_109 (by decide) (fun c9 => absurd (e2) c9) (fun _ => ?_)
            refine r_iload6 dX9_isRoot_112 ?_
            refine r_ifeq (tgt := 128) dX9_isRoot_114 (by decide) (fun _ => ?_) (fun c9 => absurd (q3) c9)
            refine r_iconst_1 dX9_isRoot_128 ?_
            refine r_goto (tgt := 133) dX9_isRoot_129 (by decide) ?_
            refine r_istore13 dX9_isRoot_133 rfl (by decide) ?_
            exact l1
          · by_cases q4 : v % 2 = 0
            · have l1 := last true
              have ea : abR X Y v r = true := by unfold abR; rw [decide_eq_true q2, decide_eq_true q4, Bool.or_true, Bool.true_and, Bool.or_true, Bool.or_true]
              rw [ea]
              refine r_lload4 dX9_isRoot_89 ?_
              refine r_lconst_0 dX9_isRoot_91 ?_
              refine r_leq (tgt := 128) dX9_isRoot_92 dX9_isRoot_93 (by decide) (fun c9 => absurd c9 (nz)) (fun _ => ?_)
              refine r_lload7 dX9_isRoot_96 ?_
              refine r_lload9 dX9_isRoot_98 ?_
              refine r_lgt (tgt := 128) dX9_isRoot_100 dX9_isRoot_101 (by decide) (fun c9 => absurd c9 (n1)) (fun _ => ?_)
              refine r_lload7 dX9_isRoot_104 ?_
              refine r_lload9 dX9_isRoot_106 ?_
              refine r_lne (tgt := 132) dX9_isRoot_108 dX9_isRoot_109 (by decide) (fun c9 => absurd (e2) c9) (fun _ => ?_)
              refine r_iload6 dX9_isRoot_112 ?_
              refine r_ifeq (tgt := 128) dX9_isRoot_114 (by decide) (fun c9 => absurd c9 (q3)) (fun _ => ?_)
              refine r_lload4 dX9_isRoot_117 ?_
              refine r_ldc2 ct_X9_82 dX9_isRoot_119 ?_
              refine r_lrem (by decide) dX9_isRoot_122 ?_
              refine r_lconst_0 dX9_isRoot_123 ?_
              refine r_lne (tgt := 132) dX9_isRoot_124 dX9_isRoot_125 (by decide) (fun c9 => absurd (ev0 q4) c9) (fun _ => ?_)
              refine r_iconst_1 dX9_isRoot_128 ?_
              refine r_goto (tgt := 133) dX9_isRoot_129 (by decide) ?_
              refine r_istore13 dX9_isRoot_133 rfl (by decide) ?_
              exact l1
            · have l1 := last false
              have ea : abR X Y v r = false := by unfold abR; rw [decide_eq_false z, decide_eq_false q1, decide_eq_false q3, decide_eq_false q4, Bool.or_false, Bool.and_false]; rfl
              rw [ea]
              refine r_lload4 dX9_isRoot_89 ?_
              refine r_lconst_0 dX9_isRoot_91 ?_
              refine r_leq (tgt := 128) dX9_isRoot_92 dX9_isRoot_93 (by decide) (fun c9 => absurd c9 (nz)) (fun _ => ?_)
              refine r_lload7 dX9_isRoot_96 ?_
              refine r_lload9 dX9_isRoot_98 ?_
              refine r_lgt (tgt := 128) dX9_isRoot_100 dX9_isRoot_101 (by decide) (fun c9 => absurd c9 (n1)) (fun _ => ?_)
              refine r_lload7 dX9_isRoot_104 ?_
              refine r_lload9 dX9_isRoot_106 ?_
              refine r_lne (tgt := 132) dX9_isRoot_108 dX9_isRoot_109 (by decide) (fun c9 => absurd (e2) c9) (fun _ => ?_)
              refine r_iload6 dX9_isRoot_112 ?_
              refine r_ifeq (tgt := 128) dX9_isRoot_114 (by decide) (fun c9 => absurd c9 (q3)) (fun _ => ?_)
              refine r_lload4 dX9_isRoot_117 ?_
              refine r_ldc2 ct_X9_82 dX9_isRoot_119 ?_
              refine r_lrem (by decide) dX9_isRoot_122 ?_
              refine r_lconst_0 dX9_isRoot_123 ?_
              refine r_lne (tgt := 132) dX9_isRoot_124 dX9_isRoot_125 (by decide) (fun _ => ?_) (fun c9 => absurd c9 (ev1 q4))
              refine r_iconst_0 dX9_isRoot_132 ?_
              refine r_istore13 dX9_isRoot_133 rfl (by decide) ?_
              exact l1
        · have n2 : ¬ lN (4 * X) = lN ((2 * v - 1) * (2 * v - 1) * Y) := fun q => q2 ((pk_lEQ (by omega) (by omega)).mp q)
          have l1 := last false
          have ea : abR X Y v r = false := by unfold abR; rw [decide_eq_false z, decide_eq_false q1, decide_eq_false q2]; rfl
          rw [ea]
          refine r_lload4 dX9_isRoot_89 ?_
          refine r_lconst_0 dX9_isRoot_91 ?_
          refine r_leq (tgt := 128) dX9_isRoot_92 dX9_isRoot_93 (by decide) (fun c9 => absurd c9 (nz)) (fun _ => ?_)
          refine r_lload7 dX9_isRoot_96 ?_
          refine r_lload9 dX9_isRoot_98 ?_
          refine r_lgt (tgt := 128) dX9_isRoot_100 dX9_isRoot_101 (by decide) (fun c9 => absurd c9 (n1)) (fun _ => ?_)
          refine r_lload7 dX9_isRoot_104 ?_
          refine r_lload9 dX9_isRoot_106 ?_
          refine r_lne (tgt := 132) dX9_isRoot_108 dX9_isRoot_109 (by decide) (fun _ => ?_) (fun c9 => absurd c9 (n2))
          refine r_iconst_0 dX9_isRoot_132 ?_
          refine r_istore13 dX9_isRoot_133 rfl (by decide) ?_
          exact l1
/-- the reference's heap with counts D -/
def mcD (h : Hp) (D : Nat → Nat) : Hp := pA h 42 (fun j => if j < 7 then nI (D j) else h.1 42 j)
theorem mcD_C (h : Hp) (D : Nat → Nat) : MC (mcD h D) D := by
  intro j hj
  unfold mcD
  rw [pA_g, if_pos rfl, if_pos hj]
theorem mcD_ne (h : Hp) (D : Nat → Nat) {q : Nat} (j : Nat) (hq : q ≠ 42) : (mcD h D).1 q j = h.1 q j := by
  unfold mcD
  rw [pA_g, if_neg hq]
theorem mcD_p (h : Hp) (D : Nat → Nat) {k : Nat} (x : Nat) (hk : k < 7) : pI (mcD h D) 42 k (nI x) = mcD h (fun j => if j = k then x else D j) := by
  unfold mcD
  rw [pI_pA]
  congr 1
  funext y
  unfold upd
  by_cases c : y = k
  · subst c; rw [if_pos rfl, if_pos hk]; dsimp only; rw [if_pos rfl]
  · rw [if_neg c]
    dsimp only
    rw [if_neg c]
theorem mcD_cong (h : Hp) {D E : Nat → Nat} (e : ∀ j, j < 7 → D j = E j) : mcD h D = mcD h E := by
  unfold mcD
  congr 1
  funext j
  by_cases c : j < 7
  · rw [if_pos c, if_pos c, e j c]
  · rw [if_neg c, if_neg c]
theorem fm_none {C : Nat → Nat} : ∀ {t : Nat}, fm C t = none → ∀ j, j < t → C j = 0
  | 0, _, j, hj => by omega
  | t + 1, h, j, hj => by
    rw [fm] at h
    by_cases c : 0 < C t
    · rw [if_pos c] at h; exact absurd h (fun z => nomatch z)
    · rw [if_neg c] at h
      by_cases e : j = t
      · subst e; omega
      · exact fm_none h j (by omega)
theorem fm_mid {C : Nat → Nat} : ∀ {t m : Nat}, fm C t = some m → ∀ j, m < j → j < t → C j = 0
  | 0, m, h, j, h1, h2 => by omega
  | t + 1, m, h, j, h1, h2 => by
    rw [fm] at h
    by_cases c : 0 < C t
    · rw [if_pos c] at h
      have : t = m := Option.some.inj h
      omega
    · rw [if_neg c] at h
      by_cases e : j = t
      · subst e; omega
      · exact fm_mid h j h1 (by omega)
theorem go_find (t : Nat) (C : Nat → Nat) (h : Hp) (hb : ∀ j, j < 7 → C j < 2 ^ 30) (K : KQT) : ∀ u, u ≤ 6 → (fm C u = none → Aw 0 MX9_goes K 26 [some (.ref 31), some (.int (-1)), none] [] (mcD h C)) → (∀ m, fm C u = some m → Aw 0 MX9_goes K 26 [some (.ref 31), some (.int (nI m)), none] [] (mcD h C)) → Aw 0 MX9_goes K 7 [some (.ref 31), some (.int (nI u - 1)), none] [] (mcD h C) := by
  intro u
  induction u with
  | zero =>
    intro _ k1 _
    refine r_iload1 dX9_goes_7 ?_
    refine r_iflt (tgt := 26) dX9_goes_8 (by decide) (fun _ => ?_) (fun c9 => absurd (by decide) c9)
    exact k1 rfl
  | succ u ih =>
    intro hu k1 k2
    rw [nI_pred]
    rw [fm] at k1 k2
    refine r_iload1 dX9_goes_7 ?_
    refine r_iflt (tgt := 26) dX9_goes_8 (by decide) (fun c9 => absurd c9 (nI_pos (by omega))) (fun _ => ?_)
    refine r_aload0 dX9_goes_11 ?_
    refine r_getR dX9_goes_12 fl_X9_47 rfl rfl ?_
    refine r_iload1 dX9_goes_15 ?_
    refine r_ialdN dX9_goes_16 rfl (by omega) ?_
    rw [mcD_C h C u (by omega)]
    have := hb u (by omega)
    by_cases c : 0 < C u
    · rw [if_pos c] at k2
      refine r_ifne (tgt := 26) dX9_goes_17 (by decide) (fun _ => ?_) (fun c9 => absurd c9 (nI_ne0 c (by omega)))
      exact k2 u rfl
    · rw [if_neg c] at k1 k2
      refine r_ifne (tgt := 26) dX9_goes_17 (by decide) (fun c9 => absurd (by rw [show C u = 0 by omega]; rfl) c9) (fun _ => ?_)
      refine r_iinc1_m1 dX9_goes_20 rfl (by decide) ?_
      refine r_goto (tgt := 7) dX9_goes_23 (by decide) ?_
      rw [← Int32.sub_eq_add_neg]
      exact ih (by omega) k1 k2
theorem c_X9_goes (t : Nat) (C : Nat → Nat) (h : Hp) (ht : t ≤ 6) (hb : ∀ j, j < 7 → C j < 2 ^ 30) (h6 : h.1 31 6 = nI t) : (fm C t = none → Rn 0 MX9_goes [.ref 31] (mcD h C) (EI 0 (mcD h C))) ∧ (∀ m, fm C t = some m → Rn 0 MX9_goes [.ref 31] (mcD h C) (EI 1 (mcD h (stepC C t m)))) := by
  refine ⟨fun hn => ?_, fun m hm => ?_⟩
  · refine rn_of mm_X9_goes (le_b rfl) rfl ?_
    refine r_aload0 dX9_goes_0 ?_
    refine r_getI dX9_goes_1 fl_X9_26 rfl rfl ?_
    refine r_iconst_1 dX9_goes_4 ?_
    rw [mcD_ne h C 6 (by decide), h6]
    refine r_isub dX9_goes_5 ?_
    refine r_istore1 dX9_goes_6 rfl (by decide) ?_
    refine go_find t C h hb _ t ht (fun _ => ?_) (fun m hm => ?_)
    · refine r_iload1 dX9_goes_26 ?_
      refine r_ifge (tgt := 32) dX9_goes_27 (by decide) (fun c9 => absurd c9 (by decide)) (fun _ => ?_)
      refine r_iconst_0 dX9_goes_30 ?_
      exact r_zretE dX9_goes_31 rfl (by decide) (rfl) (rfl)
    · rw [hn] at hm; exact absurd hm (fun z => nomatch z)
  · have hmt := fm_lt hm
    have hpos := fm_pos hm
    have hmid := fm_mid hm
    refine rn_of mm_X9_goes (le_b rfl) rfl ?_
    refine r_aload0 dX9_goes_0 ?_
    refine r_getI dX9_goes_1 fl_X9_26 rfl rfl ?_
    refine r_iconst_1 dX9_goes_4 ?_
    rw [mcD_ne h C 6 (by decide), h6]
    refine r_isub dX9_goes_5 ?_
    refine r_istore1 dX9_goes_6 rfl (by decide) ?_
    refine go_find t C h hb _ t ht (fun q => ?_) (fun m' hm' => ?_)
    · rw [q] at hm; exact absurd hm (fun z => nomatch z)
    · have e : m' = m := Option.some.inj (hm'.symm.trans hm)
      subst e
      have bt := hb t (by omega)
      have bm := hb m' (by omega)
      refine r_iload1 dX9_goes_26 ?_
      refine r_ifge (tgt := 32) dX9_goes_27 (by decide) (fun _ => ?_) (fun c9 => absurd (nI_pos' (by omega)) c9)
      refine r_aload0 dX9_goes_32 ?_
      refine r_getR dX9_goes_33 fl_X9_47 rfl rfl ?_
      refine r_aload0 dX9_goes_36 ?_
      refine r_getI dX9_goes_37 fl_X9_26 rfl rfl ?_
      rw [mcD_ne h C 6 (by decide), h6]
      refine r_ialdN dX9_goes_40 rfl (by omega) ?_
      rw [mcD_C h C t (by omega)]
      refine r_istore2 dX9_goes_41 rfl (by decide) ?_
      refine r_aload0 dX9_goes_42 ?_
      refine r_getR dX9_goes_43 fl_X9_47 rfl rfl ?_
      refine r_aload0 dX9_goes_46 ?_
      refine r_getI dX9_goes_47 fl_X9_26 rfl rfl ?_
      rw [mcD_ne h C 6 (by decide), h6]
      refine r_iconst_0 dX9_goes_50 ?_
      refine r_iastN dX9_goes_51 rfl (by omega) ?_
      rw [show (0 : Int32) = nI 0 from rfl, mcD_p h C 0 (by omega)]
      refine r_aload0 dX9_goes_52 ?_
      refine r_getR dX9_goes_53 fl_X9_47 rfl rfl ?_
      refine r_iload1 dX9_goes_56 ?_
      refine r_dup2 rfl rfl dX9_goes_57 ?_
      refine r_ialdN dX9_goes_58 rfl (by omega) ?_
      rw [mcD_C h _ m' (by omega), if_neg (by omega)]
      refine r_iconst_1 dX9_goes_59 ?_
      refine r_isub dX9_goes_60 ?_
      rw [show nI (C m') - 1 = nI (C m' - 1) from pk_sub (b := 1) hpos]
      refine r_iastN dX9_goes_61 rfl (by omega) ?_
      rw [mcD_p h _ (C m' - 1) (by omega)]
      refine r_aload0 dX9_goes_62 ?_
      refine r_getR dX9_goes_63 fl_X9_47 rfl rfl ?_
      refine r_iload1 dX9_goes_66 ?_
      refine r_iconst_1 dX9_goes_67 ?_
      refine r_iadd dX9_goes_68 ?_
      rw [nI_1]
      refine r_dup2 rfl rfl dX9_goes_69 ?_
      refine r_ialdN dX9_goes_70 rfl (by omega) ?_
      rw [mcD_C h _ (m' + 1) (by omega)]
      have e0 : (if m' + 1 = m' then C m' - 1 else if m' + 1 = t then 0 else C (m' + 1)) = 0 := by
        rw [if_neg (by omega)]
        by_cases q : m' + 1 = t
        · rw [if_pos q]
        · rw [if_neg q]; exact hmid (m' + 1) (by omega) (by omega)
      rw [e0]
      refine r_iload2 dX9_goes_71 ?_
      refine r_iconst_1 dX9_goes_72 ?_
      refine r_iadd dX9_goes_73 ?_
      refine r_iadd dX9_goes_74 ?_
      rw [nI_1, nI_add]
      refine r_iastN dX9_goes_75 rfl (by omega) ?_
      rw [mcD_p h _ _ (by omega)]
      have ec : mcD h (fun j => if j = m' + 1 then 0 + (C t + 1) else if j = m' then C m' - 1 else if j = t then 0 else C j) = mcD h (stepC C t m') := by
        refine mcD_cong h (fun j hj => ?_)
        unfold stepC
        rw [Nat.zero_add]
      rw [ec]
      refine r_iconst_1 dX9_goes_76 ?_
      exact r_zretE dX9_goes_77 rfl (by decide) (rfl) (rfl)
