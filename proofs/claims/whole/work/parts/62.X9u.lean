/-! the reference: holds, holdBits -/
def S1 (C : Nat → Nat) : Nat → Nat := sg (fun j => j * C j)
def S2 (C : Nat → Nat) : Nat → Nat := sg (fun j => j * j * C j)
def moK (C : Nat → Nat) (k : Nat) : Nat := lp (fun k m => if C m < C k then k else m) 0 k 0
def abI (m : Int32) (C : Nat → Nat) (k : Nat) : Int32 := lp (fun k a => if m ≤ nI k then a + nI (C k) else a) 0 k 0
def mhB (C : Nat → Nat) (n kd mk v bh : Nat) (r : Int32) : Bool :=
  if kd = 0 then decide (rdN (S1 C 7 * tenN bh) n r = v)
  else if kd = 1 then (if n = 1 then decide (v = 0) else rtB ((n * S2 C 7 - S1 C 7 * S1 C 7) * tenN bh * tenN bh) (n * (n - 1)) v r)
  else if kd = 2 then (if n = 1 then decide (v = 0) else rtB ((n * S2 C 7 - S1 C 7 * S1 C 7) * tenN bh * tenN bh) (n * n) v r)
  else if kd = 3 then decide (rdN ((mkA C ((n - 1) / 2) + mkA C (n / 2)) * tenN bh) 2 r = v)
  else if kd = 4 then decide (C mk = v)
  else if kd = 5 then decide (rdN (100 * frm C mk) n r = v)
  else if kd = 6 then decide (mkA C 0 = mk)
  else if kd = 7 then decide (mkA C (n - 1) = mk)
  else decide (moK C 7 = mk)
theorem moK_lt (C : Nat → Nat) : ∀ k, k ≤ 7 → moK C k < 7 := by
  intro k
  induction k with
  | zero => intro _; exact (by decide : 0 < 7)
  | succ k ih =>
    intro hk
    have := ih (by omega)
    unfold moK at this ⊢
    rw [lp_last, Nat.zero_add]
    split <;> omega
theorem abI_n (C : Nat → Nat) {mk : Nat} (hm : mk < 7) : abI (nI mk) C 7 = nI (frm C mk) := by
  have hs : ∀ k, k ≤ 7 → abI (nI mk) C k = nI (sg (fun j => if mk ≤ j then C j else 0) k) := by
    intro k
    induction k with
    | zero => intro _; rfl
    | succ k ih =>
      intro hk
      have ih := ih (by omega)
      unfold abI at ih ⊢
      rw [lp_last, Nat.zero_add, ih, sg_s]
      by_cases c : mk ≤ k
      · rw [if_pos (nI_le c (by omega)), if_pos c, nI_add]
      · rw [if_neg (nI_ge (by omega) (by omega)), if_neg c, Nat.add_zero]
  rw [hs 7 (by omega)]
  congr 1
  have : mk = 0 ∨ mk = 1 ∨ mk = 2 ∨ mk = 3 ∨ mk = 4 ∨ mk = 5 ∨ mk = 6 := by omega
  rcases this with rfl | rfl | rfl | rfl | rfl | rfl | rfl <;> simp [frm, sg]
theorem tenN_le (k : Nat) : tenN k ≤ 100 := by
  unfold tenN
  split
  · omega
  · split <;> omega
def CLm (h : Hp) (i kd mk v bh : Nat) : Prop := h.1 37 i = nI kd ∧ kd ≤ 8 ∧ h.1 40 i = nI bh ∧ bh ≤ 2 ∧ (4 ≤ kd → h.1 38 i = nI mk ∧ mk < 7) ∧ (kd ≤ 5 → h.1 39 i = nI v ∧ v < 10000)
theorem upF7 (p : Nat → Bool) : upF p 7 0 ≤ 7 := by have := upF_le p 7 0; omega
theorem c_X9_holds (C : Nat → Nat) (n i kd mk v bh : Nat) (h : Hp) (hC : MC h C) (hn : 1 ≤ n) (hn9 : n ≤ 9) (h5 : h.1 31 5 = nI n) (hs : sg C 7 = n) (hCS : S1 C 7 * S1 C 7 ≤ n * S2 C 7) (hi : i < 10) (hcl : CLm h i kd mk v bh) : Rn 1 MX9_holds [.ref 31, .int (nI i)] h (EI (b2i (mhB C n kd mk v bh (h.1 41 i))) h) := by
  obtain ⟨k1, k2, k3, k4, k5, k6⟩ := hcl
  have b1 : S1 C 7 ≤ 54 := by simp only [S1, sg] at hs ⊢; omega
  have b2 : S2 C 7 ≤ 324 := by simp only [S2, sg] at hs ⊢; omega
  have bC : ∀ j, j < 7 → C j ≤ 9 := by
    intro j hj
    simp only [sg] at hs
    have : j = 0 ∨ j = 1 ∨ j = 2 ∨ j = 3 ∨ j = 4 ∨ j = 5 ∨ j = 6 := by omega
    rcases this with rfl | rfl | rfl | rfl | rfl | rfl | rfl <;> omega
  have bt := tenN_le bh
  refine rn_of mm_X9_holds (le_b rfl) rfl ?_
  refine r_iconst_0 dX9_holds_0 ?_
  refine r_istore2 dX9_holds_1 rfl (by decide) ?_
  refine r_iconst_0 dX9_holds_2 ?_
  refine r_istore3 dX9_holds_3 rfl (by decide) ?_
  refine r_iconst_0 dX9_holds_4 ?_
  refine r_istore4 dX9_holds_5 rfl (by decide) ?_
  refine r_iconst_0 dX9_holds_7 ?_
  refine r_istore5 dX9_holds_8 rfl (by decide) ?_
  refine r_iconst_0 dX9_holds_10 ?_
  refine r_istore6 dX9_holds_11 rfl (by decide) ?_
  generalize hR : h.1 41 i = r
  have sw : Aw 1 MX9_holds (Kp (EI (b2i (mhB C n kd mk v bh r)) h)) 134 [some (.ref 31), some (.int (nI i)), some (.int (nI (S1 C 7))), some (.int (nI (S2 C 7))), some (.int (nI (moK C 7))), some (.int (abI (h.1 38 i) C 7)), some (.long (lN (tenN bh))), none, some (.long (h.1 39 i).toInt64), none, none, none] [.int (nI kd)] h := by
    have : kd = 0 ∨ kd = 1 ∨ kd = 2 ∨ kd = 3 ∨ kd = 4 ∨ kd = 5 ∨ kd = 6 ∨ kd = 7 ∨ kd = 8 := by omega
    rcases this with rfl | rfl | rfl | rfl | rfl | rfl | rfl | rfl | rfl
    · obtain ⟨v1, v2⟩ := k6 (by decide)
      have bx : S1 C 7 * tenN bh ≤ 54 * 100 := Nat.mul_le_mul b1 bt
      have bd := rdN_lt (S1 C 7 * tenN bh) n r
      rw [v1, nI_l (n := v) (by omega)]
      refine r_tabIn (tgt := 180) dX9_holds_134 (by decide) (by decide) (by rfl) (by decide) ?_
      refine r_iload2 dX9_holds_180 ?_
      refine r_i2l dX9_holds_181 ?_
      refine r_lload6 dX9_holds_182 ?_
      rw [nI_l (by omega)]
      refine r_lmul dX9_holds_184 ?_
      refine r_aload0 dX9_holds_185 ?_
      refine r_getI dX9_holds_186 fl_X9_22 rfl rfl ?_
      refine r_i2l dX9_holds_189 ?_
      rw [lN_mul, h5, nI_l (by omega)]
      refine r_aload0 dX9_holds_190 ?_
      refine r_getR dX9_holds_191 fl_X9_44 rfl rfl ?_
      refine r_iload1 dX9_holds_194 ?_
      refine r_ialdN dX9_holds_195 rfl hi ?_
      rw [hR]
      refine r_cS3L dX9_holds_196 mm_X9_rounded st_X9_rounded ml_X9_166 (c_X9_rounded _ _ r h (by omega) (by omega) (by omega)) (by decide) (Nat.le_of_ble_eq_true rfl) ?_
      refine r_lload8 dX9_holds_199 ?_
      by_cases e : rdN (S1 C 7 * tenN bh) n r = v
      · refine r_lne (tgt := 209) dX9_holds_201 dX9_holds_202 (by decide) (fun c9 => absurd (by rw [e]) c9) (fun _ => ?_)
        refine r_iconst_1 dX9_holds_205 ?_
        refine r_goto (tgt := 210) dX9_holds_206 (by decide) ?_
        exact r_zretE dX9_holds_210 rfl (by decide) (by unfold mhB; rw [if_pos rfl, decide_eq_true e]; rfl) (rfl)
      · refine r_lne (tgt := 209) dX9_holds_201 dX9_holds_202 (by decide) (fun _ => ?_) (fun c9 => absurd c9 (fun q => e ((pk_lEQ (by omega) (by omega)).mp q)))
        refine r_iconst_0 dX9_holds_209 ?_
        exact r_zretE dX9_holds_210 rfl (by decide) (by unfold mhB; rw [if_pos rfl, decide_eq_false e]; rfl) (rfl)
    · obtain ⟨v1, v2⟩ := k6 (by decide)
      have m1 : n * S2 C 7 ≤ 9 * 324 := Nat.mul_le_mul hn9 b2
      have m2 : (n * S2 C 7 - S1 C 7 * S1 C 7) * tenN bh ≤ 2916 * 100 := Nat.mul_le_mul (by omega) bt
      have m3 : (n * S2 C 7 - S1 C 7 * S1 C 7) * tenN bh * tenN bh ≤ 291600 * 100 := Nat.mul_le_mul m2 bt
      have m4 : n * (n - 1) ≤ 9 * 8 := Nat.mul_le_mul hn9 (by omega)
      rw [v1, nI_l (n := v) (by omega)]
      refine r_tabIn (tgt := 211) dX9_holds_134 (by decide) (by decide) (by rfl) (by decide) ?_
      refine r_aload0 dX9_holds_211 ?_
      refine r_getI dX9_holds_212 fl_X9_22 rfl rfl ?_
      rw [h5]
      refine r_iload3 dX9_holds_215 ?_
      refine r_imul dX9_holds_216 ?_
      refine r_iload2 dX9_holds_217 ?_
      refine r_iload2 dX9_holds_218 ?_
      refine r_imul dX9_holds_219 ?_
      refine r_isub dX9_holds_220 ?_
      rw [pk_mul, pk_mul, pk_sub hCS]
      refine r_i2l dX9_holds_221 ?_
      rw [nI_l (by omega)]
      refine r_lload6 dX9_holds_222 ?_
      refine r_lmul dX9_holds_224 ?_
      refine r_lload6 dX9_holds_225 ?_
      refine r_lmul dX9_holds_227 ?_
      rw [lN_mul, lN_mul]
      refine r_lstore10 dX9_holds_228 rfl (by decide) ?_
      refine r_aload0 dX9_holds_230 ?_
      refine r_getI dX9_holds_231 fl_X9_22 rfl rfl ?_
      rw [h5]
      by_cases n1 : n = 1
      · by_cases z : v = 0
        · refine r_iconst_1 dX9_holds_234 ?_
          refine r_icmpne (tgt := 253) dX9_holds_235 (by decide) (fun c9 => absurd (by rw [n1]; rfl) c9) (fun _ => ?_)
          refine r_lload8 dX9_holds_238 ?_
          refine r_lconst_0 dX9_holds_240 ?_
          refine r_lne (tgt := 249) dX9_holds_241 dX9_holds_242 (by decide) (fun c9 => absurd (by rw [z]; rfl) c9) (fun _ => ?_)
          refine r_iconst_1 dX9_holds_245 ?_
          refine r_goto (tgt := 301) dX9_holds_246 (by decide) ?_
          exact r_zretE dX9_holds_301 rfl (by decide) (by unfold mhB; rw [if_neg (by decide), if_pos rfl, if_pos n1, decide_eq_true z]; rfl) (rfl)
        · refine r_iconst_1 dX9_holds_234 ?_
          refine r_icmpne (tgt := 253) dX9_holds_235 (by decide) (fun c9 => absurd (by rw [n1]; rfl) c9) (fun _ => ?_)
          refine r_lload8 dX9_holds_238 ?_
          refine r_lconst_0 dX9_holds_240 ?_
          refine r_lne (tgt := 249) dX9_holds_241 dX9_holds_242 (by decide) (fun _ => ?_) (fun c9 => absurd c9 (fun q => z ((pk_lEQ (b := 0) (by omega) (by omega)).mp q)))
          refine r_iconst_0 dX9_holds_249 ?_
          refine r_goto (tgt := 301) dX9_holds_250 (by decide) ?_
          exact r_zretE dX9_holds_301 rfl (by decide) (by unfold mhB; rw [if_neg (by decide), if_pos rfl, if_pos n1, decide_eq_false z]; rfl) (rfl)
      · have nn : ¬ nI n = 1 := fun q => n1 ((nI_eq (b := 1) (by omega) (by decide)).mp q)
        refine r_iconst_1 dX9_holds_234 ?_
        refine r_icmpne (tgt := 253) dX9_holds_235 (by decide) (fun _ => ?_) (fun c9 => absurd c9 (nn))
        refine r_lload10 dX9_holds_253 ?_
        refine r_aload0 dX9_holds_255 ?_
        refine r_getR dX9_holds_256 fl_X9_32 rfl rfl ?_
        refine r_iload1 dX9_holds_259 ?_
        refine r_ialdN dX9_holds_260 rfl hi ?_
        rw [k1]
        refine r_iconst_1 dX9_holds_261 ?_
        refine r_icmpne (tgt := 280) dX9_holds_262 (by decide) (fun c9 => absurd (rfl) c9) (fun _ => ?_)
        refine r_aload0 dX9_holds_265 ?_
        refine r_getI dX9_holds_266 fl_X9_22 rfl rfl ?_
        refine r_aload0 dX9_holds_269 ?_
        refine r_getI dX9_holds_270 fl_X9_22 rfl rfl ?_
        refine r_iconst_1 dX9_holds_273 ?_
        refine r_isub dX9_holds_274 ?_
        refine r_imul dX9_holds_275 ?_
        rw [h5, show nI n - 1 = nI (n - 1) from pk_sub (b := 1) hn, pk_mul]
        refine r_i2l dX9_holds_276 ?_
        rw [nI_l (by omega)]
        refine r_goto (tgt := 290) dX9_holds_277 (by decide) ?_
        refine r_lload8 dX9_holds_290 ?_
        refine r_aload0 dX9_holds_292 ?_
        refine r_getR dX9_holds_293 fl_X9_44 rfl rfl ?_
        refine r_iload1 dX9_holds_296 ?_
        refine r_ialdN dX9_holds_297 rfl hi ?_
        rw [hR]
        refine r_cS4I dX9_holds_298 mm_X9_isRoot st_X9_isRoot ml_X9_170 (c_X9_isRoot _ _ v r h (by omega) (by omega) (by omega)) (by decide) (Nat.le_of_ble_eq_true rfl) ?_
        have e : mhB C n 1 mk v bh r = rtB ((n * S2 C 7 - S1 C 7 * S1 C 7) * tenN bh * tenN bh) (n * (n - 1)) v r := by
          unfold mhB
          rw [if_neg (by decide), if_pos rfl, if_neg n1]
        rw [e]
        exact r_zretE dX9_holds_301 rfl (b2i_01 _) rfl rfl
    · obtain ⟨v1, v2⟩ := k6 (by decide)
      have m1 : n * S2 C 7 ≤ 9 * 324 := Nat.mul_le_mul hn9 b2
      have m2 : (n * S2 C 7 - S1 C 7 * S1 C 7) * tenN bh ≤ 2916 * 100 := Nat.mul_le_mul (by omega) bt
      have m3 : (n * S2 C 7 - S1 C 7 * S1 C 7) * tenN bh * tenN bh ≤ 291600 * 100 := Nat.mul_le_mul m2 bt
      have m4 : n * n ≤ 9 * 9 := Nat.mul_le_mul hn9 hn9
      rw [v1, nI_l (n := v) (by omega)]
      refine r_tabIn (tgt := 211) dX9_holds_134 (by decide) (by decide) (by rfl) (by decide) ?_
      refine r_aload0 dX9_holds_211 ?_
      refine r_getI dX9_holds_212 fl_X9_22 rfl rfl ?_
      rw [h5]
      refine r_iload3 dX9_holds_215 ?_
      refine r_imul dX9_holds_216 ?_
      refine r_iload2 dX9_holds_217 ?_
      refine r_iload2 dX9_holds_218 ?_
      refine r_imul dX9_holds_219 ?_
      refine r_isub dX9_holds_220 ?_
      rw [pk_mul, pk_mul, pk_sub hCS]
      refine r_i2l dX9_holds_221 ?_
      rw [nI_l (by omega)]
      refine r_lload6 dX9_holds_222 ?_
      refine r_lmul dX9_holds_224 ?_
      refine r_lload6 dX9_holds_225 ?_
      refine r_lmul dX9_holds_227 ?_
      rw [lN_mul, lN_mul]
      refine r_lstore10 dX9_holds_228 rfl (by decide) ?_
      refine r_aload0 dX9_holds_230 ?_
      refine r_getI dX9_holds_231 fl_X9_22 rfl rfl ?_
      rw [h5]
      by_cases n1 : n = 1
      · by_cases z : v = 0
        · refine r_iconst_1 dX9_holds_234 ?_
          refine r_icmpne (tgt := 253) dX9_holds_235 (by decide) (fun c9 => absurd (by rw [n1]; rfl) c9) (fun _ => ?_)
          refine r_lload8 dX9_holds_238 ?_
          refine r_lconst_0 dX9_holds_240 ?_
          refine r_lne (tgt := 249) dX9_holds_241 dX9_holds_242 (by decide) (fun c9 => absurd (by rw [z]; rfl) c9) (fun _ => ?_)
          refine r_iconst_1 dX9_holds_245 ?_
          refine r_goto (tgt := 301) dX9_holds_246 (by decide) ?_
          exact r_zretE dX9_holds_301 rfl (by decide) (by unfold mhB; rw [if_neg (by decide), if_neg (by decide), if_pos rfl, if_pos n1, decide_eq_true z]; rfl) (rfl)
        · refine r_iconst_1 dX9_holds_234 ?_
          refine r_icmpne (tgt := 253) dX9_holds_235 (by decide) (fun c9 => absurd (by rw [n1]; rfl) c9) (fun _ => ?_)
          refine r_lload8 dX9_holds_238 ?_
          refine r_lconst_0 dX9_holds_240 ?_
          refine r_lne (tgt := 249) dX9_holds_241 dX9_holds_242 (by decide) (fun _ => ?_) (fun c9 => absurd c9 (fun q => z ((pk_lEQ (b := 0) (by omega) (by omega)).mp q)))
          refine r_iconst_0 dX9_holds_249 ?_
          refine r_goto (tgt := 301) dX9_holds_250 (by decide) ?_
          exact r_zretE dX9_holds_301 rfl (by decide) (by unfold mhB; rw [if_neg (by decide), if_neg (by decide), if_pos rfl, if_pos n1, decide_eq_false z]; rfl) (rfl)
      · have nn : ¬ nI n = 1 := fun q => n1 ((nI_eq (b := 1) (by omega) (by decide)).mp q)
        refine r_iconst_1 dX9_holds_234 ?_
        refine r_icmpne (tgt := 253) dX9_holds_235 (by decide) (fun _ => ?_) (fun c9 => absurd c9 (nn))
        refine r_lload10 dX9_holds_253 ?_
        refine r_aload0 dX9_holds_255 ?_
        refine r_getR dX9_holds_256 fl_X9_32 rfl rfl ?_
        refine r_iload1 dX9_holds_259 ?_
        refine r_ialdN dX9_holds_260 rfl hi ?_
        rw [k1]
        refine r_iconst_1 dX9_holds_261 ?_
        refine r_icmpne (tgt := 280) dX9_holds_262 (by decide) (fun _ => ?_) (fun c9 => absurd c9 (by decide))
        refine r_aload0 dX9_holds_280 ?_
        refine r_getI dX9_holds_281 fl_X9_22 rfl rfl ?_
        refine r_aload0 dX9_holds_284 ?_
        refine r_getI dX9_holds_285 fl_X9_22 rfl rfl ?_
        refine r_imul dX9_holds_288 ?_
        rw [h5, pk_mul]
        refine r_i2l dX9_holds_289 ?_
        rw [nI_l (by omega)]
        refine r_lload8 dX9_holds_290 ?_
        refine r_aload0 dX9_holds_292 ?_
        refine r_getR dX9_holds_293 fl_X9_44 rfl rfl ?_
        refine r_iload1 dX9_holds_296 ?_
        refine r_ialdN dX9_holds_297 rfl hi ?_
        rw [hR]
        refine r_cS4I dX9_holds_298 mm_X9_isRoot st_X9_isRoot ml_X9_170 (c_X9_isRoot _ _ v r h (by omega) (by omega) (by omega)) (by decide) (Nat.le_of_ble_eq_true rfl) ?_
        have e : mhB C n 2 mk v bh r = rtB ((n * S2 C 7 - S1 C 7 * S1 C 7) * tenN bh * tenN bh) (n * n) v r := by
          unfold mhB
          rw [if_neg (by decide), if_neg (by decide), if_pos rfl, if_neg n1]
        rw [e]
        exact r_zretE dX9_holds_301 rfl (b2i_01 _) rfl rfl
    · obtain ⟨v1, v2⟩ := k6 (by decide)
      have a1 : mkA C ((n - 1) / 2) ≤ 7 := upF7 _
      have a2 : mkA C (n / 2) ≤ 7 := upF7 _
      have bx : (mkA C ((n - 1) / 2) + mkA C (n / 2)) * tenN bh ≤ 14 * 100 := Nat.mul_le_mul (by omega) bt
      have bd := rdN_lt ((mkA C ((n - 1) / 2) + mkA C (n / 2)) * tenN bh) 2 r
      rw [v1, nI_l (n := v) (by omega)]
      refine r_tabIn (tgt := 302) dX9_holds_134 (by decide) (by decide) (by rfl) (by decide) ?_
      refine r_aload0 dX9_holds_302 ?_
      refine r_aload0 dX9_holds_303 ?_
      refine r_getI dX9_holds_304 fl_X9_22 rfl rfl ?_
      rw [h5]
      refine r_iconst_1 dX9_holds_307 ?_
      refine r_isub dX9_holds_308 ?_
      rw [show nI n - 1 = nI (n - 1) from pk_sub (b := 1) hn]
      refine r_iconst_2 dX9_holds_309 ?_
      refine r_idiv (by decide) dX9_holds_310 ?_
      rw [show nI (n - 1) / 2 = nI ((n - 1) / 2) from pk_div (d := 2) (by omega) (by decide) (by decide)]
      refine r_cV1I dX9_holds_311 mm_X9_markAt im_X9_markAt se_X9_markAt ml_X9_174 rfl rfl rfl (c_X9_markAt C _ h hC (by omega) (by omega)) (by decide) (Nat.le_of_ble_eq_true rfl) ?_
      refine r_aload0 dX9_holds_314 ?_
      refine r_aload0 dX9_holds_315 ?_
      refine r_getI dX9_holds_316 fl_X9_22 rfl rfl ?_
      rw [h5]
      refine r_iconst_2 dX9_holds_319 ?_
      refine r_idiv (by decide) dX9_holds_320 ?_
      rw [show nI n / 2 = nI (n / 2) from pk_div (d := 2) (by omega) (by decide) (by decide)]
      refine r_cV1I dX9_holds_321 mm_X9_markAt im_X9_markAt se_X9_markAt ml_X9_174 rfl rfl rfl (c_X9_markAt C _ h hC (by omega) (by omega)) (by decide) (Nat.le_of_ble_eq_true rfl) ?_
      refine r_iadd dX9_holds_324 ?_
      rw [nI_add]
      refine r_i2l dX9_holds_325 ?_
      rw [nI_l (by omega)]
      refine r_lload6 dX9_holds_326 ?_
      refine r_lmul dX9_holds_328 ?_
      rw [lN_mul]
      refine r_ldc2 ct_X9_82 dX9_holds_329 ?_
      refine r_aload0 dX9_holds_332 ?_
      refine r_getR dX9_holds_333 fl_X9_44 rfl rfl ?_
      refine r_iload1 dX9_holds_336 ?_
      refine r_ialdN dX9_holds_337 rfl hi ?_
      rw [hR]
      refine r_cS3L dX9_holds_338 mm_X9_rounded st_X9_rounded ml_X9_166 (c_X9_rounded _ 2 r h (by omega) (by omega) (by omega)) (by decide) (Nat.le_of_ble_eq_true rfl) ?_
      refine r_lload8 dX9_holds_341 ?_
      by_cases e : rdN ((mkA C ((n - 1) / 2) + mkA C (n / 2)) * tenN bh) 2 r = v
      · refine r_lne (tgt := 351) dX9_holds_343 dX9_holds_344 (by decide) (fun c9 => absurd (by rw [e]) c9) (fun _ => ?_)
        refine r_iconst_1 dX9_holds_347 ?_
        refine r_goto (tgt := 352) dX9_holds_348 (by decide) ?_
        exact r_zretE dX9_holds_352 rfl (by decide) (by unfold mhB; rw [if_neg (by decide), if_neg (by decide), if_neg (by decide), if_pos rfl, decide_eq_true e]; rfl) (rfl)
      · refine r_lne (tgt := 351) dX9_holds_343 dX9_holds_344 (by decide) (fun _ => ?_) (fun c9 => absurd c9 (fun q => e ((pk_lEQ (by omega) (by omega)).mp q)))
        refine r_iconst_0 dX9_holds_351 ?_
        exact r_zretE dX9_holds_352 rfl (by decide) (by unfold mhB; rw [if_neg (by decide), if_neg (by decide), if_neg (by decide), if_pos rfl, decide_eq_false e]; rfl) (rfl)
    · obtain ⟨v1, v2⟩ := k6 (by decide)
      obtain ⟨m1, m2⟩ := k5 (by decide)
      have := bC mk m2
      rw [v1, nI_l (n := v) (by omega)]
      refine r_tabIn (tgt := 353) dX9_holds_134 (by decide) (by decide) (by rfl) (by decide) ?_
      refine r_aload0 dX9_holds_353 ?_
      refine r_getR dX9_holds_354 fl_X9_47 rfl rfl ?_
      refine r_aload0 dX9_holds_357 ?_
      refine r_getR dX9_holds_358 fl_X9_35 rfl rfl ?_
      refine r_iload1 dX9_holds_361 ?_
      refine r_ialdN dX9_holds_362 rfl hi ?_
      rw [m1]
      refine r_ialdN dX9_holds_363 rfl m2 ?_
      rw [hC mk m2]
      refine r_i2l dX9_holds_364 ?_
      rw [nI_l (by omega)]
      by_cases e : C mk = v
      · refine r_lload8 dX9_holds_365 ?_
        refine r_lne (tgt := 375) dX9_holds_367 dX9_holds_368 (by decide) (fun c9 => absurd (by rw [e]) c9) (fun _ => ?_)
        refine r_iconst_1 dX9_holds_371 ?_
        refine r_goto (tgt := 376) dX9_holds_372 (by decide) ?_
        exact r_zretE dX9_holds_376 rfl (by decide) (by unfold mhB; rw [if_neg (by decide), if_neg (by decide), if_neg (by decide), if_neg (by decide), if_pos rfl, decide_eq_true e]; rfl) (rfl)
      · refine r_lload8 dX9_holds_365 ?_
        refine r_lne (tgt := 375) dX9_holds_367 dX9_holds_368 (by decide) (fun _ => ?_) (fun c9 => absurd c9 (fun q => e ((pk_lEQ (by omega) (by omega)).mp q)))
        refine r_iconst_0 dX9_holds_375 ?_
        exact r_zretE dX9_holds_376 rfl (by decide) (by unfold mhB; rw [if_neg (by decide), if_neg (by decide), if_neg (by decide), if_neg (by decide), if_pos rfl, decide_eq_false e]; rfl) (rfl)
    · obtain ⟨v1, v2⟩ := k6 (by decide)
      obtain ⟨m1, m2⟩ := k5 (by decide)
      have bf : frm C mk ≤ 9 := by
        simp only [sg] at hs
        have : mk = 0 ∨ mk = 1 ∨ mk = 2 ∨ mk = 3 ∨ mk = 4 ∨ mk = 5 ∨ mk = 6 := by omega
        rcases this with rfl | rfl | rfl | rfl | rfl | rfl | rfl <;> simp [frm, sg] <;> omega
      have bd := rdN_lt (100 * frm C mk) n r
      rw [v1, nI_l (n := v) (by omega), m1, abI_n C m2]
      refine r_tabIn (tgt := 377) dX9_holds_134 (by decide) (by decide) (by rfl) (by decide) ?_
      refine r_ldc2 ct_X9_160 dX9_holds_377 ?_
      refine r_iload5 dX9_holds_380 ?_
      refine r_i2l dX9_holds_382 ?_
      rw [nI_l (by omega)]
      refine r_lmul dX9_holds_383 ?_
      refine r_aload0 dX9_holds_384 ?_
      refine r_getI dX9_holds_385 fl_X9_22 rfl rfl ?_
      refine r_i2l dX9_holds_388 ?_
      rw [show (100 : Int64) * lN (frm C mk) = lN (100 * frm C mk) from lN_mul 100 _, h5, nI_l (by omega)]
      refine r_aload0 dX9_holds_389 ?_
      refine r_getR dX9_holds_390 fl_X9_44 rfl rfl ?_
      refine r_iload1 dX9_holds_393 ?_
      refine r_ialdN dX9_holds_394 rfl hi ?_
      rw [hR]
      refine r_cS3L dX9_holds_395 mm_X9_rounded st_X9_rounded ml_X9_166 (c_X9_rounded _ _ r h (by omega) (by omega) (by omega)) (by decide) (Nat.le_of_ble_eq_true rfl) ?_
      refine r_lload8 dX9_holds_398 ?_
      by_cases e : rdN (100 * frm C mk) n r = v
      · refine r_lne (tgt := 408) dX9_holds_400 dX9_holds_401 (by decide) (fun c9 => absurd (by rw [e]) c9) (fun _ => ?_)
        refine r_iconst_1 dX9_holds_404 ?_
        refine r_goto (tgt := 409) dX9_holds_405 (by decide) ?_
        exact r_zretE dX9_holds_409 rfl (by decide) (by unfold mhB; rw [if_neg (by decide), if_neg (by decide), if_neg (by decide), if_neg (by decide), if_neg (by decide), if_pos rfl, decide_eq_true e]; rfl) (rfl)
      · refine r_lne (tgt := 408) dX9_holds_400 dX9_holds_401 (by decide) (fun _ => ?_) (fun c9 => absurd c9 (fun q => e ((pk_lEQ (by omega) (by omega)).mp q)))
        refine r_iconst_0 dX9_holds_408 ?_
        exact r_zretE dX9_holds_409 rfl (by decide) (by unfold mhB; rw [if_neg (by decide), if_neg (by decide), if_neg (by decide), if_neg (by decide), if_neg (by decide), if_pos rfl, decide_eq_false e]; rfl) (rfl)
    · obtain ⟨m1, m2⟩ := k5 (by decide)
      have a1 : mkA C 0 ≤ 7 := upF7 _
      refine r_tabIn (tgt := 410) dX9_holds_134 (by decide) (by decide) (by rfl) (by decide) ?_
      refine r_aload0 dX9_holds_410 ?_
      refine r_iconst_0 dX9_holds_411 ?_
      refine r_cV1I dX9_holds_412 mm_X9_markAt im_X9_markAt se_X9_markAt ml_X9_174 rfl rfl rfl (c_X9_markAt C 0 h hC (by omega) (by omega)) (by decide) (Nat.le_of_ble_eq_true rfl) ?_
      refine r_aload0 dX9_holds_415 ?_
      refine r_getR dX9_holds_416 fl_X9_35 rfl rfl ?_
      refine r_iload1 dX9_holds_419 ?_
      refine r_ialdN dX9_holds_420 rfl hi ?_
      rw [m1]
      by_cases e : mkA C 0 = mk
      · refine r_icmpne (tgt := 428) dX9_holds_421 (by decide) (fun c9 => absurd (by rw [e]) c9) (fun _ => ?_)
        refine r_iconst_1 dX9_holds_424 ?_
        refine r_goto (tgt := 429) dX9_holds_425 (by decide) ?_
        exact r_zretE dX9_holds_429 rfl (by decide) (by unfold mhB; rw [if_neg (by decide), if_neg (by decide), if_neg (by decide), if_neg (by decide), if_neg (by decide), if_neg (by decide), if_pos rfl, decide_eq_true e]; rfl) (rfl)
      · refine r_icmpne (tgt := 428) dX9_holds_421 (by decide) (fun _ => ?_) (fun c9 => absurd c9 (fun q => e ((nI_eq (by omega) (by omega)).mp q)))
        refine r_iconst_0 dX9_holds_428 ?_
        exact r_zretE dX9_holds_429 rfl (by decide) (by unfold mhB; rw [if_neg (by decide), if_neg (by decide), if_neg (by decide), if_neg (by decide), if_neg (by decide), if_neg (by decide), if_pos rfl, decide_eq_false e]; rfl) (rfl)
    · obtain ⟨m1, m2⟩ := k5 (by decide)
      have a1 : mkA C (n - 1) ≤ 7 := upF7 _
      refine r_tabIn (tgt := 430) dX9_holds_134 (by decide) (by decide) (by rfl) (by decide) ?_
      refine r_aload0 dX9_holds_430 ?_
      refine r_aload0 dX9_holds_431 ?_
      refine r_getI dX9_holds_432 fl_X9_22 rfl rfl ?_
      rw [h5]
      refine r_iconst_1 dX9_holds_435 ?_
      refine r_isub dX9_holds_436 ?_
      rw [show nI n - 1 = nI (n - 1) from pk_sub (b := 1) hn]
      refine r_cV1I dX9_holds_437 mm_X9_markAt im_X9_markAt se_X9_markAt ml_X9_174 rfl rfl rfl (c_X9_markAt C (n - 1) h hC (by omega) (by omega)) (by decide) (Nat.le_of_ble_eq_true rfl) ?_
      refine r_aload0 dX9_holds_440 ?_
      refine r_getR dX9_holds_441 fl_X9_35 rfl rfl ?_
      refine r_iload1 dX9_holds_444 ?_
      refine r_ialdN dX9_holds_445 rfl hi ?_
      rw [m1]
      by_cases e : mkA C (n - 1) = mk
      · refine r_icmpne (tgt := 453) dX9_holds_446 (by decide) (fun c9 => absurd (by rw [e]) c9) (fun _ => ?_)
        refine r_iconst_1 dX9_holds_449 ?_
        refine r_goto (tgt := 454) dX9_holds_450 (by decide) ?_
        exact r_zretE dX9_holds_454 rfl (by decide) (by unfold mhB; rw [if_neg (by decide), if_neg (by decide), if_neg (by decide), if_neg (by decide), if_neg (by decide), if_neg (by decide), if_neg (by decide), if_pos rfl, decide_eq_true e]; rfl) (rfl)
      · refine r_icmpne (tgt := 453) dX9_holds_446 (by decide) (fun _ => ?_) (fun c9 => absurd c9 (fun q => e ((nI_eq (by omega) (by omega)).mp q)))
        refine r_iconst_0 dX9_holds_453 ?_
        exact r_zretE dX9_holds_454 rfl (by decide) (by unfold mhB; rw [if_neg (by decide), if_neg (by decide), if_neg (by decide), if_neg (by decide), if_neg (by decide), if_neg (by decide), if_neg (by decide), if_pos rfl, decide_eq_false e]; rfl) (rfl)
    · obtain ⟨m1, m2⟩ := k5 (by decide)
      have a1 := moK_lt C 7 (Nat.le_refl _)
      refine r_tabOut (tgt := 455) dX9_holds_134 (by decide) (by decide) ?_
      refine r_iload4 dX9_holds_455 ?_
      refine r_aload0 dX9_holds_457 ?_
      refine r_getR dX9_holds_458 fl_X9_35 rfl rfl ?_
      refine r_iload1 dX9_holds_461 ?_
      refine r_ialdN dX9_holds_462 rfl hi ?_
      rw [m1]
      by_cases e : moK C 7 = mk
      · refine r_icmpne (tgt := 470) dX9_holds_463 (by decide) (fun c9 => absurd (by rw [e]) c9) (fun _ => ?_)
        refine r_iconst_1 dX9_holds_466 ?_
        refine r_goto (tgt := 471) dX9_holds_467 (by decide) ?_
        exact r_zretE dX9_holds_471 rfl (by decide) (by unfold mhB; rw [if_neg (by decide), if_neg (by decide), if_neg (by decide), if_neg (by decide), if_neg (by decide), if_neg (by decide), if_neg (by decide), if_neg (by decide), decide_eq_true e]; rfl) (rfl)
      · refine r_icmpne (tgt := 470) dX9_holds_463 (by decide) (fun _ => ?_) (fun c9 => absurd c9 (fun q => e ((nI_eq (by omega) (by omega)).mp q)))
        refine r_iconst_0 dX9_holds_470 ?_
        exact r_zretE dX9_holds_471 rfl (by decide) (by unfold mhB; rw [if_neg (by decide), if_neg (by decide), if_neg (by decide), if_neg (by decide), if_neg (by decide), if_neg (by decide), if_neg (by decide), if_neg (by decide), decide_eq_false e]; rfl) (rfl)
  have key : ∀ f k, k + f = 7 → Aw 1 MX9_holds (Kp (EI (b2i (mhB C n kd mk v bh r)) h)) 13 [some (.ref 31), some (.int (nI i)), some (.int (nI (S1 C k))), some (.int (nI (S2 C k))), some (.int (nI (moK C k))), some (.int (abI (h.1 38 i) C k)), some (.int (nI k)), none, none, none, none, none] [] h := by
    intro f
    induction f with
    | zero =>
      intro k hk
      have : k = 7 := by omega
      subst this
      refine r_iload6 dX9_holds_13 ?_
      refine r_bipush bv_7 dX9_holds_15 ?_
      refine r_icmpge (tgt := 108) dX9_holds_17 (by decide) (fun _ => ?_) (fun c9 => absurd (by decide) c9)
      refine r_aload0 dX9_holds_108 ?_
      refine r_getR dX9_holds_109 fl_X9_41 rfl rfl ?_
      refine r_iload1 dX9_holds_112 ?_
      refine r_ialdN dX9_holds_113 rfl hi ?_
      rw [k3]
      refine r_cS1L dX9_holds_114 mm_X9_tens st_X9_tens ml_X9_162 (c_X9_tens bh h k4) (by decide) (Nat.le_of_ble_eq_true rfl) ?_
      refine r_lstore6 dX9_holds_117 rfl (by decide) ?_
      refine r_aload0 dX9_holds_119 ?_
      refine r_getR dX9_holds_120 fl_X9_38 rfl rfl ?_
      refine r_iload1 dX9_holds_123 ?_
      refine r_ialdN dX9_holds_124 rfl hi ?_
      refine r_i2l dX9_holds_125 ?_
      refine r_lstore8 dX9_holds_126 rfl (by decide) ?_
      refine r_aload0 dX9_holds_128 ?_
      refine r_getR dX9_holds_129 fl_X9_32 rfl rfl ?_
      refine r_iload1 dX9_holds_132 ?_
      refine r_ialdN dX9_holds_133 rfl hi ?_
      rw [k1]
      exact sw
    | succ f ih =>
      intro k hk
      have ih := ih (k + 1) (by omega)
      have e1 : S1 C (k + 1) = S1 C k + k * C k := rfl
      have e2 : S2 C (k + 1) = S2 C k + k * k * C k := rfl
      have e3 : moK C (k + 1) = if C (moK C k) < C k then k else moK C k := by
        unfold moK
        rw [lp_last, Nat.zero_add]
      have e4 : abI (h.1 38 i) C (k + 1) = if h.1 38 i ≤ nI k then abI (h.1 38 i) C k + nI (C k) else abI (h.1 38 i) C k := by
        unfold abI
        rw [lp_last, Nat.zero_add]
      have hmo := moK_lt C k (by omega)
      have c1 := bC k (by omega)
      have c2 := bC _ hmo
      rw [e1, e2, e3, e4] at ih
      refine r_iload6 dX9_holds_13 ?_
      refine r_bipush bv_7 dX9_holds_15 ?_
      refine r_icmpge (tgt := 108) dX9_holds_17 (by decide) (fun c9 => absurd c9 (nI_ge (b := 7) (by omega) (by decide))) (fun _ => ?_)
      refine r_iload2 dX9_holds_20 ?_
      refine r_iload6 dX9_holds_21 ?_
      refine r_aload0 dX9_holds_23 ?_
      refine r_getR dX9_holds_24 fl_X9_47 rfl rfl ?_
      refine r_iload6 dX9_holds_27 ?_
      refine r_ialdN dX9_holds_29 rfl (by omega) ?_
      rw [hC k (by omega)]
      refine r_imul dX9_holds_30 ?_
      refine r_iadd dX9_holds_31 ?_
      rw [pk_mul, nI_add]
      refine r_istore2 dX9_holds_32 rfl (by decide) ?_
      refine r_iload3 dX9_holds_33 ?_
      refine r_iload6 dX9_holds_34 ?_
      refine r_iload6 dX9_holds_36 ?_
      refine r_imul dX9_holds_38 ?_
      refine r_aload0 dX9_holds_39 ?_
      refine r_getR dX9_holds_40 fl_X9_47 rfl rfl ?_
      refine r_iload6 dX9_holds_43 ?_
      refine r_ialdN dX9_holds_45 rfl (by omega) ?_
      rw [hC k (by omega)]
      refine r_imul dX9_holds_46 ?_
      refine r_iadd dX9_holds_47 ?_
      rw [pk_mul, pk_mul, nI_add]
      refine r_istore3 dX9_holds_48 rfl (by decide) ?_
      refine r_aload0 dX9_holds_49 ?_
      refine r_getR dX9_holds_50 fl_X9_47 rfl rfl ?_
      refine r_iload6 dX9_holds_53 ?_
      refine r_ialdN dX9_holds_55 rfl (by omega) ?_
      rw [hC k (by omega)]
      refine r_aload0 dX9_holds_56 ?_
      refine r_getR dX9_holds_57 fl_X9_47 rfl rfl ?_
      refine r_iload4 dX9_holds_60 ?_
      refine r_ialdN dX9_holds_62 rfl hmo ?_
      rw [hC _ hmo]
      have tail : ∀ m, m = (if C (moK C k) < C k then k else moK C k) → Aw 1 MX9_holds (Kp (EI (b2i (mhB C n kd mk v bh r)) h)) 73 [some (.ref 31), some (.int (nI i)), some (.int (nI (S1 C k + k * C k))), some (.int (nI (S2 C k + k * k * C k))), some (.int (nI (moK C k))), some (.int (abI (h.1 38 i) C k)), some (.int (nI k)), none, none, none, none, none] [.int (nI m)] h := by
        intro m hm
        subst hm
        by_cases d : h.1 38 i ≤ nI k
        · rw [if_pos d] at ih
          refine r_istore4 dX9_holds_73 rfl (by decide) ?_
          refine r_iload5 dX9_holds_75 ?_
          refine r_iload6 dX9_holds_77 ?_
          refine r_aload0 dX9_holds_79 ?_
          refine r_getR dX9_holds_80 fl_X9_35 rfl rfl ?_
          refine r_iload1 dX9_holds_83 ?_
          refine r_ialdN dX9_holds_84 rfl hi ?_
          refine r_icmplt (tgt := 98) dX9_holds_85 (by decide) (fun c9 => absurd c9 (fun q => absurd d (Int32.not_le.mpr q))) (fun _ => ?_)
          refine r_aload0 dX9_holds_88 ?_
          refine r_getR dX9_holds_89 fl_X9_47 rfl rfl ?_
          refine r_iload6 dX9_holds_92 ?_
          refine r_ialdN dX9_holds_94 rfl (by omega) ?_
          rw [hC k (by omega)]
          refine r_goto (tgt := 99) dX9_holds_95 (by decide) ?_
          refine r_iadd dX9_holds_99 ?_
          refine r_istore5 dX9_holds_100 rfl (by decide) ?_
          refine r_iinc6_1 dX9_holds_102 rfl (by decide) ?_
          refine r_goto (tgt := 13) dX9_holds_105 (by decide) ?_
          rw [nI_1]
          exact ih
        · rw [if_neg d] at ih
          refine r_istore4 dX9_holds_73 rfl (by decide) ?_
          refine r_iload5 dX9_holds_75 ?_
          refine r_iload6 dX9_holds_77 ?_
          refine r_aload0 dX9_holds_79 ?_
          refine r_getR dX9_holds_80 fl_X9_35 rfl rfl ?_
          refine r_iload1 dX9_holds_83 ?_
          refine r_ialdN dX9_holds_84 rfl hi ?_
          refine r_icmplt (tgt := 98) dX9_holds_85 (by decide) (fun _ => ?_) (fun c9 => absurd (Int32.not_le.mp d) c9)
          refine r_iconst_0 dX9_holds_98 ?_
          refine r_iadd dX9_holds_99 ?_
          refine r_istore5 dX9_holds_100 rfl (by decide) ?_
          refine r_iinc6_1 dX9_holds_102 rfl (by decide) ?_
          refine r_goto (tgt := 13) dX9_holds_105 (by decide) ?_
          rw [i32_add0, nI_1]
          exact ih
      by_cases c : C (moK C k) < C k
      · refine r_icmple (tgt := 71) dX9_holds_63 (by decide) (fun c9 => absurd c9 (nI_ge c (by omega))) (fun _ => ?_)
        refine r_iload6 dX9_holds_66 ?_
        refine r_goto (tgt := 73) dX9_holds_68 (by decide) ?_
        exact tail k (if_pos c).symm
      · refine r_icmple (tgt := 71) dX9_holds_63 (by decide) (fun _ => ?_) (fun c9 => absurd (nI_le (by omega) (by omega)) c9)
        refine r_iload4 dX9_holds_71 ?_
        exact tail (moK C k) (if_neg c).symm
  exact key 7 0 rfl
