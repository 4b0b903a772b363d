/-! class Sheet: places 18 .. 21, its items at the place four on -/
def isSh (p : Nat) : Prop := 18 ≤ p ∧ p < 22
theorem oSh {p : Nat} (h : isSh p) : oL p = some (5, [p + 4 + 2, 0, 0, 0]) := by
  obtain ⟨h1, h2⟩ := h
  have : p = 18 ∨ p = 19 ∨ p = 20 ∨ p = 21 := by omega
  rcases this with rfl | rfl | rfl | rfl <;> rfl
theorem aSh {p : Nat} (h : isSh p) : aL (p + 4) = some (0, 60) := by
  obtain ⟨h1, h2⟩ := h
  have : p = 18 ∨ p = 19 ∨ p = 20 ∨ p = 21 := by omega
  rcases this with rfl | rfl | rfl | rfl <;> rfl
def fClamp (n : Int32) : Int32 := if 0 < (if 60 < n then 60 else n) then (if 60 < n then 60 else n) else 0
def beginH (h : Hp) (p : Nat) (form n : Int32) : Hp := pI (pI (pI (pA h (p + 4) (fun j => if j < 60 then 0 else h.1 (p + 4) j)) p 1 0) p 2 form) p 3 (fClamp n)
def fItem (h : Hp) (p : Nat) (i : Int32) : Int32 := if i < 0 then 0 else if i < h.1 p 3 then h.1 (p + 4) i.toNatClampNeg else 0
def cutF (f v : Int32) : Int32 := if f = 0 then v.toInt8.toInt32 else if f = 1 then v.toInt16.toInt32 else v
def keepH (h : Hp) (p : Nat) (i v : Int32) : Hp := if i < 0 then h else if h.1 p 3 ≤ i then h else pI h (p + 4) i.toNatClampNeg (cutF (h.1 p 2) v)
def abs32 (x : Int32) : Int32 := if 0 ≤ x then x else 0 - x
def fEnd (v : Int32) : Int32 := abs32 (rem32 v 10)
def ffStep (x : Int32) : Int32 := if x ≤ -10 then x / 10 else if 10 ≤ x then x / 10 else x
def fFirst (v : Int32) : Int32 := abs32 (lp (fun _ x => ffStep x) 1 9 v)
def cntF (g : Int32 → Int32) (f : Int32) (a : Nat → Int32) (n : Nat) : Int32 := lp (fun i acc => if g (a i) = f then acc + 1 else acc) 0 n 0
def fStretch (s i n : Int32) : Int32 := if i < 0 then 0 else if n < 0 then 0 else if s < i then 0 else if s - i < n then 0 else 1
theorem vin {i : Int32} {n N : Nat} (h0 : ¬ i < 0) (h1 : ¬ nI n ≤ i) (hn : n ≤ N) (hN : N < 2 ^ 31) : vp_in i N := by
  obtain ⟨j, h2, rfl, -⟩ := pk_mu h0 h1 (by omega : n < 2 ^ 31)
  exact vp_in_nI (by omega) hN
theorem c_X6_begin (p : Nat) (form n : Int32) (h : Hp) (hp : isSh p) : Rn 1 MX6_begin [.ref p, .int form, .int n] h (EV (beginH h p form n)) := by
  have ho := oSh hp
  refine rn_of mm_X6_begin (le_b rfl) rfl ?_
  refine r_aload0 dX6_begin_0 ?_
  refine r_getR dX6_begin_1 fl_X6_9 ho rfl ?_
  refine r_iconst_0 dX6_begin_4 ?_
  refine r_cS2V dX6_begin_5 mm_J7_fill_53178 st_J7_fill_53178 ml_X6_19 (c_fillI (p + 4) 60 0 h (aSh hp)) (by decide) (Nat.le_of_ble_eq_true rfl) ?_
  refine r_aload0 dX6_begin_8 ?_
  refine r_iconst_0 dX6_begin_9 ?_
  refine r_putZ dX6_begin_10 fw_X6_15 ho rfl (by decide) ?_
  refine r_aload0 dX6_begin_13 ?_
  refine r_iload1 dX6_begin_14 ?_
  refine r_putI dX6_begin_15 fw_X6_25 ho rfl ?_
  refine r_aload0 dX6_begin_18 ?_
  refine r_iconst_0 dX6_begin_19 ?_
  refine r_iload2 dX6_begin_20 ?_
  refine r_bipush bv_60 dX6_begin_21 ?_
  refine r_mmin dX6_begin_23 ml_X6_29 (by decide) (Nat.le_of_ble_eq_true rfl) ?_
  refine r_mmax dX6_begin_26 ml_X6_35 (by decide) (Nat.le_of_ble_eq_true rfl) ?_
  refine r_putI dX6_begin_29 fw_X6_38 ho rfl ?_
  exact r_vretE dX6_begin_32 rfl (rfl)
theorem c_X6_item (p n : Nat) (i : Int32) (h : Hp) (hp : isSh p) (hn : n ≤ 60) (hs : h.1 p 3 = nI n) : Rn 0 MX6_item [.ref p, .int i] h (EI (fItem h p i) h) := by
  have ho := oSh hp
  have ha := aSh hp
  refine rn_of mm_X6_item (le_b rfl) rfl ?_
  refine r_iload1 dX6_item_0 ?_
  refine r_iflt (tgt := 12) dX6_item_1 (by decide) (fun c => ?_) (fun c => ?_)
  · refine r_iconst_0 dX6_item_12 ?_
    refine r_goto (tgt := 22) dX6_item_13 (by decide) ?_
    exact r_iretE dX6_item_22 rfl (by simp [fItem, c]) (rfl)
  · refine r_iload1 dX6_item_4 ?_
    refine r_aload0 dX6_item_5 ?_
    refine r_getI dX6_item_6 fl_X6_38 ho rfl ?_
    refine r_icmplt (tgt := 16) dX6_item_9 (by decide) (fun c2 => ?_) (fun c2 => ?_)
    · refine r_aload0 dX6_item_16 ?_
      refine r_getR dX6_item_17 fl_X6_9 ho rfl ?_
      refine r_iload1 dX6_item_20 ?_
      refine r_iald dX6_item_21 ha (vin c (by rw [← hs]; exact fun q => absurd c2 (Int32.not_lt.mpr q)) hn (by decide)) ?_
      exact r_iretE dX6_item_22 rfl (by simp [fItem, c, c2]) (rfl)
    · refine r_iconst_0 dX6_item_12 ?_
      refine r_goto (tgt := 22) dX6_item_13 (by decide) ?_
      exact r_iretE dX6_item_22 rfl (by simp [fItem, c, c2]) (rfl)
theorem c_X6_keep (p n : Nat) (i v : Int32) (h : Hp) (hp : isSh p) (hn : n ≤ 60) (hs : h.1 p 3 = nI n) : Rn 0 MX6_keep [.ref p, .int i, .int v] h (EV (keepH h p i v)) := by
  have ho := oSh hp
  have ha := aSh hp
  refine rn_of mm_X6_keep (le_b rfl) rfl ?_
  refine r_iload1 dX6_keep_0 ?_
  refine r_iflt (tgt := 44) dX6_keep_1 (by decide) (fun c => ?_) (fun c => ?_)
  · exact r_vretE dX6_keep_44 rfl (by simp [keepH, c])
  · refine r_iload1 dX6_keep_4 ?_
    refine r_aload0 dX6_keep_5 ?_
    refine r_getI dX6_keep_6 fl_X6_38 ho rfl ?_
    refine r_icmpge (tgt := 44) dX6_keep_9 (by decide) (fun c2 => ?_) (fun c2 => ?_)
    · exact r_vretE dX6_keep_44 rfl (by simp [keepH, c, c2])
    · have hv : vp_in i 60 := vin c (by rw [← hs]; exact c2) hn (by decide)
      refine r_aload0 dX6_keep_12 ?_
      refine r_getR dX6_keep_13 fl_X6_9 ho rfl ?_
      refine r_iload1 dX6_keep_16 ?_
      refine r_aload0 dX6_keep_17 ?_
      refine r_getI dX6_keep_18 fl_X6_25 ho rfl ?_
      refine r_ifne (tgt := 29) dX6_keep_21 (by decide) (fun c3 => ?_) (fun c3 => ?_)
      · refine r_aload0 dX6_keep_29 ?_
        refine r_getI dX6_keep_30 fl_X6_25 ho rfl ?_
        refine r_iconst_1 dX6_keep_33 ?_
        refine r_icmpne (tgt := 42) dX6_keep_34 (by decide) (fun c4 => ?_) (fun c4 => ?_)
        · refine r_iload2 dX6_keep_42 ?_
          refine r_iast dX6_keep_43 ha hv ?_
          exact r_vretE dX6_keep_44 rfl (by simp [keepH, c, c2, cutF, c3, c4])
        · refine r_iload2 dX6_keep_37 ?_
          refine r_i2s dX6_keep_38 ?_
          refine r_goto (tgt := 43) dX6_keep_39 (by decide) ?_
          refine r_iast dX6_keep_43 ha hv ?_
          exact r_vretE dX6_keep_44 rfl (by simp [keepH, c, c2, cutF, c4])
      · refine r_iload2 dX6_keep_24 ?_
        refine r_i2b dX6_keep_25 ?_
        refine r_goto (tgt := 43) dX6_keep_26 (by decide) ?_
        refine r_iast dX6_keep_43 ha hv ?_
        exact r_vretE dX6_keep_44 rfl (by simp [keepH, c, c2, cutF, c3])
theorem c_X6_hasStretch (p : Nat) (i n : Int32) (h : Hp) (hp : isSh p) : Rn 0 MX6_hasStretch [.ref p, .int i, .int n] h (EI (fStretch (h.1 p 3) i n) h) := by
  have ho := oSh hp
  refine rn_of mm_X6_hasStretch (le_b rfl) rfl ?_
  refine r_iload1 dX6_hasStretch_0 ?_
  refine r_iflt (tgt := 30) dX6_hasStretch_1 (by decide) (fun c => ?_) (fun c => ?_)
  · refine r_iconst_0 dX6_hasStretch_30 ?_
    exact r_zretE dX6_hasStretch_31 rfl (by decide) (by simp [fStretch, c]) (rfl)
  · refine r_iload2 dX6_hasStretch_4 ?_
    refine r_iflt (tgt := 30) dX6_hasStretch_5 (by decide) (fun c2 => ?_) (fun c2 => ?_)
    · refine r_iconst_0 dX6_hasStretch_30 ?_
      exact r_zretE dX6_hasStretch_31 rfl (by decide) (by simp [fStretch, c, c2]) (rfl)
    · refine r_iload1 dX6_hasStretch_8 ?_
      refine r_aload0 dX6_hasStretch_9 ?_
      refine r_getI dX6_hasStretch_10 fl_X6_38 ho rfl ?_
      refine r_icmpgt (tgt := 30) dX6_hasStretch_13 (by decide) (fun c3 => ?_) (fun c3 => ?_)
      · refine r_iconst_0 dX6_hasStretch_30 ?_
        exact r_zretE dX6_hasStretch_31 rfl (by decide) (by simp [fStretch, c, c2, c3]) (rfl)
      · refine r_iload2 dX6_hasStretch_16 ?_
        refine r_aload0 dX6_hasStretch_17 ?_
        refine r_getI dX6_hasStretch_18 fl_X6_38 ho rfl ?_
        refine r_iload1 dX6_hasStretch_21 ?_
        refine r_isub dX6_hasStretch_22 ?_
        refine r_icmpgt (tgt := 30) dX6_hasStretch_23 (by decide) (fun c4 => ?_) (fun c4 => ?_)
        · refine r_iconst_0 dX6_hasStretch_30 ?_
          exact r_zretE dX6_hasStretch_31 rfl (by decide) (by simp [fStretch, c, c2, c3, c4]) (rfl)
        · refine r_iconst_1 dX6_hasStretch_26 ?_
          refine r_goto (tgt := 31) dX6_hasStretch_27 (by decide) ?_
          exact r_zretE dX6_hasStretch_31 rfl (by decide) (by simp [fStretch, c, c2, c3, c4]) (rfl)
def fWithin (a : Nat → Int32) (lo hi : Int32) (n : Nat) : Int32 := if ∀ j, j < n → ¬ a j < lo ∧ a j ≤ hi then 1 else 0
theorem c_X6_isWithin (p n : Nat) (lo hi : Int32) (h : Hp) (hp : isSh p) (hn : n ≤ 60) (hs : h.1 p 3 = nI n) : Rn 0 MX6_isWithin [.ref p, .int lo, .int hi] h (EI (fWithin (h.1 (p + 4)) lo hi n) h) := by
  have ho := oSh hp
  have ha := aSh hp
  refine rn_of mm_X6_isWithin (le_b rfl) rfl ?_
  refine r_iconst_0 dX6_isWithin_0 ?_
  refine r_istore3 dX6_isWithin_1 rfl (by decide) ?_
  have key : ∀ k i, i + k = n → (∀ j, j < i → ¬ h.1 (p + 4) j < lo ∧ h.1 (p + 4) j ≤ hi) → Aw 0 MX6_isWithin (Kp (EI (fWithin (h.1 (p + 4)) lo hi n) h)) 2 [some (.ref p), some (.int lo), some (.int hi), some (.int (nI i))] [] h := by
    intro k
    induction k with
    | zero =>
      intro i hi hall
      have : i = n := by omega
      subst this
      refine r_iload3 dX6_isWithin_2 ?_
      refine r_aload0 dX6_isWithin_3 ?_
      refine r_getI dX6_isWithin_4 fl_X6_38 ho rfl ?_
      refine r_icmpge (tgt := 38) dX6_isWithin_7 (by decide) (fun _ => ?_) (fun c9 => absurd (by rw [hs]; exact Int32.le_refl _) c9)
      refine r_iconst_1 dX6_isWithin_38 ?_
      exact r_zretE dX6_isWithin_39 rfl (by decide) (by rw [fWithin, if_pos hall]) (rfl)
    | succ k ih =>
      intro i hi hall
      refine r_iload3 dX6_isWithin_2 ?_
      refine r_aload0 dX6_isWithin_3 ?_
      refine r_getI dX6_isWithin_4 fl_X6_38 ho rfl ?_
      refine r_icmpge (tgt := 38) dX6_isWithin_7 (by decide) (fun c9 => absurd c9 (by rw [hs]; exact nI_ge (by omega) (by omega))) (fun _ => ?_)
      refine r_aload0 dX6_isWithin_10 ?_
      refine r_getR dX6_isWithin_11 fl_X6_9 ho rfl ?_
      refine r_iload3 dX6_isWithin_14 ?_
      refine r_ialdN dX6_isWithin_15 ha (by omega) ?_
      refine r_iload1 dX6_isWithin_16 ?_
      refine r_icmplt (tgt := 30) dX6_isWithin_17 (by decide) (fun c => ?_) (fun c => ?_)
      · refine r_iconst_0 dX6_isWithin_30 ?_
        exact r_zretE dX6_isWithin_31 rfl (by decide) (by rw [fWithin, if_neg (fun q => (q i (by omega)).1 c)]) (rfl)
      · refine r_aload0 dX6_isWithin_20 ?_
        refine r_getR dX6_isWithin_21 fl_X6_9 ho rfl ?_
        refine r_iload3 dX6_isWithin_24 ?_
        refine r_ialdN dX6_isWithin_25 ha (by omega) ?_
        refine r_iload2 dX6_isWithin_26 ?_
        refine r_icmple (tgt := 32) dX6_isWithin_27 (by decide) (fun c2 => ?_) (fun c2 => ?_)
        · refine r_iinc3_1 dX6_isWithin_32 rfl (by decide) ?_
          refine r_goto (tgt := 2) dX6_isWithin_35 (by decide) ?_
          rw [nI_1]
          exact ih (i + 1) (by omega) (fun j hj => by
            rcases Nat.lt_or_ge j i with q | q
            · exact hall j q
            · have : j = i := by omega
              subst this
              exact ⟨c, c2⟩)
        · refine r_iconst_0 dX6_isWithin_30 ?_
          exact r_zretE dX6_isWithin_31 rfl (by decide) (by rw [fWithin, if_neg (fun q => c2 (q i (by omega)).2)]) (rfl)
  exact key n 0 (by omega) (fun j hj => by omega)
theorem c_X6_howManyEndIn (p n : Nat) (f : Int32) (h : Hp) (hp : isSh p) (hn : n ≤ 60) (hs : h.1 p 3 = nI n) : Rn 1 MX6_howManyEndIn [.ref p, .int f] h (EI (cntF fEnd f (h.1 (p + 4)) n) h) := by
  have ho := oSh hp
  have ha := aSh hp
  refine rn_of mm_X6_howManyEndIn (le_b rfl) rfl ?_
  refine r_iconst_0 dX6_howManyEndIn_0 ?_
  refine r_istore2 dX6_howManyEndIn_1 rfl (by decide) ?_
  refine r_iconst_0 dX6_howManyEndIn_2 ?_
  refine r_istore3 dX6_howManyEndIn_3 rfl (by decide) ?_
  refine lpA (fun i acc => if fEnd (h.1 (p + 4) i) = f then acc + 1 else acc) (fun i acc => Aw 1 MX6_howManyEndIn (Kp (EI (cntF fEnd f (h.1 (p + 4)) n) h)) 4 [some (.ref p), some (.int f), some (.int acc), some (.int (nI i))] [] h) n ?_ 0 ?_
  · intro i acc hi k
    refine r_iload3 dX6_howManyEndIn_4 ?_
    refine r_aload0 dX6_howManyEndIn_5 ?_
    refine r_getI dX6_howManyEndIn_6 fl_X6_38 ho rfl ?_
    refine r_icmpge (tgt := 37) dX6_howManyEndIn_9 (by decide) (fun c9 => absurd c9 (by rw [hs]; exact nI_ge hi (by omega))) (fun _ => ?_)
    refine r_aload0 dX6_howManyEndIn_12 ?_
    refine r_getR dX6_howManyEndIn_13 fl_X6_9 ho rfl ?_
    refine r_iload3 dX6_howManyEndIn_16 ?_
    refine r_ialdN dX6_howManyEndIn_17 ha (by omega) ?_
    refine r_bipush bv_10 dX6_howManyEndIn_18 ?_
    refine r_irem (by decide) dX6_howManyEndIn_20 ?_
    refine r_mabs dX6_howManyEndIn_21 ml_X6_41 (by decide) (Nat.le_of_ble_eq_true rfl) ?_
    refine r_iload1 dX6_howManyEndIn_24 ?_
    change Aw _ _ _ _ _ [.int f, .int (fEnd (h.1 (p + 4) i))] _
    refine r_icmpne (tgt := 31) dX6_howManyEndIn_25 (by decide) (fun c => ?_) (fun c => ?_)
    · refine r_iinc3_1 dX6_howManyEndIn_31 rfl (by decide) ?_
      refine r_goto (tgt := 4) dX6_howManyEndIn_34 (by decide) ?_
      rw [if_neg c] at k
      rw [nI_1]
      exact k
    · refine r_iinc2_1 dX6_howManyEndIn_28 rfl (by decide) ?_
      refine r_iinc3_1 dX6_howManyEndIn_31 rfl (by decide) ?_
      refine r_goto (tgt := 4) dX6_howManyEndIn_34 (by decide) ?_
      rw [if_pos c] at k
      rw [nI_1]
      exact k
  · refine r_iload3 dX6_howManyEndIn_4 ?_
    refine r_aload0 dX6_howManyEndIn_5 ?_
    refine r_getI dX6_howManyEndIn_6 fl_X6_38 ho rfl ?_
    refine r_icmpge (tgt := 37) dX6_howManyEndIn_9 (by decide) (fun _ => ?_) (fun c9 => absurd (by rw [hs]; exact Int32.le_refl _) c9)
    refine r_iload2 dX6_howManyEndIn_37 ?_
    exact r_iretE dX6_howManyEndIn_38 rfl (rfl) (rfl)
theorem c_X6_firstFigure (v : Int32) (h : Hp) : Rn 1 MX6_firstFigure [.int v] h (EI (fFirst v) h) := by
  refine rn_of mm_X6_firstFigure (le_b rfl) rfl ?_
  refine r_iload0 dX6_firstFigure_0 ?_
  refine r_istore1 dX6_firstFigure_1 rfl (by decide) ?_
  refine r_iconst_1 dX6_firstFigure_2 ?_
  refine r_istore2 dX6_firstFigure_3 rfl (by decide) ?_
  refine lpI (fun _ x => ffStep x) (fun i x => Aw 1 MX6_firstFigure (Kp (EI (fFirst v) h)) 4 [some (.int v), some (.int x), some (.int (nI i))] [] h) (fun _ _ => True) 10 (fun _ _ _ _ => trivial) ?_ 9 1 v rfl trivial (fun _ => ?_)
  · intro i x hi _ k
    refine r_iload2 dX6_firstFigure_4 ?_
    refine r_bipush bv_10 dX6_firstFigure_5 ?_
    refine r_icmpge (tgt := 37) dX6_firstFigure_7 (by decide) (fun c9 => absurd c9 (nI_ge hi (by decide))) (fun _ => ?_)
    refine r_iload1 dX6_firstFigure_10 ?_
    refine r_bipush bv_m10 dX6_firstFigure_11 ?_
    refine r_icmple (tgt := 26) dX6_firstFigure_13 (by decide) (fun c => ?_) (fun c => ?_)
    · refine r_iload1 dX6_firstFigure_26 ?_
      refine r_bipush bv_10 dX6_firstFigure_27 ?_
      refine r_idiv (by decide) dX6_firstFigure_29 ?_
      refine r_istore1 dX6_firstFigure_30 rfl (by decide) ?_
      refine r_iinc2_1 dX6_firstFigure_31 rfl (by decide) ?_
      refine r_goto (tgt := 4) dX6_firstFigure_34 (by decide) ?_
      rw [ffStep, if_pos c] at k
      rw [nI_1]
      exact k
    · refine r_iload1 dX6_firstFigure_16 ?_
      refine r_bipush bv_10 dX6_firstFigure_17 ?_
      refine r_icmpge (tgt := 26) dX6_firstFigure_19 (by decide) (fun c2 => ?_) (fun c2 => ?_)
      · refine r_iload1 dX6_firstFigure_26 ?_
        refine r_bipush bv_10 dX6_firstFigure_27 ?_
        refine r_idiv (by decide) dX6_firstFigure_29 ?_
        refine r_istore1 dX6_firstFigure_30 rfl (by decide) ?_
        refine r_iinc2_1 dX6_firstFigure_31 rfl (by decide) ?_
        refine r_goto (tgt := 4) dX6_firstFigure_34 (by decide) ?_
        rw [ffStep, if_neg c, if_pos c2] at k
        rw [nI_1]
        exact k
      · refine r_iload1 dX6_firstFigure_22 ?_
        refine r_goto (tgt := 30) dX6_firstFigure_23 (by decide) ?_
        refine r_istore1 dX6_firstFigure_30 rfl (by decide) ?_
        refine r_iinc2_1 dX6_firstFigure_31 rfl (by decide) ?_
        refine r_goto (tgt := 4) dX6_firstFigure_34 (by decide) ?_
        rw [ffStep, if_neg c, if_neg c2] at k
        rw [nI_1]
        exact k
  · refine r_iload2 dX6_firstFigure_4 ?_
    refine r_bipush bv_10 dX6_firstFigure_5 ?_
    refine r_icmpge (tgt := 37) dX6_firstFigure_7 (by decide) (fun _ => ?_) (fun c9 => absurd (Int32.le_refl _) c9)
    refine r_iload1 dX6_firstFigure_37 ?_
    refine r_mabs dX6_firstFigure_38 ml_X6_41 (by decide) (Nat.le_of_ble_eq_true rfl) ?_
    exact r_iretE dX6_firstFigure_41 rfl (rfl) (rfl)
theorem c_X6_howManyBeginWith (p n : Nat) (f : Int32) (h : Hp) (hp : isSh p) (hn : n ≤ 60) (hs : h.1 p 3 = nI n) : Rn 2 MX6_howManyBeginWith [.ref p, .int f] h (EI (cntF fFirst f (h.1 (p + 4)) n) h) := by
  have ho := oSh hp
  have ha := aSh hp
  refine rn_of mm_X6_howManyBeginWith (le_b rfl) rfl ?_
  refine r_iconst_0 dX6_howManyBeginWith_0 ?_
  refine r_istore2 dX6_howManyBeginWith_1 rfl (by decide) ?_
  refine r_iconst_0 dX6_howManyBeginWith_2 ?_
  refine r_istore3 dX6_howManyBeginWith_3 rfl (by decide) ?_
  refine lpA (fun i acc => if fFirst (h.1 (p + 4) i) = f then acc + 1 else acc) (fun i acc => Aw 2 MX6_howManyBeginWith (Kp (EI (cntF fFirst f (h.1 (p + 4)) n) h)) 4 [some (.ref p), some (.int f), some (.int acc), some (.int (nI i))] [] h) n ?_ 0 ?_
  · intro i acc hi k
    refine r_iload3 dX6_howManyBeginWith_4 ?_
    refine r_aload0 dX6_howManyBeginWith_5 ?_
    refine r_getI dX6_howManyBeginWith_6 fl_X6_38 ho rfl ?_
    refine r_icmpge (tgt := 34) dX6_howManyBeginWith_9 (by decide) (fun c9 => absurd c9 (by rw [hs]; exact nI_ge hi (by omega))) (fun _ => ?_)
    refine r_aload0 dX6_howManyBeginWith_12 ?_
    refine r_getR dX6_howManyBeginWith_13 fl_X6_9 ho rfl ?_
    refine r_iload3 dX6_howManyBeginWith_16 ?_
    refine r_ialdN dX6_howManyBeginWith_17 ha (by omega) ?_
    refine r_cS1I dX6_howManyBeginWith_18 mm_X6_firstFigure st_X6_firstFigure ml_X6_45 (c_X6_firstFigure _ h) (by decide) (Nat.le_of_ble_eq_true rfl) ?_
    refine r_iload1 dX6_howManyBeginWith_21 ?_
    refine r_icmpne (tgt := 28) dX6_howManyBeginWith_22 (by decide) (fun c => ?_) (fun c => ?_)
    · refine r_iinc3_1 dX6_howManyBeginWith_28 rfl (by decide) ?_
      refine r_goto (tgt := 4) dX6_howManyBeginWith_31 (by decide) ?_
      rw [if_neg c] at k
      rw [nI_1]
      exact k
    · refine r_iinc2_1 dX6_howManyBeginWith_25 rfl (by decide) ?_
      refine r_iinc3_1 dX6_howManyBeginWith_28 rfl (by decide) ?_
      refine r_goto (tgt := 4) dX6_howManyBeginWith_31 (by decide) ?_
      rw [if_pos c] at k
      rw [nI_1]
      exact k
  · refine r_iload3 dX6_howManyBeginWith_4 ?_
    refine r_aload0 dX6_howManyBeginWith_5 ?_
    refine r_getI dX6_howManyBeginWith_6 fl_X6_38 ho rfl ?_
    refine r_icmpge (tgt := 34) dX6_howManyBeginWith_9 (by decide) (fun _ => ?_) (fun c9 => absurd (by rw [hs]; exact Int32.le_refl _) c9)
    refine r_iload2 dX6_howManyBeginWith_34 ?_
    exact r_iretE dX6_howManyBeginWith_35 rfl (rfl) (rfl)
