/-! the constructors of the small classes -/
theorem df_X0 : ∀ j, j < 1 → defaultValue (tyX0 j) = vp_V [.null] j := by decide +kernel
theorem df_X1 : ∀ j, j < 12 → defaultValue (tyX1 j) = vp_V [.null, .null, .null, .null, .null, .null, .null, .null, .int 0, .int 0, .int 0, .int 0] j := by decide +kernel
theorem df_X2 : ∀ j, j < 5 → defaultValue (tyX2 j) = vp_V [.long 0, .long 0, .long 0, .long 0, .int 0] j := by decide +kernel
theorem df_X4 : ∀ j, j < 7 → defaultValue (tyX4 j) = vp_V [.null, .int 0, .int 0, .int 0, .int 0, .int 0, .int 0] j := by decide +kernel
theorem df_X5 : ∀ j, j < 5 → defaultValue (tyX5 j) = vp_V [.null, .null, .null, .null, .int 0] j := by decide +kernel
theorem df_X6 : ∀ j, j < 4 → defaultValue (tyX6 j) = vp_V [.null, .int 0, .int 0, .int 0] j := by decide +kernel
theorem df_X7 : ∀ j, j < 5 → defaultValue (tyX7 j) = vp_V [.null, .int 0, .int 0, .int 0, .long 0] j := by decide +kernel
theorem df_X8 : ∀ j, j < 13 → defaultValue (tyX8 j) = vp_V [.null, .null, .null, .null, .null, .null, .null, .int 0, .int 0, .int 0, .int 0, .int 0, .int 0] j := by decide +kernel
theorem df_X9 : ∀ j, j < 24 → defaultValue (tyX9 j) = vp_V [.null, .null, .null, .null, .int 0, .int 0, .int 0, .null, .int 0, .int 0, .int 0, .null, .null, .null, .null, .null, .int 0, .null, .null, .null, .int 0, .null, .null, .null] j := by decide +kernel
def fm_X0 (E : En) (h0 : Nat) (w : va_W) : Prop := ∃ q1 : Nat, w = [(h0, .inr (0, [.ref q1])), (q1, .inl (E.2.2 1, 13, .inr (.inl (fun _ => 0))))]
theorem ct_X0 : Ctor MX0_init 1 1 13 (.inr (0, [.null])) (fun _ => True) fm_X0 := by
  refine ctor_of mm_X0_init rfl rfl (by decide) ?_
  intro p l e s m args below meth c E A h0 Q ls B hin hN hE hl hP hD hS
  refine k_al B dX0_init_0 rfl (lv_at hl 0 rfl) ?_
  refine k_obj B oi_X0 hl.1 (by decide) (by decide) dX0_init_1 ?_
  refine k_al B dX0_init_4 rfl (lv_at hl 0 rfl) ?_
  refine k_bp (v := nI 13) B dX0_init_5 (by decide) ?_
  refine k_newJ (N := 13) B hP hD hS (by decide) (by decide) (by decide) (by decide) (by decide) dX0_init_7 (fun q1 H hP hD hS => ?_)
  have hP : va_P E.1 vwCl [(h0, .inr (0, [.null])), (q1, .inl (E.2.2 1, 13, .inr (.inl (fun _ => 0))))] H := hP
  have hD : va_D A [(h0, .inr (0, [.null])), (q1, .inl (E.2.2 1, 13, .inr (.inl (fun _ => 0))))] := hD
  refine k_putF (q0 := 0) B hin ff_X0_9 hP hD hS rfl rfl rfl (Nat.le_of_ble_eq_true rfl) dX0_init_9 (fun H locs hP hD hS => ?_)
  have hP : va_P E.1 vwCl [(h0, .inr (0, [.ref q1])), (q1, .inl (E.2.2 1, 13, .inr (.inl (fun _ => 0))))] H := hP
  have hD : va_D A [(h0, .inr (0, [.ref q1])), (q1, .inl (E.2.2 1, 13, .inr (.inl (fun _ => 0))))] := hD
  exact hE _ _ _ _ _ _ _ _ dX0_init_12 hS hP hD ⟨q1, rfl⟩ (by decide) (by decide)
def fm_X1 (E : En) (h0 : Nat) (w : va_W) : Prop := ∃ q1 q2 q3 q4 q5 q6 q7 q8 : Nat, w = [(h0, .inr (1, [.ref q1, .ref q2, .ref q3, .ref q4, .ref q5, .ref q6, .ref q7, .ref q8, .int 0, .int 0, .int (-1), .int 0])), (q1, .inl (E.2.2 0, 100, .inl (fun _ => 0))), (q2, .inl (E.2.2 0, 10, .inl (fun _ => 0))), (q3, .inl (E.2.2 0, 10, .inl (fun _ => 0))), (q4, .inl (E.2.2 0, 10, .inl (fun _ => 0))), (q5, .inl (E.2.2 0, 10, .inl (fun _ => 0))), (q6, .inl (E.2.2 0, 10, .inl (fun _ => 0))), (q7, .inl (E.2.2 0, 10, .inl (fun _ => 0))), (q8, .inl (E.2.2 0, 10, .inl (fun _ => 0)))]
theorem ct_X1 : Ctor MX1_init 1 8 170 (.inr (1, [.null, .null, .null, .null, .null, .null, .null, .null, .int 0, .int 0, .int 0, .int 0])) (fun _ => True) fm_X1 := by
  refine ctor_of mm_X1_init rfl rfl (by decide) ?_
  intro p l e s m args below meth c E A h0 Q ls B hin hN hE hl hP hD hS
  refine k_al B dX1_init_0 rfl (lv_at hl 0 rfl) ?_
  refine k_obj B oi_X1 hl.1 (by decide) (by decide) dX1_init_1 ?_
  refine k_al B dX1_init_4 rfl (lv_at hl 0 rfl) ?_
  refine k_bp (v := nI 100) B dX1_init_5 (by decide) ?_
  refine k_newI (N := 100) B hP hD hS (by decide) (by decide) (by decide) (by decide) (by decide) dX1_init_7 (fun q1 H hP hD hS => ?_)
  have hP : va_P E.1 vwCl [(h0, .inr (1, [.null, .null, .null, .null, .null, .null, .null, .null, .int 0, .int 0, .int 0, .int 0])), (q1, .inl (E.2.2 0, 100, .inl (fun _ => 0)))] H := hP
  have hD : va_D A [(h0, .inr (1, [.null, .null, .null, .null, .null, .null, .null, .null, .int 0, .int 0, .int 0, .int 0])), (q1, .inl (E.2.2 0, 100, .inl (fun _ => 0)))] := hD
  refine k_putF (q0 := 0) B hin ff_X1_9 hP hD hS rfl rfl rfl (Nat.le_of_ble_eq_true rfl) dX1_init_9 (fun H locs hP hD hS => ?_)
  have hP : va_P E.1 vwCl [(h0, .inr (1, [.ref q1, .null, .null, .null, .null, .null, .null, .null, .int 0, .int 0, .int 0, .int 0])), (q1, .inl (E.2.2 0, 100, .inl (fun _ => 0)))] H := hP
  have hD : va_D A [(h0, .inr (1, [.ref q1, .null, .null, .null, .null, .null, .null, .null, .int 0, .int 0, .int 0, .int 0])), (q1, .inl (E.2.2 0, 100, .inl (fun _ => 0)))] := hD
  refine k_al B dX1_init_12 rfl (lv_at hl 0 rfl) ?_
  refine k_bp (v := nI 10) B dX1_init_13 (by decide) ?_
  refine k_newI (N := 10) B hP hD hS (by decide) (by decide) (by decide) (by decide) (by decide) dX1_init_15 (fun q2 H hP hD hS => ?_)
  have hP : va_P E.1 vwCl [(h0, .inr (1, [.ref q1, .null, .null, .null, .null, .null, .null, .null, .int 0, .int 0, .int 0, .int 0])), (q1, .inl (E.2.2 0, 100, .inl (fun _ => 0))), (q2, .inl (E.2.2 0, 10, .inl (fun _ => 0)))] H := hP
  have hD : va_D A [(h0, .inr (1, [.ref q1, .null, .null, .null, .null, .null, .null, .null, .int 0, .int 0, .int 0, .int 0])), (q1, .inl (E.2.2 0, 100, .inl (fun _ => 0))), (q2, .inl (E.2.2 0, 10, .inl (fun _ => 0)))] := hD
  refine k_putF (q0 := 0) B hin ff_X1_15 hP hD hS rfl rfl rfl (Nat.le_of_ble_eq_true rfl) dX1_init_17 (fun H locs hP hD hS => ?_)
  have hP : va_P E.1 vwCl [(h0, .inr (1, [.ref q1, .ref q2, .null, .null, .null, .null, .null, .null, .int 0, .int 0, .int 0, .int 0])), (q1, .inl (E.2.2 0, 100, .inl (fun _ => 0))), (q2, .inl (E.2.2 0, 10, .inl (fun _ => 0)))] H := hP
  have hD : va_D A [(h0, .inr (1, [.ref q1, .ref q2, .null, .null, .null, .null, .null, .null, .int 0, .int 0, .int 0, .int 0])), (q1, .inl (E.2.2 0, 100, .inl (fun _ => 0))), (q2, .inl (E.2.2 0, 10, .inl (fun _ => 0)))] := hD
  refine k_al B dX1_init_20 rfl (lv_at hl 0 rfl) ?_
  refine k_bp (v := nI 10) B dX1_init_21 (by decide) ?_
  refine k_newI (N := 10) B hP hD hS (by decide) (by decide) (by decide) (by decide) (by decide) dX1_init_23 (fun q3 H hP hD hS => ?_)
  have hP : va_P E.1 vwCl [(h0, .inr (1, [.ref q1, .ref q2, .null, .null, .null, .null, .null, .null, .int 0, .int 0, .int 0, .int 0])), (q1, .inl (E.2.2 0, 100, .inl (fun _ => 0))), (q2, .inl (E.2.2 0, 10, .inl (fun _ => 0))), (q3, .inl (E.2.2 0, 10, .inl (fun _ => 0)))] H := hP
  have hD : va_D A [(h0, .inr (1, [.ref q1, .ref q2, .null, .null, .null, .null, .null, .null, .int 0, .int 0, .int 0, .int 0])), (q1, .inl (E.2.2 0, 100, .inl (fun _ => 0))), (q2, .inl (E.2.2 0, 10, .inl (fun _ => 0))), (q3, .inl (E.2.2 0, 10, .inl (fun _ => 0)))] := hD
  refine k_putF (q0 := 0) B hin ff_X1_18 hP hD hS rfl rfl rfl (Nat.le_of_ble_eq_true rfl) dX1_init_25 (fun H locs hP hD hS => ?_)
  have hP : va_P E.1 vwCl [(h0, .inr (1, [.ref q1, .ref q2, .ref q3, .null, .null, .null, .null, .null, .int 0, .int 0, .int 0, .int 0])), (q1, .inl (E.2.2 0, 100, .inl (fun _ => 0))), (q2, .inl (E.2.2 0, 10, .inl (fun _ => 0))), (q3, .inl (E.2.2 0, 10, .inl (fun _ => 0)))] H := hP
  have hD : va_D A [(h0, .inr (1, [.ref q1, .ref q2, .ref q3, .null, .null, .null, .null, .null, .int 0, .int 0, .int 0, .int 0])), (q1, .inl (E.2.2 0, 100, .inl (fun _ => 0))), (q2, .inl (E.2.2 0, 10, .inl (fun _ => 0))), (q3, .inl (E.2.2 0, 10, .inl (fun _ => 0)))] := hD
  refine k_al B dX1_init_28 rfl (lv_at hl 0 rfl) ?_
  refine k_bp (v := nI 10) B dX1_init_29 (by decide) ?_
  refine k_newI (N := 10) B hP hD hS (by decide) (by decide) (by decide) (by decide) (by decide) dX1_init_31 (fun q4 H hP hD hS => ?_)
  have hP : va_P E.1 vwCl [(h0, .inr (1, [.ref q1, .ref q2, .ref q3, .null, .null, .null, .null, .null, .int 0, .int 0, .int 0, .int 0])), (q1, .inl (E.2.2 0, 100, .inl (fun _ => 0))), (q2, .inl (E.2.2 0, 10, .inl (fun _ => 0))), (q3, .inl (E.2.2 0, 10, .inl (fun _ => 0))), (q4, .inl (E.2.2 0, 10, .inl (fun _ => 0)))] H := hP
  have hD : va_D A [(h0, .inr (1, [.ref q1, .ref q2, .ref q3, .null, .null, .null, .null, .null, .int 0, .int 0, .int 0, .int 0])), (q1, .inl (E.2.2 0, 100, .inl (fun _ => 0))), (q2, .inl (E.2.2 0, 10, .inl (fun _ => 0))), (q3, .inl (E.2.2 0, 10, .inl (fun _ => 0))), (q4, .inl (E.2.2 0, 10, .inl (fun _ => 0)))] := hD
  refine k_putF (q0 := 0) B hin ff_X1_21 hP hD hS rfl rfl rfl (Nat.le_of_ble_eq_true rfl) dX1_init_33 (fun H locs hP hD hS => ?_)
  have hP : va_P E.1 vwCl [(h0, .inr (1, [.ref q1, .ref q2, .ref q3, .ref q4, .null, .null, .null, .null, .int 0, .int 0, .int 0, .int 0])), (q1, .inl (E.2.2 0, 100, .inl (fun _ => 0))), (q2, .inl (E.2.2 0, 10, .inl (fun _ => 0))), (q3, .inl (E.2.2 0, 10, .inl (fun _ => 0))), (q4, .inl (E.2.2 0, 10, .inl (fun _ => 0)))] H := hP
  have hD : va_D A [(h0, .inr (1, [.ref q1, .ref q2, .ref q3, .ref q4, .null, .null, .null, .null, .int 0, .int 0, .int 0, .int 0])), (q1, .inl (E.2.2 0, 100, .inl (fun _ => 0))), (q2, .inl (E.2.2 0, 10, .inl (fun _ => 0))), (q3, .inl (E.2.2 0, 10, .inl (fun _ => 0))), (q4, .inl (E.2.2 0, 10, .inl (fun _ => 0)))] := hD
  refine k_al B dX1_init_36 rfl (lv_at hl 0 rfl) ?_
  refine k_bp (v := nI 10) B dX1_init_37 (by decide) ?_
  refine k_newI (N := 10) B hP hD hS (by decide) (by decide) (by decide) (by decide) (by decide) dX1_init_39 (fun q5 H hP hD hS => ?_)
  have hP : va_P E.1 vwCl [(h0, .inr (1, [.ref q1, .ref q2, .ref q3, .ref q4, .null, .null, .null, .null, .int 0, .int 0, .int 0, .int 0])), (q1, .inl (E.2.2 0, 100, .inl (fun _ => 0))), (q2, .inl (E.2.2 0, 10, .inl (fun _ => 0))), (q3, .inl (E.2.2 0, 10, .inl (fun _ => 0))), (q4, .inl (E.2.2 0, 10, .inl (fun _ => 0))), (q5, .inl (E.2.2 0, 10, .inl (fun _ => 0)))] H := hP
  have hD : va_D A [(h0, .inr (1, [.ref q1, .ref q2, .ref q3, .ref q4, .null, .null, .null, .null, .int 0, .int 0, .int 0, .int 0])), (q1, .inl (E.2.2 0, 100, .inl (fun _ => 0))), (q2, .inl (E.2.2 0, 10, .inl (fun _ => 0))), (q3, .inl (E.2.2 0, 10, .inl (fun _ => 0))), (q4, .inl (E.2.2 0, 10, .inl (fun _ => 0))), (q5, .inl (E.2.2 0, 10, .inl (fun _ => 0)))] := hD
  refine k_putF (q0 := 0) B hin ff_X1_24 hP hD hS rfl rfl rfl (Nat.le_of_ble_eq_true rfl) dX1_init_41 (fun H locs hP hD hS => ?_)
  have hP : va_P E.1 vwCl [(h0, .inr (1, [.ref q1, .ref q2, .ref q3, .ref q4, .ref q5, .null, .null, .null, .int 0, .int 0, .int 0, .int 0])), (q1, .inl (E.2.2 0, 100, .inl (fun _ => 0))), (q2, .inl (E.2.2 0, 10, .inl (fun _ => 0))), (q3, .inl (E.2.2 0, 10, .inl (fun _ => 0))), (q4, .inl (E.2.2 0, 10, .inl (fun _ => 0))), (q5, .inl (E.2.2 0, 10, .inl (fun _ => 0)))] H := hP
  have hD : va_D A [(h0, .inr (1, [.ref q1, .ref q2, .ref q3, .ref q4, .ref q5, .null, .null, .null, .int 0, .int 0, .int 0, .int 0])), (q1, .inl (E.2.2 0, 100, .inl (fun _ => 0))), (q2, .inl (E.2.2 0, 10, .inl (fun _ => 0))), (q3, .inl (E.2.2 0, 10, .inl (fun _ => 0))), (q4, .inl (E.2.2 0, 10, .inl (fun _ => 0))), (q5, .inl (E.2.2 0, 10, .inl (fun _ => 0)))] := hD
  refine k_al B dX1_init_44 rfl (lv_at hl 0 rfl) ?_
  refine k_bp (v := nI 10) B dX1_init_45 (by decide) ?_
  refine k_newI (N := 10) B hP hD hS (by decide) (by decide) (by decide) (by decide) (by decide) dX1_init_47 (fun q6 H hP hD hS => ?_)
  have hP : va_P E.1 vwCl [(h0, .inr (1, [.ref q1, .ref q2, .ref q3, .ref q4, .ref q5, .null, .null, .null, .int 0, .int 0, .int 0, .int 0])), (q1, .inl (E.2.2 0, 100, .inl (fun _ => 0))), (q2, .inl (E.2.2 0, 10, .inl (fun _ => 0))), (q3, .inl (E.2.2 0, 10, .inl (fun _ => 0))), (q4, .inl (E.2.2 0, 10, .inl (fun _ => 0))), (q5, .inl (E.2.2 0, 10, .inl (fun _ => 0))), (q6, .inl (E.2.2 0, 10, .inl (fun _ => 0)))] H := hP
  have hD : va_D A [(h0, .inr (1, [.ref q1, .ref q2, .ref q3, .ref q4, .ref q5, .null, .null, .null, .int 0, .int 0, .int 0, .int 0])), (q1, .inl (E.2.2 0, 100, .inl (fun _ => 0))), (q2, .inl (E.2.2 0, 10, .inl (fun _ => 0))), (q3, .inl (E.2.2 0, 10, .inl (fun _ => 0))), (q4, .inl (E.2.2 0, 10, .inl (fun _ => 0))), (q5, .inl (E.2.2 0, 10, .inl (fun _ => 0))), (q6, .inl (E.2.2 0, 10, .inl (fun _ => 0)))] := hD
  refine k_putF (q0 := 0) B hin ff_X1_27 hP hD hS rfl rfl rfl (Nat.le_of_ble_eq_true rfl) dX1_init_49 (fun H locs hP hD hS => ?_)
  have hP : va_P E.1 vwCl [(h0, .inr (1, [.ref q1, .ref q2, .ref q3, .ref q4, .ref q5, .ref q6, .null, .null, .int 0, .int 0, .int 0, .int 0])), (q1, .inl (E.2.2 0, 100, .inl (fun _ => 0))), (q2, .inl (E.2.2 0, 10, .inl (fun _ => 0))), (q3, .inl (E.2.2 0, 10, .inl (fun _ => 0))), (q4, .inl (E.2.2 0, 10, .inl (fun _ => 0))), (q5, .inl (E.2.2 0, 10, .inl (fun _ => 0))), (q6, .inl (E.2.2 0, 10, .inl (fun _ => 0)))] H := hP
  have hD : va_D A [(h0, .inr (1, [.ref q1, .ref q2, .ref q3, .ref q4, .ref q5, .ref q6, .null, .null, .int 0, .int 0, .int 0, .int 0])), (q1, .inl (E.2.2 0, 100, .inl (fun _ => 0))), (q2, .inl (E.2.2 0, 10, .inl (fun _ => 0))), (q3, .inl (E.2.2 0, 10, .inl (fun _ => 0))), (q4, .inl (E.2.2 0, 10, .inl (fun _ => 0))), (q5, .inl (E.2.2 0, 10, .inl (fun _ => 0))), (q6, .inl (E.2.2 0, 10, .inl (fun _ => 0)))] := hD
  refine k_al B dX1_init_52 rfl (lv_at hl 0 rfl) ?_
  refine k_bp (v := nI 10) B dX1_init_53 (by decide) ?_
  refine k_newI (N := 10) B hP hD hS (by decide) (by decide) (by decide) (by decide) (by decide) dX1_init_55 (fun q7 H hP hD hS => ?_)
  have hP : va_P E.1 vwCl [(h0, .inr (1, [.ref q1, .ref q2, .ref q3, .ref q4, .ref q5, .ref q6, .null, .null, .int 0, .int 0, .int 0, .int 0])), (q1, .inl (E.2.2 0, 100, .inl (fun _ => 0))), (q2, .inl (E.2.2 0, 10, .inl (fun _ => 0))), (q3, .inl (E.2.2 0, 10, .inl (fun _ => 0))), (q4, .inl (E.2.2 0, 10, .inl (fun _ => 0))), (q5, .inl (E.2.2 0, 10, .inl (fun _ => 0))), (q6, .inl (E.2.2 0, 10, .inl (fun _ => 0))), (q7, .inl (E.2.2 0, 10, .inl (fun _ => 0)))] H := hP
  have hD : va_D A [(h0, .inr (1, [.ref q1, .ref q2, .ref q3, .ref q4, .ref q5, .ref q6, .null, .null, .int 0, .int 0, .int 0, .int 0])), (q1, .inl (E.2.2 0, 100, .inl (fun _ => 0))), (q2, .inl (E.2.2 0, 10, .inl (fun _ => 0))), (q3, .inl (E.2.2 0, 10, .inl (fun _ => 0))), (q4, .inl (E.2.2 0, 10, .inl (fun _ => 0))), (q5, .inl (E.2.2 0, 10, .inl (fun _ => 0))), (q6, .inl (E.2.2 0, 10, .inl (fun _ => 0))), (q7, .inl (E.2.2 0, 10, .inl (fun _ => 0)))] := hD
  refine k_putF (q0 := 0) B hin ff_X1_30 hP hD hS rfl rfl rfl (Nat.le_of_ble_eq_true rfl) dX1_init_57 (fun H locs hP hD hS => ?_)
  have hP : va_P E.1 vwCl [(h0, .inr (1, [.ref q1, .ref q2, .ref q3, .ref q4, .ref q5, .ref q6, .ref q7, .null, .int 0, .int 0, .int 0, .int 0])), (q1, .inl (E.2.2 0, 100, .inl (fun _ => 0))), (q2, .inl (E.2.2 0, 10, .inl (fun _ => 0))), (q3, .inl (E.2.2 0, 10, .inl (fun _ => 0))), (q4, .inl (E.2.2 0, 10, .inl (fun _ => 0))), (q5, .inl (E.2.2 0, 10, .inl (fun _ => 0))), (q6, .inl (E.2.2 0, 10, .inl (fun _ => 0))), (q7, .inl (E.2.2 0, 10, .inl (fun _ => 0)))] H := hP
  have hD : va_D A [(h0, .inr (1, [.ref q1, .ref q2, .ref q3, .ref q4, .ref q5, .ref q6, .ref q7, .null, .int 0, .int 0, .int 0, .int 0])), (q1, .inl (E.2.2 0, 100, .inl (fun _ => 0))), (q2, .inl (E.2.2 0, 10, .inl (fun _ => 0))), (q3, .inl (E.2.2 0, 10, .inl (fun _ => 0))), (q4, .inl (E.2.2 0, 10, .inl (fun _ => 0))), (q5, .inl (E.2.2 0, 10, .inl (fun _ => 0))), (q6, .inl (E.2.2 0, 10, .inl (fun _ => 0))), (q7, .inl (E.2.2 0, 10, .inl (fun _ => 0)))] := hD
  refine k_al B dX1_init_60 rfl (lv_at hl 0 rfl) ?_
  refine k_bp (v := nI 10) B dX1_init_61 (by decide) ?_
  refine k_newI (N := 10) B hP hD hS (by decide) (by decide) (by decide) (by decide) (by decide) dX1_init_63 (fun q8 H hP hD hS => ?_)
  have hP : va_P E.1 vwCl [(h0, .inr (1, [.ref q1, .ref q2, .ref q3, .ref q4, .ref q5, .ref q6, .ref q7, .null, .int 0, .int 0, .int 0, .int 0])), (q1, .inl (E.2.2 0, 100, .inl (fun _ => 0))), (q2, .inl (E.2.2 0, 10, .inl (fun _ => 0))), (q3, .inl (E.2.2 0, 10, .inl (fun _ => 0))), (q4, .inl (E.2.2 0, 10, .inl (fun _ => 0))), (q5, .inl (E.2.2 0, 10, .inl (fun _ => 0))), (q6, .inl (E.2.2 0, 10, .inl (fun _ => 0))), (q7, .inl (E.2.2 0, 10, .inl (fun _ => 0))), (q8, .inl (E.2.2 0, 10, .inl (fun _ => 0)))] H := hP
  have hD : va_D A [(h0, .inr (1, [.ref q1, .ref q2, .ref q3, .ref q4, .ref q5, .ref q6, .ref q7, .null, .int 0, .int 0, .int 0, .int 0])), (q1, .inl (E.2.2 0, 100, .inl (fun _ => 0))), (q2, .inl (E.2.2 0, 10, .inl (fun _ => 0))), (q3, .inl (E.2.2 0, 10, .inl (fun _ => 0))), (q4, .inl (E.2.2 0, 10, .inl (fun _ => 0))), (q5, .inl (E.2.2 0, 10, .inl (fun _ => 0))), (q6, .inl (E.2.2 0, 10, .inl (fun _ => 0))), (q7, .inl (E.2.2 0, 10, .inl (fun _ => 0))), (q8, .inl (E.2.2 0, 10, .inl (fun _ => 0)))] := hD
  refine k_putF (q0 := 0) B hin ff_X1_33 hP hD hS rfl rfl rfl (Nat.le_of_ble_eq_true rfl) dX1_init_65 (fun H locs hP hD hS => ?_)
  have hP : va_P E.1 vwCl [(h0, .inr (1, [.ref q1, .ref q2, .ref q3, .ref q4, .ref q5, .ref q6, .ref q7, .ref q8, .int 0, .int 0, .int 0, .int 0])), (q1, .inl (E.2.2 0, 100, .inl (fun _ => 0))), (q2, .inl (E.2.2 0, 10, .inl (fun _ => 0))), (q3, .inl (E.2.2 0, 10, .inl (fun _ => 0))), (q4, .inl (E.2.2 0, 10, .inl (fun _ => 0))), (q5, .inl (E.2.2 0, 10, .inl (fun _ => 0))), (q6, .inl (E.2.2 0, 10, .inl (fun _ => 0))), (q7, .inl (E.2.2 0, 10, .inl (fun _ => 0))), (q8, .inl (E.2.2 0, 10, .inl (fun _ => 0)))] H := hP
  have hD : va_D A [(h0, .inr (1, [.ref q1, .ref q2, .ref q3, .ref q4, .ref q5, .ref q6, .ref q7, .ref q8, .int 0, .int 0, .int 0, .int 0])), (q1, .inl (E.2.2 0, 100, .inl (fun _ => 0))), (q2, .inl (E.2.2 0, 10, .inl (fun _ => 0))), (q3, .inl (E.2.2 0, 10, .inl (fun _ => 0))), (q4, .inl (E.2.2 0, 10, .inl (fun _ => 0))), (q5, .inl (E.2.2 0, 10, .inl (fun _ => 0))), (q6, .inl (E.2.2 0, 10, .inl (fun _ => 0))), (q7, .inl (E.2.2 0, 10, .inl (fun _ => 0))), (q8, .inl (E.2.2 0, 10, .inl (fun _ => 0)))] := hD
  refine k_al B dX1_init_68 rfl (lv_at hl 0 rfl) ?_
  refine k_ic (v := -1) B dX1_init_69 (by decide) ?_
  refine k_putI (q0 := 0) B fw_X1_36 hP hD hS rfl (by decide) (by decide) (Nat.le_of_ble_eq_true rfl) dX1_init_70 (fun H locs hP hD hS => ?_)
  have hP : va_P E.1 vwCl [(h0, .inr (1, [.ref q1, .ref q2, .ref q3, .ref q4, .ref q5, .ref q6, .ref q7, .ref q8, .int 0, .int 0, .int (-1), .int 0])), (q1, .inl (E.2.2 0, 100, .inl (fun _ => 0))), (q2, .inl (E.2.2 0, 10, .inl (fun _ => 0))), (q3, .inl (E.2.2 0, 10, .inl (fun _ => 0))), (q4, .inl (E.2.2 0, 10, .inl (fun _ => 0))), (q5, .inl (E.2.2 0, 10, .inl (fun _ => 0))), (q6, .inl (E.2.2 0, 10, .inl (fun _ => 0))), (q7, .inl (E.2.2 0, 10, .inl (fun _ => 0))), (q8, .inl (E.2.2 0, 10, .inl (fun _ => 0)))] H := hP
  have hD : va_D A [(h0, .inr (1, [.ref q1, .ref q2, .ref q3, .ref q4, .ref q5, .ref q6, .ref q7, .ref q8, .int 0, .int 0, .int (-1), .int 0])), (q1, .inl (E.2.2 0, 100, .inl (fun _ => 0))), (q2, .inl (E.2.2 0, 10, .inl (fun _ => 0))), (q3, .inl (E.2.2 0, 10, .inl (fun _ => 0))), (q4, .inl (E.2.2 0, 10, .inl (fun _ => 0))), (q5, .inl (E.2.2 0, 10, .inl (fun _ => 0))), (q6, .inl (E.2.2 0, 10, .inl (fun _ => 0))), (q7, .inl (E.2.2 0, 10, .inl (fun _ => 0))), (q8, .inl (E.2.2 0, 10, .inl (fun _ => 0)))] := hD
  exact hE _ _ _ _ _ _ _ _ dX1_init_73 hS hP hD ⟨q1, q2, q3, q4, q5, q6, q7, q8, rfl⟩ (by decide) (by decide)
def fm_X2 (E : En) (h0 : Nat) (w : va_W) : Prop := w = [(h0, .inr (2, [.long 0, .long 0, .long 0, .long 0, .int 0]))]
theorem ct_X2 : Ctor MX2_init 1 0 0 (.inr (2, [.long 0, .long 0, .long 0, .long 0, .int 0])) (fun _ => True) fm_X2 := by
  refine ctor_of mm_X2_init rfl rfl (by decide) ?_
  intro p l e s m args below meth c E A h0 Q ls B hin hN hE hl hP hD hS
  refine k_al B dX2_init_0 rfl (lv_at hl 0 rfl) ?_
  refine k_obj B oi_X2 hl.1 (by decide) (by decide) dX2_init_1 ?_
  exact hE _ _ _ _ _ _ _ _ dX2_init_4 hS hP hD rfl (by decide) (by decide)
def fm_X4 (E : En) (h0 : Nat) (w : va_W) : Prop := ∃ q1 : Nat, w = [(h0, .inr (3, [.ref q1, .int 0, .int 0, .int 0, .int 0, .int 0, .int 0])), (q1, .inl (E.2.2 0, 7, .inl (fun _ => 0)))]
theorem ct_X4 : Ctor MX4_init 1 1 7 (.inr (3, [.null, .int 0, .int 0, .int 0, .int 0, .int 0, .int 0])) (fun _ => True) fm_X4 := by
  refine ctor_of mm_X4_init rfl rfl (by decide) ?_
  intro p l e s m args below meth c E A h0 Q ls B hin hN hE hl hP hD hS
  refine k_al B dX4_init_0 rfl (lv_at hl 0 rfl) ?_
  refine k_obj B oi_X4 hl.1 (by decide) (by decide) dX4_init_1 ?_
  refine k_al B dX4_init_4 rfl (lv_at hl 0 rfl) ?_
  refine k_bp (v := nI 7) B dX4_init_5 (by decide) ?_
  refine k_newI (N := 7) B hP hD hS (by decide) (by decide) (by decide) (by decide) (by decide) dX4_init_7 (fun q1 H hP hD hS => ?_)
  have hP : va_P E.1 vwCl [(h0, .inr (3, [.null, .int 0, .int 0, .int 0, .int 0, .int 0, .int 0])), (q1, .inl (E.2.2 0, 7, .inl (fun _ => 0)))] H := hP
  have hD : va_D A [(h0, .inr (3, [.null, .int 0, .int 0, .int 0, .int 0, .int 0, .int 0])), (q1, .inl (E.2.2 0, 7, .inl (fun _ => 0)))] := hD
  refine k_putF (q0 := 0) B hin ff_X4_9 hP hD hS rfl rfl rfl (Nat.le_of_ble_eq_true rfl) dX4_init_9 (fun H locs hP hD hS => ?_)
  have hP : va_P E.1 vwCl [(h0, .inr (3, [.ref q1, .int 0, .int 0, .int 0, .int 0, .int 0, .int 0])), (q1, .inl (E.2.2 0, 7, .inl (fun _ => 0)))] H := hP
  have hD : va_D A [(h0, .inr (3, [.ref q1, .int 0, .int 0, .int 0, .int 0, .int 0, .int 0])), (q1, .inl (E.2.2 0, 7, .inl (fun _ => 0)))] := hD
  exact hE _ _ _ _ _ _ _ _ dX4_init_12 hS hP hD ⟨q1, rfl⟩ (by decide) (by decide)
def fm_X5 (E : En) (h0 : Nat) (w : va_W) : Prop := ∃ q1 q2 q3 q4 : Nat, w = [(h0, .inr (4, [.ref q1, .ref q2, .ref q3, .ref q4, .int 0])), (q1, .inl (E.2.2 0, 5005, .inl (fun _ => 0))), (q2, .inl (E.2.2 0, 5005, .inl (fun _ => 0))), (q3, .inl (E.2.2 0, 1024, .inl (fun _ => 0))), (q4, .inl (E.2.2 0, 70, .inl (fun _ => 0)))]
theorem ct_X5 : Ctor MX5_init 1 4 11104 (.inr (4, [.null, .null, .null, .null, .int 0])) (fun _ => True) fm_X5 := by
  refine ctor_of mm_X5_init rfl rfl (by decide) ?_
  intro p l e s m args below meth c E A h0 Q ls B hin hN hE hl hP hD hS
  refine k_al B dX5_init_0 rfl (lv_at hl 0 rfl) ?_
  refine k_obj B oi_X5 hl.1 (by decide) (by decide) dX5_init_1 ?_
  refine k_al B dX5_init_4 rfl (lv_at hl 0 rfl) ?_
  refine k_sp (v := nI 5005) B dX5_init_5 (by decide) ?_
  refine k_newI (N := 5005) B hP hD hS (by decide) (by decide) (by decide) (by decide) (by decide) dX5_init_8 (fun q1 H hP hD hS => ?_)
  have hP : va_P E.1 vwCl [(h0, .inr (4, [.null, .null, .null, .null, .int 0])), (q1, .inl (E.2.2 0, 5005, .inl (fun _ => 0)))] H := hP
  have hD : va_D A [(h0, .inr (4, [.null, .null, .null, .null, .int 0])), (q1, .inl (E.2.2 0, 5005, .inl (fun _ => 0)))] := hD
  refine k_putF (q0 := 0) B hin ff_X5_9 hP hD hS rfl rfl rfl (Nat.le_of_ble_eq_true rfl) dX5_init_10 (fun H locs hP hD hS => ?_)
  have hP : va_P E.1 vwCl [(h0, .inr (4, [.ref q1, .null, .null, .null, .int 0])), (q1, .inl (E.2.2 0, 5005, .inl (fun _ => 0)))] H := hP
  have hD : va_D A [(h0, .inr (4, [.ref q1, .null, .null, .null, .int 0])), (q1, .inl (E.2.2 0, 5005, .inl (fun _ => 0)))] := hD
  refine k_al B dX5_init_13 rfl (lv_at hl 0 rfl) ?_
  refine k_sp (v := nI 5005) B dX5_init_14 (by decide) ?_
  refine k_newI (N := 5005) B hP hD hS (by decide) (by decide) (by decide) (by decide) (by decide) dX5_init_17 (fun q2 H hP hD hS => ?_)
  have hP : va_P E.1 vwCl [(h0, .inr (4, [.ref q1, .null, .null, .null, .int 0])), (q1, .inl (E.2.2 0, 5005, .inl (fun _ => 0))), (q2, .inl (E.2.2 0, 5005, .inl (fun _ => 0)))] H := hP
  have hD : va_D A [(h0, .inr (4, [.ref q1, .null, .null, .null, .int 0])), (q1, .inl (E.2.2 0, 5005, .inl (fun _ => 0))), (q2, .inl (E.2.2 0, 5005, .inl (fun _ => 0)))] := hD
  refine k_putF (q0 := 0) B hin ff_X5_15 hP hD hS rfl rfl rfl (Nat.le_of_ble_eq_true rfl) dX5_init_19 (fun H locs hP hD hS => ?_)
  have hP : va_P E.1 vwCl [(h0, .inr (4, [.ref q1, .ref q2, .null, .null, .int 0])), (q1, .inl (E.2.2 0, 5005, .inl (fun _ => 0))), (q2, .inl (E.2.2 0, 5005, .inl (fun _ => 0)))] H := hP
  have hD : va_D A [(h0, .inr (4, [.ref q1, .ref q2, .null, .null, .int 0])), (q1, .inl (E.2.2 0, 5005, .inl (fun _ => 0))), (q2, .inl (E.2.2 0, 5005, .inl (fun _ => 0)))] := hD
  refine k_al B dX5_init_22 rfl (lv_at hl 0 rfl) ?_
  refine k_sp (v := nI 1024) B dX5_init_23 (by decide) ?_
  refine k_newI (N := 1024) B hP hD hS (by decide) (by decide) (by decide) (by decide) (by decide) dX5_init_26 (fun q3 H hP hD hS => ?_)
  have hP : va_P E.1 vwCl [(h0, .inr (4, [.ref q1, .ref q2, .null, .null, .int 0])), (q1, .inl (E.2.2 0, 5005, .inl (fun _ => 0))), (q2, .inl (E.2.2 0, 5005, .inl (fun _ => 0))), (q3, .inl (E.2.2 0, 1024, .inl (fun _ => 0)))] H := hP
  have hD : va_D A [(h0, .inr (4, [.ref q1, .ref q2, .null, .null, .int 0])), (q1, .inl (E.2.2 0, 5005, .inl (fun _ => 0))), (q2, .inl (E.2.2 0, 5005, .inl (fun _ => 0))), (q3, .inl (E.2.2 0, 1024, .inl (fun _ => 0)))] := hD
  refine k_putF (q0 := 0) B hin ff_X5_18 hP hD hS rfl rfl rfl (Nat.le_of_ble_eq_true rfl) dX5_init_28 (fun H locs hP hD hS => ?_)
  have hP : va_P E.1 vwCl [(h0, .inr (4, [.ref q1, .ref q2, .ref q3, .null, .int 0])), (q1, .inl (E.2.2 0, 5005, .inl (fun _ => 0))), (q2, .inl (E.2.2 0, 5005, .inl (fun _ => 0))), (q3, .inl (E.2.2 0, 1024, .inl (fun _ => 0)))] H := hP
  have hD : va_D A [(h0, .inr (4, [.ref q1, .ref q2, .ref q3, .null, .int 0])), (q1, .inl (E.2.2 0, 5005, .inl (fun _ => 0))), (q2, .inl (E.2.2 0, 5005, .inl (fun _ => 0))), (q3, .inl (E.2.2 0, 1024, .inl (fun _ => 0)))] := hD
  refine k_al B dX5_init_31 rfl (lv_at hl 0 rfl) ?_
  refine k_bp (v := nI 70) B dX5_init_32 (by decide) ?_
  refine k_newI (N := 70) B hP hD hS (by decide) (by decide) (by decide) (by decide) (by decide) dX5_init_34 (fun q4 H hP hD hS => ?_)
  have hP : va_P E.1 vwCl [(h0, .inr (4, [.ref q1, .ref q2, .ref q3, .null, .int 0])), (q1, .inl (E.2.2 0, 5005, .inl (fun _ => 0))), (q2, .inl (E.2.2 0, 5005, .inl (fun _ => 0))), (q3, .inl (E.2.2 0, 1024, .inl (fun _ => 0))), (q4, .inl (E.2.2 0, 70, .inl (fun _ => 0)))] H := hP
  have hD : va_D A [(h0, .inr (4, [.ref q1, .ref q2, .ref q3, .null, .int 0])), (q1, .inl (E.2.2 0, 5005, .inl (fun _ => 0))), (q2, .inl (E.2.2 0, 5005, .inl (fun _ => 0))), (q3, .inl (E.2.2 0, 1024, .inl (fun _ => 0))), (q4, .inl (E.2.2 0, 70, .inl (fun _ => 0)))] := hD
  refine k_putF (q0 := 0) B hin ff_X5_21 hP hD hS rfl rfl rfl (Nat.le_of_ble_eq_true rfl) dX5_init_36 (fun H locs hP hD hS => ?_)
  have hP : va_P E.1 vwCl [(h0, .inr (4, [.ref q1, .ref q2, .ref q3, .ref q4, .int 0])), (q1, .inl (E.2.2 0, 5005, .inl (fun _ => 0))), (q2, .inl (E.2.2 0, 5005, .inl (fun _ => 0))), (q3, .inl (E.2.2 0, 1024, .inl (fun _ => 0))), (q4, .inl (E.2.2 0, 70, .inl (fun _ => 0)))] H := hP
  have hD : va_D A [(h0, .inr (4, [.ref q1, .ref q2, .ref q3, .ref q4, .int 0])), (q1, .inl (E.2.2 0, 5005, .inl (fun _ => 0))), (q2, .inl (E.2.2 0, 5005, .inl (fun _ => 0))), (q3, .inl (E.2.2 0, 1024, .inl (fun _ => 0))), (q4, .inl (E.2.2 0, 70, .inl (fun _ => 0)))] := hD
  exact hE _ _ _ _ _ _ _ _ dX5_init_39 hS hP hD ⟨q1, q2, q3, q4, rfl⟩ (by decide) (by decide)
def fm_X6 (E : En) (h0 : Nat) (w : va_W) : Prop := ∃ q1 : Nat, w = [(h0, .inr (5, [.ref q1, .int (nI 1), .int 0, .int 0])), (q1, .inl (E.2.2 0, 60, .inl (fun _ => 0)))]
theorem ct_X6 : Ctor MX6_init 1 1 60 (.inr (5, [.null, .int 0, .int 0, .int 0])) (fun _ => True) fm_X6 := by
  refine ctor_of mm_X6_init rfl rfl (by decide) ?_
  intro p l e s m args below meth c E A h0 Q ls B hin hN hE hl hP hD hS
  refine k_al B dX6_init_0 rfl (lv_at hl 0 rfl) ?_
  refine k_obj B oi_X6 hl.1 (by decide) (by decide) dX6_init_1 ?_
  refine k_al B dX6_init_4 rfl (lv_at hl 0 rfl) ?_
  refine k_bp (v := nI 60) B dX6_init_5 (by decide) ?_
  refine k_newI (N := 60) B hP hD hS (by decide) (by decide) (by decide) (by decide) (by decide) dX6_init_7 (fun q1 H hP hD hS => ?_)
  have hP : va_P E.1 vwCl [(h0, .inr (5, [.null, .int 0, .int 0, .int 0])), (q1, .inl (E.2.2 0, 60, .inl (fun _ => 0)))] H := hP
  have hD : va_D A [(h0, .inr (5, [.null, .int 0, .int 0, .int 0])), (q1, .inl (E.2.2 0, 60, .inl (fun _ => 0)))] := hD
  refine k_putF (q0 := 0) B hin ff_X6_9 hP hD hS rfl rfl rfl (Nat.le_of_ble_eq_true rfl) dX6_init_9 (fun H locs hP hD hS => ?_)
  have hP : va_P E.1 vwCl [(h0, .inr (5, [.ref q1, .int 0, .int 0, .int 0])), (q1, .inl (E.2.2 0, 60, .inl (fun _ => 0)))] H := hP
  have hD : va_D A [(h0, .inr (5, [.ref q1, .int 0, .int 0, .int 0])), (q1, .inl (E.2.2 0, 60, .inl (fun _ => 0)))] := hD
  refine k_al B dX6_init_12 rfl (lv_at hl 0 rfl) ?_
  refine k_ic (v := nI 1) B dX6_init_13 (by decide) ?_
  refine k_putI (q0 := 0) B fw_X6_15 hP hD hS rfl (by decide) (by decide) (Nat.le_of_ble_eq_true rfl) dX6_init_14 (fun H locs hP hD hS => ?_)
  have hP : va_P E.1 vwCl [(h0, .inr (5, [.ref q1, .int (nI 1), .int 0, .int 0])), (q1, .inl (E.2.2 0, 60, .inl (fun _ => 0)))] H := hP
  have hD : va_D A [(h0, .inr (5, [.ref q1, .int (nI 1), .int 0, .int 0])), (q1, .inl (E.2.2 0, 60, .inl (fun _ => 0)))] := hD
  exact hE _ _ _ _ _ _ _ _ dX6_init_17 hS hP hD ⟨q1, rfl⟩ (by decide) (by decide)
def fm_X7 (E : En) (h0 : Nat) (w : va_W) : Prop := ∃ q1 : Nat, w = [(h0, .inr (6, [.ref q1, .int 0, .int 0, .int 0, .long 0])), (q1, .inl (E.2.2 0, 61, .inl (fun _ => 0)))]
theorem ct_X7 : Ctor MX7_init 1 1 61 (.inr (6, [.null, .int 0, .int 0, .int 0, .long 0])) (fun _ => True) fm_X7 := by
  refine ctor_of mm_X7_init rfl rfl (by decide) ?_
  intro p l e s m args below meth c E A h0 Q ls B hin hN hE hl hP hD hS
  refine k_al B dX7_init_0 rfl (lv_at hl 0 rfl) ?_
  refine k_obj B oi_X7 hl.1 (by decide) (by decide) dX7_init_1 ?_
  refine k_al B dX7_init_4 rfl (lv_at hl 0 rfl) ?_
  refine k_bp (v := nI 61) B dX7_init_5 (by decide) ?_
  refine k_newI (N := 61) B hP hD hS (by decide) (by decide) (by decide) (by decide) (by decide) dX7_init_7 (fun q1 H hP hD hS => ?_)
  have hP : va_P E.1 vwCl [(h0, .inr (6, [.null, .int 0, .int 0, .int 0, .long 0])), (q1, .inl (E.2.2 0, 61, .inl (fun _ => 0)))] H := hP
  have hD : va_D A [(h0, .inr (6, [.null, .int 0, .int 0, .int 0, .long 0])), (q1, .inl (E.2.2 0, 61, .inl (fun _ => 0)))] := hD
  refine k_putF (q0 := 0) B hin ff_X7_9 hP hD hS rfl rfl rfl (Nat.le_of_ble_eq_true rfl) dX7_init_9 (fun H locs hP hD hS => ?_)
  have hP : va_P E.1 vwCl [(h0, .inr (6, [.ref q1, .int 0, .int 0, .int 0, .long 0])), (q1, .inl (E.2.2 0, 61, .inl (fun _ => 0)))] H := hP
  have hD : va_D A [(h0, .inr (6, [.ref q1, .int 0, .int 0, .int 0, .long 0])), (q1, .inl (E.2.2 0, 61, .inl (fun _ => 0)))] := hD
  exact hE _ _ _ _ _ _ _ _ dX7_init_12 hS hP hD ⟨q1, rfl⟩ (by decide) (by decide)
