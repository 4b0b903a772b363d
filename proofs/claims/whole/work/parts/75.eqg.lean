/-! class and reference answer the same: twice -/
theorem rdS_w (a : Nat → Int32) (w w' : Int32) {n : Nat} (hn : 1 ≤ n) (h0 : ¬ abs64 ((a 0).toInt64 - (a 1).toInt64) ≤ -1) : rdS a w n = rdS a w' n := by
  obtain ⟨m, rfl⟩ : ∃ m, n = m + 1 := ⟨n - 1, by omega⟩
  unfold rdS
  rw [lp_s, lp_s]
  congr 1
  unfold rdF
  have e : (a (2 * 0)).toInt64 - (a (2 * 0 + 1)).toInt64 = (a 0).toInt64 - (a 1).toInt64 := rfl
  dsimp only
  rw [e, if_neg h0, if_neg h0, if_neg h0]
theorem abs_pos {x : Int64} (h : -9223372036854775808 < x.toInt) : ¬ abs64 x ≤ -1 := by
  have h2 := Int64.toInt_lt x
  rw [abs_lN x h, fa_le64, pk_lT (by omega)]
  have e : (-1 : Int64).toInt = -1 := by decide
  omega
theorem tw_first {a : Nat → Int32} {n : Nat} (hn : 1 ≤ n) (hw : fWithin a (-10000) 10000 (2 * n) = 1) : ¬ abs64 ((a 0).toInt64 - (a 1).toInt64) ≤ -1 := by
  obtain ⟨-, q, l1, l2⟩ := by64 (fW_at hw (show 0 < 2 * n by omega)) (fW_at hw (show 1 < 2 * n by omega))
  exact abs_pos (by rw [q]; omega)
theorem nn_lN {x : Int64} (h : 0 ≤ x.toInt) : x = lN x.toInt.natAbs := by
  have h2 := Int64.toInt_lt x
  apply Int64.toInt_inj.mp
  rw [pk_lT (by omega)]
  omega
/-- the four quotients and the worst pair, as the class keeps them, are the reference's -/
theorem tw_eq {a : Nat → Int32} {n : Nat} (w : Int32) (hn : 1 ≤ n) (hn30 : n ≤ 30) (hw : fWithin a (-10000) 10000 (2 * n) = 1) : ∃ X1 X2, X1 < 2 ^ 62 ∧ X2 < 2 ^ 62 ∧ abs64 (rdS a 0 n).1 = lN X1 ∧ abs64 (rdS a 0 n).2.1 = lN X2 ∧ rdS a w n = rdS a 0 n ∧ cpF (rdS a 0 n).1 (2 * (nI n).toInt64) = lN (Nat.gcd X1 (2 * n)) ∧ 2 * (nI n).toInt64 = lN (2 * n) ∧ cpF (abs64 (rdS a 0 n).2.1) (nI n).toInt64 = lN (Nat.gcd X2 n) ∧ (nI n).toInt64 = lN n := by
  obtain ⟨b1, b2, b3, b4⟩ := rd_b a 0 hn30 hw n (Nat.le_refl _)
  have en : (nI n).toInt64 = lN n := nI_l (by omega)
  have en2 : (2 : Int64) * (nI n).toInt64 = lN (2 * n) := by rw [en]; exact lN_mul 2 n
  have hX1 : (rdS a 0 n).1.toInt.natAbs < 2 ^ 62 := by omega
  have hX2 : (rdS a 0 n).2.1.toInt.natAbs < 2 ^ 62 := by omega
  have ab2 : abs64 (rdS a 0 n).2.1 = lN (rdS a 0 n).2.1.toInt.natAbs := abs_lN _ (by omega)
  refine ⟨(rdS a 0 n).1.toInt.natAbs, (rdS a 0 n).2.1.toInt.natAbs, hX1, hX2, abs_lN _ (by omega), ab2, rdS_w a w 0 hn (tw_first hn hw), ?_, en2, ?_, en⟩
  · rw [en2]
    have q := cpF_N (X := (rdS a 0 n).1.toInt.natAbs) (Y := 2 * n) (by omega) (by omega) hX1
    rw [← nn_lN b1] at q
    exact q
  · rw [en, ab2]
    exact cpF_N (by omega) (by omega) hX2
