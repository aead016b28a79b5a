/-! the product of a day in doubles is exact -/
theorem fp_in (c : Nat) (q e : Int) (h1 : e ≤ q) (h2 : e ≤ 0) : c * 2 ^ q.toNat / 2 ^ (-q).toNat = FP.Core.inUnits c q e / 2 ^ (-e).toNat := by
  unfold FP.Core.inUnits
  by_cases hq : 0 ≤ q
  · rw [show (-q).toNat = 0 by omega, Nat.pow_zero, Nat.div_one, show (q - e).toNat = q.toNat + (-e).toNat by omega, Nat.pow_add, ← Nat.mul_assoc, Nat.mul_div_cancel _ (Nat.two_pow_pos _)]
  · rw [show q.toNat = 0 by omega, Nat.pow_zero, Nat.mul_one, show (-e).toNat = (-q).toNat + (q - e).toNat by omega, Nat.pow_add, Nat.mul_div_mul_right _ _ (Nat.two_pow_pos _)]
theorem fp_q : FP.Core.b64.qmin = -1074 := by decide +kernel
theorem fp_w {w : Nat} (hw : w < 2 ^ 31) : ∃ (c : Nat) (q : Int), FP.Core.val64 (FP.Core.i2d (nI w)) = .fin false c q ∧ -1074 ≤ q ∧ FP.Core.inUnits c q (-1074) = FP.Core.inUnits w 0 (-1074) := by
  have h0 : FP.Core.ofInt (nI w).toInt = .fin false w 0 := by
    unfold FP.Core.ofInt
    rw [nI_toInt hw, Int.natAbs_natCast, decide_eq_false (by omega)]
  obtain ⟨c, q, h1, h2⟩ := FP.Core.round_exact (f := FP.Core.b64) FP.Core.good_b64 false (c := w) (q := 0) (Nat.lt_trans hw (by decide +kernel)) (by decide +kernel) (by decide +kernel)
  have h3 := FP.Core.round_fits (f := FP.Core.b64) FP.Core.good_b64 (.fin false w 0)
  rw [h1] at h3
  refine ⟨c, q, by rw [FP.Core.val64_i2d, h0, h1], ?_, ?_⟩
  · have := h3.2.1; rw [fp_q] at this; exact this
  · rw [fp_q] at h2; exact h2
def fpY (d : Nat) : UInt64 := FP.Core.dsub FP.Core.dconst1 (FP.Core.ddiv (FP.Core.i2d (nI d)) 4634204016564240384)
def fpOk (d : Nat) : Bool := match FP.Core.val64 (fpY d) with
  | .fin false c q => decide (q < 0) && (decide (-94 ≤ q) && decide (c * 64 = (64 - d) * 2 ^ (-q).toNat))
  | _ => false
theorem fp_y : ∀ d, d < 37 → fpOk d = true := by decide +kernel
theorem fp_ys {d : Nat} (hd : d < 37) : ∃ (c : Nat) (q : Int), FP.Core.val64 (fpY d) = .fin false c q ∧ q < 0 ∧ -94 ≤ q ∧ c * 64 = (64 - d) * 2 ^ (-q).toNat := by
  have h := fp_y d hd
  unfold fpOk at h
  split at h
  · rename_i c q e
    simp only [Bool.and_eq_true, decide_eq_true_eq] at h
    exact ⟨c, q, e, h.1, h.2.1, h.2.2⟩
  · cases h
theorem fp_mul {w d : Nat} (hw : w ≤ 100000) (hd : d < 37) : ∃ (c : Nat) (q : Int), FP.Core.val64 (FP.Core.dmul (FP.Core.i2d (nI w)) (fpY d)) = .fin false c q ∧ c * 2 ^ q.toNat / 2 ^ (-q).toNat = w * (64 - d) / 64 := by
  obtain ⟨cx, qx, e1, l1, u1⟩ := fp_w (w := w) (by omega)
  obtain ⟨cy, qy, e2, l2, l3, u2⟩ := fp_ys hd
  have hk : w * (64 - d) < 2 ^ 53 := Nat.lt_of_le_of_lt (Nat.mul_le_mul hw (Nat.sub_le 64 d)) (by decide +kernel)
  have e3 : FP.Core.round FP.Core.b64 (.fin false (cx * cy) (qx + qy)) = FP.Core.round FP.Core.b64 (.fin false (w * (64 - d)) (-6)) := by
    have e9 : FP.Core.inUnits (cx * cy) (qx + qy) (-1174) = FP.Core.inUnits (w * (64 - d)) (-6) (-1174) := by
      unfold FP.Core.inUnits at u1 ⊢
      obtain ⟨E, hE⟩ : ∃ E : Nat, (qx - (-1074)).toNat = E := ⟨_, rfl⟩
      obtain ⟨Y, hY⟩ : ∃ Y : Nat, (-qy).toNat = Y := ⟨_, rfl⟩
      rw [hE, show ((0 : Int) - (-1074)).toNat = 1074 by omega] at u1
      rw [hY] at u2
      rw [show (qx + qy - (-1174)).toNat = E + 100 - Y by omega, show ((-6 : Int) - (-1174)).toNat = 1168 by omega]
      have p1 : cx * cy * 2 ^ (E + 100 - Y) = (cx * 2 ^ E) * (cy * 64) * 2 ^ (94 - Y) := by
        rw [show E + 100 - Y = E + 6 + (94 - Y) by omega, Nat.pow_add, Nat.pow_add, show (64 : Nat) = 2 ^ 6 by decide]
        generalize 2 ^ E = a
        generalize 2 ^ (94 - Y) = b
        generalize (2 : Nat) ^ 6 = s
        simp only [Nat.mul_assoc, Nat.mul_left_comm, Nat.mul_comm]
      have p2 : w * (64 - d) * 2 ^ 1168 = (w * 2 ^ 1074) * ((64 - d) * 2 ^ Y) * 2 ^ (94 - Y) := by
        rw [show 1168 = 1074 + (Y + (94 - Y)) by omega, Nat.pow_add, Nat.pow_add]
        generalize (2 : Nat) ^ 1074 = a
        generalize 2 ^ (94 - Y) = b
        generalize 2 ^ Y = s
        simp only [Nat.mul_assoc, Nat.mul_left_comm, Nat.mul_comm]
      rw [p1, p2, u1, u2]
    rw [← FP.Core.round_inUnits false (cx * cy) (show (-1174 : Int) ≤ qx + qy by omega), e9, FP.Core.round_inUnits false (w * (64 - d)) (show (-1174 : Int) ≤ -6 by omega)]
  obtain ⟨c, q, h1, h2⟩ := FP.Core.round_exact (f := FP.Core.b64) FP.Core.good_b64 false (c := w * (64 - d)) (q := -6) hk (by decide +kernel) (by decide +kernel)
  have h3 := FP.Core.round_fits (f := FP.Core.b64) FP.Core.good_b64 (.fin false (w * (64 - d)) (-6))
  rw [h1] at h3
  have h4 := h3.2.1
  rw [fp_q] at h2 h4
  refine ⟨c, q, ?_, ?_⟩
  · rw [FP.Core.val64_dmul, e1, e2]
    show FP.Core.round FP.Core.b64 (.fin false (cx * cy) (qx + qy)) = _
    rw [e3, h1]
  · rw [fp_in c q (-1074) h4 (by omega), h2, ← fp_in (w * (64 - d)) (-6) (-1074) (by omega) (by omega), show (-6 : Int).toNat = 0 from rfl, show (- -6 : Int).toNat = 6 from rfl, Nat.pow_zero, Nat.mul_one]
theorem fp_n {a : UInt64} (h : FP.Core.val64 a ≠ .nan) : vf_n64 a := by
  have h1 := (FP.Core.ne_nan a).mp h
  unfold vf_n64
  rw [UInt64.le_iff_toNat_le, UInt64.toNat_and]
  have h2 : (0x7fffffffffffffff : UInt64).toNat = 2 ^ 63 - 1 := by decide +kernel
  have h3 : (0x7ff0000000000000 : UInt64).toNat = 9218868437227405312 := by decide +kernel
  rw [h2, h3, Nat.and_two_pow_sub_one_eq_mod]
  exact h1
theorem fp_main {w d : Nat} (hw : w ≤ 100000) (hd : d < 37) : FP.Core.d2i (FP.Core.dmul (FP.Core.i2d (nI w)) (fpY d)) = nI (w * (64 - d) / 64) := by
  obtain ⟨c, q, h1, h2⟩ := fp_mul hw hd
  have hk : w * (64 - d) / 64 ≤ 100000 := by
    have := Nat.mul_le_mul hw (Nat.sub_le 64 d)
    omega
  show Int32.ofInt (FP.Core.toInt (-2 ^ 31) (2 ^ 31 - 1) (FP.Core.val64 (FP.Core.dmul (FP.Core.i2d (nI w)) (fpY d)))) = _
  rw [h1]
  show Int32.ofInt (max (-2 ^ 31) (min (2 ^ 31 - 1) (FP.Core.truncate false c q))) = _
  have h3 : FP.Core.truncate false c q = ((w * (64 - d) / 64 : Nat) : Int) := by
    unfold FP.Core.truncate FP.Core.signed
    rw [h2]
    rfl
  rw [h3]
  generalize w * (64 - d) / 64 = r at hk ⊢
  rw [Int.min_eq_right (by omega), Int.max_eq_right (by omega)]
  exact (Int32.toInt_inj.mp (by rw [nI_toInt (by omega), Int32.toInt_ofInt_of_le (by omega) (by omega)]))
