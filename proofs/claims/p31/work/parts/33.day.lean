/-! the day, forecasts -/
theorem fp_e {tn wn : Nat} (h1 : tn ≤ 3) (h2 : wn ≤ 9) : wn * (tn + 1) < 37 := by
  have := Nat.mul_le_mul h2 (show tn + 1 ≤ 4 by omega)
  omega
theorem fp_n1 : ∀ d, d < 37 → FP.Core.val64 (FP.Core.ddiv (FP.Core.i2d (nI d)) 4634204016564240384) ≠ .nan ∧ FP.Core.val64 (fpY d) ≠ .nan := by decide +kernel
theorem fp_n2 {w d : Nat} (hw : w ≤ 100000) (hd : d < 37) : FP.Core.val64 (FP.Core.dmul (FP.Core.i2d (nI w)) (fpY d)) ≠ .nan := by
  obtain ⟨c, q, h1, -⟩ := fp_mul hw hd
  rw [h1]
  exact fun h => by cases h
theorem fDried_of {w tn wn : Nat} (ra : Int32) (hw : w ≤ 100000) (h1 : tn ≤ 3) (h2 : wn ≤ 9) : fDried (nI w) (nI tn) (nI wn) ra = if nI 100000 < nI (w * (64 - wn * (tn + 1)) / 64) + nI 1500 * ra then nI 100000 else nI (w * (64 - wn * (tn + 1)) / 64) + nI 1500 * ra := by
  have h3 := fp_e h1 h2
  have h4 : nI w * (nI 64 - nI wn * (nI tn + nI 1)) / nI 64 = nI (w * (64 - wn * (tn + 1)) / 64) := by
    have h5 : w * (64 - wn * (tn + 1)) < 2 ^ 31 := Nat.lt_of_le_of_lt (Nat.mul_le_mul hw (Nat.sub_le 64 _)) (by decide)
    rw [nI_add, pk_mul, pk_sub (by omega), pk_mul, pk_div h5 (by omega) (by omega)]
  unfold fDried
  rw [h4]
theorem n_min2 (x y : Int32) : (if y < x then y else x) = if x < y then x else y := by
  by_cases h1 : y < x
  · rw [if_pos h1, if_neg (fun q => by rw [n_lt] at q h1; omega)]
  · rw [if_neg h1]
    by_cases h2 : x < y
    · rw [if_pos h2]
    · rw [if_neg h2]
      exact n_eq (by rw [n_lt] at h1 h2; omega)
set_option maxRecDepth 100000 in
set_option maxHeartbeats 4000000 in
theorem c_X5_wetnessAfterDay (l : Launch) (E : pE) (a : Nat) (o b t w0 ra : Int32) (w tn wn : Nat) : pC l E yX5_wetnessAfterDay cX5_wetnessAfterDay 6 (some .int) { frames := 1, cells := 0, slots := 0, locals := 21 } 0 0 [.ref a, .int (nI w), .int (nI wn), .int ra] (fun h _ => h a = some (ob 5 [.int o, .int b, .int t, .int w0, .int (nI tn)]) ∧ w ≤ 100000 ∧ tn ≤ 3 ∧ wn ≤ 9) (pFp ((fDried (nI w) (nI tn) (nI wn) ra))) := by
  refine pC_of (by decide) (by simp [Value.category]) (Nat.le_of_ble_eq_true rfl) ?_
  intro h z hp p__ e__ s__ m__ args__ below__ meth__ c__ X hr hlk hname
  obtain ⟨hE, hw, h1, h2⟩ := hp
  have hd := fp_e h1 h2
  refine v_iload_n (pc := 0) X (hd := dX5_wetnessAfterDay_0) (kk := ?_)
  refine v_aload_n (pc := 1) X (hd := dX5_wetnessAfterDay_1) (kk := ?_)
  refine g_X5_24 (pc := 2) X (hd := dX5_wetnessAfterDay_2) (hh := hE) (kk := ?_)
  refine v_iconst (pc := 5) X (v := nI 1) (hd := dX5_wetnessAfterDay_5) (kk := ?_)
  refine v_iadd (pc := 6) X (hd := dX5_wetnessAfterDay_6) (kk := ?_)
  refine v_imul (pc := 7) X (hd := dX5_wetnessAfterDay_7) (kk := ?_)
  rw [nI_add, pk_mul]
  refine v_istore (pc := 8) X (hd := dX5_wetnessAfterDay_8) (kk := ?_)
  refine v_iload_n (pc := 10) X (hd := dX5_wetnessAfterDay_10) (kk := ?_)
  refine v_i2d (pc := 11) X (hd := dX5_wetnessAfterDay_11) (kk := ?_)
  refine v_dconst1 (pc := 12) X (hd := dX5_wetnessAfterDay_12) (kk := ?_)
  refine v_iload (pc := 13) X (hd := dX5_wetnessAfterDay_13) (kk := ?_)
  refine v_i2d (pc := 15) X (hd := dX5_wetnessAfterDay_15) (kk := ?_)
  refine v_ldc2d (pc := 16) X (hw := wq_X5_37) (hd := dX5_wetnessAfterDay_16) (kk := ?_)
  refine v_ddiv (pc := 19) X (hd := dX5_wetnessAfterDay_19) (hne := fp_n (fp_n1 _ hd).1) (kk := ?_)
  refine v_dsub (pc := 20) X (hd := dX5_wetnessAfterDay_20) (hne := fp_n (fp_n1 _ hd).2) (kk := ?_)
  refine v_dmul (pc := 21) X (hd := dX5_wetnessAfterDay_21) (hne := fp_n (fp_n2 hw hd)) (kk := ?_)
  refine v_d2i (pc := 22) X (hd := dX5_wetnessAfterDay_22) (kk := ?_)
  rw [show FP.d2i (FP.dmul (FP.i2d (nI w)) (FP.dsub FP.dconst1 (FP.ddiv (FP.i2d (nI (wn * (tn + 1)))) 4634204016564240384))) = nI (w * (64 - wn * (tn + 1)) / 64) from fp_main hw hd]
  refine v_istore (pc := 23) X (hd := dX5_wetnessAfterDay_23) (kk := ?_)
  refine v_ldc (v := nI 100000) (pc := 25) X (hw := wq_X5_39) (hd := dX5_wetnessAfterDay_25) (kk := ?_)
  refine v_iload (pc := 27) X (hd := dX5_wetnessAfterDay_27) (kk := ?_)
  refine v_sipush (pc := 29) X (v := nI 1500) (hd := dX5_wetnessAfterDay_29) (kk := ?_)
  refine v_iload_n (pc := 32) X (hd := dX5_wetnessAfterDay_32) (kk := ?_)
  refine v_imul (pc := 33) X (hd := dX5_wetnessAfterDay_33) (kk := ?_)
  refine v_iadd (pc := 34) X (hd := dX5_wetnessAfterDay_34) (kk := ?_)
  refine v_min (pc := 35) X (hd := dX5_wetnessAfterDay_35) (hw1 := wm_X5_31) (hw2 := wt_min) (hw3 := wi_Math) (hw4 := wc_min) (kk := ?_)
  exact v_endp (pc := 38) X hr hlk (hd := dX5_wetnessAfterDay_38) (hf := by rw [fDried_of ra hw h1 h2]; exact n_min2 _ _)
theorem fDried_le {w tn wn rn : Nat} (hw : w ≤ 100000) (h1 : tn ≤ 3) (h2 : wn ≤ 9) (hr : rn ≤ 9) : ∃ k, k ≤ 100000 ∧ fDried (nI w) (nI tn) (nI wn) (nI rn) = nI k := by
  rw [fDried_of (nI rn) hw h1 h2, pk_mul, nI_add]
  by_cases h : nI 100000 < nI (w * (64 - wn * (tn + 1)) / 64 + 1500 * rn)
  · exact ⟨100000, by omega, if_pos h⟩
  · refine ⟨_, ?_, if_neg h⟩
    have h5 : w * (64 - wn * (tn + 1)) ≤ 100000 * 64 := Nat.mul_le_mul hw (Nat.sub_le 64 _)
    have h6 : w * (64 - wn * (tn + 1)) / 64 ≤ 100000 := by omega
    rcases Nat.lt_or_ge 100000 (w * (64 - wn * (tn + 1)) / 64 + 1500 * rn) with q | q
    · exact absurd (nI_lt q (by omega)) h
    · exact q
theorem wtF_le {w tn wn rn : Nat} (hw : w ≤ 100000) (h1 : tn ≤ 3) (h2 : wn ≤ 9) (hr : rn ≤ 9) : ∀ i, ∃ k, k ≤ 100000 ∧ wtF (nI w) (nI tn) (nI wn) (nI rn) i = nI k := by
  intro i
  induction i with
  | zero => exact ⟨w, hw, rfl⟩
  | succ i ih =>
    obtain ⟨k, k1, k2⟩ := ih
    show ∃ k, k ≤ 100000 ∧ fDried (wtF (nI w) (nI tn) (nI wn) (nI rn) i) (nI tn) (nI wn) (nI rn) = nI k
    rw [k2]
    exact fDried_le k1 h1 h2 hr