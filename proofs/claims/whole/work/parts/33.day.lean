/-! the day, forecasts -/
theorem fp_e {tn wn : Nat} (h1 : tn ≤ 3) (h2 : wn ≤ 9) : wn * (tn + 1) < 37 := by
  have := Nat.mul_le_mul h2 (show tn + 1 ≤ 4 by omega)
  omega
theorem fp_n1 : ∀ d, d < 37 → FP.Core.val64 (FP.Core.ddiv (FP.Core.i2d (nI d)) 4634204016564240384) ≠ .nan ∧ FP.Core.val64 (fpY d) ≠ .nan := by decide +kernel
theorem fp_n2 {w d : Nat} (hw : w ≤ 100000) (hd : d < 37) : FP.Core.val64 (FP.Core.dmul (FP.Core.i2d (nI w)) (fpY d)) ≠ .nan := by
  obtain ⟨c, q, h1, -⟩ := fp_mul hw hd
  rw [h1]
  exact fun h => by cases h
theorem fDried_of {w tn wn : Nat} (ra : Int32) (hw : w ≤ 100000) (h1 : tn ≤ 3) (h2 : wn ≤ 9) : fDried (nI w) (nI tn) (nI wn) ra = if nI 100000 < nI (w * (64 - wn * (tn + 1)) / 64) + nI 1500 * ra then nI 100000 else nI (w * (64 - wn * (tn + 1)) / 64) + nI 1500 * ra := by
  have h3 := fp_e h1 h2
  have h4 : nI w * (nI 64 - nI wn * (nI tn + nI 1)) / nI 64 = nI (w * (64 - wn * (tn + 1)) / 64) := by
    have h5 : w * (64 - wn * (tn + 1)) < 2 ^ 31 := Nat.lt_of_le_of_lt (Nat.mul_le_mul hw (Nat.sub_le 64 _)) (by decide)
    rw [nI_add, pk_mul, pk_sub (by omega), pk_mul, pk_div h5 (by omega) (by omega)]
  unfold fDried
  rw [h4]
theorem n_min2 (x y : Int32) : (if y < x then y else x) = if x < y then x else y := by
  by_cases h1 : y < x
  · rw [if_pos h1, if_neg (fun q => by rw [n_lt] at q h1; omega)]
  · rw [if_neg h1]
    by_cases h2 : x < y
    · rw [if_pos h2]
    · rw [if_neg h2]
      exact n_eq (by rw [n_lt] at h1 h2; omega)
set_option maxRecDepth 100000 in
set_option maxHeartbeats 4000000 in
theorem c_X5_wetnessAfterDay (l : Launch) (E : pE) (a : Nat) (o b t w0 ra : Int32) (w tn wn : Nat) : pC l E yX5_wetnessAfterDay cX5_wetnessAfterDay 6 (some .int) { frames := 1, cells := 0, slots := 0, locals := 21 } 0 0 [.ref a, .int (nI w), .int (nI wn), .int ra] (fun h _ => h a = some (ob 5 [.int o, .int b, .int t, .int w0, .int (nI tn)]) ∧ w ≤ 100000 ∧ tn ≤ 3 ∧ wn ≤ 9) (pFp ((fDried (nI w) (nI tn) (nI wn) ra))) := by
  refine pC_of (by decide) (by simp [Value.category]) (Nat.le_of_ble_eq_true rfl) ?_
  intro h z hp p__ e__ s__ m__ args__ below__ meth__ c__ X hr hlk hname
  obtain ⟨hE, hw, h1, h2⟩ := hp
  have hd := fp_e h1 h2
  refine v_iload_n (pc := 0) X (hd := dX5_wetnessAfterDay_0) (kk := ?_)
  refine v_aload_n (pc := 1) X (hd := dX5_wetnessAfterDay_1) (kk := ?_)
  refine g_X5_24 (pc := 2) X (hd := dX5_wetnessAfterDay_2) (hh := hE) (kk := ?_)
  refine v_iconst (pc := 5) X (v := nI 1) (hd := dX5_wetnessAfterDay_5) (kk := ?_)
  refine v_iadd (pc := 6) X (hd := dX5_wetnessAfterDay_6) (kk := ?_)
  refine v_imul (pc := 7) X (hd := dX5_wetnessAfterDay_7) (kk := ?_)
  rw [nI_add, pk_mul]
  refine v_istore (pc := 8) X (hd := dX5_wetnessAfterDay_8) (kk := ?_)
  refine v_iload_n (pc := 10) X (hd := dX5_wetnessAfterDay_10) (kk := ?_)
  refine v_i2d (pc := 11) X (hd := dX5_wetnessAfterDay_11) (kk := ?_)
  refine v_dconst1 (pc := 12) X (hd := dX5_wetnessAfterDay_12) (kk := ?_)
  refine v_iload (pc := 13) X (hd := dX5_wetnessAfterDay_13) (kk := ?_)
  refine v_i2d (pc := 15) X (hd := dX5_wetnessAfterDay_15) (kk := ?_)
  refine v_ldc2d (pc := 16) X (hw := wq_X5_37) (hd := dX5_wetnessAfterDay_16) (kk := ?_)
  refine v_ddiv (pc := 19) X (hd := dX5_wetnessAfterDay_19) (hne := fp_n (fp_n1 _ hd).1) (kk := ?_)
  refine v_dsub (pc := 20) X (hd := dX5_wetnessAfterDay_20) (hne := fp_n (fp_n1 _ hd).2) (kk := ?_)
  refine v_dmul (pc := 21) X (hd := dX5_wetnessAfterDay_21) (hne := fp_n (fp_n2 hw hd)) (kk := ?_)
  refine v_d2i (pc := 22) X (hd := dX5_wetnessAfterDay_22) (kk := ?_)
  rw [show FP.d2i (FP.dmul (FP.i2d (nI w)) (FP.dsub FP.dconst1 (FP.ddiv (FP.i2d (nI (wn * (tn + 1)))) 4634204016564240384))) = nI (w * (64 - wn * (tn + 1)) / 64) from fp_main hw hd]
  refine v_istore (pc := 23) X (hd := dX5_wetnessAfterDay_23) (kk := ?_)
  refine v_ldc (v := nI 100000) (pc := 25) X (hw := wq_X5_39) (hd := dX5_wetnessAfterDay_25) (kk := ?_)
  refine v_iload (pc := 27) X (hd := dX5_wetnessAfterDay_27) (kk := ?_)
  refine v_sipush (pc := 29) X (v := nI 1500) (hd := dX5_wetnessAfterDay_29) (kk := ?_)
  refine v_iload_n (pc := 32) X (hd := dX5_wetnessAfterDay_32) (kk := ?_)
  refine v_imul (pc := 33) X (hd := dX5_wetnessAfterDay_33) (kk := ?_)
  refine v_iadd (pc := 34) X (hd := dX5_wetnessAfterDay_34) (kk := ?_)
  refine v_min (pc := 35) X (hd := dX5_wetnessAfterDay_35) (hw1 := wm_X5_31) (hw2 := wt_min) (hw3 := wi_Math) (hw4 := wc_min) (kk := ?_)
  exact v_endp (pc := 38) X hr hlk (hd := dX5_wetnessAfterDay_38) (hf := by rw [fDried_of ra hw h1 h2]; exact n_min2 _ _)
theorem fDried_le {w tn wn rn : Nat} (hw : w ≤ 100000) (h1 : tn ≤ 3) (h2 : wn ≤ 9) (hr : rn ≤ 9) : ∃ k, k ≤ 100000 ∧ fDried (nI w) (nI tn) (nI wn) (nI rn) = nI k := by
  rw [fDried_of (nI rn) hw h1 h2, pk_mul, nI_add]
  by_cases h : nI 100000 < nI (w * (64 - wn * (tn + 1)) / 64 + 1500 * rn)
  · exact ⟨100000, by omega, if_pos h⟩
  · refine ⟨_, ?_, if_neg h⟩
    have h5 : w * (64 - wn * (tn + 1)) ≤ 100000 * 64 := Nat.mul_le_mul hw (Nat.sub_le 64 _)
    have h6 : w * (64 - wn * (tn + 1)) / 64 ≤ 100000 := by omega
    rcases Nat.lt_or_ge 100000 (w * (64 - wn * (tn + 1)) / 64 + 1500 * rn) with q | q
    · exact absurd (nI_lt q (by omega)) h
    · exact q
theorem wtF_le {w tn wn rn : Nat} (hw : w ≤ 100000) (h1 : tn ≤ 3) (h2 : wn ≤ 9) (hr : rn ≤ 9) : ∀ i, ∃ k, k ≤ 100000 ∧ wtF (nI w) (nI tn) (nI wn) (nI rn) i = nI k := by
  intro i
  induction i with
  | zero => exact ⟨w, hw, rfl⟩
  | succ i ih =>
    obtain ⟨k, k1, k2⟩ := ih
    show ∃ k, k ≤ 100000 ∧ fDried (wtF (nI w) (nI tn) (nI wn) (nI rn) i) (nI tn) (nI wn) (nI rn) = nI k
    rw [k2]
    exact fDried_le k1 h1 h2 hr
set_option maxRecDepth 100000 in
set_option maxHeartbeats 4000000 in
theorem c_X2_daysUntilDry (l : Launch) (E : pE) (a : Nat) (v : Nat → Int32) (x wi ra : Int32) (nh nb ns : Nat) : pC l E yX2_daysUntilDry cX2_daysUntilDry 7 (some .int) { frames := 2, cells := 0, slots := 0, locals := 46 } 0 0 [.ref a, .int x, .int wi, .int ra] (fun h _ => PA a v h ∧ Iv v nh nb ns) (pFp ((qDry v x wi ra))) := by
  refine pC_of (by decide) (by simp [Value.category]) (Nat.le_of_ble_eq_true rfl) ?_
  intro h z hp p__ e__ s__ m__ args__ below__ meth__ c__ X hr hlk hname
  obtain ⟨hP0, I⟩ := hp
  obtain ⟨f1, f2, f3, pi, g, c, P⟩ := hP0
  have hpp : PA a v h ∧ Iv v nh nb ns := ⟨⟨f1, f2, f3, pi, g, c, P⟩, I⟩
  obtain ⟨hn6, hb4, hs12, en, eb, es⟩ := I.1
  have eS : nx (v 3) = ns := by rw [es]; exact nx_nI (by omega)
  have P0 := P
  obtain ⟨T0, T1, T2, T3, ⟨F1, F2, F3, pl, pj⟩, Hh, Hb, Hg, Hc, Gg, Gc, Hk, Hs⟩ := P
  rw [en, eb, es] at T0
  have Hs2 : ∀ k, k < ns → _ := fun k hk => Hs k (by omega) (by rw [eS]; exact hk)
  refine v_aload_n (pc := 0) X (hd := dX2_daysUntilDry_0) (kk := ?_)
  refine v_iload_n (pc := 1) X (hd := dX2_daysUntilDry_1) (kk := ?_)
  refine v_callVp (pc := 2) X (hd := dX2_daysUntilDry_2) (w := wv_X2_129) (hC := c_X2_hasStack l E a v x nh nb ns) (hp := hpp) (hb := by first | assumption | exact pset_s _ _ _ | exact (pset_n (by omega)).trans (by assumption)) (kk := ?_)
  refine v_ifeqB (pc := 5) X (tgt := 28) (hd := dX2_daysUntilDry_5) (kt := fun c5 => ?_) (kf := fun c5 => ?_)
  · refine v_iconst (pc := 28) X (v := (-1)) (hd := dX2_daysUntilDry_28) (kk := ?_)
    exact v_endp (pc := 29) X hr hlk (hd := dX2_daysUntilDry_29) (hf := by unfold qDry; rw [if_neg (fun q => c5 q.1)])
  · refine v_iload_n (pc := 8) X (hd := dX2_daysUntilDry_8) (kk := ?_)
    refine v_iconst (pc := 9) X (v := nI 0) (hd := dX2_daysUntilDry_9) (kk := ?_)
    refine v_bipush (pc := 10) X (v := nI 9) (hd := dX2_daysUntilDry_10) (kk := ?_)
    refine v_callSNp (pc := 12) X (hd := dX2_daysUntilDry_12) (w := wv_X2_61) (hC := c_X6_isWithin l E _ _ _) (hp := by first | assumption | exact trivial) (kk := ?_)
    refine v_ifeqB (pc := 15) X (tgt := 28) (hd := dX2_daysUntilDry_15) (kt := fun c15 => ?_) (kf := fun c15 => ?_)
    · refine v_iconst (pc := 28) X (v := (-1)) (hd := dX2_daysUntilDry_28) (kk := ?_)
      exact v_endp (pc := 29) X hr hlk (hd := dX2_daysUntilDry_29) (hf := by unfold qDry; rw [if_neg (fun q => c15 q.2.1)])
    · refine v_iload_n (pc := 18) X (hd := dX2_daysUntilDry_18) (kk := ?_)
      refine v_iconst (pc := 19) X (v := nI 0) (hd := dX2_daysUntilDry_19) (kk := ?_)
      refine v_bipush (pc := 20) X (v := nI 9) (hd := dX2_daysUntilDry_20) (kk := ?_)
      refine v_callSNp (pc := 22) X (hd := dX2_daysUntilDry_22) (w := wv_X2_61) (hC := c_X6_isWithin l E _ _ _) (hp := by first | assumption | exact trivial) (kk := ?_)
      refine v_ifneB (pc := 25) X (tgt := 30) (hd := dX2_daysUntilDry_25) (kt := fun c25 => ?_) (kf := fun c25 => ?_)
      · obtain ⟨j, hj, rfl, ej⟩ := gH_j es (by omega) c5
        obtain ⟨o, b, t1, we1, tn1, s1, s2, s3, s4, s5, s6, e0, e1, e2, e3, e4⟩ := I.2.2.2.2.2.2.2.2.1 j hj
        have eb1 : nx (nI b) = b := nx_nI (by omega)
        obtain ⟨wn, -, hwn, rfl, ewn⟩ := gI_j (by omega) (by omega) c15
        obtain ⟨rn, -, hrn, rfl, ern⟩ := gI_j (by omega) (by omega) c25
        have hst := Hs2 j hj
        rw [e3, e4] at hst
        refine v_aload_n (pc := 30) X (hd := dX2_daysUntilDry_30) (kk := ?_)
        refine g_X2_44 (pc := 31) X (hd := dX2_daysUntilDry_31) (hh := by first | assumption | exact pset_s _ _ _ | exact (pset_n (by omega)).trans (by assumption)) (kk := ?_)
        refine v_iload_n (pc := 34) X (hd := dX2_daysUntilDry_34) (kk := ?_)
        refine v_aaldN (pc := 35) X (j := j) (hd := dX2_daysUntilDry_35) (hh := by first | assumption | exact pset_s _ _ _ | exact (pset_n (by omega)).trans (by assumption)) (hi := by first | rfl | (simp only [pk_mul, nI_add]; done)) (hj := by omega) (hf := F3 j (by omega)) (kk := ?_)
        refine v_astore (pc := 36) X (hd := dX2_daysUntilDry_36) (kk := ?_)
        refine v_aload (pc := 38) X (hd := dX2_daysUntilDry_38) (kk := ?_)
        refine g_X2_123 (pc := 40) X (hd := dX2_daysUntilDry_40) (hh := hst) (kk := ?_)
        refine v_istore (pc := 43) X (hd := dX2_daysUntilDry_43) (kk := ?_)
        refine v_iconst (pc := 45) X (v := nI 0) (hd := dX2_daysUntilDry_45) (kk := ?_)
        refine v_istore (pc := 46) X (hd := dX2_daysUntilDry_46) (kk := ?_)
        refine v_for (pc := 48) (M := 201) (Lf := fun i => [some (.ref a), some (.int (nI j)), some (.int (nI wn)), some (.int (nI rn)), some (.ref (a + 22 + pi j)), some (.int (wtF (nI we1) (nI tn1) (nI wn) (nI rn) i)), some (.int (nI i))]) (I := fun i h1 => h1 = h ∧ fFst (wtF (nI we1) (nI tn1) (nI wn) (nI rn)) 201 0 = fFst (wtF (nI we1) (nI tn1) (nI wn) (nI rn)) (201 - i) i) (h0 := ⟨rfl, rfl⟩) (hL := by rfl) (step := ?_) (out := ?_)
        · intro i h1 hi hI kk
          obtain ⟨rfl, eF⟩ := hI
          rw [show 201 - i = (201 - (i + 1)) + 1 by omega] at eF
          obtain ⟨wk, wk1, wk2⟩ := wtF_le s5 s6 hwn hrn i
          refine v_iload (pc := 48) X (hd := dX2_daysUntilDry_48) (kk := ?_)
          refine v_sipush (pc := 50) X (v := nI 200) (hd := dX2_daysUntilDry_50) (kk := ?_)
          refine v_icmpgt (pc := 53) X (tgt := 84) (hd := dX2_daysUntilDry_53) (kt := fun c53 => ?_) (kf := fun c53 => ?_)
          · exact absurd c53 (nI_nlt (by omega) (by omega))
          · refine v_iload (pc := 56) X (hd := dX2_daysUntilDry_56) (kk := ?_)
            refine v_sipush (pc := 58) X (v := nI 30000) (hd := dX2_daysUntilDry_58) (kk := ?_)
            refine v_icmpgt (pc := 61) X (tgt := 67) (hd := dX2_daysUntilDry_61) (kt := fun c61 => ?_) (kf := fun c61 => ?_)
            · have c61 : ¬ wtF (nI we1) (nI tn1) (nI wn) (nI rn) i ≤ nI 30000 := by rw [n_lt] at c61; rw [n_le]; exact Int.not_le.mpr c61
              refine v_aload (pc := 67) X (hd := dX2_daysUntilDry_67) (kk := ?_)
              refine v_iload (pc := 69) X (hd := dX2_daysUntilDry_69) (kk := ?_)
              rw [wk2]
              refine v_iload_n (pc := 71) X (hd := dX2_daysUntilDry_71) (kk := ?_)
              refine v_iload_n (pc := 72) X (hd := dX2_daysUntilDry_72) (kk := ?_)
              refine v_callVp (pc := 73) X (hd := dX2_daysUntilDry_73) (w := wv_X2_146) (hC := c_X5_wetnessAfterDay l E _ _ _ _ _ (nI rn) wk tn1 wn) (hp := ⟨hst, wk1, s6, hwn⟩) (hb := hst) (kk := ?_)
              refine v_istore (pc := 76) X (hd := dX2_daysUntilDry_76) (kk := ?_)
              refine v_iincN (pc := 78) X (hd := dX2_daysUntilDry_78) (kk := ?_)
              refine v_goto (pc := 81) X (tgt := 48) (hd := dX2_daysUntilDry_81) (kk := ?_)
              rw [show nI wk = wtF (nI we1) (nI tn1) (nI wn) (nI rn) i from wk2.symm]
              exact kk _ ⟨rfl, eF.trans (if_neg c61)⟩
            · refine v_iload (pc := 64) X (hd := dX2_daysUntilDry_64) (kk := ?_)
              exact v_endp (pc := 66) X hr hlk (hd := dX2_daysUntilDry_66) (hf := by unfold qDry; rw [if_pos ⟨c5, c15, c25⟩, ej, e3, e4, eF]; exact (if_pos (n_nlt c61)).symm)
        · intro h1 hI
          obtain ⟨rfl, eF⟩ := hI
          refine v_iload (pc := 48) X (hd := dX2_daysUntilDry_48) (kk := ?_)
          refine v_sipush (pc := 50) X (v := nI 200) (hd := dX2_daysUntilDry_50) (kk := ?_)
          refine v_icmpgt (pc := 53) X (tgt := 84) (hd := dX2_daysUntilDry_53) (kt := fun c53 => ?_) (kf := fun c53 => ?_)
          · refine v_bipush (pc := 84) X (v := (-9)) (hd := dX2_daysUntilDry_84) (kk := ?_)
            exact v_endp (pc := 86) X hr hlk (hd := dX2_daysUntilDry_86) (hf := by unfold qDry; rw [if_pos ⟨c5, c15, c25⟩, ej, e3, e4, eF]; rfl)
          · exact absurd (nI_lt (by omega) (by omega)) c53
      · refine v_iconst (pc := 28) X (v := (-1)) (hd := dX2_daysUntilDry_28) (kk := ?_)
        exact v_endp (pc := 29) X hr hlk (hd := dX2_daysUntilDry_29) (hf := by unfold qDry; rw [if_neg (fun q => c25 q.2.2)])
