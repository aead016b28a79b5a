/-! the Parish's methods that change nothing -/
theorem within_iff {n : Nat} (hn : n ≤ 12) (x : Int32) : (nI 0 ≤ x ∧ x ≤ nI n - nI 1) ↔ gH (nI n) x := by
  have e1 : (nI n - nI 1).toInt = (n : Int) - 1 := by
    rw [Int32.toInt_sub, nI_toInt (by omega), nI_toInt (by omega)]
    simp only [Int.bmod_def]
    omega
  have e2 : (nI 0).toInt = 0 := nI_toInt (by omega)
  have e3 : (nI n).toInt = n := nI_toInt (by omega)
  have e4 : (0 : Int32).toInt = 0 := Int32.toInt_zero
  unfold gH
  rw [n_le, n_le, n_le, n_lt, e1, e2, e3, e4]
  omega
theorem bt_n0 {x : Int32} {i : Nat} (h : ¬ bt x i = 0) : bt x i = nI 1 := ((bt_b x i).resolve_left h).trans nI_t.symm
theorem bt_z {x : Int32} {i : Nat} (h : bt x i = 0) : ¬ bt x i = nI 1 := fun q => by rw [h] at q; exact absurd q (by decide +kernel)
theorem Iv.spp {v : Nat → Int32} {nh nb ns b k : Nat} (I : Iv v nh nb ns) (hk : k < nh) (hr : hR v k b) : 0 < fSp v b nh := by
  obtain ⟨s, h1, h2, h3⟩ := I.sp (b := b) nh (Nat.le_refl _)
  have h4 := h3 k hk hr
  have h5 := I.1.1
  rw [h2]
  have := nI_lt (a := 0) (b := s) h4 (by omega)
  rw [nI_z] at this
  exact this
theorem add_n0 (x : Int32) : x + nI 0 = x := Int32.add_zero x
theorem sub_n0 (x : Int32) : x - nI 0 = x := by rw [nI_z]; exact Int32.sub_zero x
set_option maxRecDepth 100000 in
set_option maxHeartbeats 4000000 in
theorem c_X2_hasHousehold (l : Launch) (E : pE) (a : Nat) (v : Nat → Int32) (x : Int32) (nh nb ns : Nat) : pC l E yX2_hasHousehold cX2_hasHousehold 2 (some .boolean) { frames := 1, cells := 0, slots := 0, locals := 22 } 0 0 [.ref a, .int x] (fun h _ => PA a v h ∧ Iv v nh nb ns) (pFp ((bI (gH (v 1) x)))) := by
  refine pC_of (by decide) (by simp [Value.category]) (Nat.le_of_ble_eq_true rfl) ?_
  intro h z hp p__ e__ s__ m__ args__ below__ meth__ c__ X hr hlk hname
  obtain ⟨hP0, I⟩ := hp
  obtain ⟨f1, f2, f3, pi, g, c, P⟩ := hP0
  have hpp : PA a v h ∧ Iv v nh nb ns := ⟨⟨f1, f2, f3, pi, g, c, P⟩, I⟩
  obtain ⟨hn6, hb4, hs12, en, eb, es⟩ := I.1
  have eS : nx (v 3) = ns := by rw [es]; exact nx_nI (by omega)
  have P0 := P
  obtain ⟨T0, T1, T2, T3, ⟨F1, F2, F3, pl, pj⟩, Hh, Hb, Hg, Hc, Gg, Gc, Hk, Hs⟩ := P
  rw [en, eb, es] at T0
  have Hs2 : ∀ k, k < ns → _ := fun k hk => Hs k (by omega) (by rw [eS]; exact hk)
  refine v_iload_n (pc := 0) X (hd := dX2_hasHousehold_0) (kk := ?_)
  refine v_iconst (pc := 1) X (v := nI 0) (hd := dX2_hasHousehold_1) (kk := ?_)
  refine v_aload_n (pc := 2) X (hd := dX2_hasHousehold_2) (kk := ?_)
  refine g_X2_21 (pc := 3) X (hd := dX2_hasHousehold_3) (hh := by first | assumption | exact pset_s _ _ _ | exact (pset_n (by omega)).trans (by assumption)) (kk := ?_)
  refine v_iconst (pc := 6) X (v := nI 1) (hd := dX2_hasHousehold_6) (kk := ?_)
  refine v_isub (pc := 7) X (hd := dX2_hasHousehold_7) (kk := ?_)
  refine v_callSNp (pc := 8) X (hd := dX2_hasHousehold_8) (w := wv_X2_61) (hC := c_X6_isWithin l E _ _ _) (hp := by first | assumption | exact trivial) (kk := ?_)
  exact v_endb (pc := 11) X hr hlk (hd := dX2_hasHousehold_11) (hf := by rw [en]; exact bI_iff (within_iff (by omega) x))
set_option maxRecDepth 100000 in
set_option maxHeartbeats 4000000 in
theorem c_X2_hasBank (l : Launch) (E : pE) (a : Nat) (v : Nat → Int32) (x : Int32) (nh nb ns : Nat) : pC l E yX2_hasBank cX2_hasBank 2 (some .boolean) { frames := 1, cells := 0, slots := 0, locals := 22 } 0 0 [.ref a, .int x] (fun h _ => PA a v h ∧ Iv v nh nb ns) (pFp ((bI (gH (v 2) x)))) := by
  refine pC_of (by decide) (by simp [Value.category]) (Nat.le_of_ble_eq_true rfl) ?_
  intro h z hp p__ e__ s__ m__ args__ below__ meth__ c__ X hr hlk hname
  obtain ⟨hP0, I⟩ := hp
  obtain ⟨f1, f2, f3, pi, g, c, P⟩ := hP0
  have hpp : PA a v h ∧ Iv v nh nb ns := ⟨⟨f1, f2, f3, pi, g, c, P⟩, I⟩
  obtain ⟨hn6, hb4, hs12, en, eb, es⟩ := I.1
  have eS : nx (v 3) = ns := by rw [es]; exact nx_nI (by omega)
  have P0 := P
  obtain ⟨T0, T1, T2, T3, ⟨F1, F2, F3, pl, pj⟩, Hh, Hb, Hg, Hc, Gg, Gc, Hk, Hs⟩ := P
  rw [en, eb, es] at T0
  have Hs2 : ∀ k, k < ns → _ := fun k hk => Hs k (by omega) (by rw [eS]; exact hk)
  refine v_iload_n (pc := 0) X (hd := dX2_hasBank_0) (kk := ?_)
  refine v_iconst (pc := 1) X (v := nI 0) (hd := dX2_hasBank_1) (kk := ?_)
  refine v_aload_n (pc := 2) X (hd := dX2_hasBank_2) (kk := ?_)
  refine g_X2_24 (pc := 3) X (hd := dX2_hasBank_3) (hh := by first | assumption | exact pset_s _ _ _ | exact (pset_n (by omega)).trans (by assumption)) (kk := ?_)
  refine v_iconst (pc := 6) X (v := nI 1) (hd := dX2_hasBank_6) (kk := ?_)
  refine v_isub (pc := 7) X (hd := dX2_hasBank_7) (kk := ?_)
  refine v_callSNp (pc := 8) X (hd := dX2_hasBank_8) (w := wv_X2_61) (hC := c_X6_isWithin l E _ _ _) (hp := by first | assumption | exact trivial) (kk := ?_)
  exact v_endb (pc := 11) X hr hlk (hd := dX2_hasBank_11) (hf := by rw [eb]; exact bI_iff (within_iff (by omega) x))
set_option maxRecDepth 100000 in
set_option maxHeartbeats 4000000 in
theorem c_X2_hasStack (l : Launch) (E : pE) (a : Nat) (v : Nat → Int32) (x : Int32) (nh nb ns : Nat) : pC l E yX2_hasStack cX2_hasStack 2 (some .boolean) { frames := 1, cells := 0, slots := 0, locals := 22 } 0 0 [.ref a, .int x] (fun h _ => PA a v h ∧ Iv v nh nb ns) (pFp ((bI (gH (v 3) x)))) := by
  refine pC_of (by decide) (by simp [Value.category]) (Nat.le_of_ble_eq_true rfl) ?_
  intro h z hp p__ e__ s__ m__ args__ below__ meth__ c__ X hr hlk hname
  obtain ⟨hP0, I⟩ := hp
  obtain ⟨f1, f2, f3, pi, g, c, P⟩ := hP0
  have hpp : PA a v h ∧ Iv v nh nb ns := ⟨⟨f1, f2, f3, pi, g, c, P⟩, I⟩
  obtain ⟨hn6, hb4, hs12, en, eb, es⟩ := I.1
  have eS : nx (v 3) = ns := by rw [es]; exact nx_nI (by omega)
  have P0 := P
  obtain ⟨T0, T1, T2, T3, ⟨F1, F2, F3, pl, pj⟩, Hh, Hb, Hg, Hc, Gg, Gc, Hk, Hs⟩ := P
  rw [en, eb, es] at T0
  have Hs2 : ∀ k, k < ns → _ := fun k hk => Hs k (by omega) (by rw [eS]; exact hk)
  refine v_iload_n (pc := 0) X (hd := dX2_hasStack_0) (kk := ?_)
  refine v_iconst (pc := 1) X (v := nI 0) (hd := dX2_hasStack_1) (kk := ?_)
  refine v_aload_n (pc := 2) X (hd := dX2_hasStack_2) (kk := ?_)
  refine g_X2_27 (pc := 3) X (hd := dX2_hasStack_3) (hh := by first | assumption | exact pset_s _ _ _ | exact (pset_n (by omega)).trans (by assumption)) (kk := ?_)
  refine v_iconst (pc := 6) X (v := nI 1) (hd := dX2_hasStack_6) (kk := ?_)
  refine v_isub (pc := 7) X (hd := dX2_hasStack_7) (kk := ?_)
  refine v_callSNp (pc := 8) X (hd := dX2_hasStack_8) (w := wv_X2_61) (hC := c_X6_isWithin l E _ _ _) (hp := by first | assumption | exact trivial) (kk := ?_)
  exact v_endb (pc := 11) X hr hlk (hd := dX2_hasStack_11) (hf := by rw [es]; exact bI_iff (within_iff (by omega) x))
set_option maxRecDepth 100000 in
set_option maxHeartbeats 4000000 in
theorem c_X2_spadesAt (l : Launch) (E : pE) (a : Nat) (v : Nat → Int32) (b : Nat) (nh nb ns : Nat) : pC l E yX2_spadesAt cX2_spadesAt 4 (some .int) { frames := 0, cells := 0, slots := 0, locals := 0 } 0 0 [.ref a, .ref (a + 10 + 3 * b)] (fun h _ => PA a v h ∧ Iv v nh nb ns ∧ b < 4) (pFp ((fSp v b nh))) := by
  refine pC_of (by decide) (by simp [Value.category]) (Nat.le_of_ble_eq_true rfl) ?_
  intro h z hp p__ e__ s__ m__ args__ below__ meth__ c__ X hr hlk hname
  obtain ⟨hP0, I, hE⟩ := hp
  obtain ⟨f1, f2, f3, pi, g, c, P⟩ := hP0
  have hpp : PA a v h ∧ Iv v nh nb ns := ⟨⟨f1, f2, f3, pi, g, c, P⟩, I⟩
  obtain ⟨hn6, hb4, hs12, en, eb, es⟩ := I.1
  have eS : nx (v 3) = ns := by rw [es]; exact nx_nI (by omega)
  have P0 := P
  obtain ⟨T0, T1, T2, T3, ⟨F1, F2, F3, pl, pj⟩, Hh, Hb, Hg, Hc, Gg, Gc, Hk, Hs⟩ := P
  rw [en, eb, es] at T0
  have Hs2 : ∀ k, k < ns → _ := fun k hk => Hs k (by omega) (by rw [eS]; exact hk)
  refine v_iconst (pc := 0) X (v := nI 0) (hd := dX2_spadesAt_0) (kk := ?_)
  refine v_istore_n (pc := 1) X (hd := dX2_spadesAt_1) (kk := ?_)
  refine v_iconst (pc := 2) X (v := nI 0) (hd := dX2_spadesAt_2) (kk := ?_)
  refine v_istore_n (pc := 3) X (hd := dX2_spadesAt_3) (kk := ?_)
  refine v_forp (pc := 4) (M := nh) (Lf := fun i => [some (.ref a), some (.ref (a + 10 + 3 * b)), some (.int (fSp v b i)), some (.int (nI i))]) (hL := by rfl) (step := ?_) (out := ?_)
  · intro i hi kk
    refine v_iload_n (pc := 4) X (hd := dX2_spadesAt_4) (kk := ?_)
    refine v_aload_n (pc := 5) X (hd := dX2_spadesAt_5) (kk := ?_)
    refine g_X2_21 (pc := 6) X (hd := dX2_spadesAt_6) (hh := by first | assumption | exact pset_s _ _ _ | exact (pset_n (by omega)).trans (by assumption)) (kk := ?_)
    refine v_icmpge (pc := 9) X (tgt := 39) (hd := dX2_spadesAt_9) (kt := fun c9 => ?_) (kf := fun c9 => ?_)
    · exact absurd c9 (nI_ge hi (by omega))
    · refine v_aload_n (pc := 12) X (hd := dX2_spadesAt_12) (kk := ?_)
      refine g_X2_81 (pc := 13) X (hd := dX2_spadesAt_13) (hh := Hb b (by omega)) (kk := ?_)
      refine v_iload_n (pc := 16) X (hd := dX2_spadesAt_16) (kk := ?_)
      refine v_zaldN (pc := 17) X (j := i) (hd := dX2_spadesAt_17) (hh := Hg b (by omega)) (hi := by first | rfl | (simp only [pk_mul, nI_add]; done)) (hj := by omega) (kk := ?_)
      rw [Gg b (by omega) i (by omega)]
      refine v_ifeq (pc := 18) X (tgt := 33) (hd := dX2_spadesAt_18) (kt := fun c18 => ?_) (kf := fun c18 => ?_)
      · rw [show fSp v b (i + 1) = fSp v b i from by show fSp v b i + _ = _; rw [if_neg (bt_z c18)]; exact add_n0 _] at kk
        refine v_iincN (pc := 33) X (hd := dX2_spadesAt_33) (kk := ?_)
        refine v_goto (pc := 36) X (tgt := 4) (hd := dX2_spadesAt_36) (kk := ?_)
        exact kk
      · rw [show fSp v b (i + 1) = fSp v b i + v (6 + 3 * i + 0) from by show fSp v b i + _ = _; rw [if_pos (bt_n0 c18)]] at kk
        refine v_iload_n (pc := 21) X (hd := dX2_spadesAt_21) (kk := ?_)
        refine v_aload_n (pc := 22) X (hd := dX2_spadesAt_22) (kk := ?_)
        refine g_X2_32 (pc := 23) X (hd := dX2_spadesAt_23) (hh := by first | assumption | exact pset_s _ _ _ | exact (pset_n (by omega)).trans (by assumption)) (kk := ?_)
        refine v_iload_n (pc := 26) X (hd := dX2_spadesAt_26) (kk := ?_)
        refine v_aaldN (pc := 27) X (j := i) (hd := dX2_spadesAt_27) (hh := by first | assumption | exact pset_s _ _ _ | exact (pset_n (by omega)).trans (by assumption)) (hi := by first | rfl | (simp only [pk_mul, nI_add]; done)) (hj := by omega) (hf := F1 i (by omega)) (kk := ?_)
        refine g_X2_65 (pc := 28) X (hd := dX2_spadesAt_28) (hh := Hh i (by omega)) (kk := ?_)
        refine v_iadd (pc := 31) X (hd := dX2_spadesAt_31) (kk := ?_)
        refine v_istore_n (pc := 32) X (hd := dX2_spadesAt_32) (kk := ?_)
        refine v_iincN (pc := 33) X (hd := dX2_spadesAt_33) (kk := ?_)
        refine v_goto (pc := 36) X (tgt := 4) (hd := dX2_spadesAt_36) (kk := ?_)
        exact kk
  · skip
    refine v_iload_n (pc := 4) X (hd := dX2_spadesAt_4) (kk := ?_)
    refine v_aload_n (pc := 5) X (hd := dX2_spadesAt_5) (kk := ?_)
    refine g_X2_21 (pc := 6) X (hd := dX2_spadesAt_6) (hh := by first | assumption | exact pset_s _ _ _ | exact (pset_n (by omega)).trans (by assumption)) (kk := ?_)
    refine v_icmpge (pc := 9) X (tgt := 39) (hd := dX2_spadesAt_9) (kt := fun c9 => ?_) (kf := fun c9 => ?_)
    · refine v_iload_n (pc := 39) X (hd := dX2_spadesAt_39) (kk := ?_)
      exact v_endp (pc := 40) X hr hlk (hd := dX2_spadesAt_40) (hf := rfl)
    · exact absurd (Int32.le_refl _) c9
set_option maxRecDepth 100000 in
set_option maxHeartbeats 4000000 in
theorem c_X2_shareOf (l : Launch) (E : pE) (a : Nat) (v : Nat → Int32) (hh b : Nat) (nh nb ns : Nat) : pC l E yX2_shareOf cX2_shareOf 7 (some .int) { frames := 1, cells := 0, slots := 0, locals := 23 } 0 0 [.ref a, .int (nI hh), .ref (a + 10 + 3 * b)] (fun h _ => PA a v h ∧ Iv v nh nb ns ∧ hh < nh ∧ b < 4) (pFp ((fShare v nh hh b))) := by
  refine pC_of (by decide) (by simp [Value.category]) (Nat.le_of_ble_eq_true rfl) ?_
  intro h z hp p__ e__ s__ m__ args__ below__ meth__ c__ X hr hlk hname
  obtain ⟨hP0, I, hE⟩ := hp
  obtain ⟨f1, f2, f3, pi, g, c, P⟩ := hP0
  have hpp : PA a v h ∧ Iv v nh nb ns := ⟨⟨f1, f2, f3, pi, g, c, P⟩, I⟩
  obtain ⟨hn6, hb4, hs12, en, eb, es⟩ := I.1
  have eS : nx (v 3) = ns := by rw [es]; exact nx_nI (by omega)
  have P0 := P
  obtain ⟨T0, T1, T2, T3, ⟨F1, F2, F3, pl, pj⟩, Hh, Hb, Hg, Hc, Gg, Gc, Hk, Hs⟩ := P
  rw [en, eb, es] at T0
  have Hs2 : ∀ k, k < ns → _ := fun k hk => Hs k (by omega) (by rw [eS]; exact hk)
  refine v_aload_n (pc := 0) X (hd := dX2_shareOf_0) (kk := ?_)
  refine v_aload_n (pc := 1) X (hd := dX2_shareOf_1) (kk := ?_)
  refine v_callVp (pc := 2) X (hd := dX2_shareOf_2) (w := wv_X2_89) (hC := c_X2_spadesAt l E a v b nh nb ns) (hp := ⟨hpp.1, I, hE.2⟩) (hb := by first | assumption | exact pset_s _ _ _ | exact (pset_n (by omega)).trans (by assumption)) (kk := ?_)
  refine v_istore_n (pc := 5) X (hd := dX2_shareOf_5) (kk := ?_)
  refine v_aload_n (pc := 6) X (hd := dX2_shareOf_6) (kk := ?_)
  refine g_X2_81 (pc := 7) X (hd := dX2_shareOf_7) (hh := Hb b (by omega)) (kk := ?_)
  refine v_iload_n (pc := 10) X (hd := dX2_shareOf_10) (kk := ?_)
  refine v_zaldN (pc := 11) X (j := hh) (hd := dX2_shareOf_11) (hh := Hg b (by omega)) (hi := by first | rfl | (simp only [pk_mul, nI_add]; done)) (hj := by omega) (kk := ?_)
  rw [Gg b (by omega) hh (by omega)]
  refine v_ifeq (pc := 12) X (tgt := 19) (hd := dX2_shareOf_12) (kt := fun c12 => ?_) (kf := fun c12 => ?_)
  · refine v_iconst (pc := 19) X (v := nI 0) (hd := dX2_shareOf_19) (kk := ?_)
    exact v_endp (pc := 20) X hr hlk (hd := dX2_shareOf_20) (hf := (if_neg (bt_z c12)).symm)
  · have r12 : hR v hh b := bt_n0 c12
    refine v_iload_n (pc := 15) X (hd := dX2_shareOf_15) (kk := ?_)
    refine v_ifgt (pc := 16) X (tgt := 21) (hd := dX2_shareOf_16) (kt := fun c16 => ?_) (kf := fun c16 => ?_)
    · refine v_aload_n (pc := 21) X (hd := dX2_shareOf_21) (kk := ?_)
      refine g_X2_72 (pc := 22) X (hd := dX2_shareOf_22) (hh := Hb b (by omega)) (kk := ?_)
      refine v_istore (pc := 25) X (hd := dX2_shareOf_25) (kk := ?_)
      refine v_iconst (pc := 27) X (v := nI 0) (hd := dX2_shareOf_27) (kk := ?_)
      refine v_istore (pc := 28) X (hd := dX2_shareOf_28) (kk := ?_)
      refine v_iconst (pc := 30) X (v := nI 0) (hd := dX2_shareOf_30) (kk := ?_)
      refine v_istore (pc := 31) X (hd := dX2_shareOf_31) (kk := ?_)
      refine v_forp (pc := 33) (M := nh) (Lf := fun i => [some (.ref a), some (.int (nI hh)), some (.ref (a + 10 + 3 * b)), some (.int (fSp v b nh)), some (.int (fLeft v b (fSp v b nh) i)), some (.int (fAhead v b hh i)), some (.int (nI i))]) (hL := by rfl) (step := ?_) (out := ?_)
      · intro i hi kk
        refine v_iload (pc := 33) X (hd := dX2_shareOf_33) (kk := ?_)
        refine v_aload_n (pc := 35) X (hd := dX2_shareOf_35) (kk := ?_)
        refine g_X2_21 (pc := 36) X (hd := dX2_shareOf_36) (hh := by first | assumption | exact pset_s _ _ _ | exact (pset_n (by omega)).trans (by assumption)) (kk := ?_)
        refine v_icmpge (pc := 39) X (tgt := 89) (hd := dX2_shareOf_39) (kt := fun c39 => ?_) (kf := fun c39 => ?_)
        · exact absurd c39 (nI_ge hi (by omega))
        · refine v_aload_n (pc := 42) X (hd := dX2_shareOf_42) (kk := ?_)
          refine g_X2_81 (pc := 43) X (hd := dX2_shareOf_43) (hh := Hb b (by omega)) (kk := ?_)
          refine v_iload (pc := 46) X (hd := dX2_shareOf_46) (kk := ?_)
          refine v_zaldN (pc := 48) X (j := i) (hd := dX2_shareOf_48) (hh := Hg b (by omega)) (hi := by first | rfl | (simp only [pk_mul, nI_add]; done)) (hj := by omega) (kk := ?_)
          rw [Gg b (by omega) i (by omega)]
          refine v_ifeq (pc := 49) X (tgt := 83) (hd := dX2_shareOf_49) (kt := fun c49 => ?_) (kf := fun c49 => ?_)
          · rw [show fLeft v b (fSp v b nh) (i + 1) = fLeft v b (fSp v b nh) i from by show fLeft v b (fSp v b nh) i - _ = _; rw [if_neg (bt_z c49), sub_n0], show fAhead v b hh (i + 1) = fAhead v b hh i from by show fAhead v b hh i + _ = _; rw [if_neg (fun q => bt_z c49 q.2)]; exact add_n0 _] at kk
            refine v_iincN (pc := 83) X (hd := dX2_shareOf_83) (kk := ?_)
            refine v_goto (pc := 86) X (tgt := 33) (hd := dX2_shareOf_86) (kk := ?_)
            exact kk
          · rw [show fLeft v b (fSp v b nh) (i + 1) = fLeft v b (fSp v b nh) i - v (24 + 7 * b + 0) * v (6 + 3 * i + 0) / fSp v b nh from by show fLeft v b (fSp v b nh) i - _ = _; rw [if_pos (bt_n0 c49)]] at kk
            refine v_iload (pc := 52) X (hd := dX2_shareOf_52) (kk := ?_)
            refine v_aload_n (pc := 54) X (hd := dX2_shareOf_54) (kk := ?_)
            refine g_X2_72 (pc := 55) X (hd := dX2_shareOf_55) (hh := Hb b (by omega)) (kk := ?_)
            refine v_aload_n (pc := 58) X (hd := dX2_shareOf_58) (kk := ?_)
            refine g_X2_32 (pc := 59) X (hd := dX2_shareOf_59) (hh := by first | assumption | exact pset_s _ _ _ | exact (pset_n (by omega)).trans (by assumption)) (kk := ?_)
            refine v_iload (pc := 62) X (hd := dX2_shareOf_62) (kk := ?_)
            refine v_aaldN (pc := 64) X (j := i) (hd := dX2_shareOf_64) (hh := by first | assumption | exact pset_s _ _ _ | exact (pset_n (by omega)).trans (by assumption)) (hi := by first | rfl | (simp only [pk_mul, nI_add]; done)) (hj := by omega) (hf := F1 i (by omega)) (kk := ?_)
            refine g_X2_65 (pc := 65) X (hd := dX2_shareOf_65) (hh := Hh i (by omega)) (kk := ?_)
            refine v_imul (pc := 68) X (hd := dX2_shareOf_68) (kk := ?_)
            refine v_iload_n (pc := 69) X (hd := dX2_shareOf_69) (kk := ?_)
            refine v_idiv (pc := 70) X (hd := dX2_shareOf_70) (hne := I.spz hi (bt_n0 c49)) (kk := ?_)
            refine v_isub (pc := 71) X (hd := dX2_shareOf_71) (kk := ?_)
            refine v_istore (pc := 72) X (hd := dX2_shareOf_72) (kk := ?_)
            refine v_iload (pc := 74) X (hd := dX2_shareOf_74) (kk := ?_)
            refine v_iload_n (pc := 76) X (hd := dX2_shareOf_76) (kk := ?_)
            refine v_icmpge (pc := 77) X (tgt := 83) (hd := dX2_shareOf_77) (kt := fun c77 => ?_) (kf := fun c77 => ?_)
            · rw [show fAhead v b hh (i + 1) = fAhead v b hh i from by show fAhead v b hh i + _ = _; rw [if_neg (fun q => by have q1 := q.1; exact absurd c77 (nI_ge q1 (by omega)))]; exact add_n0 _] at kk
              refine v_iincN (pc := 83) X (hd := dX2_shareOf_83) (kk := ?_)
              refine v_goto (pc := 86) X (tgt := 33) (hd := dX2_shareOf_86) (kk := ?_)
              exact kk
            · have c78 : i < hh := (nI_ltI (by omega) (by omega)).mp (n_nle c77)
              rw [show fAhead v b hh (i + 1) = fAhead v b hh i + 1 from by show fAhead v b hh i + _ = _; rw [if_pos ⟨c78, bt_n0 c49⟩]; rfl] at kk
              refine v_iinc1 (pc := 80) X (hd := dX2_shareOf_80) (kk := ?_)
              refine v_iincN (pc := 83) X (hd := dX2_shareOf_83) (kk := ?_)
              refine v_goto (pc := 86) X (tgt := 33) (hd := dX2_shareOf_86) (kk := ?_)
              exact kk
      · skip
        refine v_iload (pc := 33) X (hd := dX2_shareOf_33) (kk := ?_)
        refine v_aload_n (pc := 35) X (hd := dX2_shareOf_35) (kk := ?_)
        refine g_X2_21 (pc := 36) X (hd := dX2_shareOf_36) (hh := by first | assumption | exact pset_s _ _ _ | exact (pset_n (by omega)).trans (by assumption)) (kk := ?_)
        refine v_icmpge (pc := 39) X (tgt := 89) (hd := dX2_shareOf_39) (kt := fun c39 => ?_) (kf := fun c39 => ?_)
        · refine v_aload_n (pc := 89) X (hd := dX2_shareOf_89) (kk := ?_)
          refine g_X2_72 (pc := 90) X (hd := dX2_shareOf_90) (hh := Hb b (by omega)) (kk := ?_)
          refine v_aload_n (pc := 93) X (hd := dX2_shareOf_93) (kk := ?_)
          refine g_X2_32 (pc := 94) X (hd := dX2_shareOf_94) (hh := by first | assumption | exact pset_s _ _ _ | exact (pset_n (by omega)).trans (by assumption)) (kk := ?_)
          refine v_iload_n (pc := 97) X (hd := dX2_shareOf_97) (kk := ?_)
          refine v_aaldN (pc := 98) X (j := hh) (hd := dX2_shareOf_98) (hh := by first | assumption | exact pset_s _ _ _ | exact (pset_n (by omega)).trans (by assumption)) (hi := by first | rfl | (simp only [pk_mul, nI_add]; done)) (hj := by omega) (hf := F1 hh (by omega)) (kk := ?_)
          refine g_X2_65 (pc := 99) X (hd := dX2_shareOf_99) (hh := Hh hh (by omega)) (kk := ?_)
          refine v_imul (pc := 102) X (hd := dX2_shareOf_102) (kk := ?_)
          refine v_iload_n (pc := 103) X (hd := dX2_shareOf_103) (kk := ?_)
          refine v_idiv (pc := 104) X (hd := dX2_shareOf_104) (hne := I.spz hE.1 r12) (kk := ?_)
          refine v_istore (pc := 105) X (hd := dX2_shareOf_105) (kk := ?_)
          refine v_iload (pc := 107) X (hd := dX2_shareOf_107) (kk := ?_)
          refine v_iload (pc := 109) X (hd := dX2_shareOf_109) (kk := ?_)
          refine v_icmpge (pc := 111) X (tgt := 121) (hd := dX2_shareOf_111) (kt := fun c111 => ?_) (kf := fun c111 => ?_)
          · refine v_iload (pc := 121) X (hd := dX2_shareOf_121) (kk := ?_)
            exact v_endp (pc := 123) X hr hlk (hd := dX2_shareOf_123) (hf := by unfold fShare; rw [if_pos r12, if_neg (by rw [n_le] at c111; rw [n_lt]; exact Int.not_lt.mpr c111)]; exact (add_n0 _).symm)
          · refine v_iload (pc := 114) X (hd := dX2_shareOf_114) (kk := ?_)
            refine v_iconst (pc := 116) X (v := nI 1) (hd := dX2_shareOf_116) (kk := ?_)
            refine v_iadd (pc := 117) X (hd := dX2_shareOf_117) (kk := ?_)
            refine v_goto (pc := 118) X (tgt := 123) (hd := dX2_shareOf_118) (kk := ?_)
            exact v_endp (pc := 123) X hr hlk (hd := dX2_shareOf_123) (hf := by unfold fShare; rw [if_pos r12, if_pos (n_nle c111)])
        · exact absurd (Int32.le_refl _) c39
    · exact absurd (I.spp hE.1 r12) c16
set_option maxRecDepth 100000 in
set_option maxHeartbeats 4000000 in
theorem c_X2_stillToCut (l : Launch) (E : pE) (a : Nat) (v : Nat → Int32) (hh b : Nat) (nh nb ns : Nat) : pC l E yX2_stillToCut cX2_stillToCut 3 (some .int) { frames := 2, cells := 0, slots := 0, locals := 49 } 0 0 [.ref a, .int (nI hh), .ref (a + 10 + 3 * b)] (fun h _ => PA a v h ∧ Iv v nh nb ns ∧ hh < nh ∧ b < 4) (pFp ((fMay v nh hh b))) := by
  refine pC_of (by decide) (by simp [Value.category]) (Nat.le_of_ble_eq_true rfl) ?_
  intro h z hp p__ e__ s__ m__ args__ below__ meth__ c__ X hr hlk hname
  obtain ⟨hP0, I, hE⟩ := hp
  obtain ⟨f1, f2, f3, pi, g, c, P⟩ := hP0
  have hpp : PA a v h ∧ Iv v nh nb ns := ⟨⟨f1, f2, f3, pi, g, c, P⟩, I⟩
  obtain ⟨hn6, hb4, hs12, en, eb, es⟩ := I.1
  have eS : nx (v 3) = ns := by rw [es]; exact nx_nI (by omega)
  have P0 := P
  obtain ⟨T0, T1, T2, T3, ⟨F1, F2, F3, pl, pj⟩, Hh, Hb, Hg, Hc, Gg, Gc, Hk, Hs⟩ := P
  rw [en, eb, es] at T0
  have Hs2 : ∀ k, k < ns → _ := fun k hk => Hs k (by omega) (by rw [eS]; exact hk)
  refine v_iconst (pc := 0) X (v := nI 0) (hd := dX2_stillToCut_0) (kk := ?_)
  refine v_aload_n (pc := 1) X (hd := dX2_stillToCut_1) (kk := ?_)
  refine v_iload_n (pc := 2) X (hd := dX2_stillToCut_2) (kk := ?_)
  refine v_aload_n (pc := 3) X (hd := dX2_stillToCut_3) (kk := ?_)
  refine v_callVp (pc := 4) X (hd := dX2_stillToCut_4) (w := wv_X2_93) (hC := c_X2_shareOf l E a v hh b nh nb ns) (hp := ⟨hpp.1, I, hE⟩) (hb := by first | assumption | exact pset_s _ _ _ | exact (pset_n (by omega)).trans (by assumption)) (kk := ?_)
  refine v_aload_n (pc := 7) X (hd := dX2_stillToCut_7) (kk := ?_)
  refine g_X2_97 (pc := 8) X (hd := dX2_stillToCut_8) (hh := Hb b hE.2) (kk := ?_)
  refine v_iload_n (pc := 11) X (hd := dX2_stillToCut_11) (kk := ?_)
  refine v_ialdN (pc := 12) X (j := hh) (hd := dX2_stillToCut_12) (hh := Hc b hE.2) (hi := by first | rfl | (simp only [pk_mul, nI_add]; done)) (hj := by have := hE.1; omega) (kk := ?_)
  rw [Gc b hE.2 hh (by have := hE.1; omega)]
  refine v_isub (pc := 13) X (hd := dX2_stillToCut_13) (kk := ?_)
  refine v_max (pc := 14) X (hd := dX2_stillToCut_14) (hw1 := wm_X2_101) (hw2 := wt_max) (hw3 := wi_Math) (hw4 := wc_max) (kk := ?_)
  exact v_endp (pc := 17) X hr hlk (hd := dX2_stillToCut_17) (hf := n_max0 _)
set_option maxRecDepth 100000 in
set_option maxHeartbeats 4000000 in
theorem c_X2_rightPart (l : Launch) (E : pE) (a : Nat) (v : Nat → Int32) (x y t : Int32) (nh nb ns : Nat) : pC l E yX2_rightPart cX2_rightPart 4 (some .int) { frames := 3, cells := 0, slots := 0, locals := 71 } 0 0 [.ref a, .int x, .int y, .int t] (fun h _ => PA a v h ∧ Iv v nh nb ns) (pFp ((qRight v nh x y t))) := by
  refine pC_of (by decide) (by simp [Value.category]) (Nat.le_of_ble_eq_true rfl) ?_
  intro h z hp p__ e__ s__ m__ args__ below__ meth__ c__ X hr hlk hname
  obtain ⟨hP0, I⟩ := hp
  obtain ⟨f1, f2, f3, pi, g, c, P⟩ := hP0
  have hpp : PA a v h ∧ Iv v nh nb ns := ⟨⟨f1, f2, f3, pi, g, c, P⟩, I⟩
  obtain ⟨hn6, hb4, hs12, en, eb, es⟩ := I.1
  have eS : nx (v 3) = ns := by rw [es]; exact nx_nI (by omega)
  have P0 := P
  obtain ⟨T0, T1, T2, T3, ⟨F1, F2, F3, pl, pj⟩, Hh, Hb, Hg, Hc, Gg, Gc, Hk, Hs⟩ := P
  rw [en, eb, es] at T0
  have Hs2 : ∀ k, k < ns → _ := fun k hk => Hs k (by omega) (by rw [eS]; exact hk)
  refine v_aload_n (pc := 0) X (hd := dX2_rightPart_0) (kk := ?_)
  refine v_iload_n (pc := 1) X (hd := dX2_rightPart_1) (kk := ?_)
  refine v_callVp (pc := 2) X (hd := dX2_rightPart_2) (w := wv_X2_68) (hC := c_X2_hasHousehold l E a v x nh nb ns) (hp := hpp) (hb := by first | assumption | exact pset_s _ _ _ | exact (pset_n (by omega)).trans (by assumption)) (kk := ?_)
  refine v_ifeqB (pc := 5) X (tgt := 16) (hd := dX2_rightPart_5) (kt := fun c5 => ?_) (kf := fun c5 => ?_)
  · refine v_iconst (pc := 16) X (v := (-1)) (hd := dX2_rightPart_16) (kk := ?_)
    exact v_endp (pc := 17) X hr hlk (hd := dX2_rightPart_17) (hf := by unfold qRight; rw [if_neg (fun q => c5 q.1)])
  · refine v_aload_n (pc := 8) X (hd := dX2_rightPart_8) (kk := ?_)
    refine v_iload_n (pc := 9) X (hd := dX2_rightPart_9) (kk := ?_)
    refine v_callVp (pc := 10) X (hd := dX2_rightPart_10) (w := wv_X2_78) (hC := c_X2_hasBank l E a v y nh nb ns) (hp := hpp) (hb := by first | assumption | exact pset_s _ _ _ | exact (pset_n (by omega)).trans (by assumption)) (kk := ?_)
    refine v_ifneB (pc := 13) X (tgt := 18) (hd := dX2_rightPart_13) (kt := fun c13 => ?_) (kf := fun c13 => ?_)
    · obtain ⟨j, hj, rfl, ej⟩ := gH_j en (by omega) c5
      obtain ⟨b, hb, rfl, eb_⟩ := gH_j eb (by omega) c13
      refine v_iload_n (pc := 18) X (hd := dX2_rightPart_18) (kk := ?_)
      by_cases hw : gI t (nI 0) (nI 2)
      · obtain ⟨q, -, hq, rfl, eq⟩ := gI_j (by omega) (by omega) hw
        have hq2 : q = 0 ∨ q = 1 ∨ q = 2 := by omega
        rcases hq2 with rfl | rfl | rfl
        · refine v_tabIn (pc := 19) (tgt := 44) X (hd := dX2_rightPart_19) 0 (by decide +kernel) (kk := ?_)
          refine v_aload_n (pc := 44) X (hd := dX2_rightPart_44) (kk := ?_)
          refine v_iload_n (pc := 45) X (hd := dX2_rightPart_45) (kk := ?_)
          refine v_aload_n (pc := 46) X (hd := dX2_rightPart_46) (kk := ?_)
          refine g_X2_38 (pc := 47) X (hd := dX2_rightPart_47) (hh := by first | assumption | exact pset_s _ _ _ | exact (pset_n (by omega)).trans (by assumption)) (kk := ?_)
          refine v_iload_n (pc := 50) X (hd := dX2_rightPart_50) (kk := ?_)
          refine v_aaldN (pc := 51) X (j := b) (hd := dX2_rightPart_51) (hh := by first | assumption | exact pset_s _ _ _ | exact (pset_n (by omega)).trans (by assumption)) (hi := by first | rfl | (simp only [pk_mul, nI_add]; done)) (hj := by omega) (hf := F2 b (by omega)) (kk := ?_)
          refine v_callVp (pc := 52) X (hd := dX2_rightPart_52) (w := wv_X2_93) (hC := c_X2_shareOf l E a v j b nh nb ns) (hp := ⟨hpp.1, I, hj, by omega⟩) (hb := by first | assumption | exact pset_s _ _ _ | exact (pset_n (by omega)).trans (by assumption)) (kk := ?_)
          exact v_endp (pc := 55) X hr hlk (hd := dX2_rightPart_55) (hf := by unfold qRight; rw [if_pos ⟨c5, c13, hw⟩, ej, eb_]; exact (if_pos nI_z).symm)
        · refine v_tabIn (pc := 19) (tgt := 56) X (hd := dX2_rightPart_19) 1 (by decide +kernel) (kk := ?_)
          refine v_aload_n (pc := 56) X (hd := dX2_rightPart_56) (kk := ?_)
          refine g_X2_38 (pc := 57) X (hd := dX2_rightPart_57) (hh := by first | assumption | exact pset_s _ _ _ | exact (pset_n (by omega)).trans (by assumption)) (kk := ?_)
          refine v_iload_n (pc := 60) X (hd := dX2_rightPart_60) (kk := ?_)
          refine v_aaldN (pc := 61) X (j := b) (hd := dX2_rightPart_61) (hh := by first | assumption | exact pset_s _ _ _ | exact (pset_n (by omega)).trans (by assumption)) (hi := by first | rfl | (simp only [pk_mul, nI_add]; done)) (hj := by omega) (hf := F2 b (by omega)) (kk := ?_)
          refine g_X2_97 (pc := 62) X (hd := dX2_rightPart_62) (hh := Hb b (by omega)) (kk := ?_)
          refine v_iload_n (pc := 65) X (hd := dX2_rightPart_65) (kk := ?_)
          refine v_ialdN (pc := 66) X (j := j) (hd := dX2_rightPart_66) (hh := Hc b (by omega)) (hi := by first | rfl | (simp only [pk_mul, nI_add]; done)) (hj := by omega) (kk := ?_)
          rw [Gc b (by omega) j (by omega)]
          exact v_endp (pc := 67) X hr hlk (hd := dX2_rightPart_67) (hf := by unfold qRight; rw [if_pos ⟨c5, c13, hw⟩, ej, eb_]; exact ((if_neg (by decide +kernel)).trans (if_pos rfl)).symm)
        · refine v_tabIn (pc := 19) (tgt := 68) X (hd := dX2_rightPart_19) 2 (by decide +kernel) (kk := ?_)
          refine v_aload_n (pc := 68) X (hd := dX2_rightPart_68) (kk := ?_)
          refine v_iload_n (pc := 69) X (hd := dX2_rightPart_69) (kk := ?_)
          refine v_aload_n (pc := 70) X (hd := dX2_rightPart_70) (kk := ?_)
          refine g_X2_38 (pc := 71) X (hd := dX2_rightPart_71) (hh := by first | assumption | exact pset_s _ _ _ | exact (pset_n (by omega)).trans (by assumption)) (kk := ?_)
          refine v_iload_n (pc := 74) X (hd := dX2_rightPart_74) (kk := ?_)
          refine v_aaldN (pc := 75) X (j := b) (hd := dX2_rightPart_75) (hh := by first | assumption | exact pset_s _ _ _ | exact (pset_n (by omega)).trans (by assumption)) (hi := by first | rfl | (simp only [pk_mul, nI_add]; done)) (hj := by omega) (hf := F2 b (by omega)) (kk := ?_)
          refine v_callVp (pc := 76) X (hd := dX2_rightPart_76) (w := wv_X2_107) (hC := c_X2_stillToCut l E a v j b nh nb ns) (hp := ⟨hpp.1, I, hj, by omega⟩) (hb := by first | assumption | exact pset_s _ _ _ | exact (pset_n (by omega)).trans (by assumption)) (kk := ?_)
          exact v_endp (pc := 79) X hr hlk (hd := dX2_rightPart_79) (hf := by unfold qRight; rw [if_pos ⟨c5, c13, hw⟩, ej, eb_]; exact ((if_neg (by decide +kernel)).trans (if_neg (by decide +kernel))).symm)
      · refine v_tabOut (pc := 19) (tgt := 80) X (hd := dX2_rightPart_19) (by rcases Int.lt_or_le t.toInt 0 with q | q; exact Or.inl q; exact Or.inr (by rcases Int.lt_or_le 2 t.toInt with q2 | q2; exact q2; exact absurd ⟨by rw [n_le]; exact q, by rw [n_le]; exact q2⟩ hw)) (kk := ?_)
        refine v_iconst (pc := 80) X (v := (-1)) (hd := dX2_rightPart_80) (kk := ?_)
        exact v_endp (pc := 81) X hr hlk (hd := dX2_rightPart_81) (hf := by unfold qRight; rw [if_neg (fun q => hw q.2.2)])
    · refine v_iconst (pc := 16) X (v := (-1)) (hd := dX2_rightPart_16) (kk := ?_)
      exact v_endp (pc := 17) X hr hlk (hd := dX2_rightPart_17) (hf := by unfold qRight; rw [if_neg (fun q => c13 q.2.1)])
set_option maxRecDepth 100000 in
set_option maxHeartbeats 4000000 in
theorem c_X2_dryStacks (l : Launch) (E : pE) (a : Nat) (v : Nat → Int32) (nh nb ns : Nat) : pC l E yX2_dryStacks cX2_dryStacks 3 (some .int) { frames := 1, cells := 0, slots := 0, locals := 20 } 0 0 [.ref a] (fun h _ => PA a v h ∧ Iv v nh nb ns) (pFp ((fDryN v ns))) := by
  refine pC_of (by decide) (by simp [Value.category]) (Nat.le_of_ble_eq_true rfl) ?_
  intro h z hp p__ e__ s__ m__ args__ below__ meth__ c__ X hr hlk hname
  obtain ⟨hP0, I⟩ := hp
  obtain ⟨f1, f2, f3, pi, g, c, P⟩ := hP0
  have hpp : PA a v h ∧ Iv v nh nb ns := ⟨⟨f1, f2, f3, pi, g, c, P⟩, I⟩
  obtain ⟨hn6, hb4, hs12, en, eb, es⟩ := I.1
  have eS : nx (v 3) = ns := by rw [es]; exact nx_nI (by omega)
  have P0 := P
  obtain ⟨T0, T1, T2, T3, ⟨F1, F2, F3, pl, pj⟩, Hh, Hb, Hg, Hc, Gg, Gc, Hk, Hs⟩ := P
  rw [en, eb, es] at T0
  have Hs2 : ∀ k, k < ns → _ := fun k hk => Hs k (by omega) (by rw [eS]; exact hk)
  refine v_iconst (pc := 0) X (v := nI 0) (hd := dX2_dryStacks_0) (kk := ?_)
  refine v_istore_n (pc := 1) X (hd := dX2_dryStacks_1) (kk := ?_)
  refine v_iconst (pc := 2) X (v := nI 0) (hd := dX2_dryStacks_2) (kk := ?_)
  refine v_istore_n (pc := 3) X (hd := dX2_dryStacks_3) (kk := ?_)
  refine v_forp (pc := 4) (M := ns) (Lf := fun i => [some (.ref a), some (.int (fDryN v i)), some (.int (nI i))]) (hL := by rfl) (step := ?_) (out := ?_)
  · intro i hi kk
    refine v_iload_n (pc := 4) X (hd := dX2_dryStacks_4) (kk := ?_)
    refine v_aload_n (pc := 5) X (hd := dX2_dryStacks_5) (kk := ?_)
    refine g_X2_27 (pc := 6) X (hd := dX2_dryStacks_6) (hh := by first | assumption | exact pset_s _ _ _ | exact (pset_n (by omega)).trans (by assumption)) (kk := ?_)
    refine v_icmpge (pc := 9) X (tgt := 33) (hd := dX2_dryStacks_9) (kt := fun c9 => ?_) (kf := fun c9 => ?_)
    · exact absurd c9 (nI_ge hi (by omega))
    · refine v_aload_n (pc := 12) X (hd := dX2_dryStacks_12) (kk := ?_)
      refine g_X2_44 (pc := 13) X (hd := dX2_dryStacks_13) (hh := by first | assumption | exact pset_s _ _ _ | exact (pset_n (by omega)).trans (by assumption)) (kk := ?_)
      refine v_iload_n (pc := 16) X (hd := dX2_dryStacks_16) (kk := ?_)
      refine v_aaldN (pc := 17) X (j := i) (hd := dX2_dryStacks_17) (hh := by first | assumption | exact pset_s _ _ _ | exact (pset_n (by omega)).trans (by assumption)) (hi := by first | rfl | (simp only [pk_mul, nI_add]; done)) (hj := by omega) (hf := F3 i (by omega)) (kk := ?_)
      refine v_callVp (pc := 18) X (hd := dX2_dryStacks_18) (w := wv_X2_139) (hC := c_X5_isDry l E _ _ _ _ _ _) (hp := Hs2 i hi) (hb := Hs2 i hi) (kk := ?_)
      refine v_ifeqB (pc := 21) X (tgt := 27) (hd := dX2_dryStacks_21) (kt := fun c21 => ?_) (kf := fun c21 => ?_)
      · rw [show fDryN v (i + 1) = fDryN v i from by show fDryN v i + _ = _; rw [if_neg c21]; exact add_n0 _] at kk
        refine v_iincN (pc := 27) X (hd := dX2_dryStacks_27) (kk := ?_)
        refine v_goto (pc := 30) X (tgt := 4) (hd := dX2_dryStacks_30) (kk := ?_)
        exact kk
      · rw [show fDryN v (i + 1) = fDryN v i + 1 from by show fDryN v i + _ = _; rw [if_pos c21]; rfl] at kk
        refine v_iinc1 (pc := 24) X (hd := dX2_dryStacks_24) (kk := ?_)
        refine v_iincN (pc := 27) X (hd := dX2_dryStacks_27) (kk := ?_)
        refine v_goto (pc := 30) X (tgt := 4) (hd := dX2_dryStacks_30) (kk := ?_)
        exact kk
  · skip
    refine v_iload_n (pc := 4) X (hd := dX2_dryStacks_4) (kk := ?_)
    refine v_aload_n (pc := 5) X (hd := dX2_dryStacks_5) (kk := ?_)
    refine g_X2_27 (pc := 6) X (hd := dX2_dryStacks_6) (hh := by first | assumption | exact pset_s _ _ _ | exact (pset_n (by omega)).trans (by assumption)) (kk := ?_)
    refine v_icmpge (pc := 9) X (tgt := 33) (hd := dX2_dryStacks_9) (kt := fun c9 => ?_) (kf := fun c9 => ?_)
    · refine v_iload_n (pc := 33) X (hd := dX2_dryStacks_33) (kk := ?_)
      exact v_endp (pc := 34) X hr hlk (hd := dX2_dryStacks_34) (hf := rfl)
    · exact absurd (Int32.le_refl _) c9
set_option maxRecDepth 100000 in
set_option maxHeartbeats 4000000 in
theorem c_X2_rightsOf (l : Launch) (E : pE) (a : Nat) (v : Nat → Int32) (hh : Nat) (nh nb ns : Nat) : pC l E yX2_rightsOf cX2_rightsOf 4 (some .int) { frames := 0, cells := 0, slots := 0, locals := 0 } 0 0 [.ref a, .int (nI hh)] (fun h _ => PA a v h ∧ Iv v nh nb ns ∧ hh < 6) (pFp ((fBanksOf v hh nb))) := by
  refine pC_of (by decide) (by simp [Value.category]) (Nat.le_of_ble_eq_true rfl) ?_
  intro h z hp p__ e__ s__ m__ args__ below__ meth__ c__ X hr hlk hname
  obtain ⟨hP0, I, hE⟩ := hp
  obtain ⟨f1, f2, f3, pi, g, c, P⟩ := hP0
  have hpp : PA a v h ∧ Iv v nh nb ns := ⟨⟨f1, f2, f3, pi, g, c, P⟩, I⟩
  obtain ⟨hn6, hb4, hs12, en, eb, es⟩ := I.1
  have eS : nx (v 3) = ns := by rw [es]; exact nx_nI (by omega)
  have P0 := P
  obtain ⟨T0, T1, T2, T3, ⟨F1, F2, F3, pl, pj⟩, Hh, Hb, Hg, Hc, Gg, Gc, Hk, Hs⟩ := P
  rw [en, eb, es] at T0
  have Hs2 : ∀ k, k < ns → _ := fun k hk => Hs k (by omega) (by rw [eS]; exact hk)
  refine v_iconst (pc := 0) X (v := nI 0) (hd := dX2_rightsOf_0) (kk := ?_)
  refine v_istore_n (pc := 1) X (hd := dX2_rightsOf_1) (kk := ?_)
  refine v_iconst (pc := 2) X (v := nI 0) (hd := dX2_rightsOf_2) (kk := ?_)
  refine v_istore_n (pc := 3) X (hd := dX2_rightsOf_3) (kk := ?_)
  refine v_forp (pc := 4) (M := nb) (Lf := fun i => [some (.ref a), some (.int (nI hh)), some (.int (fBanksOf v hh i)), some (.int (nI i))]) (hL := by rfl) (step := ?_) (out := ?_)
  · intro i hi kk
    refine v_iload_n (pc := 4) X (hd := dX2_rightsOf_4) (kk := ?_)
    refine v_aload_n (pc := 5) X (hd := dX2_rightsOf_5) (kk := ?_)
    refine g_X2_24 (pc := 6) X (hd := dX2_rightsOf_6) (hh := by first | assumption | exact pset_s _ _ _ | exact (pset_n (by omega)).trans (by assumption)) (kk := ?_)
    refine v_icmpge (pc := 9) X (tgt := 35) (hd := dX2_rightsOf_9) (kt := fun c9 => ?_) (kf := fun c9 => ?_)
    · exact absurd c9 (nI_ge hi (by omega))
    · refine v_aload_n (pc := 12) X (hd := dX2_rightsOf_12) (kk := ?_)
      refine g_X2_38 (pc := 13) X (hd := dX2_rightsOf_13) (hh := by first | assumption | exact pset_s _ _ _ | exact (pset_n (by omega)).trans (by assumption)) (kk := ?_)
      refine v_iload_n (pc := 16) X (hd := dX2_rightsOf_16) (kk := ?_)
      refine v_aaldN (pc := 17) X (j := i) (hd := dX2_rightsOf_17) (hh := by first | assumption | exact pset_s _ _ _ | exact (pset_n (by omega)).trans (by assumption)) (hi := by first | rfl | (simp only [pk_mul, nI_add]; done)) (hj := by omega) (hf := F2 i (by omega)) (kk := ?_)
      refine g_X2_81 (pc := 18) X (hd := dX2_rightsOf_18) (hh := Hb i (by omega)) (kk := ?_)
      refine v_iload_n (pc := 21) X (hd := dX2_rightsOf_21) (kk := ?_)
      refine v_zaldN (pc := 22) X (j := hh) (hd := dX2_rightsOf_22) (hh := Hg i (by omega)) (hi := by first | rfl | (simp only [pk_mul, nI_add]; done)) (hj := by omega) (kk := ?_)
      rw [Gg i (by omega) hh (by omega)]
      refine v_ifeq (pc := 23) X (tgt := 29) (hd := dX2_rightsOf_23) (kt := fun c23 => ?_) (kf := fun c23 => ?_)
      · rw [show fBanksOf v hh (i + 1) = fBanksOf v hh i from by show fBanksOf v hh i + _ = _; rw [if_neg (bt_z c23)]; exact add_n0 _] at kk
        refine v_iincN (pc := 29) X (hd := dX2_rightsOf_29) (kk := ?_)
        refine v_goto (pc := 32) X (tgt := 4) (hd := dX2_rightsOf_32) (kk := ?_)
        exact kk
      · rw [show fBanksOf v hh (i + 1) = fBanksOf v hh i + 1 from by show fBanksOf v hh i + _ = _; rw [if_pos (bt_n0 c23)]; rfl] at kk
        refine v_iinc1 (pc := 26) X (hd := dX2_rightsOf_26) (kk := ?_)
        refine v_iincN (pc := 29) X (hd := dX2_rightsOf_29) (kk := ?_)
        refine v_goto (pc := 32) X (tgt := 4) (hd := dX2_rightsOf_32) (kk := ?_)
        exact kk
  · skip
    refine v_iload_n (pc := 4) X (hd := dX2_rightsOf_4) (kk := ?_)
    refine v_aload_n (pc := 5) X (hd := dX2_rightsOf_5) (kk := ?_)
    refine g_X2_24 (pc := 6) X (hd := dX2_rightsOf_6) (hh := by first | assumption | exact pset_s _ _ _ | exact (pset_n (by omega)).trans (by assumption)) (kk := ?_)
    refine v_icmpge (pc := 9) X (tgt := 35) (hd := dX2_rightsOf_9) (kt := fun c9 => ?_) (kf := fun c9 => ?_)
    · refine v_iload_n (pc := 35) X (hd := dX2_rightsOf_35) (kk := ?_)
      exact v_endp (pc := 36) X hr hlk (hd := dX2_rightsOf_36) (hf := rfl)
    · exact absurd (Int32.le_refl _) c9
set_option maxRecDepth 100000 in
set_option maxHeartbeats 4000000 in
theorem c_X2_stacksOf (l : Launch) (E : pE) (a : Nat) (v : Nat → Int32) (hh : Int32) (nh nb ns : Nat) : pC l E yX2_stacksOf cX2_stacksOf 4 (some .int) { frames := 0, cells := 0, slots := 0, locals := 0 } 0 0 [.ref a, .int hh] (fun h _ => PA a v h ∧ Iv v nh nb ns) (pFp ((fStacksOf v hh false ns))) := by
  refine pC_of (by decide) (by simp [Value.category]) (Nat.le_of_ble_eq_true rfl) ?_
  intro h z hp p__ e__ s__ m__ args__ below__ meth__ c__ X hr hlk hname
  obtain ⟨hP0, I⟩ := hp
  obtain ⟨f1, f2, f3, pi, g, c, P⟩ := hP0
  have hpp : PA a v h ∧ Iv v nh nb ns := ⟨⟨f1, f2, f3, pi, g, c, P⟩, I⟩
  obtain ⟨hn6, hb4, hs12, en, eb, es⟩ := I.1
  have eS : nx (v 3) = ns := by rw [es]; exact nx_nI (by omega)
  have P0 := P
  obtain ⟨T0, T1, T2, T3, ⟨F1, F2, F3, pl, pj⟩, Hh, Hb, Hg, Hc, Gg, Gc, Hk, Hs⟩ := P
  rw [en, eb, es] at T0
  have Hs2 : ∀ k, k < ns → _ := fun k hk => Hs k (by omega) (by rw [eS]; exact hk)
  refine v_iconst (pc := 0) X (v := nI 0) (hd := dX2_stacksOf_0) (kk := ?_)
  refine v_istore_n (pc := 1) X (hd := dX2_stacksOf_1) (kk := ?_)
  refine v_iconst (pc := 2) X (v := nI 0) (hd := dX2_stacksOf_2) (kk := ?_)
  refine v_istore_n (pc := 3) X (hd := dX2_stacksOf_3) (kk := ?_)
  refine v_forp (pc := 4) (M := ns) (Lf := fun i => [some (.ref a), some (.int hh), some (.int (fStacksOf v hh false i)), some (.int (nI i))]) (hL := by rfl) (step := ?_) (out := ?_)
  · intro i hi kk
    refine v_iload_n (pc := 4) X (hd := dX2_stacksOf_4) (kk := ?_)
    refine v_aload_n (pc := 5) X (hd := dX2_stacksOf_5) (kk := ?_)
    refine g_X2_27 (pc := 6) X (hd := dX2_stacksOf_6) (hh := by first | assumption | exact pset_s _ _ _ | exact (pset_n (by omega)).trans (by assumption)) (kk := ?_)
    refine v_icmpge (pc := 9) X (tgt := 34) (hd := dX2_stacksOf_9) (kt := fun c9 => ?_) (kf := fun c9 => ?_)
    · exact absurd c9 (nI_ge hi (by omega))
    · refine v_aload_n (pc := 12) X (hd := dX2_stacksOf_12) (kk := ?_)
      refine g_X2_44 (pc := 13) X (hd := dX2_stacksOf_13) (hh := by first | assumption | exact pset_s _ _ _ | exact (pset_n (by omega)).trans (by assumption)) (kk := ?_)
      refine v_iload_n (pc := 16) X (hd := dX2_stacksOf_16) (kk := ?_)
      refine v_aaldN (pc := 17) X (j := i) (hd := dX2_stacksOf_17) (hh := by first | assumption | exact pset_s _ _ _ | exact (pset_n (by omega)).trans (by assumption)) (hi := by first | rfl | (simp only [pk_mul, nI_add]; done)) (hj := by omega) (hf := F3 i (by omega)) (kk := ?_)
      refine g_X2_113 (pc := 18) X (hd := dX2_stacksOf_18) (hh := Hs2 i (by omega)) (kk := ?_)
      refine v_iload_n (pc := 21) X (hd := dX2_stacksOf_21) (kk := ?_)
      refine v_icmpne (pc := 22) X (tgt := 28) (hd := dX2_stacksOf_22) (kt := fun c22 => ?_) (kf := fun c22 => ?_)
      · rw [show fStacksOf v hh false (i + 1) = fStacksOf v hh false i from by show fStacksOf v hh false i + _ = _; rw [if_neg c22]; exact add_n0 _] at kk
        refine v_iincN (pc := 28) X (hd := dX2_stacksOf_28) (kk := ?_)
        refine v_goto (pc := 31) X (tgt := 4) (hd := dX2_stacksOf_31) (kk := ?_)
        exact kk
      · rw [show fStacksOf v hh false (i + 1) = fStacksOf v hh false i + 1 from by show fStacksOf v hh false i + _ = _; rw [if_pos (Classical.not_not.mp c22), if_neg (by decide)]; rfl] at kk
        refine v_iinc1 (pc := 25) X (hd := dX2_stacksOf_25) (kk := ?_)
        refine v_iincN (pc := 28) X (hd := dX2_stacksOf_28) (kk := ?_)
        refine v_goto (pc := 31) X (tgt := 4) (hd := dX2_stacksOf_31) (kk := ?_)
        exact kk
  · skip
    refine v_iload_n (pc := 4) X (hd := dX2_stacksOf_4) (kk := ?_)
    refine v_aload_n (pc := 5) X (hd := dX2_stacksOf_5) (kk := ?_)
    refine g_X2_27 (pc := 6) X (hd := dX2_stacksOf_6) (hh := by first | assumption | exact pset_s _ _ _ | exact (pset_n (by omega)).trans (by assumption)) (kk := ?_)
    refine v_icmpge (pc := 9) X (tgt := 34) (hd := dX2_stacksOf_9) (kt := fun c9 => ?_) (kf := fun c9 => ?_)
    · refine v_iload_n (pc := 34) X (hd := dX2_stacksOf_34) (kk := ?_)
      exact v_endp (pc := 35) X hr hlk (hd := dX2_stacksOf_35) (hf := rfl)
    · exact absurd (Int32.le_refl _) c9
set_option maxRecDepth 100000 in
set_option maxHeartbeats 4000000 in
theorem c_X2_turfsInStacksOf (l : Launch) (E : pE) (a : Nat) (v : Nat → Int32) (hh : Int32) (nh nb ns : Nat) : pC l E yX2_turfsInStacksOf cX2_turfsInStacksOf 4 (some .int) { frames := 0, cells := 0, slots := 0, locals := 0 } 0 0 [.ref a, .int hh] (fun h _ => PA a v h ∧ Iv v nh nb ns) (pFp ((fStacksOf v hh true ns))) := by
  refine pC_of (by decide) (by simp [Value.category]) (Nat.le_of_ble_eq_true rfl) ?_
  intro h z hp p__ e__ s__ m__ args__ below__ meth__ c__ X hr hlk hname
  obtain ⟨hP0, I⟩ := hp
  obtain ⟨f1, f2, f3, pi, g, c, P⟩ := hP0
  have hpp : PA a v h ∧ Iv v nh nb ns := ⟨⟨f1, f2, f3, pi, g, c, P⟩, I⟩
  obtain ⟨hn6, hb4, hs12, en, eb, es⟩ := I.1
  have eS : nx (v 3) = ns := by rw [es]; exact nx_nI (by omega)
  have P0 := P
  obtain ⟨T0, T1, T2, T3, ⟨F1, F2, F3, pl, pj⟩, Hh, Hb, Hg, Hc, Gg, Gc, Hk, Hs⟩ := P
  rw [en, eb, es] at T0
  have Hs2 : ∀ k, k < ns → _ := fun k hk => Hs k (by omega) (by rw [eS]; exact hk)
  refine v_iconst (pc := 0) X (v := nI 0) (hd := dX2_turfsInStacksOf_0) (kk := ?_)
  refine v_istore_n (pc := 1) X (hd := dX2_turfsInStacksOf_1) (kk := ?_)
  refine v_iconst (pc := 2) X (v := nI 0) (hd := dX2_turfsInStacksOf_2) (kk := ?_)
  refine v_istore_n (pc := 3) X (hd := dX2_turfsInStacksOf_3) (kk := ?_)
  refine v_forp (pc := 4) (M := ns) (Lf := fun i => [some (.ref a), some (.int hh), some (.int (fStacksOf v hh true i)), some (.int (nI i))]) (hL := by rfl) (step := ?_) (out := ?_)
  · intro i hi kk
    refine v_iload_n (pc := 4) X (hd := dX2_turfsInStacksOf_4) (kk := ?_)
    refine v_aload_n (pc := 5) X (hd := dX2_turfsInStacksOf_5) (kk := ?_)
    refine g_X2_27 (pc := 6) X (hd := dX2_turfsInStacksOf_6) (hh := by first | assumption | exact pset_s _ _ _ | exact (pset_n (by omega)).trans (by assumption)) (kk := ?_)
    refine v_icmpge (pc := 9) X (tgt := 43) (hd := dX2_turfsInStacksOf_9) (kt := fun c9 => ?_) (kf := fun c9 => ?_)
    · exact absurd c9 (nI_ge hi (by omega))
    · refine v_aload_n (pc := 12) X (hd := dX2_turfsInStacksOf_12) (kk := ?_)
      refine g_X2_44 (pc := 13) X (hd := dX2_turfsInStacksOf_13) (hh := by first | assumption | exact pset_s _ _ _ | exact (pset_n (by omega)).trans (by assumption)) (kk := ?_)
      refine v_iload_n (pc := 16) X (hd := dX2_turfsInStacksOf_16) (kk := ?_)
      refine v_aaldN (pc := 17) X (j := i) (hd := dX2_turfsInStacksOf_17) (hh := by first | assumption | exact pset_s _ _ _ | exact (pset_n (by omega)).trans (by assumption)) (hi := by first | rfl | (simp only [pk_mul, nI_add]; done)) (hj := by omega) (hf := F3 i (by omega)) (kk := ?_)
      refine g_X2_113 (pc := 18) X (hd := dX2_turfsInStacksOf_18) (hh := Hs2 i (by omega)) (kk := ?_)
      refine v_iload_n (pc := 21) X (hd := dX2_turfsInStacksOf_21) (kk := ?_)
      refine v_icmpne (pc := 22) X (tgt := 37) (hd := dX2_turfsInStacksOf_22) (kt := fun c22 => ?_) (kf := fun c22 => ?_)
      · rw [show fStacksOf v hh true (i + 1) = fStacksOf v hh true i from by show fStacksOf v hh true i + _ = _; rw [if_neg c22]; exact add_n0 _] at kk
        refine v_iincN (pc := 37) X (hd := dX2_turfsInStacksOf_37) (kk := ?_)
        refine v_goto (pc := 40) X (tgt := 4) (hd := dX2_turfsInStacksOf_40) (kk := ?_)
        exact kk
      · rw [show fStacksOf v hh true (i + 1) = fStacksOf v hh true i + v (76 + 5 * i + 2) from by show fStacksOf v hh true i + _ = _; rw [if_pos (Classical.not_not.mp c22), if_pos rfl]] at kk
        refine v_iload_n (pc := 25) X (hd := dX2_turfsInStacksOf_25) (kk := ?_)
        refine v_aload_n (pc := 26) X (hd := dX2_turfsInStacksOf_26) (kk := ?_)
        refine g_X2_44 (pc := 27) X (hd := dX2_turfsInStacksOf_27) (hh := by first | assumption | exact pset_s _ _ _ | exact (pset_n (by omega)).trans (by assumption)) (kk := ?_)
        refine v_iload_n (pc := 30) X (hd := dX2_turfsInStacksOf_30) (kk := ?_)
        refine v_aaldN (pc := 31) X (j := i) (hd := dX2_turfsInStacksOf_31) (hh := by first | assumption | exact pset_s _ _ _ | exact (pset_n (by omega)).trans (by assumption)) (hi := by first | rfl | (simp only [pk_mul, nI_add]; done)) (hj := by omega) (hf := F3 i (by omega)) (kk := ?_)
        refine g_X2_119 (pc := 32) X (hd := dX2_turfsInStacksOf_32) (hh := Hs2 i (by omega)) (kk := ?_)
        refine v_iadd (pc := 35) X (hd := dX2_turfsInStacksOf_35) (kk := ?_)
        refine v_istore_n (pc := 36) X (hd := dX2_turfsInStacksOf_36) (kk := ?_)
        refine v_iincN (pc := 37) X (hd := dX2_turfsInStacksOf_37) (kk := ?_)
        refine v_goto (pc := 40) X (tgt := 4) (hd := dX2_turfsInStacksOf_40) (kk := ?_)
        exact kk
  · skip
    refine v_iload_n (pc := 4) X (hd := dX2_turfsInStacksOf_4) (kk := ?_)
    refine v_aload_n (pc := 5) X (hd := dX2_turfsInStacksOf_5) (kk := ?_)
    refine g_X2_27 (pc := 6) X (hd := dX2_turfsInStacksOf_6) (hh := by first | assumption | exact pset_s _ _ _ | exact (pset_n (by omega)).trans (by assumption)) (kk := ?_)
    refine v_icmpge (pc := 9) X (tgt := 43) (hd := dX2_turfsInStacksOf_9) (kt := fun c9 => ?_) (kf := fun c9 => ?_)
    · refine v_iload_n (pc := 43) X (hd := dX2_turfsInStacksOf_43) (kk := ?_)
      exact v_endp (pc := 44) X hr hlk (hd := dX2_turfsInStacksOf_44) (hf := rfl)
    · exact absurd (Int32.le_refl _) c9
set_option maxRecDepth 100000 in
set_option maxHeartbeats 4000000 in
theorem c_X2_turfsInStacksAt (l : Launch) (E : pE) (a : Nat) (v : Nat → Int32) (hh : Int32) (nh nb ns : Nat) : pC l E yX2_turfsInStacksAt cX2_turfsInStacksAt 4 (some .int) { frames := 0, cells := 0, slots := 0, locals := 0 } 0 0 [.ref a, .int hh] (fun h _ => PA a v h ∧ Iv v nh nb ns) (pFp ((fTurfsAt v hh ns))) := by
  refine pC_of (by decide) (by simp [Value.category]) (Nat.le_of_ble_eq_true rfl) ?_
  intro h z hp p__ e__ s__ m__ args__ below__ meth__ c__ X hr hlk hname
  obtain ⟨hP0, I⟩ := hp
  obtain ⟨f1, f2, f3, pi, g, c, P⟩ := hP0
  have hpp : PA a v h ∧ Iv v nh nb ns := ⟨⟨f1, f2, f3, pi, g, c, P⟩, I⟩
  obtain ⟨hn6, hb4, hs12, en, eb, es⟩ := I.1
  have eS : nx (v 3) = ns := by rw [es]; exact nx_nI (by omega)
  have P0 := P
  obtain ⟨T0, T1, T2, T3, ⟨F1, F2, F3, pl, pj⟩, Hh, Hb, Hg, Hc, Gg, Gc, Hk, Hs⟩ := P
  rw [en, eb, es] at T0
  have Hs2 : ∀ k, k < ns → _ := fun k hk => Hs k (by omega) (by rw [eS]; exact hk)
  refine v_iconst (pc := 0) X (v := nI 0) (hd := dX2_turfsInStacksAt_0) (kk := ?_)
  refine v_istore_n (pc := 1) X (hd := dX2_turfsInStacksAt_1) (kk := ?_)
  refine v_iconst (pc := 2) X (v := nI 0) (hd := dX2_turfsInStacksAt_2) (kk := ?_)
  refine v_istore_n (pc := 3) X (hd := dX2_turfsInStacksAt_3) (kk := ?_)
  refine v_forp (pc := 4) (M := ns) (Lf := fun i => [some (.ref a), some (.int hh), some (.int (fTurfsAt v hh i)), some (.int (nI i))]) (hL := by rfl) (step := ?_) (out := ?_)
  · intro i hi kk
    refine v_iload_n (pc := 4) X (hd := dX2_turfsInStacksAt_4) (kk := ?_)
    refine v_aload_n (pc := 5) X (hd := dX2_turfsInStacksAt_5) (kk := ?_)
    refine g_X2_27 (pc := 6) X (hd := dX2_turfsInStacksAt_6) (hh := by first | assumption | exact pset_s _ _ _ | exact (pset_n (by omega)).trans (by assumption)) (kk := ?_)
    refine v_icmpge (pc := 9) X (tgt := 43) (hd := dX2_turfsInStacksAt_9) (kt := fun c9 => ?_) (kf := fun c9 => ?_)
    · exact absurd c9 (nI_ge hi (by omega))
    · refine v_aload_n (pc := 12) X (hd := dX2_turfsInStacksAt_12) (kk := ?_)
      refine g_X2_44 (pc := 13) X (hd := dX2_turfsInStacksAt_13) (hh := by first | assumption | exact pset_s _ _ _ | exact (pset_n (by omega)).trans (by assumption)) (kk := ?_)
      refine v_iload_n (pc := 16) X (hd := dX2_turfsInStacksAt_16) (kk := ?_)
      refine v_aaldN (pc := 17) X (j := i) (hd := dX2_turfsInStacksAt_17) (hh := by first | assumption | exact pset_s _ _ _ | exact (pset_n (by omega)).trans (by assumption)) (hi := by first | rfl | (simp only [pk_mul, nI_add]; done)) (hj := by omega) (hf := F3 i (by omega)) (kk := ?_)
      refine g_X2_116 (pc := 18) X (hd := dX2_turfsInStacksAt_18) (hh := Hs2 i (by omega)) (kk := ?_)
      refine v_iload_n (pc := 21) X (hd := dX2_turfsInStacksAt_21) (kk := ?_)
      refine v_icmpne (pc := 22) X (tgt := 37) (hd := dX2_turfsInStacksAt_22) (kt := fun c22 => ?_) (kf := fun c22 => ?_)
      · rw [show fTurfsAt v hh (i + 1) = fTurfsAt v hh i from by show fTurfsAt v hh i + _ = _; rw [if_neg c22]; exact add_n0 _] at kk
        refine v_iincN (pc := 37) X (hd := dX2_turfsInStacksAt_37) (kk := ?_)
        refine v_goto (pc := 40) X (tgt := 4) (hd := dX2_turfsInStacksAt_40) (kk := ?_)
        exact kk
      · rw [show fTurfsAt v hh (i + 1) = fTurfsAt v hh i + v (76 + 5 * i + 2) from by show fTurfsAt v hh i + _ = _; rw [if_pos (Classical.not_not.mp c22)]] at kk
        refine v_iload_n (pc := 25) X (hd := dX2_turfsInStacksAt_25) (kk := ?_)
        refine v_aload_n (pc := 26) X (hd := dX2_turfsInStacksAt_26) (kk := ?_)
        refine g_X2_44 (pc := 27) X (hd := dX2_turfsInStacksAt_27) (hh := by first | assumption | exact pset_s _ _ _ | exact (pset_n (by omega)).trans (by assumption)) (kk := ?_)
        refine v_iload_n (pc := 30) X (hd := dX2_turfsInStacksAt_30) (kk := ?_)
        refine v_aaldN (pc := 31) X (j := i) (hd := dX2_turfsInStacksAt_31) (hh := by first | assumption | exact pset_s _ _ _ | exact (pset_n (by omega)).trans (by assumption)) (hi := by first | rfl | (simp only [pk_mul, nI_add]; done)) (hj := by omega) (hf := F3 i (by omega)) (kk := ?_)
        refine g_X2_119 (pc := 32) X (hd := dX2_turfsInStacksAt_32) (hh := Hs2 i (by omega)) (kk := ?_)
        refine v_iadd (pc := 35) X (hd := dX2_turfsInStacksAt_35) (kk := ?_)
        refine v_istore_n (pc := 36) X (hd := dX2_turfsInStacksAt_36) (kk := ?_)
        refine v_iincN (pc := 37) X (hd := dX2_turfsInStacksAt_37) (kk := ?_)
        refine v_goto (pc := 40) X (tgt := 4) (hd := dX2_turfsInStacksAt_40) (kk := ?_)
        exact kk
  · skip
    refine v_iload_n (pc := 4) X (hd := dX2_turfsInStacksAt_4) (kk := ?_)
    refine v_aload_n (pc := 5) X (hd := dX2_turfsInStacksAt_5) (kk := ?_)
    refine g_X2_27 (pc := 6) X (hd := dX2_turfsInStacksAt_6) (hh := by first | assumption | exact pset_s _ _ _ | exact (pset_n (by omega)).trans (by assumption)) (kk := ?_)
    refine v_icmpge (pc := 9) X (tgt := 43) (hd := dX2_turfsInStacksAt_9) (kt := fun c9 => ?_) (kf := fun c9 => ?_)
    · refine v_iload_n (pc := 43) X (hd := dX2_turfsInStacksAt_43) (kk := ?_)
      exact v_endp (pc := 44) X hr hlk (hd := dX2_turfsInStacksAt_44) (hf := rfl)
    · exact absurd (Int32.le_refl _) c9
set_option maxRecDepth 100000 in
set_option maxHeartbeats 4000000 in
theorem c_X2_bearingToday (l : Launch) (E : pE) (a : Nat) (v : Nat → Int32) (b : Nat) (nh nb ns : Nat) : pC l E yX2_bearingToday cX2_bearingToday 2 (some .int) { frames := 2, cells := 0, slots := 0, locals := 43 } 0 0 [.ref a, .ref (a + 10 + 3 * b)] (fun h _ => PA a v h ∧ Iv v nh nb ns ∧ b < 4) (pFp ((fBear (v (24 + 7 * b + 1)) (v 4) (v (24 + 7 * b + 2))))) := by
  refine pC_of (by decide) (by simp [Value.category]) (Nat.le_of_ble_eq_true rfl) ?_
  intro h z hp p__ e__ s__ m__ args__ below__ meth__ c__ X hr hlk hname
  obtain ⟨hP0, I, hE⟩ := hp
  obtain ⟨f1, f2, f3, pi, g, c, P⟩ := hP0
  have hpp : PA a v h ∧ Iv v nh nb ns := ⟨⟨f1, f2, f3, pi, g, c, P⟩, I⟩
  obtain ⟨hn6, hb4, hs12, en, eb, es⟩ := I.1
  have eS : nx (v 3) = ns := by rw [es]; exact nx_nI (by omega)
  have P0 := P
  obtain ⟨T0, T1, T2, T3, ⟨F1, F2, F3, pl, pj⟩, Hh, Hb, Hg, Hc, Gg, Gc, Hk, Hs⟩ := P
  rw [en, eb, es] at T0
  have Hs2 : ∀ k, k < ns → _ := fun k hk => Hs k (by omega) (by rw [eS]; exact hk)
  refine v_aload_n (pc := 0) X (hd := dX2_bearingToday_0) (kk := ?_)
  refine v_aload_n (pc := 1) X (hd := dX2_bearingToday_1) (kk := ?_)
  refine g_X2_159 (pc := 2) X (hd := dX2_bearingToday_2) (hh := Hb b (by omega)) (kk := ?_)
  refine v_aload_n (pc := 5) X (hd := dX2_bearingToday_5) (kk := ?_)
  refine g_X2_18 (pc := 6) X (hd := dX2_bearingToday_6) (hh := by first | assumption | exact pset_s _ _ _ | exact (pset_n (by omega)).trans (by assumption)) (kk := ?_)
  refine v_callVp (pc := 9) X (hd := dX2_bearingToday_9) (w := wv_X2_162) (hC := c_X0_bearing l E _ _ _ _ _ _ _ _ _ _ _) (hp := Hb b hE) (hb := Hb b hE) (kk := ?_)
  exact v_endp (pc := 12) X hr hlk (hd := dX2_bearingToday_12) (hf := rfl)
set_option maxRecDepth 100000 in
set_option maxHeartbeats 4000000 in
theorem c_X2_stackProperty (l : Launch) (E : pE) (a : Nat) (v : Nat → Int32) (x y : Int32) (nh nb ns : Nat) : pC l E yX2_stackProperty cX2_stackProperty 4 (some .int) { frames := 2, cells := 0, slots := 0, locals := 43 } 0 0 [.ref a, .int x, .int y] (fun h _ => PA a v h ∧ Iv v nh nb ns) (pFp ((qStack v x y))) := by
  refine pC_of (by decide) (by simp [Value.category]) (Nat.le_of_ble_eq_true rfl) ?_
  intro h z hp p__ e__ s__ m__ args__ below__ meth__ c__ X hr hlk hname
  obtain ⟨hP0, I⟩ := hp
  obtain ⟨f1, f2, f3, pi, g, c, P⟩ := hP0
  have hpp : PA a v h ∧ Iv v nh nb ns := ⟨⟨f1, f2, f3, pi, g, c, P⟩, I⟩
  obtain ⟨hn6, hb4, hs12, en, eb, es⟩ := I.1
  have eS : nx (v 3) = ns := by rw [es]; exact nx_nI (by omega)
  have P0 := P
  obtain ⟨T0, T1, T2, T3, ⟨F1, F2, F3, pl, pj⟩, Hh, Hb, Hg, Hc, Gg, Gc, Hk, Hs⟩ := P
  rw [en, eb, es] at T0
  have Hs2 : ∀ k, k < ns → _ := fun k hk => Hs k (by omega) (by rw [eS]; exact hk)
  refine v_aload_n (pc := 0) X (hd := dX2_stackProperty_0) (kk := ?_)
  refine v_iload_n (pc := 1) X (hd := dX2_stackProperty_1) (kk := ?_)
  refine v_callVp (pc := 2) X (hd := dX2_stackProperty_2) (w := wv_X2_129) (hC := c_X2_hasStack l E a v x nh nb ns) (hp := hpp) (hb := by first | assumption | exact pset_s _ _ _ | exact (pset_n (by omega)).trans (by assumption)) (kk := ?_)
  refine v_ifneB (pc := 5) X (tgt := 10) (hd := dX2_stackProperty_5) (kt := fun c5 => ?_) (kf := fun c5 => ?_)
  · obtain ⟨j, hj, rfl, ej⟩ := gH_j es (by omega) c5
    refine v_aload_n (pc := 10) X (hd := dX2_stackProperty_10) (kk := ?_)
    refine g_X2_44 (pc := 11) X (hd := dX2_stackProperty_11) (hh := by first | assumption | exact pset_s _ _ _ | exact (pset_n (by omega)).trans (by assumption)) (kk := ?_)
    refine v_iload_n (pc := 14) X (hd := dX2_stackProperty_14) (kk := ?_)
    refine v_aaldN (pc := 15) X (j := j) (hd := dX2_stackProperty_15) (hh := by first | assumption | exact pset_s _ _ _ | exact (pset_n (by omega)).trans (by assumption)) (hi := by first | rfl | (simp only [pk_mul, nI_add]; done)) (hj := by omega) (hf := F3 j (by omega)) (kk := ?_)
    refine v_astore_n (pc := 16) X (hd := dX2_stackProperty_16) (kk := ?_)
    refine v_iload_n (pc := 17) X (hd := dX2_stackProperty_17) (kk := ?_)
    by_cases hw : gI y (nI 0) (nI 6)
    · obtain ⟨q, -, hq, rfl, eq⟩ := gI_j (by omega) (by omega) hw
      have hq2 : q = 0 ∨ q = 1 ∨ q = 2 ∨ q = 3 ∨ q = 4 ∨ q = 5 ∨ q = 6 := by omega
      rcases hq2 with rfl | rfl | rfl | rfl | rfl | rfl | rfl
      · refine v_tabIn (pc := 18) (tgt := 60) X (hd := dX2_stackProperty_18) 0 (by decide +kernel) (kk := ?_)
        refine v_aload_n (pc := 60) X (hd := dX2_stackProperty_60) (kk := ?_)
        refine g_X2_113 (pc := 61) X (hd := dX2_stackProperty_61) (hh := Hs2 j (by omega)) (kk := ?_)
        exact v_endp (pc := 64) X hr hlk (hd := dX2_stackProperty_64) (hf := by unfold qStack; rw [if_pos ⟨c5, hw⟩, ej, eq, if_pos (by decide +kernel)])
      · refine v_tabIn (pc := 18) (tgt := 65) X (hd := dX2_stackProperty_18) 1 (by decide +kernel) (kk := ?_)
        refine v_aload_n (pc := 65) X (hd := dX2_stackProperty_65) (kk := ?_)
        refine g_X2_116 (pc := 66) X (hd := dX2_stackProperty_66) (hh := Hs2 j (by omega)) (kk := ?_)
        exact v_endp (pc := 69) X hr hlk (hd := dX2_stackProperty_69) (hf := by unfold qStack; rw [if_pos ⟨c5, hw⟩, ej, eq, if_pos (by decide +kernel)])
      · refine v_tabIn (pc := 18) (tgt := 70) X (hd := dX2_stackProperty_18) 2 (by decide +kernel) (kk := ?_)
        refine v_aload_n (pc := 70) X (hd := dX2_stackProperty_70) (kk := ?_)
        refine g_X2_119 (pc := 71) X (hd := dX2_stackProperty_71) (hh := Hs2 j (by omega)) (kk := ?_)
        exact v_endp (pc := 74) X hr hlk (hd := dX2_stackProperty_74) (hf := by unfold qStack; rw [if_pos ⟨c5, hw⟩, ej, eq, if_pos (by decide +kernel)])
      · refine v_tabIn (pc := 18) (tgt := 75) X (hd := dX2_stackProperty_18) 3 (by decide +kernel) (kk := ?_)
        refine v_aload_n (pc := 75) X (hd := dX2_stackProperty_75) (kk := ?_)
        refine g_X2_123 (pc := 76) X (hd := dX2_stackProperty_76) (hh := Hs2 j (by omega)) (kk := ?_)
        exact v_endp (pc := 79) X hr hlk (hd := dX2_stackProperty_79) (hf := by unfold qStack; rw [if_pos ⟨c5, hw⟩, ej, eq, if_pos (by decide +kernel)])
      · refine v_tabIn (pc := 18) (tgt := 80) X (hd := dX2_stackProperty_18) 4 (by decide +kernel) (kk := ?_)
        refine v_aload_n (pc := 80) X (hd := dX2_stackProperty_80) (kk := ?_)
        refine g_X2_126 (pc := 81) X (hd := dX2_stackProperty_81) (hh := Hs2 j (by omega)) (kk := ?_)
        exact v_endp (pc := 84) X hr hlk (hd := dX2_stackProperty_84) (hf := by unfold qStack; rw [if_pos ⟨c5, hw⟩, ej, eq, if_pos (by decide +kernel)])
      · refine v_tabIn (pc := 18) (tgt := 85) X (hd := dX2_stackProperty_18) 5 (by decide +kernel) (kk := ?_)
        refine v_aload_n (pc := 85) X (hd := dX2_stackProperty_85) (kk := ?_)
        refine v_callVp (pc := 86) X (hd := dX2_stackProperty_86) (w := wv_X2_143) (hC := c_X5_turfWeight l E _ _ _ _ _ _) (hp := Hs2 j hj) (hb := Hs2 j hj) (kk := ?_)
        exact v_endp (pc := 89) X hr hlk (hd := dX2_stackProperty_89) (hf := by unfold qStack; rw [if_pos ⟨c5, hw⟩, ej, eq, if_neg (by decide +kernel), if_pos rfl])
      · refine v_tabIn (pc := 18) (tgt := 90) X (hd := dX2_stackProperty_18) 6 (by decide +kernel) (kk := ?_)
        refine v_aload_n (pc := 90) X (hd := dX2_stackProperty_90) (kk := ?_)
        refine v_callVp (pc := 91) X (hd := dX2_stackProperty_91) (w := wv_X2_139) (hC := c_X5_isDry l E _ _ _ _ _ _) (hp := Hs2 j hj) (hb := Hs2 j hj) (kk := ?_)
        refine v_ifeqB (pc := 94) X (tgt := 101) (hd := dX2_stackProperty_94) (kt := fun c94 => ?_) (kf := fun c94 => ?_)
        · refine v_iconst (pc := 101) X (v := nI 0) (hd := dX2_stackProperty_101) (kk := ?_)
          exact v_endp (pc := 102) X hr hlk (hd := dX2_stackProperty_102) (hf := by unfold qStack; rw [if_pos ⟨c5, hw⟩, ej, eq, if_neg (by decide +kernel), if_neg (by decide +kernel), if_neg c94])
        · refine v_iconst (pc := 97) X (v := nI 1) (hd := dX2_stackProperty_97) (kk := ?_)
          refine v_goto (pc := 98) X (tgt := 102) (hd := dX2_stackProperty_98) (kk := ?_)
          exact v_endp (pc := 102) X hr hlk (hd := dX2_stackProperty_102) (hf := by unfold qStack; rw [if_pos ⟨c5, hw⟩, ej, eq, if_neg (by decide +kernel), if_neg (by decide +kernel), if_pos c94])
    · refine v_tabOut (pc := 18) (tgt := 103) X (hd := dX2_stackProperty_18) (by rcases Int.lt_or_le y.toInt 0 with q | q; exact Or.inl q; exact Or.inr (by rcases Int.lt_or_le 6 y.toInt with q2 | q2; exact q2; exact absurd ⟨by rw [n_le]; exact q, by rw [n_le]; exact q2⟩ hw)) (kk := ?_)
      refine v_iconst (pc := 103) X (v := (-1)) (hd := dX2_stackProperty_103) (kk := ?_)
      exact v_endp (pc := 104) X hr hlk (hd := dX2_stackProperty_104) (hf := by unfold qStack; rw [if_neg (fun q => hw q.2)])
  · refine v_iconst (pc := 8) X (v := (-1)) (hd := dX2_stackProperty_8) (kk := ?_)
    exact v_endp (pc := 9) X hr hlk (hd := dX2_stackProperty_9) (hf := by unfold qStack; rw [if_neg (fun q => c5 q.1)])
set_option maxRecDepth 100000 in
set_option maxHeartbeats 4000000 in
theorem c_X2_householdProperty (l : Launch) (E : pE) (a : Nat) (v : Nat → Int32) (x y : Int32) (nh nb ns : Nat) : pC l E yX2_householdProperty cX2_householdProperty 3 (some .int) { frames := 2, cells := 0, slots := 0, locals := 43 } 0 0 [.ref a, .int x, .int y] (fun h _ => PA a v h ∧ Iv v nh nb ns) (pFp ((qHouse v nb ns x y))) := by
  refine pC_of (by decide) (by simp [Value.category]) (Nat.le_of_ble_eq_true rfl) ?_
  intro h z hp p__ e__ s__ m__ args__ below__ meth__ c__ X hr hlk hname
  obtain ⟨hP0, I⟩ := hp
  obtain ⟨f1, f2, f3, pi, g, c, P⟩ := hP0
  have hpp : PA a v h ∧ Iv v nh nb ns := ⟨⟨f1, f2, f3, pi, g, c, P⟩, I⟩
  obtain ⟨hn6, hb4, hs12, en, eb, es⟩ := I.1
  have eS : nx (v 3) = ns := by rw [es]; exact nx_nI (by omega)
  have P0 := P
  obtain ⟨T0, T1, T2, T3, ⟨F1, F2, F3, pl, pj⟩, Hh, Hb, Hg, Hc, Gg, Gc, Hk, Hs⟩ := P
  rw [en, eb, es] at T0
  have Hs2 : ∀ k, k < ns → _ := fun k hk => Hs k (by omega) (by rw [eS]; exact hk)
  refine v_aload_n (pc := 0) X (hd := dX2_householdProperty_0) (kk := ?_)
  refine v_iload_n (pc := 1) X (hd := dX2_householdProperty_1) (kk := ?_)
  refine v_callVp (pc := 2) X (hd := dX2_householdProperty_2) (w := wv_X2_68) (hC := c_X2_hasHousehold l E a v x nh nb ns) (hp := hpp) (hb := by first | assumption | exact pset_s _ _ _ | exact (pset_n (by omega)).trans (by assumption)) (kk := ?_)
  refine v_ifneB (pc := 5) X (tgt := 10) (hd := dX2_householdProperty_5) (kt := fun c5 => ?_) (kf := fun c5 => ?_)
  · obtain ⟨j, hj, rfl, ej⟩ := gH_j en (by omega) c5
    refine v_iload_n (pc := 10) X (hd := dX2_householdProperty_10) (kk := ?_)
    by_cases hw : gI y (nI 0) (nI 5)
    · obtain ⟨q, -, hq, rfl, eq⟩ := gI_j (by omega) (by omega) hw
      have hq2 : q = 0 ∨ q = 1 ∨ q = 2 ∨ q = 3 ∨ q = 4 ∨ q = 5 := by omega
      rcases hq2 with rfl | rfl | rfl | rfl | rfl | rfl
      · refine v_tabIn (pc := 11) (tgt := 48) X (hd := dX2_householdProperty_11) 0 (by decide +kernel) (kk := ?_)
        refine v_aload_n (pc := 48) X (hd := dX2_householdProperty_48) (kk := ?_)
        refine g_X2_32 (pc := 49) X (hd := dX2_householdProperty_49) (hh := by first | assumption | exact pset_s _ _ _ | exact (pset_n (by omega)).trans (by assumption)) (kk := ?_)
        refine v_iload_n (pc := 52) X (hd := dX2_householdProperty_52) (kk := ?_)
        refine v_aaldN (pc := 53) X (j := j) (hd := dX2_householdProperty_53) (hh := by first | assumption | exact pset_s _ _ _ | exact (pset_n (by omega)).trans (by assumption)) (hi := by first | rfl | (simp only [pk_mul, nI_add]; done)) (hj := by omega) (hf := F1 j (by omega)) (kk := ?_)
        refine g_X2_65 (pc := 54) X (hd := dX2_householdProperty_54) (hh := Hh j (by omega)) (kk := ?_)
        exact v_endp (pc := 57) X hr hlk (hd := dX2_householdProperty_57) (hf := by unfold qHouse; rw [if_pos ⟨c5, hw⟩, ej, eq, if_pos (by decide +kernel)])
      · refine v_tabIn (pc := 11) (tgt := 58) X (hd := dX2_householdProperty_11) 1 (by decide +kernel) (kk := ?_)
        refine v_aload_n (pc := 58) X (hd := dX2_householdProperty_58) (kk := ?_)
        refine g_X2_32 (pc := 59) X (hd := dX2_householdProperty_59) (hh := by first | assumption | exact pset_s _ _ _ | exact (pset_n (by omega)).trans (by assumption)) (kk := ?_)
        refine v_iload_n (pc := 62) X (hd := dX2_householdProperty_62) (kk := ?_)
        refine v_aaldN (pc := 63) X (j := j) (hd := dX2_householdProperty_63) (hh := by first | assumption | exact pset_s _ _ _ | exact (pset_n (by omega)).trans (by assumption)) (hi := by first | rfl | (simp only [pk_mul, nI_add]; done)) (hj := by omega) (hf := F1 j (by omega)) (kk := ?_)
        refine g_X2_172 (pc := 64) X (hd := dX2_householdProperty_64) (hh := Hh j (by omega)) (kk := ?_)
        exact v_endp (pc := 67) X hr hlk (hd := dX2_householdProperty_67) (hf := by unfold qHouse; rw [if_pos ⟨c5, hw⟩, ej, eq, if_pos (by decide +kernel)])
      · refine v_tabIn (pc := 11) (tgt := 68) X (hd := dX2_householdProperty_11) 2 (by decide +kernel) (kk := ?_)
        refine v_aload_n (pc := 68) X (hd := dX2_householdProperty_68) (kk := ?_)
        refine g_X2_32 (pc := 69) X (hd := dX2_householdProperty_69) (hh := by first | assumption | exact pset_s _ _ _ | exact (pset_n (by omega)).trans (by assumption)) (kk := ?_)
        refine v_iload_n (pc := 72) X (hd := dX2_householdProperty_72) (kk := ?_)
        refine v_aaldN (pc := 73) X (j := j) (hd := dX2_householdProperty_73) (hh := by first | assumption | exact pset_s _ _ _ | exact (pset_n (by omega)).trans (by assumption)) (hi := by first | rfl | (simp only [pk_mul, nI_add]; done)) (hj := by omega) (hf := F1 j (by omega)) (kk := ?_)
        refine g_X2_175 (pc := 74) X (hd := dX2_householdProperty_74) (hh := Hh j (by omega)) (kk := ?_)
        exact v_endp (pc := 77) X hr hlk (hd := dX2_householdProperty_77) (hf := by unfold qHouse; rw [if_pos ⟨c5, hw⟩, ej, eq, if_pos (by decide +kernel)])
      · refine v_tabIn (pc := 11) (tgt := 78) X (hd := dX2_householdProperty_11) 3 (by decide +kernel) (kk := ?_)
        refine v_aload_n (pc := 78) X (hd := dX2_householdProperty_78) (kk := ?_)
        refine v_iload_n (pc := 79) X (hd := dX2_householdProperty_79) (kk := ?_)
        refine v_callVp (pc := 80) X (hd := dX2_householdProperty_80) (w := wv_X2_187) (hC := c_X2_rightsOf l E a v j nh nb ns) (hp := ⟨hpp.1, I, by omega⟩) (hb := by first | assumption | exact pset_s _ _ _ | exact (pset_n (by omega)).trans (by assumption)) (kk := ?_)
        exact v_endp (pc := 83) X hr hlk (hd := dX2_householdProperty_83) (hf := by unfold qHouse; rw [if_pos ⟨c5, hw⟩, ej, eq, if_neg (by decide +kernel), if_pos rfl])
      · refine v_tabIn (pc := 11) (tgt := 84) X (hd := dX2_householdProperty_11) 4 (by decide +kernel) (kk := ?_)
        refine v_aload_n (pc := 84) X (hd := dX2_householdProperty_84) (kk := ?_)
        refine v_iload_n (pc := 85) X (hd := dX2_householdProperty_85) (kk := ?_)
        refine v_callVp (pc := 86) X (hd := dX2_householdProperty_86) (w := wv_X2_190) (hC := c_X2_stacksOf l E a v (nI j) nh nb ns) (hp := hpp) (hb := by first | assumption | exact pset_s _ _ _ | exact (pset_n (by omega)).trans (by assumption)) (kk := ?_)
        exact v_endp (pc := 89) X hr hlk (hd := dX2_householdProperty_89) (hf := by unfold qHouse; rw [if_pos ⟨c5, hw⟩, ej, eq, if_neg (by decide +kernel), if_neg (by decide +kernel)]; rfl)
      · refine v_tabIn (pc := 11) (tgt := 90) X (hd := dX2_householdProperty_11) 5 (by decide +kernel) (kk := ?_)
        refine v_aload_n (pc := 90) X (hd := dX2_householdProperty_90) (kk := ?_)
        refine v_iload_n (pc := 91) X (hd := dX2_householdProperty_91) (kk := ?_)
        refine v_callVp (pc := 92) X (hd := dX2_householdProperty_92) (w := wv_X2_193) (hC := c_X2_turfsInStacksOf l E a v (nI j) nh nb ns) (hp := hpp) (hb := by first | assumption | exact pset_s _ _ _ | exact (pset_n (by omega)).trans (by assumption)) (kk := ?_)
        exact v_endp (pc := 95) X hr hlk (hd := dX2_householdProperty_95) (hf := by unfold qHouse; rw [if_pos ⟨c5, hw⟩, ej, eq, if_neg (by decide +kernel), if_neg (by decide +kernel)]; rfl)
    · refine v_tabOut (pc := 11) (tgt := 96) X (hd := dX2_householdProperty_11) (by rcases Int.lt_or_le y.toInt 0 with q | q; exact Or.inl q; exact Or.inr (by rcases Int.lt_or_le 5 y.toInt with q2 | q2; exact q2; exact absurd ⟨by rw [n_le]; exact q, by rw [n_le]; exact q2⟩ hw)) (kk := ?_)
      refine v_iconst (pc := 96) X (v := (-1)) (hd := dX2_householdProperty_96) (kk := ?_)
      exact v_endp (pc := 97) X hr hlk (hd := dX2_householdProperty_97) (hf := by unfold qHouse; rw [if_neg (fun q => hw q.2)])
  · refine v_iconst (pc := 8) X (v := (-1)) (hd := dX2_householdProperty_8) (kk := ?_)
    exact v_endp (pc := 9) X hr hlk (hd := dX2_householdProperty_9) (hf := by unfold qHouse; rw [if_neg (fun q => c5 q.1)])
set_option maxRecDepth 100000 in
set_option maxHeartbeats 4000000 in
theorem c_X2_bankProperty (l : Launch) (E : pE) (a : Nat) (v : Nat → Int32) (x y : Int32) (nh nb ns : Nat) : pC l E yX2_bankProperty cX2_bankProperty 4 (some .int) { frames := 3, cells := 0, slots := 0, locals := 64 } 0 0 [.ref a, .int x, .int y] (fun h _ => PA a v h ∧ Iv v nh nb ns) (pFp ((qBank v ns x y))) := by
  refine pC_of (by decide) (by simp [Value.category]) (Nat.le_of_ble_eq_true rfl) ?_
  intro h z hp p__ e__ s__ m__ args__ below__ meth__ c__ X hr hlk hname
  obtain ⟨hP0, I⟩ := hp
  obtain ⟨f1, f2, f3, pi, g, c, P⟩ := hP0
  have hpp : PA a v h ∧ Iv v nh nb ns := ⟨⟨f1, f2, f3, pi, g, c, P⟩, I⟩
  obtain ⟨hn6, hb4, hs12, en, eb, es⟩ := I.1
  have eS : nx (v 3) = ns := by rw [es]; exact nx_nI (by omega)
  have P0 := P
  obtain ⟨T0, T1, T2, T3, ⟨F1, F2, F3, pl, pj⟩, Hh, Hb, Hg, Hc, Gg, Gc, Hk, Hs⟩ := P
  rw [en, eb, es] at T0
  have Hs2 : ∀ k, k < ns → _ := fun k hk => Hs k (by omega) (by rw [eS]; exact hk)
  refine v_aload_n (pc := 0) X (hd := dX2_bankProperty_0) (kk := ?_)
  refine v_iload_n (pc := 1) X (hd := dX2_bankProperty_1) (kk := ?_)
  refine v_callVp (pc := 2) X (hd := dX2_bankProperty_2) (w := wv_X2_78) (hC := c_X2_hasBank l E a v x nh nb ns) (hp := hpp) (hb := by first | assumption | exact pset_s _ _ _ | exact (pset_n (by omega)).trans (by assumption)) (kk := ?_)
  refine v_ifneB (pc := 5) X (tgt := 10) (hd := dX2_bankProperty_5) (kt := fun c5 => ?_) (kf := fun c5 => ?_)
  · obtain ⟨j, hj, rfl, ej⟩ := gH_j eb (by omega) c5
    obtain ⟨rx, -, rx2, rx3⟩ := I.2.2.2.2.2.1 j (by omega)
    refine v_aload_n (pc := 10) X (hd := dX2_bankProperty_10) (kk := ?_)
    refine g_X2_38 (pc := 11) X (hd := dX2_bankProperty_11) (hh := by first | assumption | exact pset_s _ _ _ | exact (pset_n (by omega)).trans (by assumption)) (kk := ?_)
    refine v_iload_n (pc := 14) X (hd := dX2_bankProperty_14) (kk := ?_)
    refine v_aaldN (pc := 15) X (j := j) (hd := dX2_bankProperty_15) (hh := by first | assumption | exact pset_s _ _ _ | exact (pset_n (by omega)).trans (by assumption)) (hi := by first | rfl | (simp only [pk_mul, nI_add]; done)) (hj := by omega) (hf := F2 j (by omega)) (kk := ?_)
    refine v_astore_n (pc := 16) X (hd := dX2_bankProperty_16) (kk := ?_)
    refine v_iload_n (pc := 17) X (hd := dX2_bankProperty_17) (kk := ?_)
    by_cases hw : gI y (nI 0) (nI 8)
    · obtain ⟨q, -, hq, rfl, eq⟩ := gI_j (by omega) (by omega) hw
      have hq2 : q = 0 ∨ q = 1 ∨ q = 2 ∨ q = 3 ∨ q = 4 ∨ q = 5 ∨ q = 6 ∨ q = 7 ∨ q = 8 := by omega
      rcases hq2 with rfl | rfl | rfl | rfl | rfl | rfl | rfl | rfl | rfl
      · refine v_tabIn (pc := 18) (tgt := 68) X (hd := dX2_bankProperty_18) 0 (by decide +kernel) (kk := ?_)
        refine v_aload_n (pc := 68) X (hd := dX2_bankProperty_68) (kk := ?_)
        refine g_X2_72 (pc := 69) X (hd := dX2_bankProperty_69) (hh := Hb j (by omega)) (kk := ?_)
        exact v_endp (pc := 72) X hr hlk (hd := dX2_bankProperty_72) (hf := by unfold qBank; first | (rw [if_pos ⟨c5, hw⟩, ej, eq]; done) | (rw [if_pos ⟨c5, hw⟩, ej, eq]; rfl) | (rw [if_pos ⟨c5, hw⟩, ej, eq]; exact rx3.symm))
      · refine v_tabIn (pc := 18) (tgt := 73) X (hd := dX2_bankProperty_18) 1 (by decide +kernel) (kk := ?_)
        refine v_aload_n (pc := 73) X (hd := dX2_bankProperty_73) (kk := ?_)
        refine g_X2_75 (pc := 74) X (hd := dX2_bankProperty_74) (hh := Hb j (by omega)) (kk := ?_)
        exact v_endp (pc := 77) X hr hlk (hd := dX2_bankProperty_77) (hf := by unfold qBank; first | (rw [if_pos ⟨c5, hw⟩, ej, eq]; done) | (rw [if_pos ⟨c5, hw⟩, ej, eq]; rfl) | (rw [if_pos ⟨c5, hw⟩, ej, eq]; exact rx3.symm))
      · refine v_tabIn (pc := 18) (tgt := 78) X (hd := dX2_bankProperty_18) 2 (by decide +kernel) (kk := ?_)
        refine v_aload_n (pc := 78) X (hd := dX2_bankProperty_78) (kk := ?_)
        refine g_X2_159 (pc := 79) X (hd := dX2_bankProperty_79) (hh := Hb j (by omega)) (kk := ?_)
        exact v_endp (pc := 82) X hr hlk (hd := dX2_bankProperty_82) (hf := by unfold qBank; first | (rw [if_pos ⟨c5, hw⟩, ej, eq]; done) | (rw [if_pos ⟨c5, hw⟩, ej, eq]; rfl) | (rw [if_pos ⟨c5, hw⟩, ej, eq]; exact rx3.symm))
      · refine v_tabIn (pc := 18) (tgt := 83) X (hd := dX2_bankProperty_18) 3 (by decide +kernel) (kk := ?_)
        refine v_aload_n (pc := 83) X (hd := dX2_bankProperty_83) (kk := ?_)
        refine v_aload_n (pc := 84) X (hd := dX2_bankProperty_84) (kk := ?_)
        refine v_callVp (pc := 85) X (hd := dX2_bankProperty_85) (w := wv_X2_169) (hC := c_X2_bearingToday l E a v j nh nb ns) (hp := ⟨hpp.1, I, by omega⟩) (hb := by first | assumption | exact pset_s _ _ _ | exact (pset_n (by omega)).trans (by assumption)) (kk := ?_)
        exact v_endp (pc := 88) X hr hlk (hd := dX2_bankProperty_88) (hf := by unfold qBank; first | (rw [if_pos ⟨c5, hw⟩, ej, eq]; done) | (rw [if_pos ⟨c5, hw⟩, ej, eq]; rfl) | (rw [if_pos ⟨c5, hw⟩, ej, eq]; exact rx3.symm))
      · refine v_tabIn (pc := 18) (tgt := 89) X (hd := dX2_bankProperty_18) 4 (by decide +kernel) (kk := ?_)
        refine v_aload_n (pc := 89) X (hd := dX2_bankProperty_89) (kk := ?_)
        refine v_callVp (pc := 90) X (hd := dX2_bankProperty_90) (w := wv_X2_196) (hC := c_X0_holdersAsBits l E _ _ _ _ _ _ _ _ _ (g j) rx) (hp := ⟨Hb j (by omega), Hg j (by omega), by omega, fun i hi => by rw [Gg j (by omega) i hi, rx3]⟩) (hb := Hb j (by omega)) (kk := ?_)
        exact v_endp (pc := 93) X hr hlk (hd := dX2_bankProperty_93) (hf := by unfold qBank; first | (rw [if_pos ⟨c5, hw⟩, ej, eq]; done) | (rw [if_pos ⟨c5, hw⟩, ej, eq]; rfl) | (rw [if_pos ⟨c5, hw⟩, ej, eq]; exact rx3.symm))
      · refine v_tabIn (pc := 18) (tgt := 94) X (hd := dX2_bankProperty_18) 5 (by decide +kernel) (kk := ?_)
        refine v_aload_n (pc := 94) X (hd := dX2_bankProperty_94) (kk := ?_)
        refine g_X2_110 (pc := 95) X (hd := dX2_bankProperty_95) (hh := Hb j (by omega)) (kk := ?_)
        exact v_endp (pc := 98) X hr hlk (hd := dX2_bankProperty_98) (hf := by unfold qBank; first | (rw [if_pos ⟨c5, hw⟩, ej, eq]; done) | (rw [if_pos ⟨c5, hw⟩, ej, eq]; rfl) | (rw [if_pos ⟨c5, hw⟩, ej, eq]; exact rx3.symm))
      · refine v_tabIn (pc := 18) (tgt := 99) X (hd := dX2_bankProperty_18) 6 (by decide +kernel) (kk := ?_)
        refine v_aload_n (pc := 99) X (hd := dX2_bankProperty_99) (kk := ?_)
        refine v_iload_n (pc := 100) X (hd := dX2_bankProperty_100) (kk := ?_)
        refine v_callVp (pc := 101) X (hd := dX2_bankProperty_101) (w := wv_X2_199) (hC := c_X2_turfsInStacksAt l E a v (nI j) nh nb ns) (hp := hpp) (hb := by first | assumption | exact pset_s _ _ _ | exact (pset_n (by omega)).trans (by assumption)) (kk := ?_)
        exact v_endp (pc := 104) X hr hlk (hd := dX2_bankProperty_104) (hf := by unfold qBank; first | (rw [if_pos ⟨c5, hw⟩, ej, eq]; done) | (rw [if_pos ⟨c5, hw⟩, ej, eq]; rfl) | (rw [if_pos ⟨c5, hw⟩, ej, eq]; exact rx3.symm))
      · refine v_tabIn (pc := 18) (tgt := 105) X (hd := dX2_bankProperty_18) 7 (by decide +kernel) (kk := ?_)
        refine v_aload_n (pc := 105) X (hd := dX2_bankProperty_105) (kk := ?_)
        refine g_X2_178 (pc := 106) X (hd := dX2_bankProperty_106) (hh := Hb j (by omega)) (kk := ?_)
        exact v_endp (pc := 109) X hr hlk (hd := dX2_bankProperty_109) (hf := by unfold qBank; first | (rw [if_pos ⟨c5, hw⟩, ej, eq]; done) | (rw [if_pos ⟨c5, hw⟩, ej, eq]; rfl) | (rw [if_pos ⟨c5, hw⟩, ej, eq]; exact rx3.symm))
      · refine v_tabIn (pc := 18) (tgt := 110) X (hd := dX2_bankProperty_18) 8 (by decide +kernel) (kk := ?_)
        refine v_aload_n (pc := 110) X (hd := dX2_bankProperty_110) (kk := ?_)
        refine g_X2_153 (pc := 111) X (hd := dX2_bankProperty_111) (hh := Hb j (by omega)) (kk := ?_)
        exact v_endp (pc := 114) X hr hlk (hd := dX2_bankProperty_114) (hf := by unfold qBank; first | (rw [if_pos ⟨c5, hw⟩, ej, eq]; done) | (rw [if_pos ⟨c5, hw⟩, ej, eq]; rfl) | (rw [if_pos ⟨c5, hw⟩, ej, eq]; exact rx3.symm))
    · refine v_tabOut (pc := 18) (tgt := 115) X (hd := dX2_bankProperty_18) (by rcases Int.lt_or_le y.toInt 0 with q | q; exact Or.inl q; exact Or.inr (by rcases Int.lt_or_le 8 y.toInt with q2 | q2; exact q2; exact absurd ⟨by rw [n_le]; exact q, by rw [n_le]; exact q2⟩ hw)) (kk := ?_)
      refine v_iconst (pc := 115) X (v := (-1)) (hd := dX2_bankProperty_115) (kk := ?_)
      exact v_endp (pc := 116) X hr hlk (hd := dX2_bankProperty_116) (hf := by unfold qBank; rw [if_neg (fun q => hw q.2)])
  · refine v_iconst (pc := 8) X (v := (-1)) (hd := dX2_bankProperty_8) (kk := ?_)
    exact v_endp (pc := 9) X hr hlk (hd := dX2_bankProperty_9) (hf := by unfold qBank; rw [if_neg (fun q => c5 q.1)])