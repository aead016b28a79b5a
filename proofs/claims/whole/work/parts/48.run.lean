/-! the text, and the run of a program, both sides -/
theorem c_tab : ∀ c, c < 256 → ((nI c).toUInt32 % 65536).toInt32 = nI c ∧ vp_nar FieldType.char (nI c) = nI c := by decide +kernel
theorem cpA_n {f g : Nat → Int32} {n i : Nat} (h : ¬ i < n) : cpA f g n i = f i := if_neg h
theorem aPa_cg {np : Nat} {w w1 pa : Nat → Int32} (h : ∀ q, q < 410 → w1 q = w q) : aPa false np w1 pa = aPa false np w pa := by
  have e : ∀ p1 n0, cpP p1 w1 n0 410 = cpP p1 w n0 410 := fun p1 n0 => by
    funext k
    unfold cpP
    by_cases q : 410 * n0 ≤ k ∧ k < 410 * n0 + 410
    · rw [if_pos q, if_pos q]; exact h _ (by omega)
    · rw [if_neg q, if_neg q]
  unfold aPa
  rw [e, e]
theorem KY.prog {x np tn tn1 : Nat} {w pa te te1 nu nu1 : Nat → Int32} {st en st1 en1 : Int32} {h h1 : pH} (hn5 : np ≤ 5) (K : KY x w pa np tn te st en nu h) (P : KP x tn1 te1 st1 en1 nu1 h1) (F : ∀ q, q ≠ x + 212 → q ≠ x + 213 → q ≠ x + 214 → h1 q = h q) : KY x w pa np tn1 te1 st1 en1 nu1 h1 := by
  obtain ⟨A, hf, G, N, R⟩ := K
  have hS : ∀ r, r < 7 → ∀ u, SA (A r) u h → SA (A r) u h1 := fun r hr u hu => hu.off (fun p h2 h3 => by have := G.2.2.2.1.rng hr; exact F p (by omega) (by omega) (by omega))
  exact ⟨A, hf, ⟨(F _ (by omega) (by omega) (by omega)).trans G.1, (F _ (by omega) (by omega) (by omega)).trans G.2.1, G.2.2.1, G.2.2.2.1, P, fun r hr => (G.2.2.2.2.2 r hr).elim fun u hu => ⟨u, hS r hr u hu⟩⟩, hS 0 (by omega) w N, fun k hk => by
    exact hS (2 + k) (by omega) _ (R k hk)⟩
theorem SA.parish2 {q : Nat} {w w1 : Nat → Int32} {h h1 : pH} (S : SA q w h) (hv : ∀ p, 136 ≤ p → w1 p = w p) (P : PA (q + 1) w1 h1) (hO : ∀ p, q ≤ p → p < q + 105 → (p < q + 1 ∨ q + 35 ≤ p) → h1 p = h p) : SA q w1 h1 := by
  obtain ⟨fs, tk, u, S⟩ := S
  exact ⟨fs, tk, u, (hO _ (by omega) (by omega) (by omega)).trans S.1, (hO _ (by omega) (by omega) (by omega)).trans S.2.1, (hO _ (by omega) (by omega) (by omega)).trans S.2.2.1, S.2.2.2.1, fun i hi => (S.2.2.2.2.1 i hi).trans (hv _ (by omega)).symm, fun i hi => by rw [hv _ (by omega)]; exact S.2.2.2.2.2.1 i hi, P, fun i hi => (S.2.2.2.2.2.2.2.1 i hi).off (fun p h2 h3 => hO p (by omega) (by omega) (by omega)), fun i hi h p hp => by
    rw [hv _ (by omega)] at h
    exact (S.2.2.2.2.2.2.2.2 i hi h p hp).trans (hv _ (by omega)).symm⟩
set_option maxRecDepth 100000 in
set_option maxHeartbeats 4000000 in
theorem c_X3_addCharacter (l : Launch) (E : pE) (x tn : Nat) (te nu : Nat → Int32) (st en y : Int32) : pC l E yX3_addCharacter cX3_addCharacter 2 (some .int) { frames := 1, cells := 0, slots := 0, locals := 22 } 0 0 [.ref (x + 212), .int y] (fun h _ => KP x tn te st en nu h ∧ tn ≤ 140) (pFi (fun h r h' => r = rApp (nI tn) y ∧ ((¬ kApp (nI tn) y ∧ h' = h) ∨ (kApp (nI tn) y ∧ KP x (tn + 1) (upd te tn y) st en nu h' ∧ ∀ q, q ≠ x + 212 → q ≠ x + 213 → h' q = h q)))) := by
  refine pC_of (by decide) (by simp [Value.category]) (Nat.le_of_ble_eq_true rfl) ?_
  intro h z hp p__ e__ s__ m__ args__ below__ meth__ c__ X hr hlk hname
  obtain ⟨hK, h140⟩ := hp
  refine v_iload_n (pc := 0) X (hd := dX3_addCharacter_0) (kk := ?_)
  refine v_iconst (pc := 1) X (v := nI 1) (hd := dX3_addCharacter_1) (kk := ?_)
  refine v_sipush (pc := 2) X (v := nI 255) (hd := dX3_addCharacter_2) (kk := ?_)
  refine v_callSNp (pc := 5) X (hd := dX3_addCharacter_5) (w := wv_X3_29) (hC := c_X6_isWithin l E _ _ _) (hp := by first | assumption | exact trivial) (kk := ?_)
  refine v_ifneB (pc := 8) X (tgt := 13) (hd := dX3_addCharacter_8) (kt := fun c8 => ?_) (kf := fun c8 => ?_)
  · refine v_aload_n (pc := 13) X (hd := dX3_addCharacter_13) (kk := ?_)
    refine g_X3_15 (pc := 14) X (hd := dX3_addCharacter_14) (hh := hK.1) (kk := ?_)
    refine v_sipush (pc := 17) X (v := nI 140) (hd := dX3_addCharacter_17) (kk := ?_)
    refine v_icmplt (pc := 20) X (tgt := 26) (hd := dX3_addCharacter_20) (kt := fun c20 => ?_) (kf := fun c20 => ?_)
    · have hlt : tn < 140 := (nI_ltI (by omega) (by omega)).mp c20
      obtain ⟨c, k1, k2, rfl, -⟩ := gI_j (by omega) (by omega) c8
      have hne : ¬ nI tn = nI 140 := fun q => absurd ((nI_eq (by omega) (by omega)).mp q) (by omega)
      refine v_aload_n (pc := 26) X (hd := dX3_addCharacter_26) (kk := ?_)
      refine g_X3_9 (pc := 27) X (hd := dX3_addCharacter_27) (hh := hK.1) (kk := ?_)
      refine v_aload_n (pc := 30) X (hd := dX3_addCharacter_30) (kk := ?_)
      refine g_X3_15 (pc := 31) X (hd := dX3_addCharacter_31) (hh := hK.1) (kk := ?_)
      refine v_iload_n (pc := 34) X (hd := dX3_addCharacter_34) (kk := ?_)
      refine v_i2c (pc := 35) X (hd := dX3_addCharacter_35) (kk := ?_)
      rw [(c_tab c (by omega)).1]
      refine v_castN (pc := 36) X (j := tn) (hd := dX3_addCharacter_36) (hh := hK.2.1) (hi := by first | rfl | (simp only [pk_mul, nI_add]; done)) (hj := by omega) (hx := (c_tab c (by omega)).2) (kk := ?_)
      refine v_aload_n (pc := 37) X (hd := dX3_addCharacter_37) (kk := ?_)
      refine v_dup (pc := 38) X (hd := dX3_addCharacter_38) (kk := ?_)
      refine g_X3_15 (pc := 39) X (hd := dX3_addCharacter_39) (hh := (pset_n (by omega)).trans hK.1) (kk := ?_)
      refine v_iconst (pc := 42) X (v := nI 1) (hd := dX3_addCharacter_42) (kk := ?_)
      refine v_iadd (pc := 43) X (hd := dX3_addCharacter_43) (kk := ?_)
      refine p_X3_15 (pc := 44) X (hd := dX3_addCharacter_44) (hh := (pset_n (by omega)).trans hK.1) (kk := ?_)
      rw [nI_add]
      refine v_aload_n (pc := 47) X (hd := dX3_addCharacter_47) (kk := ?_)
      refine g_X3_15 (pc := 48) X (hd := dX3_addCharacter_48) (hh := pset_s _ _ _) (kk := ?_)
      exact v_endi (pc := 51) X hr hlk (hd := dX3_addCharacter_51) (hf := ⟨by unfold rApp; rw [if_pos c8, if_neg hne, nI_add], Or.inr ⟨⟨c8, hne⟩, ⟨pset_s _ _ _, (pset_n (by omega)).trans (pset_s _ _ _), (pset_n (by omega)).trans ((pset_n (by omega)).trans hK.2.2)⟩, fun q h1 h2 => (pset_n h1).trans (pset_n h2)⟩⟩)
    · have hge : nI tn = nI 140 := by
        rcases Nat.lt_or_ge tn 140 with q | q
        · exact absurd (nI_lt q (by omega)) c20
        · rw [show tn = 140 by omega]
      refine v_bipush (pc := 23) X (v := (-3)) (hd := dX3_addCharacter_23) (kk := ?_)
      exact v_endi (pc := 25) X hr hlk (hd := dX3_addCharacter_25) (hf := ⟨by unfold rApp; rw [if_pos c8, if_pos hge], Or.inl ⟨fun q => q.2 hge, rfl⟩⟩)
  · refine v_iconst (pc := 11) X (v := (-1)) (hd := dX3_addCharacter_11) (kk := ?_)
    exact v_endi (pc := 12) X hr hlk (hd := dX3_addCharacter_12) (hf := ⟨by unfold rApp; rw [if_neg c8], Or.inl ⟨fun q => c8 q.1, rfl⟩⟩)
set_option maxRecDepth 100000 in
set_option maxHeartbeats 4000000 in
theorem c_X3_clearCharacters (l : Launch) (E : pE) (x tn : Nat) (te nu : Nat → Int32) (st en : Int32) : pC l E yX3_clearCharacters cX3_clearCharacters 2 (some .int) { frames := 0, cells := 0, slots := 0, locals := 0 } 0 0 [.ref (x + 212)] (fun h _ => KP x tn te st en nu h) (pFi (fun h r h' => r = nI tn ∧ KP x 0 te st en nu h' ∧ ∀ q, q ≠ x + 212 → h' q = h q)) := by
  refine pC_of (by decide) (by simp [Value.category]) (Nat.le_of_ble_eq_true rfl) ?_
  intro h z hp p__ e__ s__ m__ args__ below__ meth__ c__ X hr hlk hname
  refine v_aload_n (pc := 0) X (hd := dX3_clearCharacters_0) (kk := ?_)
  refine g_X3_15 (pc := 1) X (hd := dX3_clearCharacters_1) (hh := hp.1) (kk := ?_)
  refine v_istore_n (pc := 4) X (hd := dX3_clearCharacters_4) (kk := ?_)
  refine v_aload_n (pc := 5) X (hd := dX3_clearCharacters_5) (kk := ?_)
  refine v_iconst (pc := 6) X (v := nI 0) (hd := dX3_clearCharacters_6) (kk := ?_)
  refine p_X3_15 (pc := 7) X (hd := dX3_clearCharacters_7) (hh := hp.1) (kk := ?_)
  refine v_iload_n (pc := 10) X (hd := dX3_clearCharacters_10) (kk := ?_)
  exact v_endi (pc := 11) X hr hlk (hd := dX3_clearCharacters_11) (hf := ⟨rfl, ⟨pset_s _ _ _, (pset_n (by omega)).trans hp.2.1, (pset_n (by omega)).trans hp.2.2⟩, fun q h1 => pset_n h1⟩)
set_option maxRecDepth 100000 in
set_option maxHeartbeats 4000000 in
theorem c_X6_append (l : Launch) (E : pE) (x : Nat) (w pa : Nat → Int32) (np : Nat) (tn : Nat) (te : Nat → Int32) (st en : Int32) (nu : Nat → Int32) (y : Int32) : pC l E yX6_append cX6_append 2 (some .int) { frames := 2, cells := 0, slots := 0, locals := 43 } 0 0 [.ref x, .int y] (fun h _ => KY x w pa np tn te st en nu h ∧ tn ≤ 140 ∧ np ≤ 5) (pFi (fun h r h' => r = rApp (nI tn) y ∧ ((¬ kApp (nI tn) y ∧ KY x w pa np tn te st en nu h') ∨ (kApp (nI tn) y ∧ KY x w pa np (tn + 1) (upd te tn y) st en nu h')) ∧ pO x (x + 740) h h')) := by
  refine pC_of (by decide) (by simp [Value.category]) (Nat.le_of_ble_eq_true rfl) ?_
  intro h z hp p__ e__ s__ m__ args__ below__ meth__ c__ X hr hlk hname
  obtain ⟨hY, h140, hn5⟩ := hp
  have hY0 := hY
  obtain ⟨A, hf, G, hN, hR⟩ := hY
  have G0 := G
  obtain ⟨T0, T1, Hf, hG, hKP, hall⟩ := G
  refine v_aload_n (pc := 0) X (hd := dX6_append_0) (kk := ?_)
  refine g_X6_30 (pc := 1) X (hd := dX6_append_1) (hh := T0) (kk := ?_)
  refine v_iload_n (pc := 4) X (hd := dX6_append_4) (kk := ?_)
  refine v_callVi (pc := 5) X (hd := dX6_append_5) (w := wv_X6_93) (hC := c_X3_addCharacter l E x tn te nu st en y) (hp := ⟨hKP, h140⟩) (hb := hKP.1) (kk := fun r5 h5 q5 => ?_)
  obtain ⟨rfl, D⟩ := q5
  exact v_endi (pc := 8) X hr hlk (hd := dX6_append_8) (hf := by
    rcases D with ⟨k, rfl⟩ | ⟨k, P, F⟩
    · exact ⟨rfl, Or.inl ⟨k, hY0⟩, pO.rf⟩
    · exact ⟨rfl, Or.inr ⟨k, hY0.prog hn5 P (fun q h1 h2 _ => F q h1 h2)⟩, fun q hq => F q (by omega) (by omega)⟩)
set_option maxRecDepth 100000 in
set_option maxHeartbeats 4000000 in
theorem c_X6_clearText (l : Launch) (E : pE) (x : Nat) (w pa : Nat → Int32) (np : Nat) (tn : Nat) (te : Nat → Int32) (st en : Int32) (nu : Nat → Int32) : pC l E yX6_clearText cX6_clearText 1 (some .int) { frames := 1, cells := 0, slots := 0, locals := 21 } 0 0 [.ref x] (fun h _ => KY x w pa np tn te st en nu h ∧ np ≤ 5) (pFi (fun h r h' => r = nI tn ∧ KY x w pa np 0 te st en nu h' ∧ pO x (x + 740) h h')) := by
  refine pC_of (by decide) (by simp [Value.category]) (Nat.le_of_ble_eq_true rfl) ?_
  intro h z hp p__ e__ s__ m__ args__ below__ meth__ c__ X hr hlk hname
  obtain ⟨hY, hn5⟩ := hp
  have hY0 := hY
  obtain ⟨A, hf, G, hN, hR⟩ := hY
  have G0 := G
  obtain ⟨T0, T1, Hf, hG, hKP, hall⟩ := G
  refine v_aload_n (pc := 0) X (hd := dX6_clearText_0) (kk := ?_)
  refine g_X6_30 (pc := 1) X (hd := dX6_clearText_1) (hh := T0) (kk := ?_)
  refine v_callVi (pc := 4) X (hd := dX6_clearText_4) (w := wv_X6_96) (hC := c_X3_clearCharacters l E x tn te nu st en) (hp := hKP) (hb := hKP.1) (kk := fun r4 h4 q4 => ?_)
  obtain ⟨rfl, P, F⟩ := q4
  exact v_endi (pc := 7) X hr hlk (hd := dX6_clearText_7) (hf := ⟨rfl, hY0.prog hn5 P (fun q h1 _ _ => F q h1), fun q hq => F q (by omega)⟩)
set_option maxRecDepth 100000 in
set_option maxHeartbeats 4000000 in
theorem c_X6_run (l : Launch) (E : pE) (x : Nat) (w pa : Nat → Int32) (np : Nat) (tn : Nat) (te : Nat → Int32) (st en : Int32) (nu : Nat → Int32) : pC l E yX6_run cX6_run 2 (some .int) { frames := 8, cells := 0, slots := 0, locals := 175 } 0 0 [.ref x] (fun h _ => KY x w pa np tn te st en nu h ∧ KI w pa np ∧ TX te tn) (pFi (fun h r h' => pO x (x + 740) h h' ∧ ∃ st1 en1, (((aT te tn w nu).1 = none ∧ r = nI (aT te tn w nu).2.1 ∧ KY x (aT te tn w nu).2.2.1 (aPa false np w pa) (aNp false np) 0 te st1 en1 (aT te tn w nu).2.2.2 h') ∨ (∃ p, (aT te tn w nu).1 = some p ∧ r = -1000 - nI p ∧ KY x w pa np tn te st1 en1 (aT te tn w nu).2.2.2 h')))) := by
  refine pC_of (by decide) (by simp [Value.category]) (Nat.le_of_ble_eq_true rfl) ?_
  intro h z hp p__ e__ s__ m__ args__ below__ meth__ c__ X hr hlk hname
  obtain ⟨hY, hI, hT⟩ := hp
  obtain ⟨A, hf, G, hN, hR⟩ := hY
  have G0 := G
  obtain ⟨T0, T1, Hf, hG, hKP, hall⟩ := G
  obtain ⟨ub, hB⟩ := hall 1 (by omega)
  obtain ⟨hnp, hSI, hRI⟩ := hI
  refine v_aload_n (pc := 0) X (hd := dX6_run_0) (kk := ?_)
  refine g_X6_16 (pc := 1) X (hd := dX6_run_1) (hh := by first | assumption | exact pset_s _ _ _ | exact (pset_n (by omega)).trans (by assumption)) (kk := ?_)
  refine v_aload_n (pc := 4) X (hd := dX6_run_4) (kk := ?_)
  refine g_X6_10 (pc := 5) X (hd := dX6_run_5) (hh := by first | assumption | exact pset_s _ _ _ | exact (pset_n (by omega)).trans (by assumption)) (kk := ?_)
  refine v_callVv (pc := 8) X (hd := dX6_run_8) (w := wv_X6_34) (hC := c_X4_copyFrom l E (A 1) (A 0) ub w) (hp := ⟨hB, hN, hG.dis (r := 1) (s := 0) (by omega) (by omega) (by omega)⟩) (hb := hB.ob) (kk := fun h8 q8 => ?_)
  obtain ⟨B8, O8⟩ := q8
  have G8 := G0.chg (r := 1) (by omega) B8 O8
  have N8 := G0.sa (r := 1) (s := 0) (by omega) (by omega) (by omega) hN O8
  have R8 : ∀ k, k < np → SA (A (2 + k)) (row pa k) h8 := fun k hk => G0.sa (r := 1) (s := 2 + k) (by omega) (by omega) (by omega) (hR k hk) O8
  obtain ⟨U0, U1, Uf, uG, uKP, uall⟩ := G8
  have rg0 := hG.rng (r := 0) (by omega)
  refine v_aload_n (pc := 11) X (hd := dX6_run_11) (kk := ?_)
  refine g_X6_30 (pc := 12) X (hd := dX6_run_12) (hh := U0) (kk := ?_)
  refine v_aload_n (pc := 15) X (hd := dX6_run_15) (kk := ?_)
  refine g_X6_10 (pc := 16) X (hd := dX6_run_16) (hh := U0) (kk := ?_)
  refine g_X6_38 (pc := 19) X (hd := dX6_run_19) (hh := N8.ob) (kk := ?_)
  refine v_callVi (pc := 22) X (hd := dX6_run_22) (w := wv_X6_99) (hC := c_X3_runOn l E x tn (A 0 + 1) te w nu st en) (hp := ⟨uKP, hT, N8.pa, hSI.1, by omega⟩) (hb := uKP.1) (kk := fun r22 h22 q22 => ?_)
  obtain ⟨F9, st1, en1, K9, P9, D9⟩ := q22
  obtain ⟨ie9, hi9⟩ := allF_keep (te := te) (tn := tn) tn 0 0 w nu hSI.1
  obtain ⟨fp9, fn9⟩ := allF_fst (te := te) (tn := tn) tn 0 0 w nu (Nat.zero_le _) (Nat.le_refl _)
  have N9 : SA (A 0) (aT te tn w nu).2.2.1 h22 := N8.parish2 hi9 P9 (fun p h2 h3 h4 => F9 p (by omega) (by omega) (by omega))
  have oth : ∀ r, r < 7 → r ≠ 0 → ∀ u, SA (A r) u h8 → SA (A r) u h22 := fun r hr hne u hu => hu.off (fun p h2 h3 => by
    have g1 := hG.rng hr
    have g2 := hG.dis (r := 0) (s := r) (by omega) hr (fun q => hne q.symm)
    exact F9 p (by omega) (by omega) (by omega))
  have V0 := (F9 x (by omega) (by omega) (by omega)).trans U0
  have V1 := (F9 (x + 211) (by omega) (by omega) (by omega)).trans U1
  have O9 : pO x (x + 740) h8 h22 := fun q hq => F9 q (by omega) (by omega) (by omega)
  have G9 : KG x A hf np tn te st1 en1 (aT te tn w nu).2.2.2 h22 := ⟨V0, V1, Uf, uG, K9, fun r hr => by
    by_cases e : r = 0
    · rw [e]; exact ⟨_, N9⟩
    · obtain ⟨u, hu⟩ := uall r hr
      exact ⟨u, oth r hr e u hu⟩⟩
  have B9 := oth 1 (by omega) (by omega) _ B8
  have R9 : ∀ k, k < np → SA (A (2 + k)) (row pa k) h22 := fun k hk => oth (2 + k) (by omega) (by omega) _ (R8 k hk)
  have O8x : pO x (x + 740) h h8 := G0.mono (r := 1) (by omega) O8
  refine v_istore_n (pc := 25) X (hd := dX6_run_25) (kk := ?_)
  refine v_iload_n (pc := 26) X (hd := dX6_run_26) (kk := ?_)
  refine v_ifge (pc := 27) X (tgt := 43) (hd := dX6_run_27) (kt := fun c27 => ?_) (kf := fun c27 => ?_)
  · have D : (aT te tn w nu).1 = none ∧ r22 = nI (aT te tn w nu).2.1 := by
      rcases D9 with d | ⟨p, d1, rfl⟩
      · exact d
      · have q1 := (neg_k (p := p) (by have := fp9 p d1; have := hT.1; omega)).2
        exact absurd c27 (by rw [n_le]; rw [n_lt] at q1; omega)
    obtain ⟨d1, rfl⟩ := D
    refine v_aload_n (pc := 43) X (hd := dX6_run_43) (kk := ?_)
    refine g_X6_30 (pc := 44) X (hd := dX6_run_44) (hh := V0) (kk := ?_)
    refine v_callVi (pc := 47) X (hd := dX6_run_47) (w := wv_X6_96) (hC := c_X3_clearCharacters l E x tn te (aT te tn w nu).2.2.2 st1 en1) (hp := K9) (hb := K9.1) (kk := fun r47 h47 q47 => ?_)
    obtain ⟨rfl, K10, F10⟩ := q47
    have s10 : ∀ r, r < 7 → ∀ u, SA (A r) u h22 → SA (A r) u h47 := fun r hr u hu => hu.off (fun p h2 h3 => F10 p (by have g1 := hG.rng hr; omega))
    refine v_pop (pc := 50) X (hd := dX6_run_50) (kk := ?_)
    refine v_aload_n (pc := 51) X (hd := dX6_run_51) (kk := ?_)
    refine v_iload_n (pc := 52) X (hd := dX6_run_52) (kk := ?_)
    refine v_callVi (pc := 53) X (hd := dX6_run_53) (w := wv_X6_48) (hC := c_X6_recorded l E x A hf np 0 te st1 en1 (aT te tn w nu).2.2.2 (aT te tn w nu).2.2.1 w pa _) (hp := ⟨⟨(F10 _ (by omega)).trans V0, (F10 _ (by omega)).trans V1, Uf, uG, K10, fun r hr => (G9.2.2.2.2.2 r hr).elim fun u hu => ⟨u, s10 r hr u hu⟩⟩, s10 0 (by omega) _ N9, ⟨s10 1 (by omega) _ B9, hSI⟩, fun k hk => s10 (2 + k) (by omega) _ (R9 k hk), hRI, hnp⟩) (hb := (F10 _ (by omega)).trans V0) (kk := fun r53 h53 q53 => ?_)
    obtain ⟨rfl, Z⟩ := q53
    exact v_endi (pc := 56) X hr hlk (hd := dX6_run_56) (hf := by
    rcases Z with ⟨z, -⟩ | ⟨z, z1, z2⟩
    · exact absurd z (n_nn (by have h0 : (aT te tn w nu).2.1 ≤ tn := fn9; have := hT.1; omega))
    · exact ⟨((O8x.tr O9).tr (fun q hq => F10 q (by omega))).tr z2, st1, en1, Or.inl ⟨d1, rfl, z1⟩⟩)
  · have D : ∃ p, (aT te tn w nu).1 = some p ∧ r22 = -1000 - nI p := by
      rcases D9 with ⟨d1, rfl⟩ | d
      · exact absurd (n_nle c27) (n_nn (by have h0 : (aT te tn w nu).2.1 ≤ tn := fn9; have := hT.1; omega))
      · exact d
    obtain ⟨p, d1, rfl⟩ := D
    refine v_aload_n (pc := 30) X (hd := dX6_run_30) (kk := ?_)
    refine g_X6_10 (pc := 31) X (hd := dX6_run_31) (hh := V0) (kk := ?_)
    refine v_aload_n (pc := 34) X (hd := dX6_run_34) (kk := ?_)
    refine g_X6_16 (pc := 35) X (hd := dX6_run_35) (hh := V0) (kk := ?_)
    refine v_callVv (pc := 38) X (hd := dX6_run_38) (w := wv_X6_34) (hC := c_X4_copyFrom l E (A 0) (A 1) (aT te tn w nu).2.2.1 w) (hp := ⟨N9, B9, hG.dis (r := 0) (s := 1) (by omega) (by omega) (by omega)⟩) (hb := N9.ob) (kk := fun h38 q38 => ?_)
    obtain ⟨N10, O10⟩ := q38
    refine v_iload_n (pc := 41) X (hd := dX6_run_41) (kk := ?_)
    exact v_endi (pc := 42) X hr hlk (hd := dX6_run_42) (hf := by
    refine ⟨(O8x.tr O9).tr (G9.mono (r := 0) (by omega) O10), st1, en1, Or.inr ⟨p, d1, rfl, A, hf, G9.chg (r := 0) (by omega) N10 O10, N10, fun k hk => G9.sa (r := 0) (s := 2 + k) (by omega) (by omega) (by omega) (R9 k hk) O10⟩⟩)
set_option maxRecDepth 100000 in
set_option maxHeartbeats 4000000 in
theorem c_X7_run (l : Launch) (E : pE) (m : Nat) (w pa he te re : Nat → Int32) (np tn : Nat) (at_ st ki co : Int32) : pC l E yX7_run cX7_run 4 (some .int) { frames := 9, cells := 0, slots := 0, locals := 206 } 0 0 [.ref m] (fun h _ => MD m w pa he te re (nI np) (bI (false = true)) (nI tn) at_ st ki co h ∧ TX te tn ∧ IE w ∧ np ≤ 5) (pFi (fun h r h' => pO m (m + 6) h h' ∧ ∃ w1 he1 at1 st1 ki1 co1, (((aT te tn w re).1 = none ∧ r = nI (aT te tn w re).2.1 ∧ (∀ q, q < 410 → w1 q = (aT te tn w re).2.2.1 q) ∧ MD m w1 (aPa false np w pa) he1 te (aT te tn w re).2.2.2 (nI (aNp false np)) (bI (false = true)) (nI 0) at1 st1 ki1 co1 h') ∨ (∃ p, (aT te tn w re).1 = some p ∧ r = -1000 - nI p ∧ (∀ q, q < 410 → w1 q = w q) ∧ MD m w1 pa he1 te (aT te tn w re).2.2.2 (nI np) (bI (false = true)) (nI tn) at1 st1 ki1 co1 h')))) := by
  refine pC_of (by decide) (by simp [Value.category]) (Nat.le_of_ble_eq_true rfl) ?_
  intro h z hp p__ e__ s__ m__ args__ below__ meth__ c__ X hr hlk hname
  obtain ⟨hM, hT, I, hnp⟩ := hp
  have h140 := hT.1
  refine v_iconst (pc := 0) X (v := nI 0) (hd := dX7_run_0) (kk := ?_)
  refine v_istore_n (pc := 1) X (hd := dX7_run_1) (kk := ?_)
  refine v_for (pc := 2) (M := 410) (Lf := fun i => [some (.ref m), some (.int (nI i)), none, none]) (I := fun i h1 => h1 = pset h (m + 3) (ai 1 410 (cpA he w i))) (h0 := by rw [cpA_0]; exact pset_id hM.2.2.2.1) (hL := by rfl) (step := ?_) (out := ?_)
  · intro i h1 hi hI kk
    subst hI
    refine v_iload_n (pc := 2) X (hd := dX7_run_2) (kk := ?_)
    refine v_sipush (pc := 3) X (v := nI 410) (hd := dX7_run_3) (kk := ?_)
    refine v_icmpge (pc := 6) X (tgt := 27) (hd := dX7_run_6) (kt := fun c6 => ?_) (kf := fun c6 => ?_)
    · exact absurd c6 (nI_ge hi (by omega))
    · refine v_aload_n (pc := 9) X (hd := dX7_run_9) (kk := ?_)
      refine g_X7_16 (pc := 10) X (hd := dX7_run_10) (hh := (pset_n (by omega)).trans hM.1) (kk := ?_)
      refine v_iload_n (pc := 13) X (hd := dX7_run_13) (kk := ?_)
      refine v_aload_n (pc := 14) X (hd := dX7_run_14) (kk := ?_)
      refine g_X7_7 (pc := 15) X (hd := dX7_run_15) (hh := (pset_n (by omega)).trans hM.1) (kk := ?_)
      refine v_iload_n (pc := 18) X (hd := dX7_run_18) (kk := ?_)
      refine v_ialdN (pc := 19) X (j := i) (hd := dX7_run_19) (hh := (pset_n (by omega)).trans hM.2.1) (hi := by first | rfl | (simp only [pk_mul, nI_add]; done)) (hj := by omega) (kk := ?_)
      refine v_iastN (pc := 20) X (j := i) (hd := dX7_run_20) (hh := pset_s _ _ _) (hi := by first | rfl | (simp only [pk_mul, nI_add]; done)) (hj := by omega) (kk := ?_)
      rw [pset_pset]
      refine v_iincN (pc := 21) X (hd := dX7_run_21) (kk := ?_)
      refine v_goto (pc := 24) X (tgt := 2) (hd := dX7_run_24) (kk := ?_)
      refine kk _ ?_
      rw [← cpA_s]
  · intro h1 hI
    subst hI
    have M1 : MD m w pa (cpA he w 410) te re (nI np) (bI (false = true)) (nI tn) at_ st ki co (pset h (m + 3) (ai 1 410 (cpA he w 410))) := hM.she _
    refine v_iload_n (pc := 2) X (hd := dX7_run_2) (kk := ?_)
    refine v_sipush (pc := 3) X (v := nI 410) (hd := dX7_run_3) (kk := ?_)
    refine v_icmpge (pc := 6) X (tgt := 27) (hd := dX7_run_6) (kt := fun c6 => ?_) (kf := fun c6 => ?_)
    · refine v_aload_n (pc := 27) X (hd := dX7_run_27) (kk := ?_)
      refine v_iconst (pc := 28) X (v := nI 1) (hd := dX7_run_28) (kk := ?_)
      refine p_X7_25 (pc := 29) X (hd := dX7_run_29) (hh := M1.1) (hnr := by decide +kernel) (hft := by decide +kernel) (kk := ?_)
      refine v_gen (P := fun h9 => MD m w pa (cpA he w 410) te re (nI np) (bI (true = true)) (nI tn) at_ st ki co h9 ∧ pO m (m + 6) h h9) ⟨by rw [show bI (true = true) = nI 1 from (bI_t rfl).trans nI_t.symm]; exact M1.sob, (pO.rf.set (by omega) (by omega)).set (by omega) (by omega)⟩ (fun h29 q29 => ?_)
      obtain ⟨M2, O2⟩ := q29
      refine v_aload_n (pc := 32) X (hd := dX7_run_32) (kk := ?_)
      refine v_callVi (pc := 33) X (hd := dX7_run_33) (w := wv_X7_161) (hC := c_X7_readsAll l E m w pa (cpA he w 410) te re np tn at_ st ki co) (hp := ⟨M2, hT, I, hnp⟩) (hb := M2.1) (kk := fun r33 h33 q33 => ?_)
      obtain ⟨O3, D3⟩ := q33
      obtain ⟨fp9, fn9⟩ := allF_fst (te := te) (tn := tn) tn 0 0 w re (Nat.zero_le _) (Nat.le_refl _)
      have D4 : ∃ at1 st1 ki1 co1, MD m (aT te tn w re).2.2.1 pa (cpA he w 410) te (aT te tn w re).2.2.2 (nI np) (bI (true = true)) (nI tn) at1 st1 ki1 co1 h33 ∧ (((aT te tn w re).1 = none ∧ r33 = -9 ∧ co1 = nI (aT te tn w re).2.1) ∨ (∃ p, (aT te tn w re).1 = some p ∧ r33 = nI p)) := by
        rcases D3 with ⟨d1, d2, a1, a2, a3, d3⟩ | ⟨p, d1, d2, a1, a2, a3, a4, d3⟩
        · exact ⟨a1, a2, a3, _, d3, Or.inl ⟨d1, d2, rfl⟩⟩
        · exact ⟨a1, a2, a3, a4, d3, Or.inr ⟨p, d1, d2⟩⟩
      obtain ⟨at1, st1, ki1, co1, M3, D5⟩ := D4
      refine v_istore_n (pc := 36) X (hd := dX7_run_36) (kk := ?_)
      refine v_aload_n (pc := 37) X (hd := dX7_run_37) (kk := ?_)
      refine v_iconst (pc := 38) X (v := nI 0) (hd := dX7_run_38) (kk := ?_)
      refine p_X7_25 (pc := 39) X (hd := dX7_run_39) (hh := M3.1) (hnr := by decide +kernel) (hft := by decide +kernel) (kk := ?_)
      refine v_gen (P := fun h9 => MD m (aT te tn w re).2.2.1 pa (cpA he w 410) te (aT te tn w re).2.2.2 (nI np) (bI (false = true)) (nI tn) at1 st1 ki1 co1 h9 ∧ pO m (m + 6) h h9) ⟨by rw [show bI (false = true) = nI 0 from (bI_f (by decide)).trans nI_z.symm]; exact M3.sob, (O2.tr O3).set (by omega) (by omega)⟩ (fun h39 q39 => ?_)
      obtain ⟨M4, O4⟩ := q39
      refine v_iload_n (pc := 42) X (hd := dX7_run_42) (kk := ?_)
      refine v_bipush (pc := 43) X (v := (-9)) (hd := dX7_run_43) (kk := ?_)
      refine v_icmpeq (pc := 45) X (tgt := 81) (hd := dX7_run_45) (kt := fun c45 => ?_) (kf := fun c45 => ?_)
      · have D6 : (aT te tn w re).1 = none ∧ co1 = nI (aT te tn w re).2.1 := by
          rcases D5 with ⟨d1, d2, d3⟩ | ⟨p, d1, d2⟩
          · exact ⟨d1, d3⟩
          · rw [d2] at c45; exact absurd c45 (nI_n9 (by have := fp9 p d1; have := hT.1; omega))
        obtain ⟨d1, rfl⟩ := D6
        refine v_iconst (pc := 81) X (v := nI 0) (hd := dX7_run_81) (kk := ?_)
        refine v_istore_n (pc := 82) X (hd := dX7_run_82) (kk := ?_)
        refine v_for (pc := 83) (M := 410) (Lf := fun i => [some (.ref m), some (.int r33), some (.int (nI i)), none]) (I := fun i h1 => MD m (cpA (aT te tn w re).2.2.1 (cpA he w 410) i) pa (cpA (cpA he w 410) (aT te tn w re).2.2.1 i) te (aT te tn w re).2.2.2 (nI np) (bI (false = true)) (nI tn) at1 st1 ki1 (nI (aT te tn w re).2.1) h1 ∧ pO m (m + 6) h h1) (h0 := ⟨by rw [cpA_0, cpA_0]; exact M4, O4⟩) (hL := by rfl) (step := ?_) (out := ?_)
        · intro i h2 hi hI kk
          obtain ⟨M5, O5⟩ := hI
          obtain ⟨N0, N1, N2, N3, N4, N5⟩ := M5
          refine v_iload_n (pc := 83) X (hd := dX7_run_83) (kk := ?_)
          refine v_sipush (pc := 84) X (v := nI 410) (hd := dX7_run_84) (kk := ?_)
          refine v_icmpge (pc := 87) X (tgt := 122) (hd := dX7_run_87) (kt := fun c87 => ?_) (kf := fun c87 => ?_)
          · exact absurd c87 (nI_ge hi (by omega))
          · refine v_aload_n (pc := 90) X (hd := dX7_run_90) (kk := ?_)
            refine g_X7_7 (pc := 91) X (hd := dX7_run_91) (hh := N0) (kk := ?_)
            refine v_iload_n (pc := 94) X (hd := dX7_run_94) (kk := ?_)
            refine v_ialdN (pc := 95) X (j := i) (hd := dX7_run_95) (hh := N1) (hi := by first | rfl | (simp only [pk_mul, nI_add]; done)) (hj := by omega) (kk := ?_)
            rw [cpA_n (show ¬ i < i by omega)]
            refine v_istore_n (pc := 96) X (hd := dX7_run_96) (kk := ?_)
            refine v_aload_n (pc := 97) X (hd := dX7_run_97) (kk := ?_)
            refine g_X7_7 (pc := 98) X (hd := dX7_run_98) (hh := N0) (kk := ?_)
            refine v_iload_n (pc := 101) X (hd := dX7_run_101) (kk := ?_)
            refine v_aload_n (pc := 102) X (hd := dX7_run_102) (kk := ?_)
            refine g_X7_16 (pc := 103) X (hd := dX7_run_103) (hh := N0) (kk := ?_)
            refine v_iload_n (pc := 106) X (hd := dX7_run_106) (kk := ?_)
            refine v_ialdN (pc := 107) X (j := i) (hd := dX7_run_107) (hh := N3) (hi := by first | rfl | (simp only [pk_mul, nI_add]; done)) (hj := by omega) (kk := ?_)
            rw [cpA_n (show ¬ i < i by omega)]
            refine v_iastN (pc := 108) X (j := i) (hd := dX7_run_108) (hh := N1) (hi := by first | rfl | (simp only [pk_mul, nI_add]; done)) (hj := by omega) (kk := ?_)
            refine v_aload_n (pc := 109) X (hd := dX7_run_109) (kk := ?_)
            refine g_X7_16 (pc := 110) X (hd := dX7_run_110) (hh := (pset_n (by omega)).trans N0) (kk := ?_)
            refine v_iload_n (pc := 113) X (hd := dX7_run_113) (kk := ?_)
            refine v_iload_n (pc := 114) X (hd := dX7_run_114) (kk := ?_)
            refine v_iastN (pc := 115) X (j := i) (hd := dX7_run_115) (hh := (pset_n (by omega)).trans N3) (hi := by first | rfl | (simp only [pk_mul, nI_add]; done)) (hj := by omega) (kk := ?_)
            refine v_iincN (pc := 116) X (hd := dX7_run_116) (kk := ?_)
            refine v_goto (pc := 119) X (tgt := 83) (hd := dX7_run_119) (kk := ?_)
            refine v_sub [some (.ref m), some (.int r33), some (.int (nI (i + 1))), none] (by intro i v hv; match i, hv with | 0, hv => exact hv | 1, hv => exact hv | 2, hv => exact hv | 3, hv => simp at hv) (kk _ ⟨?_, (O5.set (by omega) (by omega)).set (by omega) (by omega)⟩)
            rw [← cpA_s (cpA he w 410) (aT te tn w re).2.2.1 i, ← cpA_s (aT te tn w re).2.2.1 (cpA he w 410) i]
            exact ((MD.sw ⟨N0, N1, N2, N3, N4, N5⟩ _).she _)
        · intro h2 hI
          obtain ⟨M5, O5⟩ := hI
          refine v_iload_n (pc := 83) X (hd := dX7_run_83) (kk := ?_)
          refine v_sipush (pc := 84) X (v := nI 410) (hd := dX7_run_84) (kk := ?_)
          refine v_icmpge (pc := 87) X (tgt := 122) (hd := dX7_run_87) (kt := fun c87 => ?_) (kf := fun c87 => ?_)
          · refine v_aload_n (pc := 122) X (hd := dX7_run_122) (kk := ?_)
            refine v_callVv (pc := 123) X (hd := dX7_run_123) (w := wv_X7_37) (hC := c_X7_acts l E m (cpA (aT te tn w re).2.2.1 (cpA he w 410) 410) pa (cpA (cpA he w 410) (aT te tn w re).2.2.1 410) te (aT te tn w re).2.2.2 np false (nI tn) at1 st1 ki1 (nI (aT te tn w re).2.1)) (hp := ⟨M5, hnp⟩) (hb := M5.1) (kk := fun h123 q123 => ?_)
            obtain ⟨M6, O6⟩ := q123
            rw [aPa_cg (w := w) (fun q hq => by rw [cpA_l hq, cpA_l hq])] at M6
            refine v_iconst (pc := 126) X (v := nI 0) (hd := dX7_run_126) (kk := ?_)
            refine v_istore_n (pc := 127) X (hd := dX7_run_127) (kk := ?_)
            refine v_for (pc := 128) (M := 410) (Lf := fun i => [some (.ref m), some (.int r33), some (.int (nI i)), none]) (I := fun i h1 => h1 = pset h123 (m + 1) (ai 1 410 (cpA (cpA (aT te tn w re).2.2.1 (cpA he w 410) 410) (cpA (cpA he w 410) (aT te tn w re).2.2.1 410) i))) (h0 := by rw [cpA_0]; exact pset_id M6.2.1) (hL := by rfl) (step := ?_) (out := ?_)
            · intro i h2 hi hI kk
              subst hI
              refine v_iload_n (pc := 128) X (hd := dX7_run_128) (kk := ?_)
              refine v_sipush (pc := 129) X (v := nI 410) (hd := dX7_run_129) (kk := ?_)
              refine v_icmpge (pc := 132) X (tgt := 153) (hd := dX7_run_132) (kt := fun c132 => ?_) (kf := fun c132 => ?_)
              · exact absurd c132 (nI_ge hi (by omega))
              · refine v_aload_n (pc := 135) X (hd := dX7_run_135) (kk := ?_)
                refine g_X7_7 (pc := 136) X (hd := dX7_run_136) (hh := (pset_n (by omega)).trans M6.1) (kk := ?_)
                refine v_iload_n (pc := 139) X (hd := dX7_run_139) (kk := ?_)
                refine v_aload_n (pc := 140) X (hd := dX7_run_140) (kk := ?_)
                refine g_X7_16 (pc := 141) X (hd := dX7_run_141) (hh := (pset_n (by omega)).trans M6.1) (kk := ?_)
                refine v_iload_n (pc := 144) X (hd := dX7_run_144) (kk := ?_)
                refine v_ialdN (pc := 145) X (j := i) (hd := dX7_run_145) (hh := (pset_n (by omega)).trans M6.2.2.2.1) (hi := by first | rfl | (simp only [pk_mul, nI_add]; done)) (hj := by omega) (kk := ?_)
                refine v_iastN (pc := 146) X (j := i) (hd := dX7_run_146) (hh := pset_s _ _ _) (hi := by first | rfl | (simp only [pk_mul, nI_add]; done)) (hj := by omega) (kk := ?_)
                rw [pset_pset]
                refine v_iincN (pc := 147) X (hd := dX7_run_147) (kk := ?_)
                refine v_goto (pc := 150) X (tgt := 128) (hd := dX7_run_150) (kk := ?_)
                refine kk _ ?_
                rw [← cpA_s (cpA (aT te tn w re).2.2.1 (cpA he w 410) 410) (cpA (cpA he w 410) (aT te tn w re).2.2.1 410) i]
            · intro h2 hI
              subst hI
              refine v_iload_n (pc := 128) X (hd := dX7_run_128) (kk := ?_)
              refine v_sipush (pc := 129) X (v := nI 410) (hd := dX7_run_129) (kk := ?_)
              refine v_icmpge (pc := 132) X (tgt := 153) (hd := dX7_run_132) (kt := fun c132 => ?_) (kf := fun c132 => ?_)
              · refine v_aload_n (pc := 153) X (hd := dX7_run_153) (kk := ?_)
                refine v_iconst (pc := 154) X (v := nI 0) (hd := dX7_run_154) (kk := ?_)
                refine p_X7_102 (pc := 155) X (hd := dX7_run_155) (hh := (pset_n (by omega)).trans M6.1) (kk := ?_)
                refine v_aload_n (pc := 158) X (hd := dX7_run_158) (kk := ?_)
                refine g_X7_155 (pc := 159) X (hd := dX7_run_159) (hh := pset_s _ _ _) (kk := ?_)
                exact v_endi (pc := 162) X hr hlk (hd := dX7_run_162) (hf := ⟨((O5.tr O6).set (by omega) (by omega)).set (by omega) (by omega), _, _, _, _, _, _, Or.inl ⟨d1, rfl, fun q hq => by rw [cpA_l hq, cpA_l hq], (M6.sw _).sob⟩⟩)
              · exact absurd (Int32.le_refl _) c132
          · exact absurd (Int32.le_refl _) c87
      · have D6 : ∃ p, (aT te tn w re).1 = some p ∧ r33 = nI p := by
          rcases D5 with ⟨d1, d2, d3⟩ | D6
          · exact absurd d2 c45
          · exact D6
        obtain ⟨p, d1, rfl⟩ := D6
        refine v_iconst (pc := 48) X (v := nI 0) (hd := dX7_run_48) (kk := ?_)
        refine v_istore_n (pc := 49) X (hd := dX7_run_49) (kk := ?_)
        refine v_for (pc := 50) (M := 410) (Lf := fun i => [some (.ref m), some (.int (nI p)), some (.int (nI i)), none]) (I := fun i h1 => h1 = pset h39 (m + 1) (ai 1 410 (cpA (aT te tn w re).2.2.1 (cpA he w 410) i))) (h0 := by rw [cpA_0]; exact pset_id M4.2.1) (hL := by rfl) (step := ?_) (out := ?_)
        · intro i h2 hi hI kk
          subst hI
          refine v_iload_n (pc := 50) X (hd := dX7_run_50) (kk := ?_)
          refine v_sipush (pc := 51) X (v := nI 410) (hd := dX7_run_51) (kk := ?_)
          refine v_icmpge (pc := 54) X (tgt := 75) (hd := dX7_run_54) (kt := fun c54 => ?_) (kf := fun c54 => ?_)
          · exact absurd c54 (nI_ge hi (by omega))
          · refine v_aload_n (pc := 57) X (hd := dX7_run_57) (kk := ?_)
            refine g_X7_7 (pc := 58) X (hd := dX7_run_58) (hh := (pset_n (by omega)).trans M4.1) (kk := ?_)
            refine v_iload_n (pc := 61) X (hd := dX7_run_61) (kk := ?_)
            refine v_aload_n (pc := 62) X (hd := dX7_run_62) (kk := ?_)
            refine g_X7_16 (pc := 63) X (hd := dX7_run_63) (hh := (pset_n (by omega)).trans M4.1) (kk := ?_)
            refine v_iload_n (pc := 66) X (hd := dX7_run_66) (kk := ?_)
            refine v_ialdN (pc := 67) X (j := i) (hd := dX7_run_67) (hh := (pset_n (by omega)).trans M4.2.2.2.1) (hi := by first | rfl | (simp only [pk_mul, nI_add]; done)) (hj := by omega) (kk := ?_)
            refine v_iastN (pc := 68) X (j := i) (hd := dX7_run_68) (hh := pset_s _ _ _) (hi := by first | rfl | (simp only [pk_mul, nI_add]; done)) (hj := by omega) (kk := ?_)
            rw [pset_pset]
            refine v_iincN (pc := 69) X (hd := dX7_run_69) (kk := ?_)
            refine v_goto (pc := 72) X (tgt := 50) (hd := dX7_run_72) (kk := ?_)
            refine kk _ ?_
            rw [← cpA_s (aT te tn w re).2.2.1 (cpA he w 410) i]
        · intro h2 hI
          subst hI
          refine v_iload_n (pc := 50) X (hd := dX7_run_50) (kk := ?_)
          refine v_sipush (pc := 51) X (v := nI 410) (hd := dX7_run_51) (kk := ?_)
          refine v_icmpge (pc := 54) X (tgt := 75) (hd := dX7_run_54) (kt := fun c54 => ?_) (kf := fun c54 => ?_)
          · refine v_sipush (pc := 75) X (v := (-1000)) (hd := dX7_run_75) (kk := ?_)
            refine v_iload_n (pc := 78) X (hd := dX7_run_78) (kk := ?_)
            refine v_isub (pc := 79) X (hd := dX7_run_79) (kk := ?_)
            exact v_endi (pc := 80) X hr hlk (hd := dX7_run_80) (hf := ⟨O4.set (by omega) (by omega), _, _, _, _, _, _, Or.inr ⟨p, d1, rfl, fun q hq => by rw [cpA_l hq, cpA_l hq], M4.sw _⟩⟩)
          · exact absurd (Int32.le_refl _) c54
    · exact absurd (Int32.le_refl _) c6
