/-! a whole program -/
noncomputable def allF (te : Nat → Int32) (tn : Nat) : Nat → Nat → Nat → (Nat → Int32) → (Nat → Int32) → Option Nat × Nat × (Nat → Int32) × (Nat → Int32)
  | 0, n, _, w, nu => (none, n, w, nu)
  | f + 1, n, a, w, nu => if tokS te tn a < tn then (match oP te tn w nu (tokS te tn a) (tokE te tn a) with
      | none => allF te tn f (n + 1) (oA te tn (tokS te tn a) (tokE te tn a)) (DG (cmdN te (tokS te tn a) (tokE te tn a)) w (oN te tn nu (tokS te tn a) (tokE te tn a))) (oN te tn nu (tokS te tn a) (tokE te tn a))
      | some p => (some p, n, w, oN te tn nu (tokS te tn a) (tokE te tn a))) else (none, n, w, nu)
theorem allF_n {te : Nat → Int32} {tn f n a : Nat} {w nu : Nat → Int32} (h : ¬ tokS te tn a < tn) : allF te tn f n a w nu = (none, n, w, nu) := by
  cases f with
  | zero => rfl
  | succ f => exact if_neg h
theorem allF_c {te : Nat → Int32} {tn f n a : Nat} {w nu : Nat → Int32} (h : tokS te tn a < tn) (ho : oP te tn w nu (tokS te tn a) (tokE te tn a) = none) : allF te tn (f + 1) n a w nu = allF te tn f (n + 1) (oA te tn (tokS te tn a) (tokE te tn a)) (DG (cmdN te (tokS te tn a) (tokE te tn a)) w (oN te tn nu (tokS te tn a) (tokE te tn a))) (oN te tn nu (tokS te tn a) (tokE te tn a)) := by
  show (if tokS te tn a < tn then _ else _) = _
  rw [if_pos h, ho]
theorem allF_p {te : Nat → Int32} {tn f n a p : Nat} {w nu : Nat → Int32} (h : tokS te tn a < tn) (ho : oP te tn w nu (tokS te tn a) (tokE te tn a) = some p) : allF te tn (f + 1) n a w nu = (some p, n, w, oN te tn nu (tokS te tn a) (tokE te tn a)) := by
  show (if tokS te tn a < tn then _ else _) = _
  rw [if_pos h, ho]
theorem oP_k {te : Nat → Int32} {tn s e : Nat} {w nu : Nat → Int32} (h : oP te tn w nu s e = none) : DK (cmdN te s e) w (oN te tn nu s e) := by
  unfold oP at h
  split at h
  · cases h
  · rename_i h0
    split at h
    · cases h
    · rename_i h1
      split at h
      · cases h
      · split at h
        · rename_i hk
          unfold oN
          have := gdN_le te tn e (cntN (cmdN te s e))
          rw [if_neg h0, show gdN te tn e (cntN (cmdN te s e)) = cntN (cmdN te s e) by omega]
          exact hk
        · cases h
theorem oA_b {te : Nat → Int32} {tn a : Nat} (ha : a ≤ tn) (h : tokS te tn a < tn) : a < oA te tn (tokS te tn a) (tokE te tn a) ∧ oA te tn (tokS te tn a) (tokE te tn a) ≤ tn := by
  have h1 := tokE_b (te := te) ha
  have h2 := tokS_p (te := te) ha
  have h3 := EE_b (te := te) h1.2.1 (cntN (cmdN te (tokS te tn a) (tokE te tn a)) + 1)
  unfold oA
  omega
theorem allF_keep {te : Nat → Int32} {tn : Nat} : ∀ f n a w nu, IE w → IE (allF te tn f n a w nu).2.2.1 ∧ ∀ q, 136 ≤ q → (allF te tn f n a w nu).2.2.1 q = w q := by
  intro f
  induction f with
  | zero => intro n a w nu I; exact ⟨I, fun q _ => rfl⟩
  | succ f ih =>
    intro n a w nu I
    by_cases h : tokS te tn a < tn
    · cases ho : oP te tn w nu (tokS te tn a) (tokE te tn a) with
      | none =>
        rw [allF_c h ho]
        have hk := oP_k ho
        obtain ⟨i1, i2⟩ := ih (n + 1) (oA te tn (tokS te tn a) (tokE te tn a)) (DG (cmdN te (tokS te tn a) (tokE te tn a)) w (oN te tn nu (tokS te tn a) (tokE te tn a))) (oN te tn nu (tokS te tn a) (tokE te tn a)) (dIE I hk)
        exact ⟨i1, fun q hq => (i2 q hq).trans (dHi I hk q hq)⟩
      | some p => rw [allF_p h ho]; exact ⟨I, fun q _ => rfl⟩
    · rw [allF_n h]; exact ⟨I, fun q _ => rfl⟩
theorem allF_fst {te : Nat → Int32} {tn : Nat} : ∀ f n a w nu, a ≤ tn → n ≤ a → (∀ p, (allF te tn f n a w nu).1 = some p → p ≤ tn) ∧ (allF te tn f n a w nu).2.1 ≤ tn := by
  intro f
  induction f with
  | zero => intro n a w nu ha hn; exact ⟨fun p h => (by cases h), Nat.le_trans hn ha⟩
  | succ f ih =>
    intro n a w nu ha hn
    by_cases h : tokS te tn a < tn
    · cases ho : oP te tn w nu (tokS te tn a) (tokE te tn a) with
      | none =>
        rw [allF_c h ho]
        have hb := oA_b ha h
        exact ih _ _ _ _ hb.2 (by omega)
      | some p =>
        rw [allF_p h ho]
        exact ⟨fun p1 h1 => (by cases h1; exact oP_le (by omega) (tokE_b (te := te) ha).2.1 ho), Nat.le_trans hn ha⟩
    · rw [allF_n h]; exact ⟨fun p h => (by cases h), Nat.le_trans hn ha⟩
noncomputable def aT (te : Nat → Int32) (tn : Nat) (w nu : Nat → Int32) : Option Nat × Nat × (Nat → Int32) × (Nat → Int32) := allF te tn tn 0 0 w nu
theorem neg_k {p : Nat} (h : p ≤ 140) : nI 0 - nI 1000 - nI p < 0 ∧ (-1000 : Int32) - nI p < 0 := by
  have e : (nI 0 - nI 1000 - nI p).toInt = -1000 - p := by
    rw [Int32.toInt_sub, Int32.toInt_sub, nI_toInt (by omega), nI_toInt (by omega), nI_toInt (by omega)]
    simp only [Int.bmod_def]
    omega
  have e2 : (-1000 : Int32) = nI 0 - nI 1000 := by decide +kernel
  refine ⟨?_, ?_⟩
  · rw [n_lt, e, Int32.toInt_zero]; omega
  · rw [e2, n_lt, e, Int32.toInt_zero]; omega
theorem nI_n1 {k : Nat} (h : k < 2 ^ 31) : ¬ nI k = -1 := fun q => n_nn h (by rw [q]; decide)
set_option maxRecDepth 100000 in
set_option maxHeartbeats 4000000 in
theorem c_X3_runOn (l : Launch) (E : pE) (x tn a0 : Nat) (te w0 nu0 : Nat → Int32) (st en : Int32) : pC l E yX3_runOn cX3_runOn 4 (some .int) { frames := 7, cells := 0, slots := 0, locals := 152 } 0 0 [.ref (x + 212), .ref a0] (fun h _ => KP x tn te st en nu0 h ∧ TX te tn ∧ PA a0 w0 h ∧ IE w0 ∧ (a0 + 34 ≤ x + 212 ∨ x + 215 ≤ a0)) (pFi (fun h r h' => (∀ q, (q < a0 ∨ a0 + 34 ≤ q) → q ≠ x + 212 → q ≠ x + 214 → h' q = h q) ∧ ∃ st1 en1, KP x tn te st1 en1 (aT te tn w0 nu0).2.2.2 h' ∧ PA a0 (aT te tn w0 nu0).2.2.1 h' ∧ (((aT te tn w0 nu0).1 = none ∧ r = nI (aT te tn w0 nu0).2.1) ∨ (∃ p, (aT te tn w0 nu0).1 = some p ∧ r = -1000 - nI p)))) := by
  refine pC_of (by decide) (by simp [Value.category]) (Nat.le_of_ble_eq_true rfl) ?_
  intro h z hp p__ e__ s__ m__ args__ below__ meth__ c__ X hr hlk hname
  obtain ⟨hK, hT, hP, I, hdis⟩ := hp
  have h140 := hT.1
  have K : ∀ (d n1 a f : Nat) (w nu : Nat → Int32) (st1 : Int32) (h1 : pH), tn - a ≤ d → tn - a ≤ f → n1 ≤ a → a ≤ tn → IE w → KP x tn te st1 (nI a) nu h1 → PA a0 w h1 → (∀ q, (q < a0 ∨ a0 + 34 ≤ q) → q ≠ x + 212 → q ≠ x + 214 → h1 q = h q) → allF te tn f n1 a w nu = allF te tn tn 0 0 w0 nu0 → (pV p__ l e__ { frames := 7, cells := 0, slots := 0, locals := 152 } s__ m__ args__ below__ meth__ c__ 4 E (pA h z) (MQ below__ (pQ E (pFi (fun h r h' => (∀ q, (q < a0 ∨ a0 + 34 ≤ q) → q ≠ x + 212 → q ≠ x + 214 → h' q = h q) ∧ ∃ st1 en1, KP x tn te st1 en1 (aT te tn w0 nu0).2.2.2 h' ∧ PA a0 (aT te tn w0 nu0).2.2.1 h' ∧ (((aT te tn w0 nu0).1 = none ∧ r = nI (aT te tn w0 nu0).2.1) ∨ (∃ p, (aT te tn w0 nu0).1 = some p ∧ r = -1000 - nI p)))) h z) args__ s__ 0 0 (pA h z)) z h1 0 0 7 [some (.ref (x + 212)), some (.ref a0), some (.int (nI n1)), none] []) := by
    intro d
    induction d using Nat.strongRecOn with
    | _ d ih =>
    intro n1 a f w nu st1 h1 hd hf hn1 ha I K1 P1 O1 eT
    refine v_iload_n (pc := 7) X (hd := dX3_runOn_7) (kk := ?_)
    refine v_sipush (pc := 8) X (v := nI 140) (hd := dX3_runOn_8) (kk := ?_)
    refine v_icmpge (pc := 11) X (tgt := 54) (hd := dX3_runOn_11) (kt := fun c11 => ?_) (kf := fun c11 => ?_)
    · have hn140 : n1 = 140 := by
        rcases Nat.lt_or_ge n1 140 with q | q
        · exact absurd c11 (nI_ge q (by omega))
        · omega
      refine v_sipush (pc := 54) X (v := nI 140) (hd := dX3_runOn_54) (kk := ?_)
      exact v_endi (pc := 57) X hr hlk (hd := dX3_runOn_57) (hf := by
      have he : ¬ tokS te tn a < tn := by have := (tokS_p (te := te) ha).1; omega
      rw [allF_n he] at eT
      subst hn140
      unfold aT
      rw [← eT]
      exact ⟨O1, _, _, K1, P1, Or.inl ⟨rfl, rfl⟩⟩)
    · refine v_aload_n (pc := 14) X (hd := dX3_runOn_14) (kk := ?_)
      refine v_callVv (pc := 15) X (hd := dX3_runOn_15) (w := wv_X3_33) (hC := c_X3_readToken l E x tn a te st1 nu) (hp := ⟨K1, hT, ha⟩) (hb := K1.1) (kk := fun h15 q15 => ?_)
      obtain ⟨K2, F2⟩ := q15
      have P2 := P1.off (h1 := h15) (fun p h3 h4 => F2 p (by omega))
      have O2 : (∀ q, (q < a0 ∨ a0 + 34 ≤ q) → q ≠ x + 212 → q ≠ x + 214 → h15 q = h q) := fun q h3 h4 h5 => (F2 q h4).trans (O1 q h3 h4 h5)
      have tB := tokE_b (te := te) ha
      have tS := tokS_p (te := te) ha
      refine v_aload_n (pc := 18) X (hd := dX3_runOn_18) (kk := ?_)
      refine g_X3_19 (pc := 19) X (hd := dX3_runOn_19) (hh := K2.1) (kk := ?_)
      refine v_aload_n (pc := 22) X (hd := dX3_runOn_22) (kk := ?_)
      refine g_X3_15 (pc := 23) X (hd := dX3_runOn_23) (hh := K2.1) (kk := ?_)
      refine v_icmplt (pc := 26) X (tgt := 31) (hd := dX3_runOn_26) (kt := fun c26 => ?_) (kf := fun c26 => ?_)
      · have hs : (tokS te tn a) < tn := (nI_ltI (by omega) (by omega)).mp c26
        refine v_aload_n (pc := 31) X (hd := dX3_runOn_31) (kk := ?_)
        refine v_aload_n (pc := 32) X (hd := dX3_runOn_32) (kk := ?_)
        refine v_callVi (pc := 33) X (hd := dX3_runOn_33) (w := wv_X3_36) (hC := c_X3_runCommand l E x tn a0 (tokS te tn a) (tokE te tn a) te nu w) (hp := ⟨K2, hT, tB.2.2 hs, tB.2.1, P2, I, hdis⟩) (hb := K2.1) (kk := fun r33 h33 q33 => ?_)
        obtain ⟨F3, st3, en3, K3, D3⟩ := q33
        have O3 : (∀ q, (q < a0 ∨ a0 + 34 ≤ q) → q ≠ x + 212 → q ≠ x + 214 → h33 q = h q) := fun q h3 h4 h5 => (F3 q h3 h4 h5).trans (O2 q h3 h4 h5)
        obtain ⟨f1, rfl⟩ : ∃ f1, f = f1 + 1 := ⟨f - 1, by omega⟩
        refine v_istore_n (pc := 36) X (hd := dX3_runOn_36) (kk := ?_)
        refine v_iload_n (pc := 37) X (hd := dX3_runOn_37) (kk := ?_)
        refine v_iconst (pc := 38) X (v := (-1)) (hd := dX3_runOn_38) (kk := ?_)
        refine v_icmpeq (pc := 39) X (tgt := 48) (hd := dX3_runOn_39) (kt := fun c39 => ?_) (kf := fun c39 => ?_)
        · have D4 : oP te tn w nu (tokS te tn a) (tokE te tn a) = none ∧ en3 = nI (oA te tn (tokS te tn a) (tokE te tn a)) ∧ PA a0 (DG (cmdN te (tokS te tn a) (tokE te tn a)) w (oN te tn nu (tokS te tn a) (tokE te tn a))) h33 := by
            rcases D3 with ⟨d1, d2, d3, d4⟩ | ⟨p, d1, d2, d3, d4⟩
            · exact ⟨d1, d3, d4⟩
            · rw [d3] at c39; exact absurd c39 (nI_n1 (by omega))
          obtain ⟨d1, rfl, d4⟩ := D4
          have hb := oA_b ha hs
          refine v_iincN (pc := 48) X (hd := dX3_runOn_48) (kk := ?_)
          refine v_goto (pc := 51) X (tgt := 7) (hd := dX3_runOn_51) (kk := ?_)
          refine v_sub [some (.ref (x + 212)), some (.ref a0), some (.int (nI (n1 + 1))), none] (by intro i v hv; match i, hv with | 0, hv => exact hv | 1, hv => exact hv | 2, hv => exact hv | 3, hv => simp at hv) ?_
          rw [allF_c hs d1] at eT
          exact ih (tn - oA te tn (tokS te tn a) (tokE te tn a)) (by omega) _ _ _ _ _ _ _ (Nat.le_refl _) (by omega) (by omega) hb.2 (dIE I (oP_k d1)) K3 d4 O3 eT
        · have D4 : ∃ p, oP te tn w nu (tokS te tn a) (tokE te tn a) = some p ∧ p ≤ tn ∧ r33 = nI p ∧ PA a0 w h33 := by
            rcases D3 with ⟨d1, d2, d3, d4⟩ | D4
            · exact absurd d2 c39
            · exact D4
          obtain ⟨p, d1, d2, rfl, d4⟩ := D4
          rw [allF_p hs d1] at eT
          refine v_sipush (pc := 42) X (v := (-1000)) (hd := dX3_runOn_42) (kk := ?_)
          refine v_iload_n (pc := 45) X (hd := dX3_runOn_45) (kk := ?_)
          refine v_isub (pc := 46) X (hd := dX3_runOn_46) (kk := ?_)
          exact v_endi (pc := 47) X hr hlk (hd := dX3_runOn_47) (hf := by
      unfold aT
      rw [← eT]
      exact ⟨O3, _, _, K3, d4, Or.inr ⟨p, rfl, rfl⟩⟩)
      · have hs : ¬ (tokS te tn a) < tn := fun q => c26 (nI_lt q (by omega))
        refine v_iload_n (pc := 29) X (hd := dX3_runOn_29) (kk := ?_)
        exact v_endi (pc := 30) X hr hlk (hd := dX3_runOn_30) (hf := by
      rw [allF_n hs] at eT
      unfold aT
      rw [← eT]
      exact ⟨O2, _, _, K2, P2, Or.inl ⟨rfl, rfl⟩⟩)
  refine v_aload_n (pc := 0) X (hd := dX3_runOn_0) (kk := ?_)
  refine v_iconst (pc := 1) X (v := nI 0) (hd := dX3_runOn_1) (kk := ?_)
  refine p_X3_22 (pc := 2) X (hd := dX3_runOn_2) (hh := hK.1) (kk := ?_)
  refine v_iconst (pc := 5) X (v := nI 0) (hd := dX3_runOn_5) (kk := ?_)
  refine v_istore_n (pc := 6) X (hd := dX3_runOn_6) (kk := ?_)
  exact K tn 0 0 tn w0 nu0 _ _ (by omega) (by omega) (Nat.le_refl _) (Nat.zero_le _) I ⟨pset_s _ _ _, (pset_n (by omega)).trans hK.2.1, (pset_n (by omega)).trans hK.2.2⟩ (hP.off (fun p h3 h4 => pset_n (by omega))) (fun q h1 h2 h3 => pset_n h2) rfl
set_option maxRecDepth 100000 in
set_option maxHeartbeats 4000000 in
theorem c_X7_readsAll (l : Launch) (E : pE) (m : Nat) (w0 pa he te re0 : Nat → Int32) (np tn : Nat) (at_ st ki co : Int32) : pC l E yX7_readsAll cX7_readsAll 2 (some .int) { frames := 8, cells := 0, slots := 0, locals := 185 } 0 0 [.ref m] (fun h _ => MD m w0 pa he te re0 (nI np) (bI (true = true)) (nI tn) at_ st ki co h ∧ TX te tn ∧ IE w0 ∧ np ≤ 5) (pFi (fun h r h' => pO m (m + 6) h h' ∧ (((aT te tn w0 re0).1 = none ∧ r = -9 ∧ ∃ at1 st1 ki1, MD m (aT te tn w0 re0).2.2.1 pa he te (aT te tn w0 re0).2.2.2 (nI np) (bI (true = true)) (nI tn) at1 st1 ki1 (nI (aT te tn w0 re0).2.1) h') ∨ (∃ p, (aT te tn w0 re0).1 = some p ∧ r = nI p ∧ ∃ at1 st1 ki1 co1, MD m (aT te tn w0 re0).2.2.1 pa he te (aT te tn w0 re0).2.2.2 (nI np) (bI (true = true)) (nI tn) at1 st1 ki1 co1 h')))) := by
  refine pC_of (by decide) (by simp [Value.category]) (Nat.le_of_ble_eq_true rfl) ?_
  intro h z hp p__ e__ s__ m__ args__ below__ meth__ c__ X hr hlk hname
  obtain ⟨hM, hT, I, hnp⟩ := hp
  have h140 := hT.1
  have K : ∀ (d n1 a f : Nat) (w re : Nat → Int32) (h1 : pH), tn - a ≤ d → tn - a ≤ f → n1 ≤ a → a ≤ tn → IE w → MD m w pa he te re (nI np) (bI (true = true)) (nI tn) (nI (tokE te tn a)) (nI (tokS te tn a)) (kiV te tn (tokS te tn a)) (nI n1) h1 → pO m (m + 6) h h1 → allF te tn f n1 a w re = allF te tn tn 0 0 w0 re0 → (pV p__ l e__ { frames := 8, cells := 0, slots := 0, locals := 185 } s__ m__ args__ below__ meth__ c__ 2 E (pA h z) (MQ below__ (pQ E (pFi (fun h r h' => pO m (m + 6) h h' ∧ (((aT te tn w0 re0).1 = none ∧ r = -9 ∧ ∃ at1 st1 ki1, MD m (aT te tn w0 re0).2.2.1 pa he te (aT te tn w0 re0).2.2.2 (nI np) (bI (true = true)) (nI tn) at1 st1 ki1 (nI (aT te tn w0 re0).2.1) h') ∨ (∃ p, (aT te tn w0 re0).1 = some p ∧ r = nI p ∧ ∃ at1 st1 ki1 co1, MD m (aT te tn w0 re0).2.2.1 pa he te (aT te tn w0 re0).2.2.2 (nI np) (bI (true = true)) (nI tn) at1 st1 ki1 co1 h')))) h z) args__ s__ 0 0 (pA h z)) z h1 0 0 14 [some (.ref m), none] []) := by
    intro d
    induction d using Nat.strongRecOn with
    | _ d ih =>
    intro n1 a f w re h1 hd hf hn1 ha I M1 O1 eT
    have tB := tokE_b (te := te) ha
    have tS := tokS_p (te := te) ha
    refine v_aload_n (pc := 14) X (hd := dX7_readsAll_14) (kk := ?_)
    refine g_X7_114 (pc := 15) X (hd := dX7_readsAll_15) (hh := M1.1) (kk := ?_)
    refine v_iflt (pc := 18) X (tgt := 51) (hd := dX7_readsAll_18) (kt := fun c18 => ?_) (kf := fun c18 => ?_)
    · have hs : ¬ (tokS te tn a) < tn := fun q => by unfold kiV at c18; rw [if_pos q] at c18; exact kR_nn (hT.2 _ q) c18
      refine v_bipush (pc := 51) X (v := (-9)) (hd := dX7_readsAll_51) (kk := ?_)
      exact v_endi (pc := 53) X hr hlk (hd := dX7_readsAll_53) (hf := by
      rw [allF_n hs] at eT
      unfold aT
      rw [← eT]
      exact ⟨O1, Or.inl ⟨rfl, rfl, _, _, _, M1⟩⟩)
    · have hs : (tokS te tn a) < tn := Classical.byContradiction fun q => by unfold kiV at c18; rw [if_neg q] at c18; exact c18 (by decide)
      refine v_aload_n (pc := 21) X (hd := dX7_readsAll_21) (kk := ?_)
      refine v_callVi (pc := 22) X (hd := dX7_readsAll_22) (w := wv_X7_158) (hC := c_X7_readsOne l E m w pa he te re np tn (tokS te tn a) (tokE te tn a) (nI n1)) (hp := ⟨M1, hT, tB.2.2 hs, tB.2.1, I, hnp⟩) (hb := M1.1) (kk := fun r22 h22 q22 => ?_)
      obtain ⟨O2, D3⟩ := q22
      obtain ⟨f1, rfl⟩ : ∃ f1, f = f1 + 1 := ⟨f - 1, by omega⟩
      refine v_istore_n (pc := 25) X (hd := dX7_readsAll_25) (kk := ?_)
      refine v_iload_n (pc := 26) X (hd := dX7_readsAll_26) (kk := ?_)
      refine v_bipush (pc := 27) X (v := (-9)) (hd := dX7_readsAll_27) (kk := ?_)
      refine v_icmpeq (pc := 29) X (tgt := 34) (hd := dX7_readsAll_29) (kt := fun c29 => ?_) (kf := fun c29 => ?_)
      · have D4 : oP te tn w re (tokS te tn a) (tokE te tn a) = none ∧ ∃ st1 ki1, MD m (DG (cmdN te (tokS te tn a) (tokE te tn a)) w (oN te tn re (tokS te tn a) (tokE te tn a))) pa he te (oN te tn re (tokS te tn a) (tokE te tn a)) (nI np) (bI (true = true)) (nI tn) (nI (oA te tn (tokS te tn a) (tokE te tn a))) st1 ki1 (nI n1) h22 := by
          rcases D3 with ⟨d1, d2, d3⟩ | ⟨p, d1, d2, d3, d4⟩
          · exact ⟨d1, d3⟩
          · rw [d3] at c29; exact absurd c29 (nI_n9 (by omega))
        obtain ⟨d1, st2, ki2, M2⟩ := D4
        obtain ⟨N0, N1, N2, N3, N4, N5⟩ := M2
        have hb := oA_b ha hs
        refine v_aload_n (pc := 34) X (hd := dX7_readsAll_34) (kk := ?_)
        refine v_dup (pc := 35) X (hd := dX7_readsAll_35) (kk := ?_)
        refine g_X7_155 (pc := 36) X (hd := dX7_readsAll_36) (hh := N0) (kk := ?_)
        refine v_iconst (pc := 39) X (v := nI 1) (hd := dX7_readsAll_39) (kk := ?_)
        refine v_iadd (pc := 40) X (hd := dX7_readsAll_40) (kk := ?_)
        refine p_X7_155 (pc := 41) X (hd := dX7_readsAll_41) (hh := N0) (kk := ?_)
        rw [nI_add]
        refine v_aload_n (pc := 44) X (hd := dX7_readsAll_44) (kk := ?_)
        refine v_callVv (pc := 45) X (hd := dX7_readsAll_45) (w := wv_X7_121) (hC := c_X7_token l E m (DG (cmdN te (tokS te tn a) (tokE te tn a)) w (oN te tn re (tokS te tn a) (tokE te tn a))) pa he te (oN te tn re (tokS te tn a) (tokE te tn a)) _ _ tn (oA te tn (tokS te tn a) (tokE te tn a)) st2 ki2 (nI (n1 + 1))) (hp := ⟨MD.sob ⟨N0, N1, N2, N3, N4, N5⟩, hT, hb.2⟩) (hb := pset_s _ _ _) (kk := fun h45 q45 => ?_)
        obtain ⟨M3, F3⟩ := q45
        have O3 : pO m (m + 6) h h45 := fun q hq => (F3 q (by omega)).trans ((pset_n (by omega)).trans ((O2 q hq).trans (O1 q hq)))
        refine v_goto (pc := 48) X (tgt := 14) (hd := dX7_readsAll_48) (kk := ?_)
        refine v_sub [some (.ref m), none] (by intro i v hv; match i, hv with | 0, hv => exact hv | 1, hv => simp at hv) ?_
        rw [allF_c hs d1] at eT
        exact ih (tn - oA te tn (tokS te tn a) (tokE te tn a)) (by omega) _ _ _ _ _ _ (Nat.le_refl _) (by omega) (by omega) hb.2 (dIE I (oP_k d1)) M3 O3 eT
      · have D4 : ∃ p, oP te tn w re (tokS te tn a) (tokE te tn a) = some p ∧ p ≤ tn ∧ r22 = nI p ∧ ∃ at1 st1 ki1, MD m w pa he te (oN te tn re (tokS te tn a) (tokE te tn a)) (nI np) (bI (true = true)) (nI tn) at1 st1 ki1 (nI n1) h22 := by
          rcases D3 with ⟨d1, d2, d3⟩ | D4
          · exact absurd d2 c29
          · exact D4
        obtain ⟨p, d1, d2, rfl, at2, st2, ki2, M2⟩ := D4
        rw [allF_p hs d1] at eT
        refine v_iload_n (pc := 32) X (hd := dX7_readsAll_32) (kk := ?_)
        exact v_endi (pc := 33) X hr hlk (hd := dX7_readsAll_33) (hf := by
      unfold aT
      rw [← eT]
      exact ⟨O1.tr O2, Or.inr ⟨p, rfl, rfl, _, _, _, _, M2⟩⟩)
  refine v_aload_n (pc := 0) X (hd := dX7_readsAll_0) (kk := ?_)
  refine v_iconst (pc := 1) X (v := nI 0) (hd := dX7_readsAll_1) (kk := ?_)
  refine p_X7_155 (pc := 2) X (hd := dX7_readsAll_2) (hh := hM.1) (kk := ?_)
  refine v_aload_n (pc := 5) X (hd := dX7_readsAll_5) (kk := ?_)
  refine v_iconst (pc := 6) X (v := nI 0) (hd := dX7_readsAll_6) (kk := ?_)
  refine p_X7_105 (pc := 7) X (hd := dX7_readsAll_7) (hh := pset_s _ _ _) (kk := ?_)
  refine v_aload_n (pc := 10) X (hd := dX7_readsAll_10) (kk := ?_)
  refine v_callVv (pc := 11) X (hd := dX7_readsAll_11) (w := wv_X7_121) (hC := c_X7_token l E m w0 pa he te re0 _ _ tn 0 st ki (nI 0)) (hp := ⟨MD.sob (MD.sob hM), hT, Nat.zero_le _⟩) (hb := pset_s _ _ _) (kk := fun h11 q11 => ?_)
  obtain ⟨M3, F3⟩ := q11
  exact K tn 0 0 tn w0 re0 _ (by omega) (by omega) (Nat.le_refl _) (Nat.zero_le _) I M3 (fun q hq => (F3 q (by omega)).trans ((pset_n (by omega)).trans (pset_n (by omega)))) rfl
