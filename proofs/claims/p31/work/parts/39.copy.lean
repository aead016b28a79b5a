/-! copies -/
def cpA (f g : Nat → Int32) (n : Nat) : Nat → Int32 := fun i => if i < n then g i else f i
theorem cpA_0 (f g : Nat → Int32) : cpA f g 0 = f := by
  funext k
  unfold cpA
  rw [if_neg (by omega)]
theorem cpA_s (f g : Nat → Int32) (i : Nat) : upd (cpA f g i) i (g i) = cpA f g (i + 1) := by
  funext k
  rw [upd_at]
  unfold cpA
  by_cases e : k = i
  · rw [if_pos e, if_pos (by omega), e]
  · rw [if_neg e]
    by_cases e2 : k < i
    · rw [if_pos e2, if_pos (by omega)]
    · rw [if_neg e2, if_neg (by omega)]
theorem cpA_l {f g : Nat → Int32} {n i : Nat} (h : i < n) : cpA f g n i = g i := if_pos h
theorem nar_b {x : Int32} (h : x = 0 ∨ x = 1) : vp_nar FieldType.boolean x = x := by
  rcases h with rfl | rfl <;> decide +kernel
set_option maxRecDepth 100000 in
set_option maxHeartbeats 4000000 in
theorem c_X0_copyFrom (l : Launch) (E : pE) (a ga ca a2 ga2 ca2 : Nat) (x0 x1 x2 x3 x4 x5 y0 y1 y2 y3 y4 y5 : Int32) (g g2 c c2 : Nat → Int32) : pC l E yX0_copyFrom cX0_copyFrom 3 none { frames := 0, cells := 0, slots := 0, locals := 0 } 0 0 [.ref a, .ref a2] (fun h _ => (h a = some (ob 0 [.int x0, .int x1, .int x2, .int x3, .int x4, .int x5, .ref ga, .ref ca]) ∧ h ga = some (ai 2 6 g) ∧ h ca = some (ai 1 6 c)) ∧ (h a2 = some (ob 0 [.int y0, .int y1, .int y2, .int y3, .int y4, .int y5, .ref ga2, .ref ca2]) ∧ h ga2 = some (ai 2 6 g2) ∧ h ca2 = some (ai 1 6 c2)) ∧ (∀ i, i < 6 → (g2 i = 0 ∨ g2 i = 1)) ∧ (a ≠ ga ∧ a ≠ ca ∧ ga ≠ ca ∧ a2 ≠ a ∧ a2 ≠ ga ∧ a2 ≠ ca ∧ ga2 ≠ a ∧ ga2 ≠ ga ∧ ga2 ≠ ca ∧ ca2 ≠ a ∧ ca2 ≠ ga ∧ ca2 ≠ ca)) (pFv (fun h h' => h' a = some (ob 0 [.int y0, .int y1, .int y2, .int y3, .int y4, .int y5, .ref ga, .ref ca]) ∧ h' ga = some (ai 2 6 (cpA g g2 6)) ∧ h' ca = some (ai 1 6 (cpA c c2 6)) ∧ ∀ q, q ≠ a → q ≠ ga → q ≠ ca → h' q = h q)) := by
  refine pC_of (by decide) (by simp [Value.category]) (Nat.le_of_ble_eq_true rfl) ?_
  intro h z hp p__ e__ s__ m__ args__ below__ meth__ c__ X hr hlk hname
  obtain ⟨⟨hp1, hp2, hp3⟩, ⟨hq1, hq2, hq3⟩, hb, hne⟩ := hp
  refine v_aload_n (pc := 0) X (hd := dX0_copyFrom_0) (kk := ?_)
  refine v_aload_n (pc := 1) X (hd := dX0_copyFrom_1) (kk := ?_)
  refine g_X0_9 (pc := 2) X (hd := dX0_copyFrom_2) (hh := by first | assumption | exact pset_s _ _ _ | exact (pset_n (by omega)).trans (by assumption)) (kk := ?_)
  refine p_X0_9 (pc := 5) X (hd := dX0_copyFrom_5) (hh := by first | assumption | exact pset_s _ _ _ | exact (pset_n (by omega)).trans (by assumption)) (kk := ?_)
  refine v_aload_n (pc := 8) X (hd := dX0_copyFrom_8) (kk := ?_)
  refine v_aload_n (pc := 9) X (hd := dX0_copyFrom_9) (kk := ?_)
  refine g_X0_15 (pc := 10) X (hd := dX0_copyFrom_10) (hh := by first | assumption | exact pset_s _ _ _ | exact (pset_n (by omega)).trans (by assumption)) (kk := ?_)
  refine p_X0_15 (pc := 13) X (hd := dX0_copyFrom_13) (hh := by first | assumption | exact pset_s _ _ _ | exact (pset_n (by omega)).trans (by assumption)) (kk := ?_)
  rw [pset_pset]
  refine v_aload_n (pc := 16) X (hd := dX0_copyFrom_16) (kk := ?_)
  refine v_aload_n (pc := 17) X (hd := dX0_copyFrom_17) (kk := ?_)
  refine g_X0_18 (pc := 18) X (hd := dX0_copyFrom_18) (hh := by first | assumption | exact pset_s _ _ _ | exact (pset_n (by omega)).trans (by assumption)) (kk := ?_)
  refine p_X0_18 (pc := 21) X (hd := dX0_copyFrom_21) (hh := by first | assumption | exact pset_s _ _ _ | exact (pset_n (by omega)).trans (by assumption)) (kk := ?_)
  rw [pset_pset]
  refine v_aload_n (pc := 24) X (hd := dX0_copyFrom_24) (kk := ?_)
  refine v_aload_n (pc := 25) X (hd := dX0_copyFrom_25) (kk := ?_)
  refine g_X0_21 (pc := 26) X (hd := dX0_copyFrom_26) (hh := by first | assumption | exact pset_s _ _ _ | exact (pset_n (by omega)).trans (by assumption)) (kk := ?_)
  refine p_X0_21 (pc := 29) X (hd := dX0_copyFrom_29) (hh := by first | assumption | exact pset_s _ _ _ | exact (pset_n (by omega)).trans (by assumption)) (kk := ?_)
  rw [pset_pset]
  refine v_aload_n (pc := 32) X (hd := dX0_copyFrom_32) (kk := ?_)
  refine v_aload_n (pc := 33) X (hd := dX0_copyFrom_33) (kk := ?_)
  refine g_X0_24 (pc := 34) X (hd := dX0_copyFrom_34) (hh := by first | assumption | exact pset_s _ _ _ | exact (pset_n (by omega)).trans (by assumption)) (kk := ?_)
  refine p_X0_24 (pc := 37) X (hd := dX0_copyFrom_37) (hh := by first | assumption | exact pset_s _ _ _ | exact (pset_n (by omega)).trans (by assumption)) (kk := ?_)
  rw [pset_pset]
  refine v_aload_n (pc := 40) X (hd := dX0_copyFrom_40) (kk := ?_)
  refine v_aload_n (pc := 41) X (hd := dX0_copyFrom_41) (kk := ?_)
  refine g_X0_27 (pc := 42) X (hd := dX0_copyFrom_42) (hh := by first | assumption | exact pset_s _ _ _ | exact (pset_n (by omega)).trans (by assumption)) (kk := ?_)
  refine p_X0_27 (pc := 45) X (hd := dX0_copyFrom_45) (hh := by first | assumption | exact pset_s _ _ _ | exact (pset_n (by omega)).trans (by assumption)) (kk := ?_)
  rw [pset_pset]
  refine v_gen (P := fun h9 => h9 a = some (ob 0 [.int y0, .int y1, .int y2, .int y3, .int y4, .int y5, .ref ga, .ref ca]) ∧ ∀ q, q ≠ a → h9 q = h q) ⟨pset_s _ _ _, fun q hq => pset_n hq⟩ (fun h45 q45 => ?_)
  obtain ⟨B1, B2⟩ := q45
  refine v_iconst (pc := 48) X (v := nI 0) (hd := dX0_copyFrom_48) (kk := ?_)
  refine v_istore_n (pc := 49) X (hd := dX0_copyFrom_49) (kk := ?_)
  refine v_for (pc := 50) (M := 6) (Lf := fun i => [some (.ref a), some (.ref a2), some (.int (nI i))]) (I := fun i h1 => h1 a = some (ob 0 [.int y0, .int y1, .int y2, .int y3, .int y4, .int y5, .ref ga, .ref ca]) ∧ h1 ga = some (ai 2 6 (cpA g g2 i)) ∧ h1 ca = some (ai 1 6 (cpA c c2 i)) ∧ ∀ q, q ≠ a → q ≠ ga → q ≠ ca → h1 q = h q) (h0 := ⟨B1, by rw [cpA_0]; exact (B2 _ (by omega)).trans hp2, by rw [cpA_0]; exact (B2 _ (by omega)).trans hp3, fun q h1 _ _ => B2 q h1⟩) (hL := by rfl) (step := ?_) (out := ?_)
  · intro i h2 hi hI kk
    obtain ⟨C1, C2, C3, C4⟩ := hI
    refine v_iload_n (pc := 50) X (hd := dX0_copyFrom_50) (kk := ?_)
    refine v_bipush (pc := 51) X (v := nI 6) (hd := dX0_copyFrom_51) (kk := ?_)
    refine v_icmpge (pc := 53) X (tgt := 86) (hd := dX0_copyFrom_53) (kt := fun c53 => ?_) (kf := fun c53 => ?_)
    · exact absurd c53 (nI_ge hi (by omega))
    · refine v_aload_n (pc := 56) X (hd := dX0_copyFrom_56) (kk := ?_)
      refine g_X0_30 (pc := 57) X (hd := dX0_copyFrom_57) (hh := C1) (kk := ?_)
      refine v_iload_n (pc := 60) X (hd := dX0_copyFrom_60) (kk := ?_)
      refine v_aload_n (pc := 61) X (hd := dX0_copyFrom_61) (kk := ?_)
      refine g_X0_30 (pc := 62) X (hd := dX0_copyFrom_62) (hh := (C4 _ (by omega) (by omega) (by omega)).trans hq1) (kk := ?_)
      refine v_iload_n (pc := 65) X (hd := dX0_copyFrom_65) (kk := ?_)
      refine v_zaldN (pc := 66) X (j := i) (hd := dX0_copyFrom_66) (hh := (C4 _ (by omega) (by omega) (by omega)).trans hq2) (hi := by first | rfl | (simp only [pk_mul, nI_add]; done)) (hj := by omega) (kk := ?_)
      refine v_zastN (pc := 67) X (j := i) (hd := dX0_copyFrom_67) (hh := C2) (hi := by first | rfl | (simp only [pk_mul, nI_add]; done)) (hj := by omega) (hx := nar_b (hb i hi)) (kk := ?_)
      refine v_aload_n (pc := 68) X (hd := dX0_copyFrom_68) (kk := ?_)
      refine g_X0_34 (pc := 69) X (hd := dX0_copyFrom_69) (hh := (pset_n (by omega)).trans C1) (kk := ?_)
      refine v_iload_n (pc := 72) X (hd := dX0_copyFrom_72) (kk := ?_)
      refine v_aload_n (pc := 73) X (hd := dX0_copyFrom_73) (kk := ?_)
      refine g_X0_34 (pc := 74) X (hd := dX0_copyFrom_74) (hh := (pset_n (by omega)).trans ((C4 _ (by omega) (by omega) (by omega)).trans hq1)) (kk := ?_)
      refine v_iload_n (pc := 77) X (hd := dX0_copyFrom_77) (kk := ?_)
      refine v_ialdN (pc := 78) X (j := i) (hd := dX0_copyFrom_78) (hh := (pset_n (by omega)).trans ((C4 _ (by omega) (by omega) (by omega)).trans hq3)) (hi := by first | rfl | (simp only [pk_mul, nI_add]; done)) (hj := by omega) (kk := ?_)
      refine v_iastN (pc := 79) X (j := i) (hd := dX0_copyFrom_79) (hh := (pset_n (by omega)).trans C3) (hi := by first | rfl | (simp only [pk_mul, nI_add]; done)) (hj := by omega) (kk := ?_)
      refine v_iincN (pc := 80) X (hd := dX0_copyFrom_80) (kk := ?_)
      refine v_goto (pc := 83) X (tgt := 50) (hd := dX0_copyFrom_83) (kk := ?_)
      refine kk _ ⟨(pset_n (by omega)).trans ((pset_n (by omega)).trans C1), (pset_n (by omega)).trans (by rw [← cpA_s]; exact pset_s _ _ _), by rw [← cpA_s]; exact pset_s _ _ _, fun q h3 h4 h5 => (pset_n h5).trans ((pset_n h4).trans (C4 q h3 h4 h5))⟩
  · intro h2 hI
    obtain ⟨C1, C2, C3, C4⟩ := hI
    refine v_iload_n (pc := 50) X (hd := dX0_copyFrom_50) (kk := ?_)
    refine v_bipush (pc := 51) X (v := nI 6) (hd := dX0_copyFrom_51) (kk := ?_)
    refine v_icmpge (pc := 53) X (tgt := 86) (hd := dX0_copyFrom_53) (kt := fun c53 => ?_) (kf := fun c53 => ?_)
    · exact v_endv (pc := 86) X hr hlk (hd := dX0_copyFrom_86) (hf := ⟨C1, C2, C3, C4⟩)
    · exact absurd (Int32.le_refl _) c53
set_option maxRecDepth 100000 in
set_option maxHeartbeats 4000000 in
theorem c_X2_copyFrom (l : Launch) (E : pE) (a a2 : Nat) (v v2 : Nat → Int32) : pC l E yX2_copyFrom cX2_copyFrom 3 none { frames := 1, cells := 0, slots := 0, locals := 22 } 0 0 [.ref a, .ref a2] (fun h _ => PA a v h ∧ PA a2 v2 h ∧ (a + 34 ≤ a2 ∨ a2 + 34 ≤ a)) (pFv (fun h h' => PA a v2 h' ∧ pO a (a + 34) h h')) := by
  refine pC_of (by decide) (by simp [Value.category]) (Nat.le_of_ble_eq_true rfl) ?_
  intro h z hp p__ e__ s__ m__ args__ below__ meth__ c__ X hr hlk hname
  obtain ⟨hP0, hQ0, hdis⟩ := hp
  obtain ⟨f1, f2, f3, pi, g, c, P⟩ := hP0
  obtain ⟨T0, T1, T2, T3, ⟨F1, F2, F3, pl, pj⟩, Hh, Hb, Hg, Hc, Gg, Gc, Hk, Hs⟩ := P
  obtain ⟨d1, d2, d3, pi2, g2, c2, P2⟩ := hQ0
  obtain ⟨S0, S1, S2, S3, ⟨D1, D2, D3, pl2, pj2⟩, Kh, Kb, Kg, Kc, Kgg, Kgc, Kk, Ks⟩ := P2
  refine v_aload_n (pc := 0) X (hd := dX2_copyFrom_0) (kk := ?_)
  refine v_aload_n (pc := 1) X (hd := dX2_copyFrom_1) (kk := ?_)
  refine g_X2_9 (pc := 2) X (hd := dX2_copyFrom_2) (hh := S0) (kk := ?_)
  refine p_X2_9 (pc := 5) X (hd := dX2_copyFrom_5) (hh := T0) (kk := ?_)
  refine v_aload_n (pc := 8) X (hd := dX2_copyFrom_8) (kk := ?_)
  refine v_aload_n (pc := 9) X (hd := dX2_copyFrom_9) (kk := ?_)
  refine g_X2_15 (pc := 10) X (hd := dX2_copyFrom_10) (hh := by first | assumption | exact pset_s _ _ _ | exact (pset_n (by omega)).trans (by assumption)) (kk := ?_)
  refine p_X2_15 (pc := 13) X (hd := dX2_copyFrom_13) (hh := by first | assumption | exact pset_s _ _ _ | exact (pset_n (by omega)).trans (by assumption)) (kk := ?_)
  rw [pset_pset]
  refine v_aload_n (pc := 16) X (hd := dX2_copyFrom_16) (kk := ?_)
  refine v_aload_n (pc := 17) X (hd := dX2_copyFrom_17) (kk := ?_)
  refine g_X2_18 (pc := 18) X (hd := dX2_copyFrom_18) (hh := by first | assumption | exact pset_s _ _ _ | exact (pset_n (by omega)).trans (by assumption)) (kk := ?_)
  refine p_X2_18 (pc := 21) X (hd := dX2_copyFrom_21) (hh := by first | assumption | exact pset_s _ _ _ | exact (pset_n (by omega)).trans (by assumption)) (kk := ?_)
  rw [pset_pset]
  refine v_aload_n (pc := 24) X (hd := dX2_copyFrom_24) (kk := ?_)
  refine v_aload_n (pc := 25) X (hd := dX2_copyFrom_25) (kk := ?_)
  refine g_X2_21 (pc := 26) X (hd := dX2_copyFrom_26) (hh := by first | assumption | exact pset_s _ _ _ | exact (pset_n (by omega)).trans (by assumption)) (kk := ?_)
  refine p_X2_21 (pc := 29) X (hd := dX2_copyFrom_29) (hh := by first | assumption | exact pset_s _ _ _ | exact (pset_n (by omega)).trans (by assumption)) (kk := ?_)
  rw [pset_pset]
  refine v_aload_n (pc := 32) X (hd := dX2_copyFrom_32) (kk := ?_)
  refine v_aload_n (pc := 33) X (hd := dX2_copyFrom_33) (kk := ?_)
  refine g_X2_24 (pc := 34) X (hd := dX2_copyFrom_34) (hh := by first | assumption | exact pset_s _ _ _ | exact (pset_n (by omega)).trans (by assumption)) (kk := ?_)
  refine p_X2_24 (pc := 37) X (hd := dX2_copyFrom_37) (hh := by first | assumption | exact pset_s _ _ _ | exact (pset_n (by omega)).trans (by assumption)) (kk := ?_)
  rw [pset_pset]
  refine v_aload_n (pc := 40) X (hd := dX2_copyFrom_40) (kk := ?_)
  refine v_aload_n (pc := 41) X (hd := dX2_copyFrom_41) (kk := ?_)
  refine g_X2_27 (pc := 42) X (hd := dX2_copyFrom_42) (hh := by first | assumption | exact pset_s _ _ _ | exact (pset_n (by omega)).trans (by assumption)) (kk := ?_)
  refine p_X2_27 (pc := 45) X (hd := dX2_copyFrom_45) (hh := by first | assumption | exact pset_s _ _ _ | exact (pset_n (by omega)).trans (by assumption)) (kk := ?_)
  rw [pset_pset]
  refine v_gen (P := fun h9 => h9 a = some (ob 2 [.int (v2 0), .int (v2 5), .int (v2 4), .int (v2 1), .int (v2 2), .int (v2 3), .ref (a + 1), .ref (a + 2), .ref (a + 3)]) ∧ ∀ q, q ≠ a → h9 q = h q) ⟨pset_s _ _ _, fun q hq => pset_n hq⟩ (fun h45 q45 => ?_)
  obtain ⟨B1, B2⟩ := q45
  refine v_iconst (pc := 48) X (v := nI 0) (hd := dX2_copyFrom_48) (kk := ?_)
  refine v_istore_n (pc := 49) X (hd := dX2_copyFrom_49) (kk := ?_)
  refine v_for (pc := 50) (M := 6) (Lf := fun i => [some (.ref a), some (.ref a2), some (.int (nI i))]) (I := fun i h1 => h1 a = some (ob 2 [.int (v2 0), .int (v2 5), .int (v2 4), .int (v2 1), .int (v2 2), .int (v2 3), .ref (a + 1), .ref (a + 2), .ref (a + 3)]) ∧ (∀ j, j < i → h1 (a + 4 + j) = some (ob 1 [.int (v2 (6 + 3 * j + 0)), .int (v2 (6 + 3 * j + 1)), .int (v2 (6 + 3 * j + 2))])) ∧ ∀ q, q ≠ a → (q < a + 4 ∨ a + 4 + i ≤ q) → h1 q = h q) (h0 := ⟨B1, fun j hj => by omega, fun q h1 _ => B2 q h1⟩) (hL := by rfl) (step := ?_) (out := ?_)
  · intro i h2 hi hI kk
    obtain ⟨C1, C2, C9⟩ := hI
    refine v_iload_n (pc := 50) X (hd := dX2_copyFrom_50) (kk := ?_)
    refine v_bipush (pc := 51) X (v := nI 6) (hd := dX2_copyFrom_51) (kk := ?_)
    refine v_icmpge (pc := 53) X (tgt := 77) (hd := dX2_copyFrom_53) (kt := fun c53 => ?_) (kf := fun c53 => ?_)
    · exact absurd c53 (nI_ge hi (by omega))
    · refine v_aload_n (pc := 56) X (hd := dX2_copyFrom_56) (kk := ?_)
      refine g_X2_32 (pc := 57) X (hd := dX2_copyFrom_57) (hh := C1) (kk := ?_)
      refine v_iload_n (pc := 60) X (hd := dX2_copyFrom_60) (kk := ?_)
      refine v_aaldN (pc := 61) X (j := i) (hd := dX2_copyFrom_61) (hh := (C9 _ (by omega) (by omega)).trans T1) (hi := by first | rfl | (simp only [pk_mul, nI_add]; done)) (hj := by omega) (hf := F1 i hi) (kk := ?_)
      refine v_aload_n (pc := 62) X (hd := dX2_copyFrom_62) (kk := ?_)
      refine g_X2_32 (pc := 63) X (hd := dX2_copyFrom_63) (hh := (C9 _ (by omega) (by omega)).trans S0) (kk := ?_)
      refine v_iload_n (pc := 66) X (hd := dX2_copyFrom_66) (kk := ?_)
      refine v_aaldN (pc := 67) X (j := i) (hd := dX2_copyFrom_67) (hh := (C9 _ (by omega) (by omega)).trans S1) (hi := by first | rfl | (simp only [pk_mul, nI_add]; done)) (hj := by omega) (hf := D1 i hi) (kk := ?_)
      refine v_callVv (pc := 68) X (hd := dX2_copyFrom_68) (w := wv_X2_51) (hC := c_X1_copyFrom l E (a + 4 + i) (a2 + 4 + i) _ _ _ _ _ _) (hp := ⟨(C9 _ (by omega) (by omega)).trans (Hh i hi), (C9 _ (by omega) (by omega)).trans (Kh i hi), by omega⟩) (hb := (C9 _ (by omega) (by omega)).trans (Hh i hi)) (kk := fun h68 q68 => ?_)
      refine v_iincN (pc := 71) X (hd := dX2_copyFrom_71) (kk := ?_)
      refine v_goto (pc := 74) X (tgt := 50) (hd := dX2_copyFrom_74) (kk := ?_)
      rw [q68]
      refine kk _ ⟨(pset_n (by omega)).trans C1, fun j hj => ?_, fun q h1 h2 => (pset_n (by omega)).trans (C9 q h1 (by omega))⟩
      by_cases e : j = i
      · rw [e]; exact pset_s _ _ _
      · exact (pset_n (by omega)).trans (C2 j (by omega))
  · intro h2 hI
    obtain ⟨C1, C2, C9⟩ := hI
    refine v_iload_n (pc := 50) X (hd := dX2_copyFrom_50) (kk := ?_)
    refine v_bipush (pc := 51) X (v := nI 6) (hd := dX2_copyFrom_51) (kk := ?_)
    refine v_icmpge (pc := 53) X (tgt := 77) (hd := dX2_copyFrom_53) (kt := fun c53 => ?_) (kf := fun c53 => ?_)
    · refine v_iconst (pc := 77) X (v := nI 0) (hd := dX2_copyFrom_77) (kk := ?_)
      refine v_istore_n (pc := 78) X (hd := dX2_copyFrom_78) (kk := ?_)
      refine v_for (pc := 79) (M := 4) (Lf := fun i => [some (.ref a), some (.ref a2), some (.int (nI i))]) (I := fun i h1 => h1 a = some (ob 2 [.int (v2 0), .int (v2 5), .int (v2 4), .int (v2 1), .int (v2 2), .int (v2 3), .ref (a + 1), .ref (a + 2), .ref (a + 3)]) ∧ (∀ j, j < 6 → h1 (a + 4 + j) = some (ob 1 [.int (v2 (6 + 3 * j + 0)), .int (v2 (6 + 3 * j + 1)), .int (v2 (6 + 3 * j + 2))])) ∧ (∀ j, j < i → h1 (a + 10 + 3 * j) = some (ob 0 [.int (v2 (24 + 7 * j + 0)), .int (v2 (24 + 7 * j + 1)), .int (v2 (24 + 7 * j + 2)), .int (v2 (24 + 7 * j + 4)), .int (v2 (24 + 7 * j + 5)), .int (v2 (24 + 7 * j + 6)), .ref (a + 11 + 3 * j), .ref (a + 12 + 3 * j)]) ∧ h1 (a + 11 + 3 * j) = some (ai 2 6 (cpA (g j) (g2 j) 6)) ∧ h1 (a + 12 + 3 * j) = some (ai 1 6 (cpA (c j) (c2 j) 6))) ∧ ∀ q, q ≠ a → (q < a + 4 ∨ a + 10 + 3 * i ≤ q) → h1 q = h q) (h0 := ⟨C1, C2, fun j hj => by omega, fun q h1 h2 => C9 q h1 (by omega)⟩) (hL := by rfl) (step := ?_) (out := ?_)
      · intro i h2 hi hI kk
        clear C1 C2 C9
        obtain ⟨C1, C2, C3, C9⟩ := hI
        refine v_iload_n (pc := 79) X (hd := dX2_copyFrom_79) (kk := ?_)
        refine v_iconst (pc := 80) X (v := nI 4) (hd := dX2_copyFrom_80) (kk := ?_)
        refine v_icmpge (pc := 81) X (tgt := 105) (hd := dX2_copyFrom_81) (kt := fun c81 => ?_) (kf := fun c81 => ?_)
        · exact absurd c81 (nI_ge hi (by omega))
        · refine v_aload_n (pc := 84) X (hd := dX2_copyFrom_84) (kk := ?_)
          refine g_X2_38 (pc := 85) X (hd := dX2_copyFrom_85) (hh := C1) (kk := ?_)
          refine v_iload_n (pc := 88) X (hd := dX2_copyFrom_88) (kk := ?_)
          refine v_aaldN (pc := 89) X (j := i) (hd := dX2_copyFrom_89) (hh := (C9 _ (by omega) (by omega)).trans T2) (hi := by first | rfl | (simp only [pk_mul, nI_add]; done)) (hj := by omega) (hf := F2 i hi) (kk := ?_)
          refine v_aload_n (pc := 90) X (hd := dX2_copyFrom_90) (kk := ?_)
          refine g_X2_38 (pc := 91) X (hd := dX2_copyFrom_91) (hh := (C9 _ (by omega) (by omega)).trans S0) (kk := ?_)
          refine v_iload_n (pc := 94) X (hd := dX2_copyFrom_94) (kk := ?_)
          refine v_aaldN (pc := 95) X (j := i) (hd := dX2_copyFrom_95) (hh := (C9 _ (by omega) (by omega)).trans S2) (hi := by first | rfl | (simp only [pk_mul, nI_add]; done)) (hj := by omega) (hf := D2 i hi) (kk := ?_)
          refine v_callVv (pc := 96) X (hd := dX2_copyFrom_96) (w := wv_X2_55) (hC := c_X0_copyFrom l E (a + 10 + 3 * i) (a + 11 + 3 * i) (a + 12 + 3 * i) (a2 + 10 + 3 * i) (a2 + 11 + 3 * i) (a2 + 12 + 3 * i) _ _ _ _ _ _ _ _ _ _ _ _ (g i) (g2 i) (c i) (c2 i)) (hp := ⟨⟨(C9 _ (by omega) (by omega)).trans (Hb i hi), (C9 _ (by omega) (by omega)).trans (Hg i hi), (C9 _ (by omega) (by omega)).trans (Hc i hi)⟩, ⟨(C9 _ (by omega) (by omega)).trans (Kb i hi), (C9 _ (by omega) (by omega)).trans (Kg i hi), (C9 _ (by omega) (by omega)).trans (Kc i hi)⟩, fun k hk => by rw [Kgg i hi k hk]; exact bt_b _ _, by omega⟩) (hb := (C9 _ (by omega) (by omega)).trans (Hb i hi)) (kk := fun h96 q96 => ?_)
          refine v_iincN (pc := 99) X (hd := dX2_copyFrom_99) (kk := ?_)
          refine v_goto (pc := 102) X (tgt := 79) (hd := dX2_copyFrom_102) (kk := ?_)
          obtain ⟨r1, r2, r3, r4⟩ := q96
          refine kk _ ⟨(r4 _ (by omega) (by omega) (by omega)).trans C1, fun j hj => (r4 _ (by omega) (by omega) (by omega)).trans (C2 j hj), fun j hj => ?_, fun q h1 h2 => (r4 _ (by omega) (by omega) (by omega)).trans (C9 q h1 (by omega))⟩
          by_cases e : j = i
          · rw [e]; exact ⟨r1, r2, r3⟩
          · exact ⟨(r4 _ (by omega) (by omega) (by omega)).trans (C3 j (by omega)).1, (r4 _ (by omega) (by omega) (by omega)).trans (C3 j (by omega)).2.1, (r4 _ (by omega) (by omega) (by omega)).trans (C3 j (by omega)).2.2⟩
      · intro h2 hI
        clear C1 C2 C9
        obtain ⟨C1, C2, C3, C9⟩ := hI
        refine v_iload_n (pc := 79) X (hd := dX2_copyFrom_79) (kk := ?_)
        refine v_iconst (pc := 80) X (v := nI 4) (hd := dX2_copyFrom_80) (kk := ?_)
        refine v_icmpge (pc := 81) X (tgt := 105) (hd := dX2_copyFrom_81) (kt := fun c81 => ?_) (kf := fun c81 => ?_)
        · refine v_iconst (pc := 105) X (v := nI 0) (hd := dX2_copyFrom_105) (kk := ?_)
          refine v_istore_n (pc := 106) X (hd := dX2_copyFrom_106) (kk := ?_)
          refine v_for (pc := 107) (M := 12) (Lf := fun i => [some (.ref a), some (.ref a2), some (.int (nI i))]) (I := fun i h1 => h1 a = some (ob 2 [.int (v2 0), .int (v2 5), .int (v2 4), .int (v2 1), .int (v2 2), .int (v2 3), .ref (a + 1), .ref (a + 2), .ref (a + 3)]) ∧ (∀ j, j < 6 → h1 (a + 4 + j) = some (ob 1 [.int (v2 (6 + 3 * j + 0)), .int (v2 (6 + 3 * j + 1)), .int (v2 (6 + 3 * j + 2))])) ∧ (∀ j, j < 4 → h1 (a + 10 + 3 * j) = some (ob 0 [.int (v2 (24 + 7 * j + 0)), .int (v2 (24 + 7 * j + 1)), .int (v2 (24 + 7 * j + 2)), .int (v2 (24 + 7 * j + 4)), .int (v2 (24 + 7 * j + 5)), .int (v2 (24 + 7 * j + 6)), .ref (a + 11 + 3 * j), .ref (a + 12 + 3 * j)]) ∧ h1 (a + 11 + 3 * j) = some (ai 2 6 (cpA (g j) (g2 j) 6)) ∧ h1 (a + 12 + 3 * j) = some (ai 1 6 (cpA (c j) (c2 j) 6))) ∧ (∀ k, k < i → h1 (a + 22 + pi k) = h (a2 + 22 + pi2 k)) ∧ ∀ q, q ≠ a → (q < a + 4 ∨ a + 22 ≤ q) → (∀ k, k < i → q ≠ a + 22 + pi k) → h1 q = h q) (h0 := ⟨C1, C2, C3, fun k hk => by omega, fun q h1 h2 _ => C9 q h1 (by omega)⟩) (hL := by rfl) (step := ?_) (out := ?_)
          · intro i h2 hi hI kk
            clear C1 C2 C3 C9
            obtain ⟨C1, C2, C3, C4, C9⟩ := hI
            have hpi := pl i hi
            have hpi2 := pl2 i hi
            have pne : ∀ k, k < i → pi k ≠ pi i := fun k hk q => by have := pj k i (by omega) hi q; omega
            have pk12 : ∀ k, k < i → pi k < 12 := fun k hk => pl k (by omega)
            obtain ⟨x0, x1, x2, x3, x4, hx⟩ := Hk (pi i) hpi
            obtain ⟨y0, y1, y2, y3, y4, hy⟩ := Kk (pi2 i) hpi2
            have hx1 := (C9 (a + 22 + pi i) (by omega) (by omega) (fun k hk => by have := pne k hk; omega)).trans hx
            have hy1 := (C9 (a2 + 22 + pi2 i) (by omega) (by omega) (fun k hk => by have := pk12 k hk; omega)).trans hy
            refine v_iload_n (pc := 107) X (hd := dX2_copyFrom_107) (kk := ?_)
            refine v_bipush (pc := 108) X (v := nI 12) (hd := dX2_copyFrom_108) (kk := ?_)
            refine v_icmpge (pc := 110) X (tgt := 134) (hd := dX2_copyFrom_110) (kt := fun c110 => ?_) (kf := fun c110 => ?_)
            · exact absurd c110 (nI_ge hi (by omega))
            · refine v_aload_n (pc := 113) X (hd := dX2_copyFrom_113) (kk := ?_)
              refine g_X2_44 (pc := 114) X (hd := dX2_copyFrom_114) (hh := C1) (kk := ?_)
              refine v_iload_n (pc := 117) X (hd := dX2_copyFrom_117) (kk := ?_)
              refine v_aaldN (pc := 118) X (j := i) (hd := dX2_copyFrom_118) (hh := (C9 _ (by omega) (by omega) (fun k hk => by omega)).trans T3) (hi := by first | rfl | (simp only [pk_mul, nI_add]; done)) (hj := by omega) (hf := F3 i hi) (kk := ?_)
              refine v_aload_n (pc := 119) X (hd := dX2_copyFrom_119) (kk := ?_)
              refine g_X2_44 (pc := 120) X (hd := dX2_copyFrom_120) (hh := (C9 _ (by omega) (by omega) (fun k hk => by have := pk12 k hk; omega)).trans S0) (kk := ?_)
              refine v_iload_n (pc := 123) X (hd := dX2_copyFrom_123) (kk := ?_)
              refine v_aaldN (pc := 124) X (j := i) (hd := dX2_copyFrom_124) (hh := (C9 _ (by omega) (by omega) (fun k hk => by have := pk12 k hk; omega)).trans S3) (hi := by first | rfl | (simp only [pk_mul, nI_add]; done)) (hj := by omega) (hf := D3 i hi) (kk := ?_)
              refine v_callVv (pc := 125) X (hd := dX2_copyFrom_125) (w := wv_X2_58) (hC := c_X5_copyFrom l E (a + 22 + pi i) (a2 + 22 + pi2 i) x0 x1 x2 x3 x4 y0 y1 y2 y3 y4) (hp := ⟨hx1, hy1, by omega⟩) (hb := hx1) (kk := fun h125 q125 => ?_)
              refine v_iincN (pc := 128) X (hd := dX2_copyFrom_128) (kk := ?_)
              refine v_goto (pc := 131) X (tgt := 107) (hd := dX2_copyFrom_131) (kk := ?_)
              rw [q125]
              refine kk _ ⟨(pset_n (by omega)).trans C1, fun j hj => (pset_n (by omega)).trans (C2 j hj), fun j hj => ⟨(pset_n (by omega)).trans (C3 j hj).1, (pset_n (by omega)).trans (C3 j hj).2.1, (pset_n (by omega)).trans (C3 j hj).2.2⟩, fun k hk => ?_, fun q h1 h2 h3 => (pset_n (h3 i (by omega))).trans (C9 q h1 h2 (fun k hk => h3 k (by omega)))⟩
              by_cases e : k = i
              · rw [e, hy]; exact pset_s _ _ _
              · have := pne k (by omega)
                exact (pset_n (by omega)).trans (C4 k (by omega))
          · intro h2 hI
            clear C1 C2 C3 C9
            obtain ⟨C1, C2, C3, C4, C9⟩ := hI
            refine v_iload_n (pc := 107) X (hd := dX2_copyFrom_107) (kk := ?_)
            refine v_bipush (pc := 108) X (v := nI 12) (hd := dX2_copyFrom_108) (kk := ?_)
            refine v_icmpge (pc := 110) X (tgt := 134) (hd := dX2_copyFrom_110) (kt := fun c110 => ?_) (kf := fun c110 => ?_)
            · exact v_endv (pc := 134) X hr hlk (hd := dX2_copyFrom_134) (hf := by
    have pk12 : ∀ k, k < 12 → pi k < 12 := pl
    refine ⟨⟨f1, f2, f3, pi, fun j => cpA (g j) (g2 j) 6, fun j => cpA (c j) (c2 j) 6, C1, (C9 _ (by omega) (by omega) (fun k hk => by omega)).trans T1, (C9 _ (by omega) (by omega) (fun k hk => by omega)).trans T2, (C9 _ (by omega) (by omega) (fun k hk => by omega)).trans T3, ⟨F1, F2, F3, pl, pj⟩, C2, fun j hj => (C3 j hj).1, fun j hj => (C3 j hj).2.1, fun j hj => (C3 j hj).2.2, fun j hj i hi => (cpA_l hi).trans (Kgg j hj i hi), fun j hj i hi => (cpA_l hi).trans (Kgc j hj i hi), fun k hk => ?_, fun k hk hk2 => (C4 k hk).trans (Ks k hk hk2)⟩, fun q hq => C9 q (by omega) (by omega) (fun k hk => by have := pk12 k hk; omega)⟩
    by_cases e : ∃ i, i < 12 ∧ k = pi i
    · obtain ⟨i, hi, rfl⟩ := e
      rw [C4 i hi]
      exact Kk _ (pl2 i hi)
    · obtain ⟨x0, x1, x2, x3, x4, hx⟩ := Hk k hk
      exact ⟨x0, x1, x2, x3, x4, (C9 _ (by omega) (by omega) (fun i hi q => e ⟨i, hi, by omega⟩)).trans hx⟩)
            · exact absurd (Int32.le_refl _) c110
        · exact absurd (Int32.le_refl _) c81
    · exact absurd (Int32.le_refl _) c53
