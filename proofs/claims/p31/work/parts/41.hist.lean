/-! the class's object at x, its cells behind it -/
def row (pa : Nat → Int32) (k : Nat) : Nat → Int32 := fun q => pa (410 * k + q)
theorem SA.cg {q : Nat} {w w1 : Nat → Int32} {h : pH} (S : SA q w h) (I : SI w) (hv : ∀ p, p < 410 → w1 p = w p) : SA q w1 h := by
  obtain ⟨fs, tk, u, S⟩ := S
  exact ⟨fs, tk, u, S.1, S.2.1, S.2.2.1, S.2.2.2.1, fun i hi => (S.2.2.2.2.1 i hi).trans (hv _ (by omega)).symm, fun i hi => by rw [hv _ (by omega)]; exact S.2.2.2.2.2.1 i hi, S.2.2.2.2.2.2.1.cgI I.1 (fun p hp => hv p (by omega)), S.2.2.2.2.2.2.2.1, fun i hi h p hp => by
    rw [hv _ (by omega)] at h
    exact (S.2.2.2.2.2.2.2.2 i hi h p hp).trans (hv _ (by omega)).symm⟩
theorem SI.cg {w w1 : Nat → Int32} (S : SI w) (hv : ∀ p, p < 410 → w1 p = w p) : SI w1 :=
  ⟨S.1.cg (fun p hp => hv p (by omega)), fun i hi h => by
    rw [hv _ (by omega)] at h
    exact (S.2 i hi h).cg (fun p hp => hv _ (by omega))⟩
theorem SA.ob {q : Nat} {w : Nat → Int32} {h : pH} (S : SA q w h) : h q = some (ob 4 [.ref (q + 1), .ref (q + 35), .ref (q + 36)]) := by
  obtain ⟨fs, tk, u, S⟩ := S
  exact S.1
theorem SA.pa {q : Nat} {w : Nat → Int32} {h : pH} (S : SA q w h) : PA (q + 1) w h := by
  obtain ⟨fs, tk, u, S⟩ := S
  exact S.2.2.2.2.2.2.1
theorem SA.tb {q : Nat} {w : Nat → Int32} {h : pH} (S : SA q w h) : ∀ i, i < 2 → (w (136 + i) = 0 ∨ w (136 + i) = 1) := by
  obtain ⟨fs, tk, u, S⟩ := S
  exact S.2.2.2.2.2.1
theorem PA.ob {a : Nat} {v : Nat → Int32} {h : pH} (P : PA a v h) : h a = some (ob 2 [.int (v 0), .int (v 5), .int (v 4), .int (v 1), .int (v 2), .int (v 3), .ref (a + 1), .ref (a + 2), .ref (a + 3)]) := by
  obtain ⟨f1, f2, f3, pi, g, c, P⟩ := P
  exact P.1
theorem SA.parish {q : Nat} {w w1 : Nat → Int32} {h h1 : pH} (S : SA q w h) (hv : ∀ p, 136 ≤ p → w1 p = w p) (P : PA (q + 1) w1 h1) (hO : pO (q + 1) (q + 1 + 34) h h1) : SA q w1 h1 := by
  obtain ⟨fs, tk, u, S⟩ := S
  exact ⟨fs, tk, u, S.parish hv P hO⟩
def Geo (x : Nat) (A : Nat → Nat) : Prop := (∀ r, r < 7 → (A r = x + 1 ∨ A r = x + 106 ∨ ∃ i, i < 5 ∧ A r = x + 215 + 105 * i)) ∧ ∀ r s, r < 7 → s < 7 → r ≠ s → A r ≠ A s
theorem Geo.rng {x : Nat} {A : Nat → Nat} (G : Geo x A) {r : Nat} (hr : r < 7) : x + 1 ≤ A r ∧ A r + 105 ≤ x + 740 ∧ (A r + 105 ≤ x + 211 ∨ x + 215 ≤ A r) := by
  rcases G.1 r hr with h | h | ⟨i, hi, h⟩ <;> omega
theorem Geo.dis {x : Nat} {A : Nat → Nat} (G : Geo x A) {r s : Nat} (hr : r < 7) (hs : s < 7) (hne : r ≠ s) : A r + 105 ≤ A s ∨ A s + 105 ≤ A r := by
  have h0 := G.2 r s hr hs hne
  rcases G.1 r hr with h | h | ⟨i, hi, h⟩ <;> rcases G.1 s hs with h1 | h1 | ⟨j, hj, h1⟩ <;> omega
theorem Geo.perm {x : Nat} {A B : Nat → Nat} (G : Geo x A) (f : Nat → Nat) (hf : ∀ r, r < 7 → f r < 7) (hi : ∀ r s, r < 7 → s < 7 → f r = f s → r = s) (hB : ∀ r, r < 7 → B r = A (f r)) : Geo x B :=
  ⟨fun r hr => by rw [hB r hr]; exact G.1 _ (hf r hr), fun r s hr hs hne => by
    rw [hB r hr, hB s hs]
    exact G.2 _ _ (hf r hr) (hf s hs) (fun q => hne (hi r s hr hs q))⟩
def KP (x : Nat) (tn : Nat) (te : Nat → Int32) (st en : Int32) (nu : Nat → Int32) (h : pH) : Prop := h (x + 212) = some (ob 3 [.ref (x + 213), .int (nI tn), .int st, .int en, .ref (x + 214)]) ∧ h (x + 213) = some (ai 0 140 te) ∧ h (x + 214) = some (ai 1 3 nu)
def KG (x : Nat) (A : Nat → Nat) (hf : Nat → Option Nat) (np : Nat) (tn : Nat) (te : Nat → Int32) (st en : Int32) (nu : Nat → Int32) (h : pH) : Prop :=
  h x = some (ob 6 [.ref (A 0), .ref (A 1), .ref (x + 211), .int (nI np), .ref (x + 212)]) ∧ h (x + 211) = some (ar 7 5 hf) ∧ (∀ k, k < 5 → hf k = some (A (2 + k))) ∧ Geo x A ∧ KP x tn te st en nu h ∧ ∀ r, r < 7 → ∃ u, SA (A r) u h
def KY (x : Nat) (w pa : Nat → Int32) (np : Nat) (tn : Nat) (te : Nat → Int32) (st en : Int32) (nu : Nat → Int32) (h : pH) : Prop := ∃ A hf, KG x A hf np tn te st en nu h ∧ SA (A 0) w h ∧ ∀ k, k < np → SA (A (2 + k)) (row pa k) h
def KI (w pa : Nat → Int32) (np : Nat) : Prop := np ≤ 5 ∧ SI w ∧ ∀ k, k < np → SI (row pa k)
section KGS
variable {x : Nat} {A : Nat → Nat} {hf : Nat → Option Nat} {np tn : Nat} {te nu : Nat → Int32} {st en : Int32} {h h1 : pH}
theorem KG.sa (G : KG x A hf np tn te st en nu h) {r s : Nat} {u : Nat → Int32} (hr : r < 7) (hs : s < 7) (hne : r ≠ s) (hS : SA (A s) u h) (hO : pO (A r) (A r + 105) h h1) : SA (A s) u h1 :=
  hS.off (fun p h2 h3 => hO p (by have := G.2.2.2.1.dis hr hs hne; omega))
theorem KG.chg (G : KG x A hf np tn te st en nu h) {r : Nat} {u : Nat → Int32} (hr : r < 7) (hS : SA (A r) u h1) (hO : pO (A r) (A r + 105) h h1) : KG x A hf np tn te st en nu h1 := by
  have hg := G.2.2.2.1.rng hr
  refine ⟨(hO _ (by omega)).trans G.1, (hO _ (by omega)).trans G.2.1, G.2.2.1, G.2.2.2.1, ⟨(hO _ (by omega)).trans G.2.2.2.2.1.1, (hO _ (by omega)).trans G.2.2.2.2.1.2.1, (hO _ (by omega)).trans G.2.2.2.2.1.2.2⟩, fun s hs => ?_⟩
  by_cases e : r = s
  · subst e; exact ⟨u, hS⟩
  · obtain ⟨u1, hu⟩ := G.2.2.2.2.2 s hs
    exact ⟨u1, G.sa hr hs e hu hO⟩
theorem KG.mono (G : KG x A hf np tn te st en nu h) {r : Nat} (hr : r < 7) (hO : pO (A r) (A r + 105) h h1) : pO x (x + 740) h h1 := by
  have hg := G.2.2.2.1.rng hr
  exact hO.mono (by omega) (by omega)
end KGS
def dS (k : Nat) : Nat := if k < 2 then k else if k < 6 then k + 1 else 2
theorem rm0_s (f : Nat → Option Nat) (i : Nat) (y : Option Nat) (hy : y = f (i + 1)) : va_up (rmF f 0 i) i y = rmF f 0 (i + 1) := by
  have := rmF_s f 0 i y (by rw [hy]; congr 1; omega)
  rw [Nat.zero_add] at this
  exact this
theorem row_cp {pa w : Nat → Int32} {n0 k q : Nat} (hq : q < 410) : row (cpP pa w n0 410) k q = if k = n0 then w q else row pa k q := by
  unfold row cpP
  by_cases e : k = n0
  · subst e; rw [if_pos (by omega), if_pos rfl]; congr 1; omega
  · rw [if_neg e, if_neg (by omega)]
theorem row_sh {pa : Nat → Int32} {k q : Nat} (hq : q < 410) (hk : k < 4) : row (shP pa 1640) k q = row pa (k + 1) q := by
  unfold row shP
  rw [if_pos (by omega)]
  congr 1
  omega
set_option maxRecDepth 100000 in
set_option maxHeartbeats 4000000 in
theorem c_X6_dropOldestState (l : Launch) (E : pE) (x : Nat) (A : Nat → Nat) (hf : Nat → Option Nat) (np : Nat) (tn : Nat) (te : Nat → Int32) (st en : Int32) (nu : Nat → Int32) : pC l E yX6_dropOldestState cX6_dropOldestState 3 none { frames := 0, cells := 0, slots := 0, locals := 0 } 0 0 [.ref x] (fun h _ => KG x A hf np tn te st en nu h) (pFv (fun h h' => (h' x = some (ob 6 [.ref (A 0), .ref (A 1), .ref (x + 211), .int (nI 4), .ref (x + 212)]) ∧ ∃ hf1 : Nat → Option Nat, h' (x + 211) = some (ar 7 5 hf1) ∧ ∀ k, k < 5 → hf1 k = some (A (dS (2 + k)))) ∧ ∀ q, q ≠ x → q ≠ x + 211 → h' q = h q)) := by
  refine pC_of (by decide) (by simp [Value.category]) (Nat.le_of_ble_eq_true rfl) ?_
  intro h z hp p__ e__ s__ m__ args__ below__ meth__ c__ X hr hlk hname
  have G := hp
  obtain ⟨T0, T1, Hf, hG, hKP, hall⟩ := G
  refine v_aload_n (pc := 0) X (hd := dX6_dropOldestState_0) (kk := ?_)
  refine g_X6_19 (pc := 1) X (hd := dX6_dropOldestState_1) (hh := by first | assumption | exact pset_s _ _ _ | exact (pset_n (by omega)).trans (by assumption)) (kk := ?_)
  refine v_iconst (pc := 4) X (v := nI 0) (hd := dX6_dropOldestState_4) (kk := ?_)
  refine v_aaldN (pc := 5) X (j := 0) (hd := dX6_dropOldestState_5) (hh := by first | assumption | exact pset_s _ _ _ | exact (pset_n (by omega)).trans (by assumption)) (hi := by first | rfl | (simp only [pk_mul, nI_add]; done)) (hj := by omega) (hf := Hf 0 (by omega)) (kk := ?_)
  refine v_astore_n (pc := 6) X (hd := dX6_dropOldestState_6) (kk := ?_)
  refine v_iconst (pc := 7) X (v := nI 1) (hd := dX6_dropOldestState_7) (kk := ?_)
  refine v_istore_n (pc := 8) X (hd := dX6_dropOldestState_8) (kk := ?_)
  refine v_for (pc := 9) (M := 4) (Lf := fun i => [some (.ref x), some (.ref (A 2)), some (.int (nI (1 + i)))]) (I := fun i h1 => h1 = pset h (x + 211) (ar 7 5 (rmF hf 0 i))) (h0 := by rw [rmF_0]; exact pset_id T1) (hL := by rfl) (step := ?_) (out := ?_)
  · intro i h1 hi hI kk
    subst hI
    obtain ⟨u0, hu0⟩ := hall (2 + (i + 1)) (by omega)
    have hrg := hG.rng (r := 2 + (i + 1)) (by omega)
    refine v_iload_n (pc := 9) X (hd := dX6_dropOldestState_9) (kk := ?_)
    refine v_iconst (pc := 10) X (v := nI 5) (hd := dX6_dropOldestState_10) (kk := ?_)
    refine v_icmpge (pc := 11) X (tgt := 34) (hd := dX6_dropOldestState_11) (kt := fun c11 => ?_) (kf := fun c11 => ?_)
    · exact absurd c11 (nI_ge (by omega) (by omega))
    · refine v_aload_n (pc := 14) X (hd := dX6_dropOldestState_14) (kk := ?_)
      refine g_X6_19 (pc := 15) X (hd := dX6_dropOldestState_15) (hh := by first | assumption | exact pset_s _ _ _ | exact (pset_n (by omega)).trans (by assumption)) (kk := ?_)
      refine v_iload_n (pc := 18) X (hd := dX6_dropOldestState_18) (kk := ?_)
      refine v_iconst (pc := 19) X (v := nI 1) (hd := dX6_dropOldestState_19) (kk := ?_)
      refine v_isub (pc := 20) X (hd := dX6_dropOldestState_20) (kk := ?_)
      rw [show nI (1 + i) - nI 1 = nI i from by rw [pk_sub (by omega)]; congr 1; omega]
      refine v_aload_n (pc := 21) X (hd := dX6_dropOldestState_21) (kk := ?_)
      refine g_X6_19 (pc := 22) X (hd := dX6_dropOldestState_22) (hh := by first | assumption | exact pset_s _ _ _ | exact (pset_n (by omega)).trans (by assumption)) (kk := ?_)
      refine v_iload_n (pc := 25) X (hd := dX6_dropOldestState_25) (kk := ?_)
      refine v_aaldN (pc := 26) X (j := (i + 1)) (hd := dX6_dropOldestState_26) (hh := pset_s _ _ _) (hi := by congr 1; omega) (hj := by omega) (hf := by unfold rmF; rw [if_neg (by omega)]; exact Hf (i + 1) (by omega)) (kk := ?_)
      refine v_aastN (pc := 27) X (j := i) (hd := dX6_dropOldestState_27) (hh := pset_s _ _ _) (hv := (pset_n (by omega)).trans hu0.ob) (hi := by first | rfl | (simp only [pk_mul, nI_add]; done)) (hj := by omega) (kk := ?_)
      rw [pset_pset]
      refine v_iincN (pc := 28) X (hd := dX6_dropOldestState_28) (kk := ?_)
      refine v_goto (pc := 31) X (tgt := 9) (hd := dX6_dropOldestState_31) (kk := ?_)
      refine kk _ ?_
      rw [rm0_s _ _ _ (Hf (i + 1) (by omega)).symm]
  · intro h1 hI
    subst hI
    obtain ⟨u0, hu0⟩ := hall 2 (by omega)
    have hrg := hG.rng (r := 2) (by omega)
    refine v_iload_n (pc := 9) X (hd := dX6_dropOldestState_9) (kk := ?_)
    refine v_iconst (pc := 10) X (v := nI 5) (hd := dX6_dropOldestState_10) (kk := ?_)
    refine v_icmpge (pc := 11) X (tgt := 34) (hd := dX6_dropOldestState_11) (kt := fun c11 => ?_) (kf := fun c11 => ?_)
    · refine v_aload_n (pc := 34) X (hd := dX6_dropOldestState_34) (kk := ?_)
      refine v_iconst (pc := 35) X (v := nI 4) (hd := dX6_dropOldestState_35) (kk := ?_)
      refine p_X6_23 (pc := 36) X (hd := dX6_dropOldestState_36) (hh := by first | assumption | exact pset_s _ _ _ | exact (pset_n (by omega)).trans (by assumption)) (kk := ?_)
      refine v_aload_n (pc := 39) X (hd := dX6_dropOldestState_39) (kk := ?_)
      refine g_X6_19 (pc := 40) X (hd := dX6_dropOldestState_40) (hh := pset_s _ _ _) (kk := ?_)
      refine v_aload_n (pc := 43) X (hd := dX6_dropOldestState_43) (kk := ?_)
      refine g_X6_23 (pc := 44) X (hd := dX6_dropOldestState_44) (hh := pset_s _ _ _) (kk := ?_)
      refine v_aload_n (pc := 47) X (hd := dX6_dropOldestState_47) (kk := ?_)
      refine v_aastN (pc := 48) X (j := 4) (hd := dX6_dropOldestState_48) (hh := (pset_n (by omega)).trans (pset_s _ _ _)) (hv := (pset_n (by omega)).trans ((pset_n (by omega)).trans hu0.ob)) (hi := by first | rfl | (simp only [pk_mul, nI_add]; done)) (hj := by omega) (kk := ?_)
      exact v_endv (pc := 49) X hr hlk (hd := dX6_dropOldestState_49) (hf := by
    refine ⟨⟨(pset_n (by omega)).trans (pset_s _ _ _), va_up (rmF hf 0 4) 4 (some (A 2)), pset_s _ _ _, fun k hk => ?_⟩, fun q h1 h2 => (pset_n h2).trans ((pset_n h1).trans (pset_n h2))⟩
    unfold va_up rmF dS
    by_cases e : k = 4
    · rw [if_pos e, e]; rfl
    · rw [if_neg e, if_pos (by omega), if_neg (by omega), if_pos (by omega)]
      exact Hf (k + 1) (by omega))
    · exact absurd (Int32.le_refl _) c11
set_option maxRecDepth 100000 in
set_option maxHeartbeats 4000000 in
theorem c_X6_recorded (l : Launch) (E : pE) (x : Nat) (A : Nat → Nat) (hf : Nat → Option Nat) (np : Nat) (tn : Nat) (te : Nat → Int32) (st en : Int32) (nu : Nat → Int32) (w wb pa : Nat → Int32) (r : Int32) : pC l E yX6_recorded cX6_recorded 3 (some .int) { frames := 1, cells := 0, slots := 0, locals := 22 } 0 0 [.ref x, .int r] (fun h _ => KG x A hf np tn te st en nu h ∧ SA (A 0) w h ∧ (SA (A 1) wb h ∧ SI wb) ∧ (∀ k, k < np → SA (A (2 + k)) (row pa k) h) ∧ (∀ k, k < np → SI (row pa k)) ∧ np ≤ 5) (pFi (fun h r1 h' => r1 = r ∧ ((r < 0 ∧ h' = h) ∨ (¬ r < 0 ∧ KY x w (aPa false np wb pa) (aNp false np) tn te st en nu h' ∧ pO x (x + 740) h h')))) := by
  refine pC_of (by decide) (by simp [Value.category]) (Nat.le_of_ble_eq_true rfl) ?_
  intro h z hp p__ e__ s__ m__ args__ below__ meth__ c__ X hr hlk hname
  obtain ⟨G, hN, ⟨hB, hBI⟩, hR, hRI, hnp⟩ := hp
  obtain ⟨T0, T1, Hf, hG, hKP, hall⟩ := G
  refine v_iload_n (pc := 0) X (hd := dX6_recorded_0) (kk := ?_)
  refine v_ifge (pc := 1) X (tgt := 6) (hd := dX6_recorded_1) (kt := fun c1 => ?_) (kf := fun c1 => ?_)
  · have c1n : ¬ r < 0 := fun q => by rw [n_lt] at q; rw [n_le] at c1; omega
    refine v_aload_n (pc := 6) X (hd := dX6_recorded_6) (kk := ?_)
    refine g_X6_23 (pc := 7) X (hd := dX6_recorded_7) (hh := by first | assumption | exact pset_s _ _ _ | exact (pset_n (by omega)).trans (by assumption)) (kk := ?_)
    refine v_iconst (pc := 10) X (v := nI 5) (hd := dX6_recorded_10) (kk := ?_)
    refine v_icmpne (pc := 11) X (tgt := 18) (hd := dX6_recorded_11) (kt := fun c11 => ?_) (kf := fun c11 => ?_)
    · have c12 : ¬ np = 5 := fun q => c11 (by rw [q])
      refine v_gen (P := fun h9 => ∃ (n0 : Nat) (A1 : Nat → Nat) (hf1 : Nat → Option Nat) (p1 : Nat → Int32), n0 < 5 ∧ KG x A1 hf1 n0 tn te st en nu h9 ∧ SA (A1 0) w h9 ∧ SA (A1 1) wb h9 ∧ (∀ k, k < n0 → SA (A1 (2 + k)) (row p1 k) h9) ∧ (∀ k, k < n0 → SI (row p1 k)) ∧ pO x (x + 740) h h9 ∧ cpP p1 wb n0 410 = aPa false np wb pa ∧ n0 + 1 = aNp false np) ⟨np, A, hf, pa, by have := hnp; omega, ⟨T0, T1, Hf, hG, hKP, hall⟩, hN, hB, hR, hRI, pO.rf, by unfold aPa; rw [if_neg (by decide), if_neg c12], by unfold aNp; rw [if_neg (by decide), if_neg c12]⟩ (fun h18 q18 => ?_)
      obtain ⟨n0, A1, hf1, p1, hn0, G1, N1, B1, R1, SI1, O1, ep, en1⟩ := q18
      have G1c := G1
      obtain ⟨U0, U1, Uf, uG, uKP, uall⟩ := G1
      refine v_aload_n (pc := 18) X (hd := dX6_recorded_18) (kk := ?_)
      refine g_X6_19 (pc := 19) X (hd := dX6_recorded_19) (hh := U0) (kk := ?_)
      refine v_aload_n (pc := 22) X (hd := dX6_recorded_22) (kk := ?_)
      refine g_X6_23 (pc := 23) X (hd := dX6_recorded_23) (hh := U0) (kk := ?_)
      refine v_aaldN (pc := 26) X (j := n0) (hd := dX6_recorded_26) (hh := U1) (hi := by first | rfl | (simp only [pk_mul, nI_add]; done)) (hj := by omega) (hf := Uf n0 (by omega)) (kk := ?_)
      refine v_astore_n (pc := 27) X (hd := dX6_recorded_27) (kk := ?_)
      refine v_aload_n (pc := 28) X (hd := dX6_recorded_28) (kk := ?_)
      refine g_X6_19 (pc := 29) X (hd := dX6_recorded_29) (hh := U0) (kk := ?_)
      refine v_aload_n (pc := 32) X (hd := dX6_recorded_32) (kk := ?_)
      refine g_X6_23 (pc := 33) X (hd := dX6_recorded_33) (hh := U0) (kk := ?_)
      refine v_aload_n (pc := 36) X (hd := dX6_recorded_36) (kk := ?_)
      refine g_X6_16 (pc := 37) X (hd := dX6_recorded_37) (hh := U0) (kk := ?_)
      refine v_aastN (pc := 40) X (j := n0) (hd := dX6_recorded_40) (hh := U1) (hv := B1.ob) (hi := by first | rfl | (simp only [pk_mul, nI_add]; done)) (hj := by omega) (kk := ?_)
      refine v_aload_n (pc := 41) X (hd := dX6_recorded_41) (kk := ?_)
      refine v_aload_n (pc := 42) X (hd := dX6_recorded_42) (kk := ?_)
      refine p_X6_16 (pc := 43) X (hd := dX6_recorded_43) (hh := (pset_n (by omega)).trans U0) (kk := ?_)
      refine v_aload_n (pc := 46) X (hd := dX6_recorded_46) (kk := ?_)
      refine v_dup (pc := 47) X (hd := dX6_recorded_47) (kk := ?_)
      refine g_X6_23 (pc := 48) X (hd := dX6_recorded_48) (hh := pset_s _ _ _) (kk := ?_)
      refine v_iconst (pc := 51) X (v := nI 1) (hd := dX6_recorded_51) (kk := ?_)
      refine v_iadd (pc := 52) X (hd := dX6_recorded_52) (kk := ?_)
      refine p_X6_23 (pc := 53) X (hd := dX6_recorded_53) (hh := pset_s _ _ _) (kk := ?_)
      refine v_iload_n (pc := 56) X (hd := dX6_recorded_56) (kk := ?_)
      exact v_endi (pc := 57) X hr hlk (hd := dX6_recorded_57) (hf := by
    have r1 := uG.rng (r := 1) (by omega)
    have r2 := uG.rng (r := 2 + n0) (by omega)
    have e1 : ∀ r, r < 7 → ∀ u, SA (A1 r) u h18 → SA (A1 r) u (pset (pset (pset h18 (x + 211) (ar 7 5 (va_up hf1 n0 (some (A1 1))))) x (ob 6 [.ref (A1 0), .ref (A1 (2 + n0)), .ref (x + 211), .int (nI n0), .ref (x + 212)])) x (ob 6 [.ref (A1 0), .ref (A1 (2 + n0)), .ref (x + 211), .int (nI n0 + nI 1), .ref (x + 212)])) := fun r hr u hS => hS.off (fun p h2 h3 => by
      have := uG.rng hr
      exact (pset_n (by omega)).trans ((pset_n (by omega)).trans (pset_n (by omega))))
    refine ⟨rfl, Or.inr ⟨c1n, ⟨fun r => A1 (if r = 1 then 2 + n0 else if r = 2 + n0 then 1 else r), va_up hf1 n0 (some (A1 1)), ⟨?_, ?_, ?_, ?_, ?_, ?_⟩, ?_, ?_⟩, ((O1.set (by omega) (by omega)).set (by omega) (by omega)).set (by omega) (by omega)⟩⟩
    · rw [← en1, ← nI_add]; dsimp only; rw [if_neg (show ¬ 0 = 1 by omega), if_neg (show ¬ 0 = 2 + n0 by omega), if_pos rfl]; exact pset_s _ _ _
    · exact (pset_n (by omega)).trans ((pset_n (by omega)).trans (pset_s _ _ _))
    · intro k hk
      unfold va_up
      dsimp only
      by_cases e : k = n0
      · rw [if_pos e, if_neg (show ¬ 2 + k = 1 by omega), if_pos (show 2 + k = 2 + n0 by omega)]
      · rw [if_neg e, if_neg (show ¬ 2 + k = 1 by omega), if_neg (show ¬ 2 + k = 2 + n0 by omega)]; exact Uf k hk
    · exact uG.perm _ (fun r hr => by split <;> (try split) <;> omega) (fun r s hr hs q => by split at q <;> split at q <;> (try split at q) <;> (try split at q) <;> omega) (fun r hr => rfl)
    · exact ⟨(pset_n (by omega)).trans ((pset_n (by omega)).trans ((pset_n (by omega)).trans uKP.1)), (pset_n (by omega)).trans ((pset_n (by omega)).trans ((pset_n (by omega)).trans uKP.2.1)), (pset_n (by omega)).trans ((pset_n (by omega)).trans ((pset_n (by omega)).trans uKP.2.2))⟩
    · intro r hr
      have hf7 : (if r = 1 then 2 + n0 else if r = 2 + n0 then 1 else r) < 7 := by split <;> (try split) <;> omega
      obtain ⟨u, hu⟩ := uall _ hf7
      exact ⟨u, e1 _ hf7 u hu⟩
    · dsimp only
      rw [if_neg (show ¬ 0 = 1 by omega), if_neg (show ¬ 0 = 2 + n0 by omega)]
      exact e1 0 (by omega) w N1
    · intro k hk
      rw [← en1] at hk
      dsimp only
      rw [← ep, if_neg (show ¬ 2 + k = 1 by omega)]
      by_cases e : k = n0
      · rw [if_pos (show 2 + k = 2 + n0 by omega)]
        exact (e1 1 (by omega) wb B1).cg hBI (fun p hp => by rw [row_cp hp, if_pos e])
      · rw [if_neg (show ¬ 2 + k = 2 + n0 by omega)]
        exact (e1 (2 + k) (by omega) _ (R1 k (by omega))).cg (SI1 k (by omega)) (fun p hp => by rw [row_cp hp, if_neg e]))
    · have c12 : np = 5 := (nI_eq (by omega) (by omega)).mp (Classical.not_not.mp c11)
      refine v_aload_n (pc := 14) X (hd := dX6_recorded_14) (kk := ?_)
      refine v_callVv (pc := 15) X (hd := dX6_recorded_15) (w := wv_X6_157) (hC := c_X6_dropOldestState l E x A hf np tn te st en nu) (hp := ⟨T0, T1, Hf, hG, hKP, hall⟩) (hb := T0) (kk := fun h15 q15 => ?_)
      obtain ⟨⟨D0, hf4, D1, D2⟩, D9⟩ := q15
      have h4 : ∀ r, r < 7 → ∀ u, SA (A r) u h → SA (A r) u h15 := fun r hr u hS => hS.off (fun p h2 h3 => D9 p (by have := hG.rng hr; omega) (by have := hG.rng hr; omega))
      have hd7 : ∀ r, r < 7 → dS r < 7 := fun r hr => by unfold dS; split <;> (try split) <;> omega
      refine v_gen (P := fun h9 => ∃ (n0 : Nat) (A1 : Nat → Nat) (hf1 : Nat → Option Nat) (p1 : Nat → Int32), n0 < 5 ∧ KG x A1 hf1 n0 tn te st en nu h9 ∧ SA (A1 0) w h9 ∧ SA (A1 1) wb h9 ∧ (∀ k, k < n0 → SA (A1 (2 + k)) (row p1 k) h9) ∧ (∀ k, k < n0 → SI (row p1 k)) ∧ pO x (x + 740) h h9 ∧ cpP p1 wb n0 410 = aPa false np wb pa ∧ n0 + 1 = aNp false np) ⟨4, fun r => A (dS r), hf4, shP pa 1640, by omega, ⟨D0, D1, D2, hG.perm dS hd7 (fun r s hr hs q => by unfold dS at q; split at q <;> (try split at q) <;> (try split at q) <;> (try split at q) <;> omega) (fun r hr => rfl), ⟨(D9 _ (by omega) (by omega)).trans hKP.1, (D9 _ (by omega) (by omega)).trans hKP.2.1, (D9 _ (by omega) (by omega)).trans hKP.2.2⟩, fun r hr => (hall _ (hd7 r hr)).elim fun u hu => ⟨u, h4 _ (hd7 r hr) u hu⟩⟩, h4 0 (by omega) _ hN, h4 1 (by omega) _ hB, fun k hk => ?_, fun k hk => (hRI (k + 1) (by omega)).cg (fun p hp => row_sh hp hk), fun q hq => D9 q (by omega) (by omega), by unfold aPa; rw [if_neg (by decide), if_pos c12], by unfold aNp; rw [if_neg (by decide), if_pos c12]⟩ (fun h18 q18 => ?_)
      · have e : dS (2 + k) = 2 + (k + 1) := by unfold dS; rw [if_neg (by omega), if_pos (by omega)]; omega
        show SA (A (dS (2 + k))) _ _
        rw [e]
        exact (h4 _ (by omega) _ (hR (k + 1) (by omega))).cg (hRI (k + 1) (by omega)) (fun p hp => row_sh hp hk)
      obtain ⟨n0, A1, hf1, p1, hn0, G1, N1, B1, R1, SI1, O1, ep, en1⟩ := q18
      have G1c := G1
      obtain ⟨U0, U1, Uf, uG, uKP, uall⟩ := G1
      refine v_aload_n (pc := 18) X (hd := dX6_recorded_18) (kk := ?_)
      refine g_X6_19 (pc := 19) X (hd := dX6_recorded_19) (hh := U0) (kk := ?_)
      refine v_aload_n (pc := 22) X (hd := dX6_recorded_22) (kk := ?_)
      refine g_X6_23 (pc := 23) X (hd := dX6_recorded_23) (hh := U0) (kk := ?_)
      refine v_aaldN (pc := 26) X (j := n0) (hd := dX6_recorded_26) (hh := U1) (hi := by first | rfl | (simp only [pk_mul, nI_add]; done)) (hj := by omega) (hf := Uf n0 (by omega)) (kk := ?_)
      refine v_astore_n (pc := 27) X (hd := dX6_recorded_27) (kk := ?_)
      refine v_aload_n (pc := 28) X (hd := dX6_recorded_28) (kk := ?_)
      refine g_X6_19 (pc := 29) X (hd := dX6_recorded_29) (hh := U0) (kk := ?_)
      refine v_aload_n (pc := 32) X (hd := dX6_recorded_32) (kk := ?_)
      refine g_X6_23 (pc := 33) X (hd := dX6_recorded_33) (hh := U0) (kk := ?_)
      refine v_aload_n (pc := 36) X (hd := dX6_recorded_36) (kk := ?_)
      refine g_X6_16 (pc := 37) X (hd := dX6_recorded_37) (hh := U0) (kk := ?_)
      refine v_aastN (pc := 40) X (j := n0) (hd := dX6_recorded_40) (hh := U1) (hv := B1.ob) (hi := by first | rfl | (simp only [pk_mul, nI_add]; done)) (hj := by omega) (kk := ?_)
      refine v_aload_n (pc := 41) X (hd := dX6_recorded_41) (kk := ?_)
      refine v_aload_n (pc := 42) X (hd := dX6_recorded_42) (kk := ?_)
      refine p_X6_16 (pc := 43) X (hd := dX6_recorded_43) (hh := (pset_n (by omega)).trans U0) (kk := ?_)
      refine v_aload_n (pc := 46) X (hd := dX6_recorded_46) (kk := ?_)
      refine v_dup (pc := 47) X (hd := dX6_recorded_47) (kk := ?_)
      refine g_X6_23 (pc := 48) X (hd := dX6_recorded_48) (hh := pset_s _ _ _) (kk := ?_)
      refine v_iconst (pc := 51) X (v := nI 1) (hd := dX6_recorded_51) (kk := ?_)
      refine v_iadd (pc := 52) X (hd := dX6_recorded_52) (kk := ?_)
      refine p_X6_23 (pc := 53) X (hd := dX6_recorded_53) (hh := pset_s _ _ _) (kk := ?_)
      refine v_iload_n (pc := 56) X (hd := dX6_recorded_56) (kk := ?_)
      exact v_endi (pc := 57) X hr hlk (hd := dX6_recorded_57) (hf := by
    have r1 := uG.rng (r := 1) (by omega)
    have r2 := uG.rng (r := 2 + n0) (by omega)
    have e1 : ∀ r, r < 7 → ∀ u, SA (A1 r) u h18 → SA (A1 r) u (pset (pset (pset h18 (x + 211) (ar 7 5 (va_up hf1 n0 (some (A1 1))))) x (ob 6 [.ref (A1 0), .ref (A1 (2 + n0)), .ref (x + 211), .int (nI n0), .ref (x + 212)])) x (ob 6 [.ref (A1 0), .ref (A1 (2 + n0)), .ref (x + 211), .int (nI n0 + nI 1), .ref (x + 212)])) := fun r hr u hS => hS.off (fun p h2 h3 => by
      have := uG.rng hr
      exact (pset_n (by omega)).trans ((pset_n (by omega)).trans (pset_n (by omega))))
    refine ⟨rfl, Or.inr ⟨c1n, ⟨fun r => A1 (if r = 1 then 2 + n0 else if r = 2 + n0 then 1 else r), va_up hf1 n0 (some (A1 1)), ⟨?_, ?_, ?_, ?_, ?_, ?_⟩, ?_, ?_⟩, ((O1.set (by omega) (by omega)).set (by omega) (by omega)).set (by omega) (by omega)⟩⟩
    · rw [← en1, ← nI_add]; dsimp only; rw [if_neg (show ¬ 0 = 1 by omega), if_neg (show ¬ 0 = 2 + n0 by omega), if_pos rfl]; exact pset_s _ _ _
    · exact (pset_n (by omega)).trans ((pset_n (by omega)).trans (pset_s _ _ _))
    · intro k hk
      unfold va_up
      dsimp only
      by_cases e : k = n0
      · rw [if_pos e, if_neg (show ¬ 2 + k = 1 by omega), if_pos (show 2 + k = 2 + n0 by omega)]
      · rw [if_neg e, if_neg (show ¬ 2 + k = 1 by omega), if_neg (show ¬ 2 + k = 2 + n0 by omega)]; exact Uf k hk
    · exact uG.perm _ (fun r hr => by split <;> (try split) <;> omega) (fun r s hr hs q => by split at q <;> split at q <;> (try split at q) <;> (try split at q) <;> omega) (fun r hr => rfl)
    · exact ⟨(pset_n (by omega)).trans ((pset_n (by omega)).trans ((pset_n (by omega)).trans uKP.1)), (pset_n (by omega)).trans ((pset_n (by omega)).trans ((pset_n (by omega)).trans uKP.2.1)), (pset_n (by omega)).trans ((pset_n (by omega)).trans ((pset_n (by omega)).trans uKP.2.2))⟩
    · intro r hr
      have hf7 : (if r = 1 then 2 + n0 else if r = 2 + n0 then 1 else r) < 7 := by split <;> (try split) <;> omega
      obtain ⟨u, hu⟩ := uall _ hf7
      exact ⟨u, e1 _ hf7 u hu⟩
    · dsimp only
      rw [if_neg (show ¬ 0 = 1 by omega), if_neg (show ¬ 0 = 2 + n0 by omega)]
      exact e1 0 (by omega) w N1
    · intro k hk
      rw [← en1] at hk
      dsimp only
      rw [← ep, if_neg (show ¬ 2 + k = 1 by omega)]
      by_cases e : k = n0
      · rw [if_pos (show 2 + k = 2 + n0 by omega)]
        exact (e1 1 (by omega) wb B1).cg hBI (fun p hp => by rw [row_cp hp, if_pos e])
      · rw [if_neg (show ¬ 2 + k = 2 + n0 by omega)]
        exact (e1 (2 + k) (by omega) _ (R1 k (by omega))).cg (SI1 k (by omega)) (fun p hp => by rw [row_cp hp, if_neg e]))
  · have c1p : r < 0 := n_nle c1
    refine v_iload_n (pc := 4) X (hd := dX6_recorded_4) (kk := ?_)
    exact v_endi (pc := 5) X hr hlk (hd := dX6_recorded_5) (hf := ⟨rfl, Or.inl ⟨c1p, rfl⟩⟩)
