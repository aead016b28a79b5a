/-! a State of the class: its object at q, its cells behind it -/
section HIV
variable {v : Nat → Int32} {nh nb ns : Nat}
theorem hiCome {sp : Int32} (I : Iv v nh nb ns) (k : kCome v sp) (q : Nat) (hq : 136 ≤ q) : gCome v sp nh q = v q := by
  have h6 := I.1.1
  have hn : nh < 6 := by
    rcases Nat.lt_or_ge nh 6 with w | w
    · exact w
    · exact absurd (by rw [I.1.2.2.2.1, show nh = 6 by omega]) k.2
  rw [gCome_eq I sp hn, pk_un (by omega), pk_un (by omega)]
theorem hiSet {x sp : Int32} (I : Iv v nh nb ns) (k : kSet v x sp) (q : Nat) (hq : 136 ≤ q) : gSet v x sp q = v q := by
  obtain ⟨hn6, hb4, hs12, e1, e2, e3⟩ := I.1
  obtain ⟨i, hi, rfl, ei⟩ := gH_j e1 (by omega) k.1
  unfold gSet
  rw [ei, pk_un (by omega)]
theorem hiAdd {al st : Int32} (I : Iv v nh nb ns) (k : kAdd v al st) (q : Nat) (hq : 136 ≤ q) : gAdd v al st nb q = v q := by
  have h6 := I.1.2.1
  have hn : nb < 4 := by
    rcases Nat.lt_or_ge nb 4 with w | w
    · exact w
    · exact absurd (by rw [I.1.2.2.2.2.1, show nb = 4 by omega]) k.2
  rw [gAdd_eq I al st hn, pk_un (by omega), pk_un (by omega), pk_un (by omega)]
theorem hiAllow {x al : Int32} (I : Iv v nh nb ns) (k : kAllow v x al) (q : Nat) (hq : 136 ≤ q) : gAllow v x al q = v q := by
  obtain ⟨hn6, hb4, hs12, e1, e2, e3⟩ := I.1
  obtain ⟨b, hb, rfl, eb⟩ := gH_j e2 (by omega) k.1
  unfold gAllow
  rw [eb, pk_un (by omega)]
theorem hiGrant {x y is : Int32} (I : Iv v nh nb ns) (k : kGrant v x y is) (q : Nat) (hq : 136 ≤ q) : gGrant v x y is q = v q := by
  obtain ⟨hn6, hb4, hs12, e1, e2, e3⟩ := I.1
  obtain ⟨b, hb, rfl, eb⟩ := gH_j e2 (by omega) k.2.1
  unfold gGrant
  rw [eb, pk_un (by omega)]
theorem hiCut {x y t : Int32} (I : Iv v nh nb ns) (k : kCut v nh x y t) (q : Nat) (hq : 136 ≤ q) : gCut v ns x y t q = v q := by
  obtain ⟨hn6, hb4, hs12, e1, e2, e3⟩ := I.1
  obtain ⟨i, hi, rfl, ei⟩ := gH_j e1 (by omega) k.1.1
  obtain ⟨b, hb, rfl, eb⟩ := gH_j e2 (by omega) k.1.2.1
  have hn : ns < 12 := by
    rcases Nat.lt_or_ge ns 12 with w | w
    · exact w
    · exact absurd (by rw [e3, show ns = 12 by omega]) k.2.2
  unfold gCut cuB cuA
  rw [ei, eb, pk_un (by omega), pk_un (by omega), pk_un (by omega), pk_un (by omega), pk_un (by omega), pk_un (by omega), pk_un (by omega), pk_un (by omega)]
theorem hiTurn {x : Int32} (I : Iv v nh nb ns) (k : kTurn v x) (q : Nat) (hq : 136 ≤ q) : gTurn v x q = v q := by
  obtain ⟨hn6, hb4, hs12, e1, e2, e3⟩ := I.1
  obtain ⟨j, hj, rfl, ej⟩ := gH_j e3 (by omega) k.1
  unfold gTurn
  rw [ej, pk_un (by omega)]
theorem hiJoin {x y : Int32} (I : Iv v nh nb ns) (k : kJoin v x y) (q : Nat) (hq : 136 ≤ q) : gJoin v x y ns q = v q := by
  obtain ⟨hn6, hb4, hs12, e1, e2, e3⟩ := I.1
  obtain ⟨j, hj, rfl, ej⟩ := gH_j e3 (by omega) k.1.1
  obtain ⟨o, ho, rfl, eo⟩ := gH_j e3 (by omega) k.1.2.1
  unfold gJoin
  rw [ej, eo, gGo_n (by omega) (by omega) hj]
  unfold joC joB
  rw [pk_un (by omega), pk_un (by omega), pk_un (by omega)]
theorem hiCart {x t : Int32} (I : Iv v nh nb ns) (k : kCart v x t) (q : Nat) (hq : 136 ≤ q) : hCart v x t ns q = v q := by
  obtain ⟨hn6, hb4, hs12, e1, e2, e3⟩ := I.1
  obtain ⟨j, hj, rfl, ej⟩ := gH_j e3 (by omega) k.1.1
  obtain ⟨o, b, ts, we, tn, s1, s2, s3, s4, s5, s6, u0, u1, u2, u3, u4⟩ := I.2.2.2.2.2.2.2.2.1 j hj
  unfold hCart
  rw [ej, u1, u0, nx_nI (show b < 2 ^ 31 by omega), nx_nI (show o < 2 ^ 31 by omega)]
  unfold gCart
  generalize hd : (if caB v b (fLoad (v (76 + 5 * j + 3)) t) t (76 + 5 * j + 3) ≤ nI 30000 then 1 else 2) = d
  have hd2 : d = 1 ∨ d = 2 := by rw [← hd]; split <;> omega
  have hc : caD v j b o (fLoad (v (76 + 5 * j + 3)) t) t d q = v q := by rw [caD_at (by omega) (by omega) hd2, pk_un (by omega), pk_un (by omega), pk_un (by omega), pk_un (by omega)]
  split
  · rw [gGo_n (by omega) (by omega) hj]; exact hc
  · exact hc
theorem hiRep {x : Int32} (I : Iv v nh nb ns) (k : kRep v x) (q : Nat) (hq : 136 ≤ q) : gRep v x q = v q := by
  obtain ⟨hn6, hb4, hs12, e1, e2, e3⟩ := I.1
  obtain ⟨b, hb, rfl, eb⟩ := gH_j e2 (by omega) k
  unfold gRep
  rw [eb, pk_un (by omega)]
theorem dyF_hi (wi ra : Int32) : ∀ i, i ≤ 12 → ∀ q, 136 ≤ q → dyF v wi ra i q = v q := by
  intro i
  induction i with
  | zero => intro _ q _; rfl
  | succ i ih => intro hi q hq; exact (pk_un (by omega)).trans (ih (by omega) q hq)
theorem hiDay {wi ra : Int32} (I : Iv v nh nb ns) (q : Nat) (hq : 136 ≤ q) : gDay v wi ra ns q = v q := by
  have := I.1.2.2.1
  unfold gDay
  rw [pk_un (by omega), pk_un (by omega), dyF_hi wi ra ns (by omega) q hq]
theorem hiEnd (I : Iv v nh nb ns) (q : Nat) (hq : 136 ≤ q) : gEnd v ns q = v q := by
  rw [gEnd_at I, if_neg (by omega), if_neg (by omega), if_neg (by omega), if_neg (by omega), eyF_o I ns (Nat.le_refl _) q (by omega)]
end HIV
def slot (w : Nat → Int32) (i : Nat) : Nat → Int32 := fun p => w (138 + 136 * i + p)
def SX (q : Nat) (w : Nat → Int32) (fs : Nat → Option Nat) (tk : Nat → Int32) (u : Nat → Nat → Int32) (h : pH) : Prop :=
  h q = some (ob 4 [.ref (q + 1), .ref (q + 35), .ref (q + 36)]) ∧ h (q + 35) = some (ar 6 2 fs) ∧ h (q + 36) = some (ai 2 2 tk) ∧ (∀ i, i < 2 → fs i = some (q + 37 + 34 * i)) ∧ (∀ i, i < 2 → tk i = w (136 + i)) ∧ (∀ i, i < 2 → (w (136 + i) = 0 ∨ w (136 + i) = 1)) ∧ PA (q + 1) w h ∧ (∀ i, i < 2 → PA (q + 37 + 34 * i) (u i) h) ∧ ∀ i, i < 2 → w (136 + i) = 1 → ∀ p, p < 136 → u i p = slot w i p
def SA (q : Nat) (w : Nat → Int32) (h : pH) : Prop := ∃ fs tk u, SX q w fs tk u h
def SI (w : Nat → Int32) : Prop := IE w ∧ ∀ i, i < 2 → w (136 + i) = 1 → IE (slot w i)
theorem IE.cg {v v1 : Nat → Int32} (I : IE v) (hv : ∀ q, q < 136 → v1 q = v q) : IE v1 := by
  obtain ⟨nh, nb, ns, I⟩ := I
  exact ⟨nh, nb, ns, I.cg hv⟩
theorem IE.ns {v : Nat → Int32} (I : IE v) : 76 + 5 * nx (v 3) ≤ 136 := by
  obtain ⟨nh, nb, ns, I⟩ := I
  have := I.1.2.2.1
  rw [I.1.2.2.2.2.2, nx_nI (by omega)]
  omega
theorem PA.cgI {a : Nat} {v v1 : Nat → Int32} {h : pH} (P : PA a v h) (I : IE v) (hv : ∀ q, q < 136 → v1 q = v q) : PA a v1 h :=
  P.congr (fun q hq => hv q (by omega)) (fun q _ hq => hv q (by have := I.ns; omega))
theorem SI.lo {w w1 : Nat → Int32} (S : SI w) (I : IE w1) (hv : ∀ q, 136 ≤ q → w1 q = w q) : SI w1 :=
  ⟨I, fun i hi h => by
    rw [hv _ (by omega)] at h
    exact (S.2 i hi h).cg (fun p hp => hv _ (by omega))⟩
theorem SX.off {q : Nat} {w : Nat → Int32} {fs : Nat → Option Nat} {tk : Nat → Int32} {u : Nat → Nat → Int32} {h h1 : pH} (S : SX q w fs tk u h) (hq : ∀ p, q ≤ p → p < q + 105 → h1 p = h p) : SX q w fs tk u h1 :=
  ⟨(hq _ (by omega) (by omega)).trans S.1, (hq _ (by omega) (by omega)).trans S.2.1, (hq _ (by omega) (by omega)).trans S.2.2.1, S.2.2.2.1, S.2.2.2.2.1, S.2.2.2.2.2.1, S.2.2.2.2.2.2.1.off (fun p h2 h3 => hq p (by omega) (by omega)), fun i hi => (S.2.2.2.2.2.2.2.1 i hi).off (fun p h2 h3 => hq p (by omega) (by omega)), S.2.2.2.2.2.2.2.2⟩
theorem SA.off {q : Nat} {w : Nat → Int32} {h h1 : pH} (S : SA q w h) (hq : ∀ p, q ≤ p → p < q + 105 → h1 p = h p) : SA q w h1 := by
  obtain ⟨fs, tk, u, S⟩ := S
  exact ⟨fs, tk, u, S.off hq⟩
/-- the parish of a state has changed -/
theorem SX.parish {q : Nat} {w w1 : Nat → Int32} {fs : Nat → Option Nat} {tk : Nat → Int32} {u : Nat → Nat → Int32} {h h1 : pH} (S : SX q w fs tk u h) (hv : ∀ p, 136 ≤ p → w1 p = w p) (P : PA (q + 1) w1 h1) (hO : pO (q + 1) (q + 1 + 34) h h1) : SX q w1 fs tk u h1 :=
  ⟨(hO _ (by omega)).trans S.1, (hO _ (by omega)).trans S.2.1, (hO _ (by omega)).trans S.2.2.1, S.2.2.2.1, fun i hi => (S.2.2.2.2.1 i hi).trans (hv _ (by omega)).symm, fun i hi => by rw [hv _ (by omega)]; exact S.2.2.2.2.2.1 i hi, P, fun i hi => (S.2.2.2.2.2.2.2.1 i hi).off (fun p h2 h3 => hO p (by omega)), fun i hi h p hp => by
    rw [hv _ (by omega)] at h
    exact (S.2.2.2.2.2.2.2.2 i hi h p hp).trans (hv _ (by omega)).symm⟩
theorem tkF_at (w : Nat → Int32) (sl : Nat) : ∀ i, i ≤ 136 → ∀ q, tkF w sl i q = if 138 + 136 * sl ≤ q ∧ q < 138 + 136 * sl + i then w (q - (138 + 136 * sl)) else w q := by
  intro i
  induction i with
  | zero => intro _ q; rw [if_neg (by omega)]; rfl
  | succ i ih =>
    intro hi q
    show upd (tkF w sl i) (138 + 136 * sl + i) (tkF w sl i i) q = _
    rw [upd_at, ih (by omega) q, ih (by omega) i, if_neg (show ¬ (138 + 136 * sl ≤ i ∧ i < 138 + 136 * sl + i) by omega)]
    by_cases e : q = 138 + 136 * sl + i
    · rw [if_pos e, if_pos (show 138 + 136 * sl ≤ q ∧ q < 138 + 136 * sl + (i + 1) by omega), e]
      congr 1
      omega
    · rw [if_neg e]
      by_cases e2 : 138 + 136 * sl ≤ q ∧ q < 138 + 136 * sl + i
      · rw [if_pos e2, if_pos (show 138 + 136 * sl ≤ q ∧ q < 138 + 136 * sl + (i + 1) by omega)]
      · rw [if_neg e2, if_neg (show ¬ (138 + 136 * sl ≤ q ∧ q < 138 + 136 * sl + (i + 1)) by omega)]
theorem rsF_at (w : Nat → Int32) (sl : Nat) : ∀ i, i ≤ 136 → ∀ q, rsF w sl i q = if q < i then w (138 + 136 * sl + q) else w q := by
  intro i
  induction i with
  | zero => intro _ q; rw [if_neg (by omega)]; rfl
  | succ i ih =>
    intro hi q
    show upd (rsF w sl i) i (rsF w sl i (138 + 136 * sl + i)) q = _
    rw [upd_at, ih (by omega) q, ih (by omega) (138 + 136 * sl + i), if_neg (show ¬ (138 + 136 * sl + i < i) by omega)]
    by_cases e : q = i
    · rw [if_pos e, if_pos (by omega), e]
    · rw [if_neg e]
      by_cases e2 : q < i
      · rw [if_pos e2, if_pos (by omega)]
      · rw [if_neg e2, if_neg (by omega)]
theorem gTake_at {w : Nat → Int32} {j : Nat} (hj : j ≤ 1) (q : Nat) : gTake w (nI j) q = if q = 136 + j then nI 1 else if 138 + 136 * j ≤ q ∧ q < 138 + 136 * j + 136 then w (q - (138 + 136 * j)) else w q := by
  unfold gTake
  rw [nx_nI (by omega), upd_at, tkF_at w j 136 (Nat.le_refl _)]
theorem gRes_at {w : Nat → Int32} {j : Nat} (hj : j ≤ 1) (q : Nat) : gRes w (nI j) q = if q < 136 then slot w j q else w q := by
  unfold gRes
  rw [nx_nI (by omega), rsF_at w j 136 (Nat.le_refl _)]
  rfl
theorem siTake {w : Nat → Int32} {x : Int32} (S : SI w) (k : kTake x) : SI (gTake w x) := by
  obtain ⟨j, -, hj, rfl, ej⟩ := gI_j (by omega) (by omega) k
  refine ⟨S.1.cg (fun q hq => by rw [gTake_at hj, if_neg (by omega), if_neg (by omega)]), fun i hi h => ?_⟩
  by_cases e : i = j
  · subst e
    exact S.1.cg (fun p hp => by unfold slot; rw [gTake_at hj, if_neg (by omega), if_pos (by omega)]; congr 1; omega)
  · rw [gTake_at hj, if_neg (by omega), if_neg (by omega)] at h
    exact (S.2 i hi h).cg (fun p hp => by unfold slot; rw [gTake_at hj, if_neg (by omega), if_neg (by omega)])
theorem siRes {w : Nat → Int32} {x : Int32} (S : SI w) (k : kRes w x) (hb : ∀ i, i < 2 → (w (136 + i) = 0 ∨ w (136 + i) = 1)) : SI (gRes w x) := by
  obtain ⟨j, -, hj, rfl, ej⟩ := gI_j (by omega) (by omega) k.1
  have hk := k.2
  rw [ej] at hk
  refine ⟨(S.2 j (by omega) ((hb j (by omega)).resolve_left hk)).cg (fun q hq => by rw [gRes_at hj, if_pos hq]), fun i hi h => ?_⟩
  rw [gRes_at hj, if_neg (by omega)] at h
  exact (S.2 i hi h).cg (fun p hp => by unfold slot; rw [gRes_at hj, if_neg (by omega)])
theorem IE.y0 {v : Nat → Int32} (I : IE v) : ¬ v 0 < 0 := by
  obtain ⟨nh, nb, ns, I⟩ := I
  exact I.2.1.1.nn (by omega)
theorem sgTake {w : Nat → Int32} {x : Int32} (S : SI w) : Sg (kTake x) (rTake w x) := by
  unfold rTake
  refine ⟨fun k => ?_, fun k => ?_⟩
  · rw [if_pos k]; exact (siTake S k).1.y0
  · rw [if_neg k]; decide
theorem sgRes {w : Nat → Int32} {x : Int32} (S : SI w) (hb : ∀ i, i < 2 → (w (136 + i) = 0 ∨ w (136 + i) = 1)) : Sg (kRes w x) (rRes w x) := by
  unfold rRes
  refine ⟨fun k => ?_, fun k => ?_⟩
  · rw [if_pos k.1, if_neg k.2]; exact (siRes S k hb).1.y0
  · by_cases h : gI x (nI 0) (nI 1)
    · by_cases h2 : w (136 + nx x) = 0
      · rw [if_pos h, if_pos h2]; decide
      · exact absurd ⟨h, h2⟩ k
    · rw [if_neg h]; decide
def snF (w : Nat → Int32) : Nat → Int32
  | 0 => nI 0
  | i + 1 => snF w i + (if w (136 + i) = 0 then nI 0 else nI 1)
theorem snF_2 {w : Nat → Int32} (hb : ∀ i, i < 2 → (w (136 + i) = 0 ∨ w (136 + i) = 1)) : snF w 2 = w 136 + w 137 := by
  have h0 := hb 0 (by omega)
  have h1 := hb 1 (by omega)
  rw [show (136 + 0) = 136 from rfl] at h0
  rw [show (136 + 1) = 137 from rfl] at h1
  show nI 0 + (if w 136 = 0 then nI 0 else nI 1) + (if w 137 = 0 then nI 0 else nI 1) = _
  rcases h0 with e | e <;> rcases h1 with e1 | e1 <;> rw [e, e1] <;> decide +kernel
def cS (q : Nat) (ok : Prop) (r0 : Int32) (w1 : Nat → Int32) : pH → Int32 → pH → Prop := fun h r h' => r = r0 ∧ ((¬ ok ∧ h' = h) ∨ (ok ∧ SA q w1 h' ∧ pO q (q + 105) h h'))
set_option maxRecDepth 100000 in
set_option maxHeartbeats 4000000 in
theorem c_X4_copyFrom (l : Launch) (E : pE) (q q2 : Nat) (w w2 : Nat → Int32) : pC l E yX4_copyFrom cX4_copyFrom 3 none { frames := 2, cells := 0, slots := 0, locals := 44 } 0 0 [.ref q, .ref q2] (fun h _ => SA q w h ∧ SA q2 w2 h ∧ (q + 105 ≤ q2 ∨ q2 + 105 ≤ q)) (pFv (fun h h' => SA q w2 h' ∧ pO q (q + 105) h h')) := by
  refine pC_of (by decide) (by simp [Value.category]) (Nat.le_of_ble_eq_true rfl) ?_
  intro h z hp p__ e__ s__ m__ args__ below__ meth__ c__ X hr hlk hname
  obtain ⟨hS, hS2, hdis⟩ := hp
  obtain ⟨fs, tk, u, S⟩ := hS
  obtain ⟨T0, T1, T2, Ff, Tk, Tb, hP, hU, hSl⟩ := S
  obtain ⟨fs2, tk2, u2, S2⟩ := hS2
  obtain ⟨R0, R1, R2, Ff2, Tk2, Tb2, hP2, hU2, hSl2⟩ := S2
  refine v_aload_n (pc := 0) X (hd := dX4_copyFrom_0) (kk := ?_)
  refine g_X4_12 (pc := 1) X (hd := dX4_copyFrom_1) (hh := by first | assumption | exact pset_s _ _ _ | exact (pset_n (by omega)).trans (by assumption)) (kk := ?_)
  refine v_aload_n (pc := 4) X (hd := dX4_copyFrom_4) (kk := ?_)
  refine g_X4_12 (pc := 5) X (hd := dX4_copyFrom_5) (hh := by first | assumption | exact pset_s _ _ _ | exact (pset_n (by omega)).trans (by assumption)) (kk := ?_)
  refine v_callVv (pc := 8) X (hd := dX4_copyFrom_8) (w := wv_X4_26) (hC := c_X2_copyFrom l E (q + 1) (q2 + 1) w w2) (hp := ⟨hP, hP2, by omega⟩) (hb := hP.choose_spec.choose_spec.choose_spec.choose_spec.choose_spec.choose_spec.1) (kk := fun h8 q8 => ?_)
  refine v_iconst (pc := 11) X (v := nI 0) (hd := dX4_copyFrom_11) (kk := ?_)
  refine v_istore_n (pc := 12) X (hd := dX4_copyFrom_12) (kk := ?_)
  refine v_for (pc := 13) (M := 2) (Lf := fun i => [some (.ref q), some (.ref q2), some (.int (nI i))]) (I := fun i h1 => PA (q + 1) w2 h1 ∧ pO q (q + 105) h h1 ∧ h1 q = some (ob 4 [.ref (q + 1), .ref (q + 35), .ref (q + 36)]) ∧ h1 (q + 35) = some (ar 6 2 fs) ∧ h1 (q + 36) = some (ai 2 2 (cpA tk tk2 i)) ∧ ∃ u1 : Nat → Nat → Int32, (∀ k, k < 2 → PA (q + 37 + 34 * k) (u1 k) h1) ∧ ∀ k, k < i → w2 (136 + k) = 1 → ∀ p, p < 136 → u1 k p = slot w2 k p) (h0 := ⟨q8.1, q8.2.mono (by omega) (by omega), (q8.2 _ (by omega)).trans T0, (q8.2 _ (by omega)).trans T1, by rw [cpA_0]; exact (q8.2 _ (by omega)).trans T2, u, fun k hk => (hU k hk).off (fun p h2 h3 => q8.2 p (by omega)), fun k hk => by omega⟩) (hL := by rfl) (step := ?_) (out := ?_)
  · intro i h2 hi hI kk
    obtain ⟨C1, C2, C3, C4, C5, u1, C6, C7⟩ := hI
    have hb2 := Tb2 i hi
    rw [← Tk2 i hi] at hb2
    refine v_iload_n (pc := 13) X (hd := dX4_copyFrom_13) (kk := ?_)
    refine v_iconst (pc := 14) X (v := nI 2) (hd := dX4_copyFrom_14) (kk := ?_)
    refine v_icmpge (pc := 15) X (tgt := 60) (hd := dX4_copyFrom_15) (kt := fun c15 => ?_) (kf := fun c15 => ?_)
    · exact absurd c15 (nI_ge hi (by omega))
    · refine v_aload_n (pc := 18) X (hd := dX4_copyFrom_18) (kk := ?_)
      refine g_X4_22 (pc := 19) X (hd := dX4_copyFrom_19) (hh := C3) (kk := ?_)
      refine v_iload_n (pc := 22) X (hd := dX4_copyFrom_22) (kk := ?_)
      refine v_aload_n (pc := 23) X (hd := dX4_copyFrom_23) (kk := ?_)
      refine g_X4_22 (pc := 24) X (hd := dX4_copyFrom_24) (hh := (C2 _ (by omega)).trans R0) (kk := ?_)
      refine v_iload_n (pc := 27) X (hd := dX4_copyFrom_27) (kk := ?_)
      refine v_zaldN (pc := 28) X (j := i) (hd := dX4_copyFrom_28) (hh := (C2 _ (by omega)).trans R2) (hi := by first | rfl | (simp only [pk_mul, nI_add]; done)) (hj := by omega) (kk := ?_)
      refine v_zastN (pc := 29) X (j := i) (hd := dX4_copyFrom_29) (hh := C5) (hi := by first | rfl | (simp only [pk_mul, nI_add]; done)) (hj := by omega) (hx := nar_b hb2) (kk := ?_)
      refine v_aload_n (pc := 30) X (hd := dX4_copyFrom_30) (kk := ?_)
      refine g_X4_22 (pc := 31) X (hd := dX4_copyFrom_31) (hh := (pset_n (by omega)).trans C3) (kk := ?_)
      refine v_iload_n (pc := 34) X (hd := dX4_copyFrom_34) (kk := ?_)
      refine v_zaldN (pc := 35) X (j := i) (hd := dX4_copyFrom_35) (hh := pset_s _ _ _) (hi := by first | rfl | (simp only [pk_mul, nI_add]; done)) (hj := by omega) (kk := ?_)
      rw [pk_us]
      refine v_ifeq (pc := 36) X (tgt := 54) (hd := dX4_copyFrom_36) (kt := fun c36 => ?_) (kf := fun c36 => ?_)
      · refine v_iincN (pc := 54) X (hd := dX4_copyFrom_54) (kk := ?_)
        refine v_goto (pc := 57) X (tgt := 13) (hd := dX4_copyFrom_57) (kk := ?_)
        refine kk _ ⟨C1.off (fun p h3 h4 => pset_n (by omega)), C2.set (by omega) (by omega), (pset_n (by omega)).trans C3, (pset_n (by omega)).trans C4, by rw [← cpA_s]; exact pset_s _ _ _, u1, fun k hk => (C6 k hk).off (fun p h3 h4 => pset_n (by omega)), fun k hk h3 => ?_⟩
        by_cases e : k = i
        · subst e; rw [← Tk2 k hi, c36] at h3; exact absurd h3 (by decide)
        · exact C7 k (by omega) h3
      · refine v_aload_n (pc := 39) X (hd := dX4_copyFrom_39) (kk := ?_)
        refine g_X4_18 (pc := 40) X (hd := dX4_copyFrom_40) (hh := (pset_n (by omega)).trans C3) (kk := ?_)
        refine v_iload_n (pc := 43) X (hd := dX4_copyFrom_43) (kk := ?_)
        refine v_aaldN (pc := 44) X (j := i) (hd := dX4_copyFrom_44) (hh := (pset_n (by omega)).trans C4) (hi := by first | rfl | (simp only [pk_mul, nI_add]; done)) (hj := by omega) (hf := Ff i hi) (kk := ?_)
        refine v_aload_n (pc := 45) X (hd := dX4_copyFrom_45) (kk := ?_)
        refine g_X4_18 (pc := 46) X (hd := dX4_copyFrom_46) (hh := (pset_n (by omega)).trans ((C2 _ (by omega)).trans R0)) (kk := ?_)
        refine v_iload_n (pc := 49) X (hd := dX4_copyFrom_49) (kk := ?_)
        refine v_aaldN (pc := 50) X (j := i) (hd := dX4_copyFrom_50) (hh := (pset_n (by omega)).trans ((C2 _ (by omega)).trans R1)) (hi := by first | rfl | (simp only [pk_mul, nI_add]; done)) (hj := by omega) (hf := Ff2 i hi) (kk := ?_)
        refine v_callVv (pc := 51) X (hd := dX4_copyFrom_51) (w := wv_X4_26) (hC := c_X2_copyFrom l E (q + 37 + 34 * i) (q2 + 37 + 34 * i) (u1 i) (u2 i)) (hp := ⟨(C6 i hi).off (fun p h3 h4 => pset_n (by omega)), (hU2 i hi).off (fun p h3 h4 => (pset_n (by omega)).trans (C2 p (by omega))), by omega⟩) (hb := ((C6 i hi).off (fun p h3 h4 => pset_n (by omega))).choose_spec.choose_spec.choose_spec.choose_spec.choose_spec.choose_spec.1) (kk := fun h51 q51 => ?_)
        refine v_iincN (pc := 54) X (hd := dX4_copyFrom_54) (kk := ?_)
        refine v_goto (pc := 57) X (tgt := 13) (hd := dX4_copyFrom_57) (kk := ?_)
        obtain ⟨r1, r2⟩ := q51
        refine kk _ ⟨(C1.off (fun p h3 h4 => pset_n (by omega))).off (fun p h3 h4 => r2 p (by omega)), (C2.set (by omega) (by omega)).tr (r2.mono (by omega) (by omega)), (r2 _ (by omega)).trans ((pset_n (by omega)).trans C3), (r2 _ (by omega)).trans ((pset_n (by omega)).trans C4), (r2 _ (by omega)).trans (by rw [← cpA_s]; exact pset_s _ _ _), fun k => if k = i then u2 i else u1 k, fun k hk => ?_, fun k hk h3 => ?_⟩
        · by_cases e : k = i
          · dsimp only; rw [if_pos e, e]; exact r1
          · dsimp only; rw [if_neg e]; exact ((C6 k hk).off (fun p h3 h4 => pset_n (by omega))).off (fun p h3 h4 => r2 p (by omega))
        · by_cases e : k = i
          · dsimp only; rw [if_pos e]; rw [e] at h3 ⊢; exact hSl2 i hi h3
          · dsimp only; rw [if_neg e]; exact C7 k (by omega) h3
  · intro h2 hI
    obtain ⟨C1, C2, C3, C4, C5, u1, C6, C7⟩ := hI
    refine v_iload_n (pc := 13) X (hd := dX4_copyFrom_13) (kk := ?_)
    refine v_iconst (pc := 14) X (v := nI 2) (hd := dX4_copyFrom_14) (kk := ?_)
    refine v_icmpge (pc := 15) X (tgt := 60) (hd := dX4_copyFrom_15) (kt := fun c15 => ?_) (kf := fun c15 => ?_)
    · exact v_endv (pc := 60) X hr hlk (hd := dX4_copyFrom_60) (hf := ⟨⟨fs, cpA tk tk2 2, u1, C3, C4, C5, Ff, fun i hi => (cpA_l hi).trans (Tk2 i hi), Tb2, C1, C6, C7⟩, C2⟩)
    · exact absurd (Int32.le_refl _) c15
set_option maxRecDepth 100000 in
set_option maxHeartbeats 4000000 in
theorem c_X4_snapshots (l : Launch) (E : pE) (q : Nat) (w : Nat → Int32) : pC l E yX4_snapshots cX4_snapshots 3 (some .int) { frames := 0, cells := 0, slots := 0, locals := 0 } 0 0 [.ref q] (fun h _ => SA q w h) (pFp ((w 136 + w 137))) := by
  refine pC_of (by decide) (by simp [Value.category]) (Nat.le_of_ble_eq_true rfl) ?_
  intro h z hp p__ e__ s__ m__ args__ below__ meth__ c__ X hr hlk hname
  have hS := hp
  obtain ⟨fs, tk, u, S⟩ := hS
  obtain ⟨T0, T1, T2, Ff, Tk, Tb, hP, hU, hSl⟩ := S
  refine v_iconst (pc := 0) X (v := nI 0) (hd := dX4_snapshots_0) (kk := ?_)
  refine v_istore_n (pc := 1) X (hd := dX4_snapshots_1) (kk := ?_)
  refine v_iconst (pc := 2) X (v := nI 0) (hd := dX4_snapshots_2) (kk := ?_)
  refine v_istore_n (pc := 3) X (hd := dX4_snapshots_3) (kk := ?_)
  refine v_forp (pc := 4) (M := 2) (Lf := fun i => [some (.ref q), some (.int (snF w i)), some (.int (nI i))]) (hL := by rfl) (step := ?_) (out := ?_)
  · intro i hi kk
    refine v_iload_n (pc := 4) X (hd := dX4_snapshots_4) (kk := ?_)
    refine v_iconst (pc := 5) X (v := nI 2) (hd := dX4_snapshots_5) (kk := ?_)
    refine v_icmpge (pc := 6) X (tgt := 27) (hd := dX4_snapshots_6) (kt := fun c6 => ?_) (kf := fun c6 => ?_)
    · exact absurd c6 (nI_ge hi (by omega))
    · refine v_aload_n (pc := 9) X (hd := dX4_snapshots_9) (kk := ?_)
      refine g_X4_22 (pc := 10) X (hd := dX4_snapshots_10) (hh := by first | assumption | exact pset_s _ _ _ | exact (pset_n (by omega)).trans (by assumption)) (kk := ?_)
      refine v_iload_n (pc := 13) X (hd := dX4_snapshots_13) (kk := ?_)
      refine v_zaldN (pc := 14) X (j := i) (hd := dX4_snapshots_14) (hh := T2) (hi := by first | rfl | (simp only [pk_mul, nI_add]; done)) (hj := by omega) (kk := ?_)
      rw [Tk i hi]
      refine v_ifeq (pc := 15) X (tgt := 21) (hd := dX4_snapshots_15) (kt := fun c15 => ?_) (kf := fun c15 => ?_)
      · rw [show snF w (i + 1) = snF w i from by show snF w i + _ = _; rw [if_pos c15]; exact add_n0 _] at kk
        refine v_iincN (pc := 21) X (hd := dX4_snapshots_21) (kk := ?_)
        refine v_goto (pc := 24) X (tgt := 4) (hd := dX4_snapshots_24) (kk := ?_)
        exact kk
      · rw [show snF w (i + 1) = snF w i + 1 from by show snF w i + _ = _; rw [if_neg c15]; rfl] at kk
        refine v_iinc1 (pc := 18) X (hd := dX4_snapshots_18) (kk := ?_)
        refine v_iincN (pc := 21) X (hd := dX4_snapshots_21) (kk := ?_)
        refine v_goto (pc := 24) X (tgt := 4) (hd := dX4_snapshots_24) (kk := ?_)
        exact kk
  · skip
    refine v_iload_n (pc := 4) X (hd := dX4_snapshots_4) (kk := ?_)
    refine v_iconst (pc := 5) X (v := nI 2) (hd := dX4_snapshots_5) (kk := ?_)
    refine v_icmpge (pc := 6) X (tgt := 27) (hd := dX4_snapshots_6) (kt := fun c6 => ?_) (kf := fun c6 => ?_)
    · refine v_iload_n (pc := 27) X (hd := dX4_snapshots_27) (kk := ?_)
      exact v_endp (pc := 28) X hr hlk (hd := dX4_snapshots_28) (hf := snF_2 Tb)
    · exact absurd (Int32.le_refl _) c6