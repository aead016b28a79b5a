/-! what holds of a parish's row of numbers -/
def nx (x : Int32) : Nat := x.toNatClampNeg
theorem nx_nI {j : Nat} (h : j < 2 ^ 31) : nx (nI j) = j := nI_clamp h
def isN (x : Int32) (lo hi : Nat) : Prop := ∃ j : Nat, lo ≤ j ∧ j ≤ hi ∧ x = nI j
def sT (v : Nat → Int32) : Nat → Nat
  | 0 => 0
  | k + 1 => sT v k + nx (v (76 + 5 * k + 2))
def sC (v : Nat → Int32) : Nat → Nat
  | 0 => 0
  | k + 1 => sC v k + nx (v (52 + k))
def isSt (v : Nat → Int32) (nh nb k : Nat) : Prop := ∃ o b t we tn : Nat, o < nh ∧ b < nb ∧ 1 ≤ t ∧ t < 2 ^ 31 ∧ we ≤ 100000 ∧ tn ≤ 3 ∧ v (76 + 5 * k + 0) = nI o ∧ v (76 + 5 * k + 1) = nI b ∧ v (76 + 5 * k + 2) = nI t ∧ v (76 + 5 * k + 3) = nI we ∧ v (76 + 5 * k + 4) = nI tn
def Iv (v : Nat → Int32) (nh nb ns : Nat) : Prop :=
  (nh ≤ 6 ∧ nb ≤ 4 ∧ ns ≤ 12 ∧ v 1 = nI nh ∧ v 2 = nI nb ∧ v 3 = nI ns) ∧ (isN (v 0) 0 999 ∧ isN (v 4) 0 9) ∧
  (∀ j, j < nh → isN (v (6 + 3 * j + 0)) 1 9) ∧ (∀ j, nh ≤ j → j < 6 → v (6 + 3 * j + 0) = nI 0 ∧ v (6 + 3 * j + 1) = nI 0 ∧ v (6 + 3 * j + 2) = nI 0) ∧
  (∀ b, b < nb → isN (v (24 + 7 * b + 0)) 0 5000 ∧ isN (v (24 + 7 * b + 1)) 100 3000 ∧ isN (v (24 + 7 * b + 2)) 0 3000) ∧ (∀ b, b < 4 → isN (v (24 + 7 * b + 3)) 0 63) ∧ (∀ b, nb ≤ b → b < 4 → ∀ q, q < 7 → v (24 + 7 * b + q) = nI 0) ∧
  (∀ j b, j < 6 → b < 4 → isN (v (52 + 4 * j + b)) 0 45001 ∧ (nh ≤ j ∨ nb ≤ b → v (52 + 4 * j + b) = nI 0)) ∧
  (∀ k, k < ns → isSt v nh nb k) ∧ sT v ns ≤ sC v 24
theorem Iv.sp {v : Nat → Int32} {nh nb ns b : Nat} (I : Iv v nh nb ns) : ∀ n, n ≤ nh → ∃ s, s ≤ 9 * n ∧ fSp v b n = nI s ∧ ∀ k, k < n → hR v k b → 1 ≤ s := by
  intro n
  induction n with
  | zero => intro _; exact ⟨0, Nat.le_refl _, rfl, fun k hk => absurd hk (Nat.not_lt_zero _)⟩
  | succ n ih =>
    intro hn
    obtain ⟨s, h1, h2, h3⟩ := ih (by omega)
    obtain ⟨j, g1, g2, g3⟩ := I.2.2.1 n (by omega)
    by_cases hr : hR v n b
    · refine ⟨s + j, by omega, ?_, fun k hk hq => by omega⟩
      show fSp v b n + _ = _
      rw [if_pos hr, h2, g3, nI_add]
    · refine ⟨s, by omega, ?_, fun k hk hq => ?_⟩
      · show fSp v b n + _ = _
        rw [if_neg hr, h2, nI_add]
        rfl
      · by_cases e : k = n
        · exact absurd (e ▸ hq) hr
        · exact h3 k (by omega) hq
theorem Iv.spz {v : Nat → Int32} {nh nb ns b k : Nat} (I : Iv v nh nb ns) (hk : k < nh) (hr : hR v k b) : ¬ fSp v b nh = 0 := by
  obtain ⟨s, h1, h2, h3⟩ := I.sp (b := b) nh (Nat.le_refl _)
  have h4 := h3 k hk hr
  rw [h2]
  exact nI_ne0 h4 (by have := I.1.1; omega)
theorem Iv.w0 {v : Nat → Int32} {nh nb ns k : Nat} (I : Iv v nh nb ns) (hk : k < ns) : ∃ we, we ≤ 100000 ∧ v (76 + 5 * k + 3) = nI we ∧ fW (v (76 + 5 * k + 3)) = nI (1000 + we / 100) := by
  obtain ⟨o, b, t, we, tn, h1, h2, h3, h4, h5, h6, e0, e1, e2, e3, e4⟩ := I.2.2.2.2.2.2.2.2.1 k hk
  refine ⟨we, h5, e3, ?_⟩
  unfold fW
  rw [e3, pk_div (by omega) (by omega) (by omega), nI_add]
theorem Iv.wz {v : Nat → Int32} {nh nb ns k : Nat} (I : Iv v nh nb ns) (hk : k < ns) : ¬ fW (v (76 + 5 * k + 3)) = 0 ∧ 0 < fW (v (76 + 5 * k + 3)) := by
  obtain ⟨we, h1, h2, h3⟩ := I.w0 hk
  rw [h3]
  exact ⟨nI_ne0 (by omega) (by omega), by have := nI_lt (a := 0) (b := 1000 + we / 100) (by omega) (by omega); rw [nI_z] at this; exact this⟩
theorem gH_j {n : Int32} {k : Nat} {x : Int32} (hn : n = nI k) (hk : k < 2 ^ 31) (h : gH n x) : ∃ j, j < k ∧ x = nI j ∧ nx x = j := by
  obtain ⟨j, hj, rfl⟩ := nI_of (x := x) (fun q => by have := h.1; rw [n_lt] at q; rw [n_le] at this; omega)
  have h2 := h.2
  rw [hn] at h2
  have h3 := (nI_ltI hj hk).mp h2
  exact ⟨j, h3, rfl, nx_nI hj⟩
theorem gI_j {lo hi : Nat} {x : Int32} (hh : hi < 2 ^ 31) (hl : lo ≤ hi) (h : gI x (nI lo) (nI hi)) : ∃ j, lo ≤ j ∧ j ≤ hi ∧ x = nI j ∧ nx x = j := by
  obtain ⟨j, hj, rfl⟩ := nI_of (x := x) (fun q => by have h1 := h.1; rw [n_lt] at q; rw [n_le, nI_toInt (by omega)] at h1; rw [Int32.toInt_zero] at q; omega)
  exact ⟨j, (nI_leI (by omega) hj).mp h.1, (nI_leI hj hh).mp h.2, rfl, nx_nI hj⟩
/-! the reference's rows change -/
section MDS
variable {m : Nat} {w pa he te re w1 : Nat → Int32} {ps rn ty at_ st ki co ps1 rn1 ty1 at1 st1 ki1 co1 : Int32} {h : pH}
theorem MD.sw (M : MD m w pa he te re ps rn ty at_ st ki co h) (w1 : Nat → Int32) : MD m w1 pa he te re ps rn ty at_ st ki co (pset h (m + 1) (ai 1 410 w1)) :=
  ⟨(pset_n (by omega)).trans M.1, pset_s _ _ _, (pset_n (by omega)).trans M.2.2.1, (pset_n (by omega)).trans M.2.2.2.1, (pset_n (by omega)).trans M.2.2.2.2.1, (pset_n (by omega)).trans M.2.2.2.2.2⟩
theorem MD.spa (M : MD m w pa he te re ps rn ty at_ st ki co h) (w1 : Nat → Int32) : MD m w w1 he te re ps rn ty at_ st ki co (pset h (m + 2) (ai 1 2050 w1)) :=
  ⟨(pset_n (by omega)).trans M.1, (pset_n (by omega)).trans M.2.1, pset_s _ _ _, (pset_n (by omega)).trans M.2.2.2.1, (pset_n (by omega)).trans M.2.2.2.2.1, (pset_n (by omega)).trans M.2.2.2.2.2⟩
theorem MD.she (M : MD m w pa he te re ps rn ty at_ st ki co h) (w1 : Nat → Int32) : MD m w pa w1 te re ps rn ty at_ st ki co (pset h (m + 3) (ai 1 410 w1)) :=
  ⟨(pset_n (by omega)).trans M.1, (pset_n (by omega)).trans M.2.1, (pset_n (by omega)).trans M.2.2.1, pset_s _ _ _, (pset_n (by omega)).trans M.2.2.2.2.1, (pset_n (by omega)).trans M.2.2.2.2.2⟩
theorem MD.ste (M : MD m w pa he te re ps rn ty at_ st ki co h) (w1 : Nat → Int32) : MD m w pa he w1 re ps rn ty at_ st ki co (pset h (m + 4) (ai 1 140 w1)) :=
  ⟨(pset_n (by omega)).trans M.1, (pset_n (by omega)).trans M.2.1, (pset_n (by omega)).trans M.2.2.1, (pset_n (by omega)).trans M.2.2.2.1, pset_s _ _ _, (pset_n (by omega)).trans M.2.2.2.2.2⟩
theorem MD.sre (M : MD m w pa he te re ps rn ty at_ st ki co h) (w1 : Nat → Int32) : MD m w pa he te w1 ps rn ty at_ st ki co (pset h (m + 5) (ai 1 3 w1)) :=
  ⟨(pset_n (by omega)).trans M.1, (pset_n (by omega)).trans M.2.1, (pset_n (by omega)).trans M.2.2.1, (pset_n (by omega)).trans M.2.2.2.1, (pset_n (by omega)).trans M.2.2.2.2.1, pset_s _ _ _⟩
theorem MD.sob (M : MD m w pa he te re ps rn ty at_ st ki co h) : MD m w pa he te re ps1 rn1 ty1 at1 st1 ki1 co1 (pset h m (ob 7 [.ref (m + 1), .ref (m + 2), .ref (m + 3), .int ps1, .int rn1, .ref (m + 4), .int ty1, .int at1, .int st1, .int ki1, .ref (m + 5), .int co1])) :=
  ⟨pset_s _ _ _, (pset_n (by omega)).trans M.2.1, (pset_n (by omega)).trans M.2.2.1, (pset_n (by omega)).trans M.2.2.2.1, (pset_n (by omega)).trans M.2.2.2.2.1, (pset_n (by omega)).trans M.2.2.2.2.2⟩
end MDS
/-! the history's row -/
def shP (pa : Nat → Int32) (i : Nat) : Nat → Int32 := fun k => if k < i then pa (k + 410) else pa k
def cpP (pa w : Nat → Int32) (np i : Nat) : Nat → Int32 := fun k => if 410 * np ≤ k ∧ k < 410 * np + i then w (k - 410 * np) else pa k
def aPa (rr : Bool) (np : Nat) (w pa : Nat → Int32) : Nat → Int32 := if rr = true then pa else if np = 5 then cpP (shP pa 1640) w 4 410 else cpP pa w np 410
def aNp (rr : Bool) (np : Nat) : Nat := if rr = true then np else if np = 5 then 5 else np + 1
theorem shP_s (pa : Nat → Int32) (i : Nat) : upd (shP pa i) i (shP pa i (i + 410)) = shP pa (i + 1) := by
  funext k
  unfold upd shP
  by_cases e : k = i
  · rw [if_pos e, if_neg (by omega), if_pos (by omega), e]
  · rw [if_neg e]
    by_cases e2 : k < i
    · rw [if_pos e2, if_pos (by omega)]
    · rw [if_neg e2, if_neg (by omega)]
theorem cpP_s (pa w : Nat → Int32) (np i : Nat) : upd (cpP pa w np i) (410 * np + i) (w i) = cpP pa w np (i + 1) := by
  funext k
  unfold upd cpP
  by_cases e : k = 410 * np + i
  · rw [if_pos e, if_pos (by omega), e]
    congr 1
    omega
  · rw [if_neg e]
    by_cases e2 : 410 * np ≤ k ∧ k < 410 * np + i
    · rw [if_pos e2, if_pos (by omega)]
    · rw [if_neg e2, if_neg (by omega)]
theorem cpP_0 (pa w : Nat → Int32) (np : Nat) : cpP pa w np 0 = pa := by
  funext k
  unfold cpP
  rw [if_neg (by omega)]
theorem shP_0 (pa : Nat → Int32) : shP pa 0 = pa := by
  funext k
  unfold shP
  rw [if_neg (by omega)]
def okA (m : Nat) (w pa he te re : Nat → Int32) (np : Nat) (rr : Bool) (ty at_ st ki co : Int32) (w1 : Nat → Int32) (h h1 : pH) : Prop := MD m w1 (aPa rr np w pa) he te re (nI (aNp rr np)) (bI (rr = true)) ty at_ st ki co h1 ∧ pO m (m + 6) h h1
set_option maxRecDepth 100000 in
set_option maxHeartbeats 4000000 in
theorem c_X7_acts (l : Launch) (E : pE) (m : Nat) (w pa he te re : Nat → Int32) (np : Nat) (rr : Bool) (ty at_ st ki co : Int32) : pC l E yX7_acts cX7_acts 2 none { frames := 0, cells := 0, slots := 0, locals := 0 } 0 0 [.ref m] (fun h _ => MD m w pa he te re (nI np) (bI (rr = true)) ty at_ st ki co h ∧ np ≤ 5) (pFv (okA m w pa he te re np rr ty at_ st ki co w)) := by
  refine pC_of (by decide) (by simp [Value.category]) (Nat.le_of_ble_eq_true rfl) ?_
  intro h z hp p__ e__ s__ m__ args__ below__ meth__ c__ X hr hlk hname
  obtain ⟨hM, hE⟩ := hp
  have hM0 := hM
  obtain ⟨M0, M1, M2, M3, M4, M5⟩ := hM0
  have K : ∀ (n0 : Nat) (p0 : Nat → Int32) (h1 : pH), n0 < 5 → MD m w p0 he te re (nI n0) (bI (rr = true)) ty at_ st ki co h1 → pO m (m + 6) h h1 → cpP p0 w n0 410 = aPa rr np w pa → n0 + 1 = aNp rr np → (pV p__ l e__ { frames := 0, cells := 0, slots := 0, locals := 0 } s__ m__ args__ below__ meth__ c__ 2 E (pA h z) (MQ below__ (pQ E (pFv (okA m w pa he te re np rr ty at_ st ki co w)) h z) args__ s__ 0 0 (pA h z)) z h1 0 0 57 [some (.ref m), none] []) := by
    intro n0 p0 h1 hn0 hM1 hO e1 e2
    have hM2 := hM1
    obtain ⟨N0, N1, N2, N3, N4, N5⟩ := hM2
    refine v_iconst (pc := 57) X (v := nI 0) (hd := dX7_acts_57) (kk := ?_)
    refine v_istore_n (pc := 58) X (hd := dX7_acts_58) (kk := ?_)
    refine v_for (pc := 59) (M := 410) (Lf := fun i => [some (.ref m), some (.int (nI i))]) (I := fun i h2 => h2 = pset h1 (m + 2) (ai 1 2050 (cpP p0 w n0 i))) (h0 := by rw [cpP_0]; exact pset_id N2) (hL := by rfl) (step := ?_) (out := ?_)
    · intro i h2 hi hI kk
      subst hI
      refine v_iload_n (pc := 59) X (hd := dX7_acts_59) (kk := ?_)
      refine v_sipush (pc := 60) X (v := nI 410) (hd := dX7_acts_60) (kk := ?_)
      refine v_icmpge (pc := 63) X (tgt := 93) (hd := dX7_acts_63) (kt := fun c63 => ?_) (kf := fun c63 => ?_)
      · exact absurd c63 (nI_ge hi (by omega))
      · refine v_aload_n (pc := 66) X (hd := dX7_acts_66) (kk := ?_)
        refine g_X7_13 (pc := 67) X (hd := dX7_acts_67) (hh := by first | assumption | exact pset_s _ _ _ | exact (pset_n (by omega)).trans (by assumption)) (kk := ?_)
        refine v_sipush (pc := 70) X (v := nI 410) (hd := dX7_acts_70) (kk := ?_)
        refine v_aload_n (pc := 73) X (hd := dX7_acts_73) (kk := ?_)
        refine g_X7_29 (pc := 74) X (hd := dX7_acts_74) (hh := by first | assumption | exact pset_s _ _ _ | exact (pset_n (by omega)).trans (by assumption)) (kk := ?_)
        refine v_imul (pc := 77) X (hd := dX7_acts_77) (kk := ?_)
        refine v_iload_n (pc := 78) X (hd := dX7_acts_78) (kk := ?_)
        refine v_iadd (pc := 79) X (hd := dX7_acts_79) (kk := ?_)
        refine v_aload_n (pc := 80) X (hd := dX7_acts_80) (kk := ?_)
        refine g_X7_7 (pc := 81) X (hd := dX7_acts_81) (hh := by first | assumption | exact pset_s _ _ _ | exact (pset_n (by omega)).trans (by assumption)) (kk := ?_)
        refine v_iload_n (pc := 84) X (hd := dX7_acts_84) (kk := ?_)
        refine v_ialdN (pc := 85) X (j := i) (hd := dX7_acts_85) (hh := by first | assumption | exact pset_s _ _ _ | exact (pset_n (by omega)).trans (by assumption)) (hi := by first | rfl | (simp only [pk_mul, nI_add]; done)) (hj := by omega) (kk := ?_)
        refine v_iastN (pc := 86) X (j := (410 * n0 + i)) (hd := dX7_acts_86) (hh := by first | assumption | exact pset_s _ _ _ | exact (pset_n (by omega)).trans (by assumption)) (hi := by rw [pk_mul, nI_add]) (hj := by omega) (kk := ?_)
        rw [pset_pset]
        refine v_iincN (pc := 87) X (hd := dX7_acts_87) (kk := ?_)
        refine v_goto (pc := 90) X (tgt := 59) (hd := dX7_acts_90) (kk := ?_)
        refine kk _ ?_
        rw [cpP_s]
    · intro h2 hI
      subst hI
      refine v_iload_n (pc := 59) X (hd := dX7_acts_59) (kk := ?_)
      refine v_sipush (pc := 60) X (v := nI 410) (hd := dX7_acts_60) (kk := ?_)
      refine v_icmpge (pc := 63) X (tgt := 93) (hd := dX7_acts_63) (kt := fun c63 => ?_) (kf := fun c63 => ?_)
      · refine v_aload_n (pc := 93) X (hd := dX7_acts_93) (kk := ?_)
        refine v_dup (pc := 94) X (hd := dX7_acts_94) (kk := ?_)
        refine g_X7_29 (pc := 95) X (hd := dX7_acts_95) (hh := by first | assumption | exact pset_s _ _ _ | exact (pset_n (by omega)).trans (by assumption)) (kk := ?_)
        refine v_iconst (pc := 98) X (v := nI 1) (hd := dX7_acts_98) (kk := ?_)
        refine v_iadd (pc := 99) X (hd := dX7_acts_99) (kk := ?_)
        refine p_X7_29 (pc := 100) X (hd := dX7_acts_100) (hh := by first | assumption | exact pset_s _ _ _ | exact (pset_n (by omega)).trans (by assumption)) (kk := ?_)
        exact v_endv (pc := 103) X hr hlk (hd := dX7_acts_103) (hf := ⟨by rw [← e1, ← e2, ← nI_add]; exact (hM1.spa _).sob, (hO.set (by omega) (by omega)).set (by omega) (by omega)⟩)
      · exact absurd (Int32.le_refl _) c63
  refine v_aload_n (pc := 0) X (hd := dX7_acts_0) (kk := ?_)
  refine g_X7_25 (pc := 1) X (hd := dX7_acts_1) (hh := by first | assumption | exact pset_s _ _ _ | exact (pset_n (by omega)).trans (by assumption)) (kk := ?_)
  refine v_ifeqB (pc := 4) X (tgt := 8) (hd := dX7_acts_4) (kt := fun c4 => ?_) (kf := fun c4 => ?_)
  · refine v_aload_n (pc := 8) X (hd := dX7_acts_8) (kk := ?_)
    refine g_X7_29 (pc := 9) X (hd := dX7_acts_9) (hh := by first | assumption | exact pset_s _ _ _ | exact (pset_n (by omega)).trans (by assumption)) (kk := ?_)
    refine v_iconst (pc := 12) X (v := nI 5) (hd := dX7_acts_12) (kk := ?_)
    refine v_icmpne (pc := 13) X (tgt := 57) (hd := dX7_acts_13) (kt := fun c13 => ?_) (kf := fun c13 => ?_)
    · have c14 : ¬ np = 5 := fun q => c13 (by rw [q])
      exact v_sub [some (.ref m), none] (by intro i v hv; match i, hv with | 0, hv => exact hv | 1, hv => simp at hv | i + 2, hv => simp at hv) (K np pa h (by omega) hM pO.rf (by unfold aPa; rw [if_neg c4, if_neg c14]) (by unfold aNp; rw [if_neg c4, if_neg c14]))
    · have c14 : np = 5 := (nI_eq (by omega) (by omega)).mp (Classical.not_not.mp c13)
      subst c14
      refine v_iconst (pc := 16) X (v := nI 0) (hd := dX7_acts_16) (kk := ?_)
      refine v_istore_n (pc := 17) X (hd := dX7_acts_17) (kk := ?_)
      refine v_for (pc := 18) (M := 1640) (Lf := fun i => [some (.ref m), some (.int (nI i))]) (I := fun i h1 => h1 = pset h (m + 2) (ai 1 2050 (shP pa i))) (h0 := by rw [shP_0]; exact pset_id M2) (hL := by rfl) (step := ?_) (out := ?_)
      · intro i h1 hi hI kk
        subst hI
        refine v_iload_n (pc := 18) X (hd := dX7_acts_18) (kk := ?_)
        refine v_sipush (pc := 19) X (v := nI 1640) (hd := dX7_acts_19) (kk := ?_)
        refine v_icmpge (pc := 22) X (tgt := 47) (hd := dX7_acts_22) (kt := fun c22 => ?_) (kf := fun c22 => ?_)
        · exact absurd c22 (nI_ge hi (by omega))
        · refine v_aload_n (pc := 25) X (hd := dX7_acts_25) (kk := ?_)
          refine g_X7_13 (pc := 26) X (hd := dX7_acts_26) (hh := by first | assumption | exact pset_s _ _ _ | exact (pset_n (by omega)).trans (by assumption)) (kk := ?_)
          refine v_iload_n (pc := 29) X (hd := dX7_acts_29) (kk := ?_)
          refine v_aload_n (pc := 30) X (hd := dX7_acts_30) (kk := ?_)
          refine g_X7_13 (pc := 31) X (hd := dX7_acts_31) (hh := by first | assumption | exact pset_s _ _ _ | exact (pset_n (by omega)).trans (by assumption)) (kk := ?_)
          refine v_iload_n (pc := 34) X (hd := dX7_acts_34) (kk := ?_)
          refine v_sipush (pc := 35) X (v := nI 410) (hd := dX7_acts_35) (kk := ?_)
          refine v_iadd (pc := 38) X (hd := dX7_acts_38) (kk := ?_)
          refine v_ialdN (pc := 39) X (j := (i + 410)) (hd := dX7_acts_39) (hh := by first | assumption | exact pset_s _ _ _ | exact (pset_n (by omega)).trans (by assumption)) (hi := nI_add _ _) (hj := by omega) (kk := ?_)
          refine v_iastN (pc := 40) X (j := i) (hd := dX7_acts_40) (hh := by first | assumption | exact pset_s _ _ _ | exact (pset_n (by omega)).trans (by assumption)) (hi := by first | rfl | (simp only [pk_mul, nI_add]; done)) (hj := by omega) (kk := ?_)
          rw [pset_pset]
          refine v_iincN (pc := 41) X (hd := dX7_acts_41) (kk := ?_)
          refine v_goto (pc := 44) X (tgt := 18) (hd := dX7_acts_44) (kk := ?_)
          refine kk _ ?_
          rw [shP_s]
      · intro h1 hI
        subst hI
        refine v_iload_n (pc := 18) X (hd := dX7_acts_18) (kk := ?_)
        refine v_sipush (pc := 19) X (v := nI 1640) (hd := dX7_acts_19) (kk := ?_)
        refine v_icmpge (pc := 22) X (tgt := 47) (hd := dX7_acts_22) (kt := fun c22 => ?_) (kf := fun c22 => ?_)
        · refine v_aload_n (pc := 47) X (hd := dX7_acts_47) (kk := ?_)
          refine v_dup (pc := 48) X (hd := dX7_acts_48) (kk := ?_)
          refine g_X7_29 (pc := 49) X (hd := dX7_acts_49) (hh := by first | assumption | exact pset_s _ _ _ | exact (pset_n (by omega)).trans (by assumption)) (kk := ?_)
          refine v_iconst (pc := 52) X (v := nI 1) (hd := dX7_acts_52) (kk := ?_)
          refine v_isub (pc := 53) X (hd := dX7_acts_53) (kk := ?_)
          refine p_X7_29 (pc := 54) X (hd := dX7_acts_54) (hh := by first | assumption | exact pset_s _ _ _ | exact (pset_n (by omega)).trans (by assumption)) (kk := ?_)
          refine v_sub [some (.ref m), none] (by intro i v hv; match i, hv with | 0, hv => exact hv | 1, hv => simp at hv | i + 2, hv => simp at hv) ?_
          rw [show nI 5 - nI 1 = nI 4 from rfl]
          exact K 4 (shP pa 1640) _ (by omega) (hM.spa _).sob ((pO.rf.set (by omega) (by omega)).set (by omega) (by omega)) (by unfold aPa; rw [if_neg c4, if_pos rfl]) (by unfold aNp; rw [if_neg c4, if_pos rfl])
        · exact absurd (Int32.le_refl _) c22
  · exact v_endv (pc := 7) X hr hlk (hd := dX7_acts_7) (hf := ⟨by unfold aPa aNp; rw [if_pos c4, if_pos c4]; exact hM, pO.rf⟩)
