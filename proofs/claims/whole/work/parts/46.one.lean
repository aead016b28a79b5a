/-! one command of a program -/
def DK (c : Nat) (w n : Nat → Int32) : Prop := match c with
  | 1 => kCome w (n 0)
  | 2 => kAdd w (n 0) (n 1)
  | 3 => kGrant w (n 0) (n 1) (nI 1)
  | 4 => kCut w (nx (w 1)) (n 0) (n 1) (n 2)
  | 5 => kTurn w (n 0)
  | 6 => kCart w (n 0) (n 1)
  | _ => kDay (n 0) (n 1)
def DR (c : Nat) (w n : Nat → Int32) : Int32 := match c with
  | 1 => rCome w (n 0)
  | 2 => rAdd w (n 0) (n 1)
  | 3 => rGrant w (n 0) (n 1) (nI 1)
  | 4 => rCut w (nx (w 1)) (n 0) (n 1) (n 2)
  | 5 => rTurn w (n 0)
  | 6 => rCart w (n 0) (n 1)
  | _ => rDay w (n 0) (n 1) (nx (w 3))
def DG (c : Nat) (w n : Nat → Int32) : Nat → Int32 := match c with
  | 1 => gCome w (n 0) (nx (w 1))
  | 2 => gAdd w (n 0) (n 1) (nx (w 2))
  | 3 => gGrant w (n 0) (n 1) (nI 1)
  | 4 => gCut w (nx (w 3)) (n 0) (n 1) (n 2)
  | 5 => gTurn w (n 0)
  | 6 => hCart w (n 0) (n 1) (nx (w 3))
  | _ => gDay w (n 0) (n 1) (nx (w 3))
abbrev IW (w : Nat → Int32) : Prop := Iv w (nx (w 1)) (nx (w 2)) (nx (w 3))
theorem IE.iw {w : Nat → Int32} (I : IE w) : IW w := by
  obtain ⟨nh, nb, ns, I⟩ := I
  have h1 : nx (w 1) = nh := by rw [I.1.2.2.2.1]; exact nx_nI (by have := I.1.1; omega)
  have h2 : nx (w 2) = nb := by rw [I.1.2.2.2.2.1]; exact nx_nI (by have := I.1.2.1; omega)
  have h3 : nx (w 3) = ns := by rw [I.1.2.2.2.2.2]; exact nx_nI (by have := I.1.2.2.1; omega)
  unfold IW
  rw [h1, h2, h3]
  exact I
theorem dSg {c : Nat} {w n : Nat → Int32} (I : IE w) : Sg (DK c w n) (DR c w n) := by
  have I := I.iw
  unfold DK DR
  split
  · exact sgCome I
  · exact sgAdd I
  · exact sgGrant I
  · exact sgCut I
  · exact sgTurn I
  · exact sgCart I
  · exact sgDay I
theorem dIE {c : Nat} {w n : Nat → Int32} (I : IE w) (k : DK c w n) : IE (DG c w n) := by
  have I := I.iw
  unfold DK at k
  unfold DG
  split at k
  · exact ⟨_, _, _, iCome I k⟩
  · exact ⟨_, _, _, iAdd I k⟩
  · exact ⟨_, _, _, iGrant I k⟩
  · exact ⟨_, _, _, iCut I k⟩
  · exact ⟨_, _, _, iTurn I k⟩
  · obtain ⟨n1, h⟩ := iCart I k; exact ⟨_, _, _, h⟩
  · exact ⟨_, _, _, iDay I k⟩
theorem dHi {c : Nat} {w n : Nat → Int32} (I : IE w) (k : DK c w n) : ∀ q, 136 ≤ q → DG c w n q = w q := by
  have I := I.iw
  intro q hq
  unfold DK at k
  unfold DG
  split at k
  · exact hiCome I k q hq
  · exact hiAdd I k q hq
  · exact hiGrant I k q hq
  · exact hiCut I k q hq
  · exact hiTurn I k q hq
  · exact hiCart I k q hq
  · exact hiDay I q hq
def EE (te : Nat → Int32) (tn e0 : Nat) : Nat → Nat
  | 0 => e0
  | i + 1 => tokE te tn (EE te tn e0 i)
def SS (te : Nat → Int32) (tn e0 i : Nat) : Nat := tokS te tn (EE te tn e0 i)
def nuF (te : Nat → Int32) (tn e0 : Nat) (nu : Nat → Int32) : Nat → Nat → Int32
  | 0 => nu
  | i + 1 => upd (nuF te tn e0 nu i) i (vlE te (SS te tn e0 i) (EE te tn e0 (i + 1) - SS te tn e0 i))
abbrev nkP (te : Nat → Int32) (tn e0 i : Nat) : Prop := nOk te (SS te tn e0 i) (EE te tn e0 (i + 1))
def gdN (te : Nat → Int32) (tn e0 : Nat) : Nat → Nat
  | 0 => 0
  | k + 1 => if gdN te tn e0 k = k ∧ nkP te tn e0 k then k + 1 else gdN te tn e0 k
abbrev semi (te : Nat → Int32) (tn e0 c : Nat) : Prop := SS te tn e0 c < tn ∧ te (SS te tn e0 c) = nI 59
noncomputable def oP (te : Nat → Int32) (tn : Nat) (w nu : Nat → Int32) (s e : Nat) : Option Nat :=
  if cmdN te s e = 0 then some s else if gdN te tn e (cntN (cmdN te s e)) < cntN (cmdN te s e) then some (SS te tn e (gdN te tn e (cntN (cmdN te s e)))) else if ¬ semi te tn e (cntN (cmdN te s e)) then some (SS te tn e (cntN (cmdN te s e))) else @ite (Option Nat) (DK (cmdN te s e) w (nuF te tn e nu (cntN (cmdN te s e)))) (Classical.propDecidable _) none (some s)
def oN (te : Nat → Int32) (tn : Nat) (nu : Nat → Int32) (s e : Nat) : Nat → Int32 := if cmdN te s e = 0 then nu else nuF te tn e nu (gdN te tn e (cntN (cmdN te s e)))
def oA (te : Nat → Int32) (tn s e : Nat) : Nat := EE te tn e (cntN (cmdN te s e) + 1)
theorem cntN_b (c : Nat) : 1 ≤ cntN c ∧ cntN c ≤ 3 := by unfold cntN; split <;> (try split) <;> omega
theorem cmdN_b (te : Nat → Int32) (s e : Nat) : cmdN te s e ≤ 7 := by
  unfold cmdN
  split <;> (try split) <;> (try split) <;> (try split) <;> (try split) <;> (try split) <;> (try split) <;> omega
theorem EE_b {te : Nat → Int32} {tn e0 : Nat} (h : e0 ≤ tn) : ∀ i, e0 ≤ EE te tn e0 i ∧ EE te tn e0 i ≤ tn := by
  intro i
  induction i with
  | zero => exact ⟨Nat.le_refl _, h⟩
  | succ i ih =>
    have h1 := tokE_b (te := te) ih.2
    have h2 := (tokS_p (te := te) ih.2).1
    show e0 ≤ tokE te tn _ ∧ tokE te tn _ ≤ tn
    omega
theorem SS_b {te : Nat → Int32} {tn e0 : Nat} (h : e0 ≤ tn) (i : Nat) : SS te tn e0 i ≤ EE te tn e0 (i + 1) ∧ EE te tn e0 (i + 1) ≤ tn ∧ SS te tn e0 i ≤ tn := by
  have h1 := tokE_b (te := te) (EE_b (te := te) h i).2
  have h2 := tokS_p (te := te) (EE_b (te := te) h i).2
  exact ⟨h1.1, h1.2.1, h2.2.1⟩
theorem gdN_le (te : Nat → Int32) (tn e0 : Nat) : ∀ k, gdN te tn e0 k ≤ k := by
  intro k
  induction k with
  | zero => exact Nat.le_refl _
  | succ k ih =>
    show (if gdN te tn e0 k = k ∧ nkP te tn e0 k then k + 1 else gdN te tn e0 k) ≤ k + 1
    split <;> omega
theorem gdN_bad {te : Nat → Int32} {tn e0 i : Nat} (h1 : gdN te tn e0 i = i) (h2 : ¬ nkP te tn e0 i) : ∀ k, i < k → gdN te tn e0 k = i := by
  intro k
  induction k with
  | zero => intro h; omega
  | succ k ih =>
    intro h
    show (if gdN te tn e0 k = k ∧ nkP te tn e0 k then k + 1 else gdN te tn e0 k) = i
    by_cases e : i = k
    · subst e; rw [if_neg (fun q => h2 q.2)]; exact h1
    · have h3 := ih (by omega)
      rw [h3, if_neg (fun q => e q.1)]
theorem gdN_s {te : Nat → Int32} {tn e0 i : Nat} (h1 : gdN te tn e0 i = i) (h2 : nkP te tn e0 i) : gdN te tn e0 (i + 1) = i + 1 := if_pos ⟨h1, h2⟩
theorem kd_59 : kd (nI 59) = 3 := by decide +kernel
theorem semi_w {te : Nat → Int32} {tn a : Nat} (h : a ≤ tn) : wE te (tokS te tn a) (tokE te tn a) 7 ↔ (tokS te tn a < tn ∧ te (tokS te tn a) = nI 59) := by
  have hb := tokE_b (te := te) h
  have e7 : pTl.getD 7 0 = 1 := rfl
  have b7 : (pTb.getD 7 []).getD 0 0 = nI 59 := by decide +kernel
  constructor
  · rintro ⟨q0, q⟩
    rw [e7] at q0 q
    have := q 0 (by omega)
    rw [b7, Nat.add_zero] at this
    exact ⟨by omega, this⟩
  · rintro ⟨q0, q⟩
    refine ⟨by rw [tokE_3 q0 (by rw [q]; exact kd_59), e7]; omega, fun j hj => ?_⟩
    rw [e7] at hj
    obtain rfl : j = 0 := by omega
    rw [b7, Nat.add_zero]
    exact q
theorem semi_k {te : Nat → Int32} {tn s : Nat} (hT : TX te tn) : kiV te tn s = nI 59 ↔ (s < tn ∧ te s = nI 59) := by
  unfold kiV
  by_cases hs : s < tn
  · rw [if_pos hs]
    refine ⟨fun q => ⟨hs, ?_⟩, fun q => ?_⟩
    · unfold kR at q
      rcases kd_c (te s) with e | e | e
      · rw [if_pos e] at q; exact absurd q (by decide +kernel)
      · rw [if_neg (by omega), if_pos e] at q; exact absurd q (by decide +kernel)
      · rw [if_neg (by omega), if_neg (by omega)] at q; exact q
    · rw [kR_3 (by rw [q.2]; exact kd_59)]; exact q.2
  · rw [if_neg hs]
    exact ⟨fun q => absurd q (by decide +kernel), fun q => absurd q.1 hs⟩
theorem oP_le {te : Nat → Int32} {tn s e p : Nat} {w nu : Nat → Int32} (hs : s ≤ tn) (he : e ≤ tn) (h : oP te tn w nu s e = some p) : p ≤ tn := by
  unfold oP at h
  split at h
  · cases h; exact hs
  · split at h
    · cases h; exact (SS_b he _).2.2
    · split at h
      · cases h; exact (SS_b he _).2.2
      · split at h
        · cases h
        · cases h; exact hs
theorem nI_n9 {k : Nat} (h : k < 2 ^ 31) : ¬ nI k = -9 := fun q => n_nn h (by rw [q]; decide)
set_option maxRecDepth 100000 in
set_option maxHeartbeats 4000000 in
theorem c_X3_perform (l : Launch) (E : pE) (x tn a q : Nat) (te : Nat → Int32) (st en : Int32) (nu w : Nat → Int32) : pC l E yX3_perform cX3_perform 3 (some .int) { frames := 4, cells := 0, slots := 0, locals := 90 } 0 0 [.ref (x + 212), .int (nI q), .ref a] (fun h _ => KP x tn te st en nu h ∧ PA a w h ∧ IW w ∧ 1 ≤ q ∧ q ≤ 7) (pFi (cP a (DK q w nu) (DR q w nu) (DG q w nu))) := by
  refine pC_of (by decide) (by simp [Value.category]) (Nat.le_of_ble_eq_true rfl) ?_
  intro h z hp p__ e__ s__ m__ args__ below__ meth__ c__ X hr hlk hname
  obtain ⟨hK, hP, I, hq1, hq7⟩ := hp
  refine v_iload_n (pc := 0) X (hd := dX3_perform_0) (kk := ?_)
  skip
  have hq2 : q = 1 ∨ q = 2 ∨ q = 3 ∨ q = 4 ∨ q = 5 ∨ q = 6 ∨ q = 7 := by omega
  rcases hq2 with rfl | rfl | rfl | rfl | rfl | rfl | rfl
  · refine v_tabIn (pc := 1) (tgt := 44) X (hd := dX3_perform_1) 0 (by decide +kernel) (kk := ?_)
    refine v_aload_n (pc := 44) X (hd := dX3_perform_44) (kk := ?_)
    refine v_aload_n (pc := 45) X (hd := dX3_perform_45) (kk := ?_)
    refine g_X3_25 (pc := 46) X (hd := dX3_perform_46) (hh := hK.1) (kk := ?_)
    refine v_iconst (pc := 49) X (v := nI 0) (hd := dX3_perform_49) (kk := ?_)
    refine v_ialdN (pc := 50) X (j := 0) (hd := dX3_perform_50) (hh := hK.2.2) (hi := by first | rfl | (simp only [pk_mul, nI_add]; done)) (hj := by omega) (kk := ?_)
    refine v_callVi (pc := 51) X (hd := dX3_perform_51) (w := wv_X3_91) (hC := c_X2_addHousehold l E a w (nu 0) (nx (w 1)) (nx (w 2)) (nx (w 3))) (hp := ⟨hP, I⟩) (hb := hP.ob) (kk := fun r51 h51 q51 => ?_)
    exact v_endi (pc := 54) X hr hlk (hd := dX3_perform_54) (hf := q51)
  · refine v_tabIn (pc := 1) (tgt := 55) X (hd := dX3_perform_1) 1 (by decide +kernel) (kk := ?_)
    refine v_aload_n (pc := 55) X (hd := dX3_perform_55) (kk := ?_)
    refine v_aload_n (pc := 56) X (hd := dX3_perform_56) (kk := ?_)
    refine g_X3_25 (pc := 57) X (hd := dX3_perform_57) (hh := hK.1) (kk := ?_)
    refine v_iconst (pc := 60) X (v := nI 0) (hd := dX3_perform_60) (kk := ?_)
    refine v_ialdN (pc := 61) X (j := 0) (hd := dX3_perform_61) (hh := hK.2.2) (hi := by first | rfl | (simp only [pk_mul, nI_add]; done)) (hj := by omega) (kk := ?_)
    refine v_aload_n (pc := 62) X (hd := dX3_perform_62) (kk := ?_)
    refine g_X3_25 (pc := 63) X (hd := dX3_perform_63) (hh := hK.1) (kk := ?_)
    refine v_iconst (pc := 66) X (v := nI 1) (hd := dX3_perform_66) (kk := ?_)
    refine v_ialdN (pc := 67) X (j := 1) (hd := dX3_perform_67) (hh := hK.2.2) (hi := by first | rfl | (simp only [pk_mul, nI_add]; done)) (hj := by omega) (kk := ?_)
    refine v_callVi (pc := 68) X (hd := dX3_perform_68) (w := wv_X3_96) (hC := c_X2_openBank l E a w (nu 0) (nu 1) (nx (w 1)) (nx (w 2)) (nx (w 3))) (hp := ⟨hP, I⟩) (hb := hP.ob) (kk := fun r68 h68 q68 => ?_)
    exact v_endi (pc := 71) X hr hlk (hd := dX3_perform_71) (hf := q68)
  · refine v_tabIn (pc := 1) (tgt := 72) X (hd := dX3_perform_1) 2 (by decide +kernel) (kk := ?_)
    refine v_aload_n (pc := 72) X (hd := dX3_perform_72) (kk := ?_)
    refine v_aload_n (pc := 73) X (hd := dX3_perform_73) (kk := ?_)
    refine g_X3_25 (pc := 74) X (hd := dX3_perform_74) (hh := hK.1) (kk := ?_)
    refine v_iconst (pc := 77) X (v := nI 0) (hd := dX3_perform_77) (kk := ?_)
    refine v_ialdN (pc := 78) X (j := 0) (hd := dX3_perform_78) (hh := hK.2.2) (hi := by first | rfl | (simp only [pk_mul, nI_add]; done)) (hj := by omega) (kk := ?_)
    refine v_aload_n (pc := 79) X (hd := dX3_perform_79) (kk := ?_)
    refine g_X3_25 (pc := 80) X (hd := dX3_perform_80) (hh := hK.1) (kk := ?_)
    refine v_iconst (pc := 83) X (v := nI 1) (hd := dX3_perform_83) (kk := ?_)
    refine v_ialdN (pc := 84) X (j := 1) (hd := dX3_perform_84) (hh := hK.2.2) (hi := by first | rfl | (simp only [pk_mul, nI_add]; done)) (hj := by omega) (kk := ?_)
    refine v_iconst (pc := 85) X (v := nI 1) (hd := dX3_perform_85) (kk := ?_)
    refine v_callVi (pc := 86) X (hd := dX3_perform_86) (w := wv_X3_100) (hC := c_X2_changeRight l E a w (nu 0) (nu 1) (nI 1) (nx (w 1)) (nx (w 2)) (nx (w 3))) (hp := ⟨hP, I⟩) (hb := hP.ob) (kk := fun r86 h86 q86 => ?_)
    exact v_endi (pc := 89) X hr hlk (hd := dX3_perform_89) (hf := q86)
  · refine v_tabIn (pc := 1) (tgt := 90) X (hd := dX3_perform_1) 3 (by decide +kernel) (kk := ?_)
    refine v_aload_n (pc := 90) X (hd := dX3_perform_90) (kk := ?_)
    refine v_aload_n (pc := 91) X (hd := dX3_perform_91) (kk := ?_)
    refine g_X3_25 (pc := 92) X (hd := dX3_perform_92) (hh := hK.1) (kk := ?_)
    refine v_iconst (pc := 95) X (v := nI 0) (hd := dX3_perform_95) (kk := ?_)
    refine v_ialdN (pc := 96) X (j := 0) (hd := dX3_perform_96) (hh := hK.2.2) (hi := by first | rfl | (simp only [pk_mul, nI_add]; done)) (hj := by omega) (kk := ?_)
    refine v_aload_n (pc := 97) X (hd := dX3_perform_97) (kk := ?_)
    refine g_X3_25 (pc := 98) X (hd := dX3_perform_98) (hh := hK.1) (kk := ?_)
    refine v_iconst (pc := 101) X (v := nI 1) (hd := dX3_perform_101) (kk := ?_)
    refine v_ialdN (pc := 102) X (j := 1) (hd := dX3_perform_102) (hh := hK.2.2) (hi := by first | rfl | (simp only [pk_mul, nI_add]; done)) (hj := by omega) (kk := ?_)
    refine v_aload_n (pc := 103) X (hd := dX3_perform_103) (kk := ?_)
    refine g_X3_25 (pc := 104) X (hd := dX3_perform_104) (hh := hK.1) (kk := ?_)
    refine v_iconst (pc := 107) X (v := nI 2) (hd := dX3_perform_107) (kk := ?_)
    refine v_ialdN (pc := 108) X (j := 2) (hd := dX3_perform_108) (hh := hK.2.2) (hi := by first | rfl | (simp only [pk_mul, nI_add]; done)) (hj := by omega) (kk := ?_)
    refine v_callVi (pc := 109) X (hd := dX3_perform_109) (w := wv_X3_104) (hC := c_X2_cutTurfs l E a w (nu 0) (nu 1) (nu 2) (nx (w 1)) (nx (w 2)) (nx (w 3))) (hp := ⟨hP, I⟩) (hb := hP.ob) (kk := fun r109 h109 q109 => ?_)
    exact v_endi (pc := 112) X hr hlk (hd := dX3_perform_112) (hf := q109)
  · refine v_tabIn (pc := 1) (tgt := 113) X (hd := dX3_perform_1) 4 (by decide +kernel) (kk := ?_)
    refine v_aload_n (pc := 113) X (hd := dX3_perform_113) (kk := ?_)
    refine v_aload_n (pc := 114) X (hd := dX3_perform_114) (kk := ?_)
    refine g_X3_25 (pc := 115) X (hd := dX3_perform_115) (hh := hK.1) (kk := ?_)
    refine v_iconst (pc := 118) X (v := nI 0) (hd := dX3_perform_118) (kk := ?_)
    refine v_ialdN (pc := 119) X (j := 0) (hd := dX3_perform_119) (hh := hK.2.2) (hi := by first | rfl | (simp only [pk_mul, nI_add]; done)) (hj := by omega) (kk := ?_)
    refine v_callVi (pc := 120) X (hd := dX3_perform_120) (w := wv_X3_107) (hC := c_X2_turnStack l E a w (nu 0) (nx (w 1)) (nx (w 2)) (nx (w 3))) (hp := ⟨hP, I⟩) (hb := hP.ob) (kk := fun r120 h120 q120 => ?_)
    exact v_endi (pc := 123) X hr hlk (hd := dX3_perform_123) (hf := q120)
  · refine v_tabIn (pc := 1) (tgt := 124) X (hd := dX3_perform_1) 5 (by decide +kernel) (kk := ?_)
    refine v_aload_n (pc := 124) X (hd := dX3_perform_124) (kk := ?_)
    refine v_aload_n (pc := 125) X (hd := dX3_perform_125) (kk := ?_)
    refine g_X3_25 (pc := 126) X (hd := dX3_perform_126) (hh := hK.1) (kk := ?_)
    refine v_iconst (pc := 129) X (v := nI 0) (hd := dX3_perform_129) (kk := ?_)
    refine v_ialdN (pc := 130) X (j := 0) (hd := dX3_perform_130) (hh := hK.2.2) (hi := by first | rfl | (simp only [pk_mul, nI_add]; done)) (hj := by omega) (kk := ?_)
    refine v_aload_n (pc := 131) X (hd := dX3_perform_131) (kk := ?_)
    refine g_X3_25 (pc := 132) X (hd := dX3_perform_132) (hh := hK.1) (kk := ?_)
    refine v_iconst (pc := 135) X (v := nI 1) (hd := dX3_perform_135) (kk := ?_)
    refine v_ialdN (pc := 136) X (j := 1) (hd := dX3_perform_136) (hh := hK.2.2) (hi := by first | rfl | (simp only [pk_mul, nI_add]; done)) (hj := by omega) (kk := ?_)
    refine v_callVi (pc := 137) X (hd := dX3_perform_137) (w := wv_X3_110) (hC := c_X2_cartTurfs l E a w (nu 0) (nu 1) (nx (w 1)) (nx (w 2)) (nx (w 3))) (hp := ⟨hP, I⟩) (hb := hP.ob) (kk := fun r137 h137 q137 => ?_)
    exact v_endi (pc := 140) X hr hlk (hd := dX3_perform_140) (hf := q137)
  · refine v_tabIn (pc := 1) (tgt := 141) X (hd := dX3_perform_1) 6 (by decide +kernel) (kk := ?_)
    refine v_aload_n (pc := 141) X (hd := dX3_perform_141) (kk := ?_)
    refine v_aload_n (pc := 142) X (hd := dX3_perform_142) (kk := ?_)
    refine g_X3_25 (pc := 143) X (hd := dX3_perform_143) (hh := hK.1) (kk := ?_)
    refine v_iconst (pc := 146) X (v := nI 0) (hd := dX3_perform_146) (kk := ?_)
    refine v_ialdN (pc := 147) X (j := 0) (hd := dX3_perform_147) (hh := hK.2.2) (hi := by first | rfl | (simp only [pk_mul, nI_add]; done)) (hj := by omega) (kk := ?_)
    refine v_aload_n (pc := 148) X (hd := dX3_perform_148) (kk := ?_)
    refine g_X3_25 (pc := 149) X (hd := dX3_perform_149) (hh := hK.1) (kk := ?_)
    refine v_iconst (pc := 152) X (v := nI 1) (hd := dX3_perform_152) (kk := ?_)
    refine v_ialdN (pc := 153) X (j := 1) (hd := dX3_perform_153) (hh := hK.2.2) (hi := by first | rfl | (simp only [pk_mul, nI_add]; done)) (hj := by omega) (kk := ?_)
    refine v_callVi (pc := 154) X (hd := dX3_perform_154) (w := wv_X3_113) (hC := c_X2_passDay l E a w (nu 0) (nu 1) (nx (w 1)) (nx (w 2)) (nx (w 3))) (hp := ⟨hP, I⟩) (hb := hP.ob) (kk := fun r154 h154 q154 => ?_)
    exact v_endi (pc := 157) X hr hlk (hd := dX3_perform_157) (hf := q154)
set_option maxRecDepth 100000 in
set_option maxHeartbeats 4000000 in
theorem c_X7_does (l : Launch) (E : pE) (m : Nat) (w pa he te re : Nat → Int32) (np : Nat) (rr : Bool) (ty at_ st ki co : Int32) (q : Nat) : pC l E yX7_does cX7_does 2 (some .int) { frames := 6, cells := 0, slots := 0, locals := 140 } 0 0 [.ref m, .int (nI q)] (fun h _ => MD m w pa he te re (nI np) (bI (rr = true)) ty at_ st ki co h ∧ np ≤ 5 ∧ IW w ∧ q ≤ 6) (pFi (mP m w pa he te re np rr ty at_ st ki co (DK (q + 1) w re) (DR (q + 1) w re) (DG (q + 1) w re))) := by
  refine pC_of (by decide) (by simp [Value.category]) (Nat.le_of_ble_eq_true rfl) ?_
  intro h z hp p__ e__ s__ m__ args__ below__ meth__ c__ X hr hlk hname
  obtain ⟨hM, hnp, I, hq7⟩ := hp
  refine v_iload_n (pc := 0) X (hd := dX7_does_0) (kk := ?_)
  skip
  have hq2 : q = 0 ∨ q = 1 ∨ q = 2 ∨ q = 3 ∨ q = 4 ∨ q = 5 ∨ q = 6 := by omega
  rcases hq2 with rfl | rfl | rfl | rfl | rfl | rfl | rfl
  · refine v_tabIn (pc := 1) (tgt := 40) X (hd := dX7_does_1) 0 (by decide +kernel) (kk := ?_)
    refine v_aload_n (pc := 40) X (hd := dX7_does_40) (kk := ?_)
    refine v_aload_n (pc := 41) X (hd := dX7_does_41) (kk := ?_)
    refine g_X7_22 (pc := 42) X (hd := dX7_does_42) (hh := hM.1) (kk := ?_)
    refine v_iconst (pc := 45) X (v := nI 0) (hd := dX7_does_45) (kk := ?_)
    refine v_ialdN (pc := 46) X (j := 0) (hd := dX7_does_46) (hh := hM.2.2.2.2.2) (hi := by first | rfl | (simp only [pk_mul, nI_add]; done)) (hj := by omega) (kk := ?_)
    refine v_callVi (pc := 47) X (hd := dX7_does_47) (w := wv_X7_124) (hC := c_X7_come l E m w pa he te re np rr ty at_ st ki co (re 0) (nx (w 1)) (nx (w 2)) (nx (w 3))) (hp := ⟨hM, hnp, I⟩) (hb := hM.1) (kk := fun r47 h47 q47 => ?_)
    exact v_endi (pc := 50) X hr hlk (hd := dX7_does_50) (hf := q47)
  · refine v_tabIn (pc := 1) (tgt := 51) X (hd := dX7_does_1) 1 (by decide +kernel) (kk := ?_)
    refine v_aload_n (pc := 51) X (hd := dX7_does_51) (kk := ?_)
    refine v_aload_n (pc := 52) X (hd := dX7_does_52) (kk := ?_)
    refine g_X7_22 (pc := 53) X (hd := dX7_does_53) (hh := hM.1) (kk := ?_)
    refine v_iconst (pc := 56) X (v := nI 0) (hd := dX7_does_56) (kk := ?_)
    refine v_ialdN (pc := 57) X (j := 0) (hd := dX7_does_57) (hh := hM.2.2.2.2.2) (hi := by first | rfl | (simp only [pk_mul, nI_add]; done)) (hj := by omega) (kk := ?_)
    refine v_aload_n (pc := 58) X (hd := dX7_does_58) (kk := ?_)
    refine g_X7_22 (pc := 59) X (hd := dX7_does_59) (hh := hM.1) (kk := ?_)
    refine v_iconst (pc := 62) X (v := nI 1) (hd := dX7_does_62) (kk := ?_)
    refine v_ialdN (pc := 63) X (j := 1) (hd := dX7_does_63) (hh := hM.2.2.2.2.2) (hi := by first | rfl | (simp only [pk_mul, nI_add]; done)) (hj := by omega) (kk := ?_)
    refine v_callVi (pc := 64) X (hd := dX7_does_64) (w := wv_X7_127) (hC := c_X7_addBank l E m w pa he te re np rr ty at_ st ki co (re 0) (re 1) (nx (w 1)) (nx (w 2)) (nx (w 3))) (hp := ⟨hM, hnp, I⟩) (hb := hM.1) (kk := fun r64 h64 q64 => ?_)
    exact v_endi (pc := 67) X hr hlk (hd := dX7_does_67) (hf := q64)
  · refine v_tabIn (pc := 1) (tgt := 68) X (hd := dX7_does_1) 2 (by decide +kernel) (kk := ?_)
    refine v_aload_n (pc := 68) X (hd := dX7_does_68) (kk := ?_)
    refine v_aload_n (pc := 69) X (hd := dX7_does_69) (kk := ?_)
    refine g_X7_22 (pc := 70) X (hd := dX7_does_70) (hh := hM.1) (kk := ?_)
    refine v_iconst (pc := 73) X (v := nI 0) (hd := dX7_does_73) (kk := ?_)
    refine v_ialdN (pc := 74) X (j := 0) (hd := dX7_does_74) (hh := hM.2.2.2.2.2) (hi := by first | rfl | (simp only [pk_mul, nI_add]; done)) (hj := by omega) (kk := ?_)
    refine v_aload_n (pc := 75) X (hd := dX7_does_75) (kk := ?_)
    refine g_X7_22 (pc := 76) X (hd := dX7_does_76) (hh := hM.1) (kk := ?_)
    refine v_iconst (pc := 79) X (v := nI 1) (hd := dX7_does_79) (kk := ?_)
    refine v_ialdN (pc := 80) X (j := 1) (hd := dX7_does_80) (hh := hM.2.2.2.2.2) (hi := by first | rfl | (simp only [pk_mul, nI_add]; done)) (hj := by omega) (kk := ?_)
    refine v_iconst (pc := 81) X (v := nI 1) (hd := dX7_does_81) (kk := ?_)
    refine v_callVi (pc := 82) X (hd := dX7_does_82) (w := wv_X7_130) (hC := c_X7_grant l E m w pa he te re np rr ty at_ st ki co (re 0) (re 1) (nI 1) (nx (w 1)) (nx (w 2)) (nx (w 3))) (hp := ⟨hM, hnp, I⟩) (hb := hM.1) (kk := fun r82 h82 q82 => ?_)
    exact v_endi (pc := 85) X hr hlk (hd := dX7_does_85) (hf := q82)
  · refine v_tabIn (pc := 1) (tgt := 86) X (hd := dX7_does_1) 3 (by decide +kernel) (kk := ?_)
    refine v_aload_n (pc := 86) X (hd := dX7_does_86) (kk := ?_)
    refine v_aload_n (pc := 87) X (hd := dX7_does_87) (kk := ?_)
    refine g_X7_22 (pc := 88) X (hd := dX7_does_88) (hh := hM.1) (kk := ?_)
    refine v_iconst (pc := 91) X (v := nI 0) (hd := dX7_does_91) (kk := ?_)
    refine v_ialdN (pc := 92) X (j := 0) (hd := dX7_does_92) (hh := hM.2.2.2.2.2) (hi := by first | rfl | (simp only [pk_mul, nI_add]; done)) (hj := by omega) (kk := ?_)
    refine v_aload_n (pc := 93) X (hd := dX7_does_93) (kk := ?_)
    refine g_X7_22 (pc := 94) X (hd := dX7_does_94) (hh := hM.1) (kk := ?_)
    refine v_iconst (pc := 97) X (v := nI 1) (hd := dX7_does_97) (kk := ?_)
    refine v_ialdN (pc := 98) X (j := 1) (hd := dX7_does_98) (hh := hM.2.2.2.2.2) (hi := by first | rfl | (simp only [pk_mul, nI_add]; done)) (hj := by omega) (kk := ?_)
    refine v_aload_n (pc := 99) X (hd := dX7_does_99) (kk := ?_)
    refine g_X7_22 (pc := 100) X (hd := dX7_does_100) (hh := hM.1) (kk := ?_)
    refine v_iconst (pc := 103) X (v := nI 2) (hd := dX7_does_103) (kk := ?_)
    refine v_ialdN (pc := 104) X (j := 2) (hd := dX7_does_104) (hh := hM.2.2.2.2.2) (hi := by first | rfl | (simp only [pk_mul, nI_add]; done)) (hj := by omega) (kk := ?_)
    refine v_callVi (pc := 105) X (hd := dX7_does_105) (w := wv_X7_134) (hC := c_X7_cut l E m w pa he te re np rr ty at_ st ki co (re 0) (re 1) (re 2) (nx (w 1)) (nx (w 2)) (nx (w 3))) (hp := ⟨hM, hnp, I⟩) (hb := hM.1) (kk := fun r105 h105 q105 => ?_)
    exact v_endi (pc := 108) X hr hlk (hd := dX7_does_108) (hf := q105)
  · refine v_tabIn (pc := 1) (tgt := 109) X (hd := dX7_does_1) 4 (by decide +kernel) (kk := ?_)
    refine v_aload_n (pc := 109) X (hd := dX7_does_109) (kk := ?_)
    refine v_aload_n (pc := 110) X (hd := dX7_does_110) (kk := ?_)
    refine g_X7_22 (pc := 111) X (hd := dX7_does_111) (hh := hM.1) (kk := ?_)
    refine v_iconst (pc := 114) X (v := nI 0) (hd := dX7_does_114) (kk := ?_)
    refine v_ialdN (pc := 115) X (j := 0) (hd := dX7_does_115) (hh := hM.2.2.2.2.2) (hi := by first | rfl | (simp only [pk_mul, nI_add]; done)) (hj := by omega) (kk := ?_)
    refine v_callVi (pc := 116) X (hd := dX7_does_116) (w := wv_X7_137) (hC := c_X7_turn l E m w pa he te re np rr ty at_ st ki co (re 0) (nx (w 1)) (nx (w 2)) (nx (w 3))) (hp := ⟨hM, hnp, I⟩) (hb := hM.1) (kk := fun r116 h116 q116 => ?_)
    exact v_endi (pc := 119) X hr hlk (hd := dX7_does_119) (hf := q116)
  · refine v_tabIn (pc := 1) (tgt := 120) X (hd := dX7_does_1) 5 (by decide +kernel) (kk := ?_)
    refine v_aload_n (pc := 120) X (hd := dX7_does_120) (kk := ?_)
    refine v_aload_n (pc := 121) X (hd := dX7_does_121) (kk := ?_)
    refine g_X7_22 (pc := 122) X (hd := dX7_does_122) (hh := hM.1) (kk := ?_)
    refine v_iconst (pc := 125) X (v := nI 0) (hd := dX7_does_125) (kk := ?_)
    refine v_ialdN (pc := 126) X (j := 0) (hd := dX7_does_126) (hh := hM.2.2.2.2.2) (hi := by first | rfl | (simp only [pk_mul, nI_add]; done)) (hj := by omega) (kk := ?_)
    refine v_aload_n (pc := 127) X (hd := dX7_does_127) (kk := ?_)
    refine g_X7_22 (pc := 128) X (hd := dX7_does_128) (hh := hM.1) (kk := ?_)
    refine v_iconst (pc := 131) X (v := nI 1) (hd := dX7_does_131) (kk := ?_)
    refine v_ialdN (pc := 132) X (j := 1) (hd := dX7_does_132) (hh := hM.2.2.2.2.2) (hi := by first | rfl | (simp only [pk_mul, nI_add]; done)) (hj := by omega) (kk := ?_)
    refine v_callVi (pc := 133) X (hd := dX7_does_133) (w := wv_X7_140) (hC := c_X7_cart l E m w pa he te re np rr ty at_ st ki co (re 0) (re 1) (nx (w 1)) (nx (w 2)) (nx (w 3))) (hp := ⟨hM, hnp, I⟩) (hb := hM.1) (kk := fun r133 h133 q133 => ?_)
    exact v_endi (pc := 136) X hr hlk (hd := dX7_does_136) (hf := q133)
  · refine v_tabOut (pc := 1) (tgt := 137) X (hd := dX7_does_1) (by decide +kernel) (kk := ?_)
    refine v_aload_n (pc := 137) X (hd := dX7_does_137) (kk := ?_)
    refine v_aload_n (pc := 138) X (hd := dX7_does_138) (kk := ?_)
    refine g_X7_22 (pc := 139) X (hd := dX7_does_139) (hh := hM.1) (kk := ?_)
    refine v_iconst (pc := 142) X (v := nI 0) (hd := dX7_does_142) (kk := ?_)
    refine v_ialdN (pc := 143) X (j := 0) (hd := dX7_does_143) (hh := hM.2.2.2.2.2) (hi := by first | rfl | (simp only [pk_mul, nI_add]; done)) (hj := by omega) (kk := ?_)
    refine v_aload_n (pc := 144) X (hd := dX7_does_144) (kk := ?_)
    refine g_X7_22 (pc := 145) X (hd := dX7_does_145) (hh := hM.1) (kk := ?_)
    refine v_iconst (pc := 148) X (v := nI 1) (hd := dX7_does_148) (kk := ?_)
    refine v_ialdN (pc := 149) X (j := 1) (hd := dX7_does_149) (hh := hM.2.2.2.2.2) (hi := by first | rfl | (simp only [pk_mul, nI_add]; done)) (hj := by omega) (kk := ?_)
    refine v_callVi (pc := 150) X (hd := dX7_does_150) (w := wv_X7_143) (hC := c_X7_day l E m w pa he te re np rr ty at_ st ki co (re 0) (re 1) (nx (w 1)) (nx (w 2)) (nx (w 3))) (hp := ⟨hM, hnp, I⟩) (hb := hM.1) (kk := fun r150 h150 q150 => ?_)
    exact v_endi (pc := 153) X hr hlk (hd := dX7_does_153) (hf := q150)
set_option maxRecDepth 100000 in
set_option maxHeartbeats 4000000 in
theorem c_X3_runCommand (l : Launch) (E : pE) (x tn a s e : Nat) (te nu w : Nat → Int32) : pC l E yX3_runCommand cX3_runCommand 6 (some .int) { frames := 6, cells := 0, slots := 0, locals := 127 } 0 0 [.ref (x + 212), .ref a] (fun h _ => KP x tn te (nI s) (nI e) nu h ∧ TX te tn ∧ s < e ∧ e ≤ tn ∧ PA a w h ∧ IE w ∧ (a + 34 ≤ x + 212 ∨ x + 215 ≤ a)) (pFi (fun h r h' => (∀ q, (q < a ∨ a + 34 ≤ q) → q ≠ x + 212 → q ≠ x + 214 → h' q = h q) ∧ ∃ st1 en1, KP x tn te st1 en1 (oN te tn nu s e) h' ∧ ((oP te tn w nu s e = none ∧ r = -1 ∧ en1 = nI (oA te tn s e) ∧ PA a (DG (cmdN te s e) w (oN te tn nu s e)) h') ∨ (∃ p, oP te tn w nu s e = some p ∧ p ≤ tn ∧ r = nI p ∧ PA a w h')))) := by
  refine pC_of (by decide) (by simp [Value.category]) (Nat.le_of_ble_eq_true rfl) ?_
  intro h z hp p__ e__ s__ m__ args__ below__ meth__ c__ X hr hlk hname
  obtain ⟨hK, hT, hse, hen, hP, I, hdis⟩ := hp
  have h140 := hT.1
  refine v_aload_n (pc := 0) X (hd := dX3_runCommand_0) (kk := ?_)
  refine g_X3_19 (pc := 1) X (hd := dX3_runCommand_1) (hh := hK.1) (kk := ?_)
  refine v_istore_n (pc := 4) X (hd := dX3_runCommand_4) (kk := ?_)
  refine v_aload_n (pc := 5) X (hd := dX3_runCommand_5) (kk := ?_)
  refine v_callVp (pc := 6) X (hd := dX3_runCommand_6) (w := wv_X3_40) (hC := c_X3_commandOfToken l E x tn s e te nu) (hp := ⟨hK, by omega, hen, hT.1⟩) (hb := hK.1) (kk := ?_)
  refine v_istore_n (pc := 9) X (hd := dX3_runCommand_9) (kk := ?_)
  refine v_iload_n (pc := 10) X (hd := dX3_runCommand_10) (kk := ?_)
  refine v_ifne (pc := 11) X (tgt := 16) (hd := dX3_runCommand_11) (kt := fun c11 => ?_) (kf := fun c11 => ?_)
  · have hc0 : ¬ (cmdN te s e) = 0 := fun q => c11 (by rw [q]; exact nI_z)
    have hc7 := cmdN_b te s e
    have hcb := cntN_b (cmdN te s e)
    refine v_iload_n (pc := 16) X (hd := dX3_runCommand_16) (kk := ?_)
    refine v_callSp (pc := 17) X (hd := dX3_runCommand_17) (w := wv_X3_44) (hC := c_X3_numbersOf l E (cmdN te s e)) (hp := ⟨by omega, hc7⟩) (kk := ?_)
    refine v_istore (pc := 20) X (hd := dX3_runCommand_20) (kk := ?_)
    refine v_iconst (pc := 22) X (v := nI 0) (hd := dX3_runCommand_22) (kk := ?_)
    refine v_istore (pc := 23) X (hd := dX3_runCommand_23) (kk := ?_)
    refine v_for (pc := 25) (M := (cntN (cmdN te s e))) (Lf := fun i => [some (.ref (x + 212)), some (.ref a), some (.int (nI s)), some (.int (nI (cmdN te s e))), some (.int (nI (cntN (cmdN te s e)))), some (.int (nI i))]) (I := fun i h1 => (∃ st1, KP x tn te st1 (nI (EE te tn e i)) (nuF te tn e nu i) h1) ∧ gdN te tn e i = i ∧ PA a w h1 ∧ (∀ q, (q < a ∨ a + 34 ≤ q) → q ≠ x + 212 → q ≠ x + 214 → h1 q = h q)) (h0 := ⟨⟨_, hK⟩, rfl, hP, fun q _ _ _ => rfl⟩) (hL := by rfl) (step := ?_) (out := ?_)
    · intro i h1 hi hI kk
      obtain ⟨⟨st1, K1⟩, gd, P1, O1⟩ := hI
      have hEb := EE_b (te := te) hen i
      have hSb := SS_b (te := te) hen i
      refine v_iload (pc := 25) X (hd := dX3_runCommand_25) (kk := ?_)
      refine v_iload (pc := 27) X (hd := dX3_runCommand_27) (kk := ?_)
      refine v_icmpge (pc := 29) X (tgt := 65) (hd := dX3_runCommand_29) (kt := fun c29 => ?_) (kf := fun c29 => ?_)
      · exact absurd c29 (nI_ge hi (by omega))
      · refine v_aload_n (pc := 32) X (hd := dX3_runCommand_32) (kk := ?_)
        refine v_callVv (pc := 33) X (hd := dX3_runCommand_33) (w := wv_X3_33) (hC := c_X3_readToken l E x tn (EE te tn e i) te st1 (nuF te tn e nu i)) (hp := ⟨K1, hT, hEb.2⟩) (hb := K1.1) (kk := fun h33 q33 => ?_)
        obtain ⟨K2, F2⟩ := q33
        have P2 := P1.off (h1 := h33) (fun p h3 h4 => F2 p (by omega))
        have O2 : (∀ q, (q < a ∨ a + 34 ≤ q) → q ≠ x + 212 → q ≠ x + 214 → h33 q = h q) := fun q h3 h4 h5 => (F2 q h4).trans (O1 q h3 h4 h5)
        refine v_aload_n (pc := 36) X (hd := dX3_runCommand_36) (kk := ?_)
        refine v_callVp (pc := 37) X (hd := dX3_runCommand_37) (w := wv_X3_48) (hC := c_X3_isNumber l E x tn (SS te tn e i) (EE te tn e (i + 1)) te (nuF te tn e nu i)) (hp := ⟨K2, hSb.1, hSb.2.1, hT.1⟩) (hb := K2.1) (kk := ?_)
        refine v_ifneB (pc := 40) X (tgt := 48) (hd := dX3_runCommand_40) (kt := fun c40 => ?_) (kf := fun c40 => ?_)
        · refine v_aload_n (pc := 48) X (hd := dX3_runCommand_48) (kk := ?_)
          refine g_X3_25 (pc := 49) X (hd := dX3_runCommand_49) (hh := K2.1) (kk := ?_)
          refine v_iload (pc := 52) X (hd := dX3_runCommand_52) (kk := ?_)
          refine v_aload_n (pc := 54) X (hd := dX3_runCommand_54) (kk := ?_)
          refine v_callVp (pc := 55) X (hd := dX3_runCommand_55) (w := wv_X3_52) (hC := c_X3_valueOfToken l E x tn (SS te tn e i) (EE te tn e (i + 1)) te (nuF te tn e nu i)) (hp := ⟨K2, hSb.1, hSb.2.1, hT.1⟩) (hb := K2.1) (kk := ?_)
          refine v_iastN (pc := 58) X (j := i) (hd := dX3_runCommand_58) (hh := K2.2.2) (hi := by first | rfl | (simp only [pk_mul, nI_add]; done)) (hj := by omega) (kk := ?_)
          refine v_iincN (pc := 59) X (hd := dX3_runCommand_59) (kk := ?_)
          refine v_goto (pc := 62) X (tgt := 25) (hd := dX3_runCommand_62) (kk := ?_)
          refine kk _ ⟨⟨_, (pset_n (by omega)).trans K2.1, (pset_n (by omega)).trans K2.2.1, pset_s _ _ _⟩, gdN_s gd c40, P2.off (fun p h3 h4 => pset_n (by omega)), fun q h3 h4 h5 => (pset_n h5).trans (O2 q h3 h4 h5)⟩
        · refine v_aload_n (pc := 43) X (hd := dX3_runCommand_43) (kk := ?_)
          refine g_X3_19 (pc := 44) X (hd := dX3_runCommand_44) (hh := K2.1) (kk := ?_)
          exact v_endi (pc := 47) X hr hlk (hd := dX3_runCommand_47) (hf := by
    have hg := gdN_bad gd c40 (cntN (cmdN te s e)) hi
    exact ⟨O2, _, _, by unfold oN; rw [if_neg hc0, hg]; exact K2, Or.inr ⟨SS te tn e i, by unfold oP; rw [if_neg hc0, if_pos (by omega), hg], hSb.2.2, rfl, P2⟩⟩)
    · intro h1 hI
      obtain ⟨⟨st1, K1⟩, gd, P1, O1⟩ := hI
      have hEb := EE_b (te := te) hen (cntN (cmdN te s e))
      have hSb := SS_b (te := te) hen (cntN (cmdN te s e))
      refine v_iload (pc := 25) X (hd := dX3_runCommand_25) (kk := ?_)
      refine v_iload (pc := 27) X (hd := dX3_runCommand_27) (kk := ?_)
      refine v_icmpge (pc := 29) X (tgt := 65) (hd := dX3_runCommand_29) (kt := fun c29 => ?_) (kf := fun c29 => ?_)
      · refine v_aload_n (pc := 65) X (hd := dX3_runCommand_65) (kk := ?_)
        refine v_callVv (pc := 66) X (hd := dX3_runCommand_66) (w := wv_X3_33) (hC := c_X3_readToken l E x tn (EE te tn e (cntN (cmdN te s e))) te st1 (nuF te tn e nu (cntN (cmdN te s e)))) (hp := ⟨K1, hT, hEb.2⟩) (hb := K1.1) (kk := fun h66 q66 => ?_)
        obtain ⟨K2, F2⟩ := q66
        have P2 := P1.off (h1 := h66) (fun p h3 h4 => F2 p (by omega))
        have O2 : (∀ q, (q < a ∨ a + 34 ≤ q) → q ≠ x + 212 → q ≠ x + 214 → h66 q = h q) := fun q h3 h4 h5 => (F2 q h4).trans (O1 q h3 h4 h5)
        refine v_aload_n (pc := 69) X (hd := dX3_runCommand_69) (kk := ?_)
        refine v_ldcS (pc := 70) X 7 (by decide) (hd := dX3_runCommand_70) (kk := ?_)
        refine v_callVp (pc := 72) X (hd := dX3_runCommand_72) (w := wv_X3_57) (hC := c_X3_isToken l E x tn (SS te tn e (cntN (cmdN te s e))) (EE te tn e ((cntN (cmdN te s e)) + 1)) te (nuF te tn e nu (cntN (cmdN te s e))) 7) (hp := ⟨K2, hSb.1, hSb.2.1, hT.1, by decide⟩) (hb := K2.1) (kk := ?_)
        refine v_ifneB (pc := 75) X (tgt := 83) (hd := dX3_runCommand_75) (kt := fun c75 => ?_) (kf := fun c75 => ?_)
        · have sm : semi te tn e (cntN (cmdN te s e)) := (semi_w hEb.2).mp c75
          refine v_aload_n (pc := 83) X (hd := dX3_runCommand_83) (kk := ?_)
          refine v_iload_n (pc := 84) X (hd := dX3_runCommand_84) (kk := ?_)
          refine v_aload_n (pc := 85) X (hd := dX3_runCommand_85) (kk := ?_)
          refine v_callVi (pc := 86) X (hd := dX3_runCommand_86) (w := wv_X3_61) (hC := c_X3_perform l E x tn a (cmdN te s e) te _ _ (nuF te tn e nu (cntN (cmdN te s e))) w) (hp := ⟨K2, P2, I.iw, by omega, hc7⟩) (hb := K2.1) (kk := fun r86 h86 q86 => ?_)
          obtain ⟨rfl, D86⟩ := q86
          have sg := dSg (c := (cmdN te s e)) (n := nuF te tn e nu (cntN (cmdN te s e))) I
          refine v_ifge (pc := 89) X (tgt := 96) (hd := dX3_runCommand_89) (kt := fun c89 => ?_) (kf := fun c89 => ?_)
          · have hdk : DK (cmdN te s e) w (nuF te tn e nu (cntN (cmdN te s e))) := Classical.byContradiction fun q => by have := sg.2 q; rw [n_lt] at this; rw [n_le] at c89; omega
            refine v_iconst (pc := 96) X (v := (-1)) (hd := dX3_runCommand_96) (kk := ?_)
            exact v_endi (pc := 97) X hr hlk (hd := dX3_runCommand_97) (hf := by
    rcases D86 with ⟨k, -⟩ | ⟨k, PD, OD⟩
    · exact absurd hdk k
    · refine ⟨fun q h3 h4 h5 => (OD q h3).trans (O2 q h3 h4 h5), _, _, by unfold oN; rw [if_neg hc0, gd]; exact ⟨(OD _ (by omega)).trans K2.1, (OD _ (by omega)).trans K2.2.1, (OD _ (by omega)).trans K2.2.2⟩, Or.inl ⟨by unfold oP; rw [if_neg hc0, if_neg (by omega), if_neg (fun q => q sm), if_pos hdk], rfl, rfl, by unfold oN; rw [if_neg hc0, gd]; exact PD⟩⟩)
          · have hdk : ¬ DK (cmdN te s e) w (nuF te tn e nu (cntN (cmdN te s e))) := fun q => sg.1 q (n_nle c89)
            refine v_iload_n (pc := 92) X (hd := dX3_runCommand_92) (kk := ?_)
            refine v_goto (pc := 93) X (tgt := 97) (hd := dX3_runCommand_93) (kk := ?_)
            exact v_endi (pc := 97) X hr hlk (hd := dX3_runCommand_97) (hf := by
    rcases D86 with ⟨k, rfl⟩ | ⟨k, PD, OD⟩
    · exact ⟨O2, _, _, by unfold oN; rw [if_neg hc0, gd]; exact K2, Or.inr ⟨s, by unfold oP; rw [if_neg hc0, if_neg (by omega), if_neg (fun q => q sm), if_neg hdk], by omega, rfl, P2⟩⟩
    · exact absurd k hdk)
        · have sm : ¬ semi te tn e (cntN (cmdN te s e)) := fun q => c75 ((semi_w hEb.2).mpr q)
          refine v_aload_n (pc := 78) X (hd := dX3_runCommand_78) (kk := ?_)
          refine g_X3_19 (pc := 79) X (hd := dX3_runCommand_79) (hh := K2.1) (kk := ?_)
          exact v_endi (pc := 82) X hr hlk (hd := dX3_runCommand_82) (hf := ⟨O2, _, _, by unfold oN; rw [if_neg hc0, gd]; exact K2, Or.inr ⟨SS te tn e (cntN (cmdN te s e)), by unfold oP; rw [if_neg hc0, if_neg (by omega), if_pos sm], hSb.2.2, rfl, P2⟩⟩)
      · exact absurd (Int32.le_refl _) c29
  · have hc0 : (cmdN te s e) = 0 := (nI_eq (by have := cmdN_b te s e; omega) (by omega)).mp ((Classical.not_not.mp c11).trans nI_z.symm)
    refine v_iload_n (pc := 14) X (hd := dX3_runCommand_14) (kk := ?_)
    exact v_endi (pc := 15) X hr hlk (hd := dX3_runCommand_15) (hf := ⟨fun q _ _ _ => rfl, _, _, by unfold oN; rw [if_pos hc0]; exact hK, Or.inr ⟨s, by unfold oP; rw [if_pos hc0], by omega, rfl, hP⟩⟩)
set_option maxRecDepth 100000 in
set_option maxHeartbeats 4000000 in
theorem c_X7_readsOne (l : Launch) (E : pE) (m : Nat) (w pa he te re : Nat → Int32) (np tn s e : Nat) (co : Int32) : pC l E yX7_readsOne cX7_readsOne 5 (some .int) { frames := 7, cells := 0, slots := 0, locals := 161 } 0 0 [.ref m] (fun h _ => MD m w pa he te re (nI np) (bI (true = true)) (nI tn) (nI e) (nI s) (kiV te tn s) co h ∧ TX te tn ∧ s < e ∧ e ≤ tn ∧ IE w ∧ np ≤ 5) (pFi (fun h r h' => pO m (m + 6) h h' ∧ ((oP te tn w re s e = none ∧ r = -9 ∧ ∃ st1 ki1, MD m (DG (cmdN te s e) w (oN te tn re s e)) pa he te (oN te tn re s e) (nI np) (bI (true = true)) (nI tn) (nI (oA te tn s e)) st1 ki1 co h') ∨ (∃ p, oP te tn w re s e = some p ∧ p ≤ tn ∧ r = nI p ∧ ∃ at1 st1 ki1, MD m w pa he te (oN te tn re s e) (nI np) (bI (true = true)) (nI tn) at1 st1 ki1 co h')))) := by
  refine pC_of (by decide) (by simp [Value.category]) (Nat.le_of_ble_eq_true rfl) ?_
  intro h z hp p__ e__ s__ m__ args__ below__ meth__ c__ X hr hlk hname
  obtain ⟨hM, hT, hse, hen, I, hnp⟩ := hp
  have h140 := hT.1
  refine v_aload_n (pc := 0) X (hd := dX7_readsOne_0) (kk := ?_)
  refine g_X7_108 (pc := 1) X (hd := dX7_readsOne_1) (hh := hM.1) (kk := ?_)
  refine v_istore_n (pc := 4) X (hd := dX7_readsOne_4) (kk := ?_)
  refine v_aload_n (pc := 5) X (hd := dX7_readsOne_5) (kk := ?_)
  refine v_callVp (pc := 6) X (hd := dX7_readsOne_6) (w := wv_X7_146) (hC := c_X7_command l E m w pa he te re _ _ tn s e co) (hp := ⟨hM, by omega, hen, hT⟩) (hb := hM.1) (kk := ?_)
  refine v_istore_n (pc := 9) X (hd := dX7_readsOne_9) (kk := ?_)
  refine v_iload_n (pc := 10) X (hd := dX7_readsOne_10) (kk := ?_)
  refine v_bipush (pc := 11) X (v := (-9)) (hd := dX7_readsOne_11) (kk := ?_)
  refine v_icmpne (pc := 13) X (tgt := 21) (hd := dX7_readsOne_13) (kt := fun c13 => ?_) (kf := fun c13 => ?_)
  · have hc0 : ¬ (cmdN te s e) = 0 := fun q => c13 (if_pos q)
    have hc7 := cmdN_b te s e
    have hcb := cntN_b (cmdN te s e)
    rw [if_neg hc0]
    refine v_iload_n (pc := 21) X (hd := dX7_readsOne_21) (kk := ?_)
    refine v_ifeq (pc := 22) X (tgt := 30) (hd := dX7_readsOne_22) (kt := fun c22 => ?_) (kf := fun c22 => ?_)
    · have x22 : (cmdN te s e) - 1 = 0 := (nI_eq (by omega) (by omega)).mp (c22.trans nI_z.symm)
      refine v_iconst (pc := 30) X (v := nI 1) (hd := dX7_readsOne_30) (kk := ?_)
      refine v_goto (pc := 31) X (tgt := 44) (hd := dX7_readsOne_31) (kk := ?_)
      refine v_topi (fun y44 e44 => ?_)
      obtain rfl : y44 = nI (cntN (cmdN te s e)) := e44.trans (congrArg nI (show cntN (cmdN te s e) = 1 from (by unfold cntN; rw [if_neg (by omega), if_pos (by omega)]))).symm
      refine v_istore_n (pc := 44) X (hd := dX7_readsOne_44) (kk := ?_)
      refine v_iconst (pc := 45) X (v := nI 0) (hd := dX7_readsOne_45) (kk := ?_)
      refine v_istore (pc := 46) X (hd := dX7_readsOne_46) (kk := ?_)
      refine v_for (pc := 48) (M := (cntN (cmdN te s e))) (Lf := fun i => [some (.ref m), some (.int (nI s)), some (.int (nI ((cmdN te s e) - 1))), some (.int (nI (cntN (cmdN te s e)))), some (.int (nI i))]) (I := fun i h1 => (∃ st1 ki1, MD m w pa he te (nuF te tn e re i) (nI np) (bI (true = true)) (nI tn) (nI (EE te tn e i)) st1 ki1 co h1) ∧ gdN te tn e i = i ∧ pO m (m + 6) h h1) (h0 := ⟨⟨_, _, hM⟩, rfl, pO.rf⟩) (hL := by rfl) (step := ?_) (out := ?_)
      · intro i h1 hi hI kk
        obtain ⟨⟨st1, ki1, M1⟩, gd, O1⟩ := hI
        have hEb := EE_b (te := te) hen i
        have hSb := SS_b (te := te) hen i
        refine v_iload (pc := 48) X (hd := dX7_readsOne_48) (kk := ?_)
        refine v_iload_n (pc := 50) X (hd := dX7_readsOne_50) (kk := ?_)
        refine v_icmpge (pc := 51) X (tgt := 74) (hd := dX7_readsOne_51) (kt := fun c51 => ?_) (kf := fun c51 => ?_)
        · exact absurd c51 (nI_ge hi (by omega))
        · refine v_aload_n (pc := 54) X (hd := dX7_readsOne_54) (kk := ?_)
          refine v_iload (pc := 55) X (hd := dX7_readsOne_55) (kk := ?_)
          refine v_callVi (pc := 57) X (hd := dX7_readsOne_57) (w := wv_X7_149) (hC := c_X7_isNumber l E m w pa he te (nuF te tn e re i) _ _ tn (EE te tn e i) i st1 ki1 co) (hp := ⟨M1, hT, hEb.2, by omega⟩) (hb := M1.1) (kk := fun r57 h57 q57 => ?_)
          obtain ⟨rfl, M2, O2⟩ := q57
          refine v_ifneB (pc := 60) X (tgt := 68) (hd := dX7_readsOne_60) (kt := fun c60 => ?_) (kf := fun c60 => ?_)
          · refine v_iincN (pc := 68) X (hd := dX7_readsOne_68) (kk := ?_)
            refine v_goto (pc := 71) X (tgt := 48) (hd := dX7_readsOne_71) (kk := ?_)
            refine kk _ ⟨⟨nI (SS te tn e i), kiV te tn (SS te tn e i), ?_⟩, gdN_s gd c60, O1.tr O2⟩
            have M3 := M2
            rw [if_pos (show nOk te (tokS te tn (EE te tn e i)) (tokE te tn (EE te tn e i)) from c60)] at M3
            exact M3
          · refine v_aload_n (pc := 63) X (hd := dX7_readsOne_63) (kk := ?_)
            refine g_X7_108 (pc := 64) X (hd := dX7_readsOne_64) (hh := M2.1) (kk := ?_)
            exact v_endi (pc := 67) X hr hlk (hd := dX7_readsOne_67) (hf := by
    have hg := gdN_bad gd c60 (cntN (cmdN te s e)) hi
    have M3 := M2
    rw [if_neg (show ¬ nOk te (tokS te tn (EE te tn e i)) (tokE te tn (EE te tn e i)) from c60)] at M3
    exact ⟨O1.tr O2, Or.inr ⟨SS te tn e i, by unfold oP; rw [if_neg hc0, if_pos (by omega), hg], hSb.2.2, rfl, _, _, _, by unfold oN; rw [if_neg hc0, hg]; exact M3⟩⟩)
      · intro h1 hI
        obtain ⟨⟨st1, ki1, M1⟩, gd, O1⟩ := hI
        have hEb := EE_b (te := te) hen (cntN (cmdN te s e))
        have hSb := SS_b (te := te) hen (cntN (cmdN te s e))
        refine v_iload (pc := 48) X (hd := dX7_readsOne_48) (kk := ?_)
        refine v_iload_n (pc := 50) X (hd := dX7_readsOne_50) (kk := ?_)
        refine v_icmpge (pc := 51) X (tgt := 74) (hd := dX7_readsOne_51) (kt := fun c51 => ?_) (kf := fun c51 => ?_)
        · refine v_aload_n (pc := 74) X (hd := dX7_readsOne_74) (kk := ?_)
          refine v_callVv (pc := 75) X (hd := dX7_readsOne_75) (w := wv_X7_121) (hC := c_X7_token l E m w pa he te (nuF te tn e re (cntN (cmdN te s e))) _ _ tn (EE te tn e (cntN (cmdN te s e))) st1 ki1 co) (hp := ⟨M1, hT, hEb.2⟩) (hb := M1.1) (kk := fun h75 q75 => ?_)
          obtain ⟨M2, F2⟩ := q75
          have O2 : pO m (m + 6) h h75 := fun q hq => (F2 q (by omega)).trans (O1 q hq)
          refine v_aload_n (pc := 78) X (hd := dX7_readsOne_78) (kk := ?_)
          refine g_X7_114 (pc := 79) X (hd := dX7_readsOne_79) (hh := M2.1) (kk := ?_)
          refine v_bipush (pc := 82) X (v := nI 59) (hd := dX7_readsOne_82) (kk := ?_)
          refine v_icmpeq (pc := 84) X (tgt := 92) (hd := dX7_readsOne_84) (kt := fun c84 => ?_) (kf := fun c84 => ?_)
          · have sm : semi te tn e (cntN (cmdN te s e)) := (semi_k hT).mp c84
            refine v_aload_n (pc := 92) X (hd := dX7_readsOne_92) (kk := ?_)
            refine v_iload_n (pc := 93) X (hd := dX7_readsOne_93) (kk := ?_)
            refine v_callVi (pc := 94) X (hd := dX7_readsOne_94) (w := wv_X7_152) (hC := c_X7_does l E m w pa he te (nuF te tn e re (cntN (cmdN te s e))) np true _ _ _ _ co ((cmdN te s e) - 1)) (hp := ⟨M2, hnp, I.iw, by omega⟩) (hb := M2.1) (kk := fun r94 h94 q94 => ?_)
            rw [show (cmdN te s e) - 1 + 1 = (cmdN te s e) by omega] at q94
            obtain ⟨rfl, D94⟩ := q94
            have sg := dSg (c := (cmdN te s e)) (n := (nuF te tn e re (cntN (cmdN te s e)))) I
            refine v_ifge (pc := 97) X (tgt := 104) (hd := dX7_readsOne_97) (kt := fun c97 => ?_) (kf := fun c97 => ?_)
            · have hdk : DK (cmdN te s e) w (nuF te tn e re (cntN (cmdN te s e))) := Classical.byContradiction fun q => by have := sg.2 q; rw [n_lt] at this; rw [n_le] at c97; omega
              refine v_bipush (pc := 104) X (v := (-9)) (hd := dX7_readsOne_104) (kk := ?_)
              exact v_endi (pc := 106) X hr hlk (hd := dX7_readsOne_106) (hf := by
    rcases D94 with ⟨k, -⟩ | ⟨k, MDx, OD⟩
    · exact absurd hdk k
    · exact ⟨O2.tr OD, Or.inl ⟨by unfold oP; rw [if_neg hc0, if_neg (by omega), if_neg (fun q => q sm), if_pos hdk], rfl, _, _, by unfold oN; rw [if_neg hc0, gd]; exact MDx⟩⟩)
            · have hdk : ¬ DK (cmdN te s e) w (nuF te tn e re (cntN (cmdN te s e))) := fun q => sg.1 q (n_nle c97)
              refine v_iload_n (pc := 100) X (hd := dX7_readsOne_100) (kk := ?_)
              refine v_goto (pc := 101) X (tgt := 106) (hd := dX7_readsOne_101) (kk := ?_)
              exact v_endi (pc := 106) X hr hlk (hd := dX7_readsOne_106) (hf := by
    rcases D94 with ⟨k, rfl⟩ | ⟨k, MDx, OD⟩
    · exact ⟨O2, Or.inr ⟨s, by unfold oP; rw [if_neg hc0, if_neg (by omega), if_neg (fun q => q sm), if_neg hdk], by omega, rfl, _, _, _, by unfold oN; rw [if_neg hc0, gd]; exact M2⟩⟩
    · exact absurd k hdk)
          · have sm : ¬ semi te tn e (cntN (cmdN te s e)) := fun q => c84 ((semi_k hT).mpr q)
            refine v_aload_n (pc := 87) X (hd := dX7_readsOne_87) (kk := ?_)
            refine g_X7_108 (pc := 88) X (hd := dX7_readsOne_88) (hh := M2.1) (kk := ?_)
            exact v_endi (pc := 91) X hr hlk (hd := dX7_readsOne_91) (hf := ⟨O2, Or.inr ⟨SS te tn e (cntN (cmdN te s e)), by unfold oP; rw [if_neg hc0, if_neg (by omega), if_pos sm], hSb.2.2, rfl, _, _, _, by unfold oN; rw [if_neg hc0, gd]; exact M2⟩⟩)
        · exact absurd (Int32.le_refl _) c51
    · have x22 : ¬ (cmdN te s e) - 1 = 0 := fun q => c22 (by rw [q]; exact nI_z)
      refine v_iload_n (pc := 25) X (hd := dX7_readsOne_25) (kk := ?_)
      refine v_iconst (pc := 26) X (v := nI 4) (hd := dX7_readsOne_26) (kk := ?_)
      refine v_icmpne (pc := 27) X (tgt := 34) (hd := dX7_readsOne_27) (kt := fun c27 => ?_) (kf := fun c27 => ?_)
      · have x27 : ¬ (cmdN te s e) - 1 = 4 := fun q => c27 (by rw [q])
        refine v_iload_n (pc := 34) X (hd := dX7_readsOne_34) (kk := ?_)
        refine v_iconst (pc := 35) X (v := nI 3) (hd := dX7_readsOne_35) (kk := ?_)
        refine v_icmpne (pc := 36) X (tgt := 43) (hd := dX7_readsOne_36) (kt := fun c36 => ?_) (kf := fun c36 => ?_)
        · have x36 : ¬ (cmdN te s e) - 1 = 3 := fun q => c36 (by rw [q])
          refine v_iconst (pc := 43) X (v := nI 2) (hd := dX7_readsOne_43) (kk := ?_)
          refine v_topi (fun y44 e44 => ?_)
          obtain rfl : y44 = nI (cntN (cmdN te s e)) := e44.trans (congrArg nI (show cntN (cmdN te s e) = 2 from (by unfold cntN; rw [if_neg (by omega), if_neg (by omega)]))).symm
          refine v_istore_n (pc := 44) X (hd := dX7_readsOne_44) (kk := ?_)
          refine v_iconst (pc := 45) X (v := nI 0) (hd := dX7_readsOne_45) (kk := ?_)
          refine v_istore (pc := 46) X (hd := dX7_readsOne_46) (kk := ?_)
          refine v_for (pc := 48) (M := (cntN (cmdN te s e))) (Lf := fun i => [some (.ref m), some (.int (nI s)), some (.int (nI ((cmdN te s e) - 1))), some (.int (nI (cntN (cmdN te s e)))), some (.int (nI i))]) (I := fun i h1 => (∃ st1 ki1, MD m w pa he te (nuF te tn e re i) (nI np) (bI (true = true)) (nI tn) (nI (EE te tn e i)) st1 ki1 co h1) ∧ gdN te tn e i = i ∧ pO m (m + 6) h h1) (h0 := ⟨⟨_, _, hM⟩, rfl, pO.rf⟩) (hL := by rfl) (step := ?_) (out := ?_)
          · intro i h1 hi hI kk
            obtain ⟨⟨st1, ki1, M1⟩, gd, O1⟩ := hI
            have hEb := EE_b (te := te) hen i
            have hSb := SS_b (te := te) hen i
            refine v_iload (pc := 48) X (hd := dX7_readsOne_48) (kk := ?_)
            refine v_iload_n (pc := 50) X (hd := dX7_readsOne_50) (kk := ?_)
            refine v_icmpge (pc := 51) X (tgt := 74) (hd := dX7_readsOne_51) (kt := fun c51 => ?_) (kf := fun c51 => ?_)
            · exact absurd c51 (nI_ge hi (by omega))
            · refine v_aload_n (pc := 54) X (hd := dX7_readsOne_54) (kk := ?_)
              refine v_iload (pc := 55) X (hd := dX7_readsOne_55) (kk := ?_)
              refine v_callVi (pc := 57) X (hd := dX7_readsOne_57) (w := wv_X7_149) (hC := c_X7_isNumber l E m w pa he te (nuF te tn e re i) _ _ tn (EE te tn e i) i st1 ki1 co) (hp := ⟨M1, hT, hEb.2, by omega⟩) (hb := M1.1) (kk := fun r57 h57 q57 => ?_)
              obtain ⟨rfl, M2, O2⟩ := q57
              refine v_ifneB (pc := 60) X (tgt := 68) (hd := dX7_readsOne_60) (kt := fun c60 => ?_) (kf := fun c60 => ?_)
              · refine v_iincN (pc := 68) X (hd := dX7_readsOne_68) (kk := ?_)
                refine v_goto (pc := 71) X (tgt := 48) (hd := dX7_readsOne_71) (kk := ?_)
                refine kk _ ⟨⟨nI (SS te tn e i), kiV te tn (SS te tn e i), ?_⟩, gdN_s gd c60, O1.tr O2⟩
                have M3 := M2
                rw [if_pos (show nOk te (tokS te tn (EE te tn e i)) (tokE te tn (EE te tn e i)) from c60)] at M3
                exact M3
              · refine v_aload_n (pc := 63) X (hd := dX7_readsOne_63) (kk := ?_)
                refine g_X7_108 (pc := 64) X (hd := dX7_readsOne_64) (hh := M2.1) (kk := ?_)
                exact v_endi (pc := 67) X hr hlk (hd := dX7_readsOne_67) (hf := by
    have hg := gdN_bad gd c60 (cntN (cmdN te s e)) hi
    have M3 := M2
    rw [if_neg (show ¬ nOk te (tokS te tn (EE te tn e i)) (tokE te tn (EE te tn e i)) from c60)] at M3
    exact ⟨O1.tr O2, Or.inr ⟨SS te tn e i, by unfold oP; rw [if_neg hc0, if_pos (by omega), hg], hSb.2.2, rfl, _, _, _, by unfold oN; rw [if_neg hc0, hg]; exact M3⟩⟩)
          · intro h1 hI
            obtain ⟨⟨st1, ki1, M1⟩, gd, O1⟩ := hI
            have hEb := EE_b (te := te) hen (cntN (cmdN te s e))
            have hSb := SS_b (te := te) hen (cntN (cmdN te s e))
            refine v_iload (pc := 48) X (hd := dX7_readsOne_48) (kk := ?_)
            refine v_iload_n (pc := 50) X (hd := dX7_readsOne_50) (kk := ?_)
            refine v_icmpge (pc := 51) X (tgt := 74) (hd := dX7_readsOne_51) (kt := fun c51 => ?_) (kf := fun c51 => ?_)
            · refine v_aload_n (pc := 74) X (hd := dX7_readsOne_74) (kk := ?_)
              refine v_callVv (pc := 75) X (hd := dX7_readsOne_75) (w := wv_X7_121) (hC := c_X7_token l E m w pa he te (nuF te tn e re (cntN (cmdN te s e))) _ _ tn (EE te tn e (cntN (cmdN te s e))) st1 ki1 co) (hp := ⟨M1, hT, hEb.2⟩) (hb := M1.1) (kk := fun h75 q75 => ?_)
              obtain ⟨M2, F2⟩ := q75
              have O2 : pO m (m + 6) h h75 := fun q hq => (F2 q (by omega)).trans (O1 q hq)
              refine v_aload_n (pc := 78) X (hd := dX7_readsOne_78) (kk := ?_)
              refine g_X7_114 (pc := 79) X (hd := dX7_readsOne_79) (hh := M2.1) (kk := ?_)
              refine v_bipush (pc := 82) X (v := nI 59) (hd := dX7_readsOne_82) (kk := ?_)
              refine v_icmpeq (pc := 84) X (tgt := 92) (hd := dX7_readsOne_84) (kt := fun c84 => ?_) (kf := fun c84 => ?_)
              · have sm : semi te tn e (cntN (cmdN te s e)) := (semi_k hT).mp c84
                refine v_aload_n (pc := 92) X (hd := dX7_readsOne_92) (kk := ?_)
                refine v_iload_n (pc := 93) X (hd := dX7_readsOne_93) (kk := ?_)
                refine v_callVi (pc := 94) X (hd := dX7_readsOne_94) (w := wv_X7_152) (hC := c_X7_does l E m w pa he te (nuF te tn e re (cntN (cmdN te s e))) np true _ _ _ _ co ((cmdN te s e) - 1)) (hp := ⟨M2, hnp, I.iw, by omega⟩) (hb := M2.1) (kk := fun r94 h94 q94 => ?_)
                rw [show (cmdN te s e) - 1 + 1 = (cmdN te s e) by omega] at q94
                obtain ⟨rfl, D94⟩ := q94
                have sg := dSg (c := (cmdN te s e)) (n := (nuF te tn e re (cntN (cmdN te s e)))) I
                refine v_ifge (pc := 97) X (tgt := 104) (hd := dX7_readsOne_97) (kt := fun c97 => ?_) (kf := fun c97 => ?_)
                · have hdk : DK (cmdN te s e) w (nuF te tn e re (cntN (cmdN te s e))) := Classical.byContradiction fun q => by have := sg.2 q; rw [n_lt] at this; rw [n_le] at c97; omega
                  refine v_bipush (pc := 104) X (v := (-9)) (hd := dX7_readsOne_104) (kk := ?_)
                  exact v_endi (pc := 106) X hr hlk (hd := dX7_readsOne_106) (hf := by
    rcases D94 with ⟨k, -⟩ | ⟨k, MDx, OD⟩
    · exact absurd hdk k
    · exact ⟨O2.tr OD, Or.inl ⟨by unfold oP; rw [if_neg hc0, if_neg (by omega), if_neg (fun q => q sm), if_pos hdk], rfl, _, _, by unfold oN; rw [if_neg hc0, gd]; exact MDx⟩⟩)
                · have hdk : ¬ DK (cmdN te s e) w (nuF te tn e re (cntN (cmdN te s e))) := fun q => sg.1 q (n_nle c97)
                  refine v_iload_n (pc := 100) X (hd := dX7_readsOne_100) (kk := ?_)
                  refine v_goto (pc := 101) X (tgt := 106) (hd := dX7_readsOne_101) (kk := ?_)
                  exact v_endi (pc := 106) X hr hlk (hd := dX7_readsOne_106) (hf := by
    rcases D94 with ⟨k, rfl⟩ | ⟨k, MDx, OD⟩
    · exact ⟨O2, Or.inr ⟨s, by unfold oP; rw [if_neg hc0, if_neg (by omega), if_neg (fun q => q sm), if_neg hdk], by omega, rfl, _, _, _, by unfold oN; rw [if_neg hc0, gd]; exact M2⟩⟩
    · exact absurd k hdk)
              · have sm : ¬ semi te tn e (cntN (cmdN te s e)) := fun q => c84 ((semi_k hT).mpr q)
                refine v_aload_n (pc := 87) X (hd := dX7_readsOne_87) (kk := ?_)
                refine g_X7_108 (pc := 88) X (hd := dX7_readsOne_88) (hh := M2.1) (kk := ?_)
                exact v_endi (pc := 91) X hr hlk (hd := dX7_readsOne_91) (hf := ⟨O2, Or.inr ⟨SS te tn e (cntN (cmdN te s e)), by unfold oP; rw [if_neg hc0, if_neg (by omega), if_pos sm], hSb.2.2, rfl, _, _, _, by unfold oN; rw [if_neg hc0, gd]; exact M2⟩⟩)
            · exact absurd (Int32.le_refl _) c51
        · have x36 : (cmdN te s e) - 1 = 3 := (nI_eq (by omega) (by omega)).mp (Classical.not_not.mp c36)
          refine v_iconst (pc := 39) X (v := nI 3) (hd := dX7_readsOne_39) (kk := ?_)
          refine v_goto (pc := 40) X (tgt := 44) (hd := dX7_readsOne_40) (kk := ?_)
          refine v_topi (fun y44 e44 => ?_)
          obtain rfl : y44 = nI (cntN (cmdN te s e)) := e44.trans (congrArg nI (show cntN (cmdN te s e) = 3 from (by unfold cntN; rw [if_pos (by omega)]))).symm
          refine v_istore_n (pc := 44) X (hd := dX7_readsOne_44) (kk := ?_)
          refine v_iconst (pc := 45) X (v := nI 0) (hd := dX7_readsOne_45) (kk := ?_)
          refine v_istore (pc := 46) X (hd := dX7_readsOne_46) (kk := ?_)
          refine v_for (pc := 48) (M := (cntN (cmdN te s e))) (Lf := fun i => [some (.ref m), some (.int (nI s)), some (.int (nI ((cmdN te s e) - 1))), some (.int (nI (cntN (cmdN te s e)))), some (.int (nI i))]) (I := fun i h1 => (∃ st1 ki1, MD m w pa he te (nuF te tn e re i) (nI np) (bI (true = true)) (nI tn) (nI (EE te tn e i)) st1 ki1 co h1) ∧ gdN te tn e i = i ∧ pO m (m + 6) h h1) (h0 := ⟨⟨_, _, hM⟩, rfl, pO.rf⟩) (hL := by rfl) (step := ?_) (out := ?_)
          · intro i h1 hi hI kk
            obtain ⟨⟨st1, ki1, M1⟩, gd, O1⟩ := hI
            have hEb := EE_b (te := te) hen i
            have hSb := SS_b (te := te) hen i
            refine v_iload (pc := 48) X (hd := dX7_readsOne_48) (kk := ?_)
            refine v_iload_n (pc := 50) X (hd := dX7_readsOne_50) (kk := ?_)
            refine v_icmpge (pc := 51) X (tgt := 74) (hd := dX7_readsOne_51) (kt := fun c51 => ?_) (kf := fun c51 => ?_)
            · exact absurd c51 (nI_ge hi (by omega))
            · refine v_aload_n (pc := 54) X (hd := dX7_readsOne_54) (kk := ?_)
              refine v_iload (pc := 55) X (hd := dX7_readsOne_55) (kk := ?_)
              refine v_callVi (pc := 57) X (hd := dX7_readsOne_57) (w := wv_X7_149) (hC := c_X7_isNumber l E m w pa he te (nuF te tn e re i) _ _ tn (EE te tn e i) i st1 ki1 co) (hp := ⟨M1, hT, hEb.2, by omega⟩) (hb := M1.1) (kk := fun r57 h57 q57 => ?_)
              obtain ⟨rfl, M2, O2⟩ := q57
              refine v_ifneB (pc := 60) X (tgt := 68) (hd := dX7_readsOne_60) (kt := fun c60 => ?_) (kf := fun c60 => ?_)
              · refine v_iincN (pc := 68) X (hd := dX7_readsOne_68) (kk := ?_)
                refine v_goto (pc := 71) X (tgt := 48) (hd := dX7_readsOne_71) (kk := ?_)
                refine kk _ ⟨⟨nI (SS te tn e i), kiV te tn (SS te tn e i), ?_⟩, gdN_s gd c60, O1.tr O2⟩
                have M3 := M2
                rw [if_pos (show nOk te (tokS te tn (EE te tn e i)) (tokE te tn (EE te tn e i)) from c60)] at M3
                exact M3
              · refine v_aload_n (pc := 63) X (hd := dX7_readsOne_63) (kk := ?_)
                refine g_X7_108 (pc := 64) X (hd := dX7_readsOne_64) (hh := M2.1) (kk := ?_)
                exact v_endi (pc := 67) X hr hlk (hd := dX7_readsOne_67) (hf := by
    have hg := gdN_bad gd c60 (cntN (cmdN te s e)) hi
    have M3 := M2
    rw [if_neg (show ¬ nOk te (tokS te tn (EE te tn e i)) (tokE te tn (EE te tn e i)) from c60)] at M3
    exact ⟨O1.tr O2, Or.inr ⟨SS te tn e i, by unfold oP; rw [if_neg hc0, if_pos (by omega), hg], hSb.2.2, rfl, _, _, _, by unfold oN; rw [if_neg hc0, hg]; exact M3⟩⟩)
          · intro h1 hI
            obtain ⟨⟨st1, ki1, M1⟩, gd, O1⟩ := hI
            have hEb := EE_b (te := te) hen (cntN (cmdN te s e))
            have hSb := SS_b (te := te) hen (cntN (cmdN te s e))
            refine v_iload (pc := 48) X (hd := dX7_readsOne_48) (kk := ?_)
            refine v_iload_n (pc := 50) X (hd := dX7_readsOne_50) (kk := ?_)
            refine v_icmpge (pc := 51) X (tgt := 74) (hd := dX7_readsOne_51) (kt := fun c51 => ?_) (kf := fun c51 => ?_)
            · refine v_aload_n (pc := 74) X (hd := dX7_readsOne_74) (kk := ?_)
              refine v_callVv (pc := 75) X (hd := dX7_readsOne_75) (w := wv_X7_121) (hC := c_X7_token l E m w pa he te (nuF te tn e re (cntN (cmdN te s e))) _ _ tn (EE te tn e (cntN (cmdN te s e))) st1 ki1 co) (hp := ⟨M1, hT, hEb.2⟩) (hb := M1.1) (kk := fun h75 q75 => ?_)
              obtain ⟨M2, F2⟩ := q75
              have O2 : pO m (m + 6) h h75 := fun q hq => (F2 q (by omega)).trans (O1 q hq)
              refine v_aload_n (pc := 78) X (hd := dX7_readsOne_78) (kk := ?_)
              refine g_X7_114 (pc := 79) X (hd := dX7_readsOne_79) (hh := M2.1) (kk := ?_)
              refine v_bipush (pc := 82) X (v := nI 59) (hd := dX7_readsOne_82) (kk := ?_)
              refine v_icmpeq (pc := 84) X (tgt := 92) (hd := dX7_readsOne_84) (kt := fun c84 => ?_) (kf := fun c84 => ?_)
              · have sm : semi te tn e (cntN (cmdN te s e)) := (semi_k hT).mp c84
                refine v_aload_n (pc := 92) X (hd := dX7_readsOne_92) (kk := ?_)
                refine v_iload_n (pc := 93) X (hd := dX7_readsOne_93) (kk := ?_)
                refine v_callVi (pc := 94) X (hd := dX7_readsOne_94) (w := wv_X7_152) (hC := c_X7_does l E m w pa he te (nuF te tn e re (cntN (cmdN te s e))) np true _ _ _ _ co ((cmdN te s e) - 1)) (hp := ⟨M2, hnp, I.iw, by omega⟩) (hb := M2.1) (kk := fun r94 h94 q94 => ?_)
                rw [show (cmdN te s e) - 1 + 1 = (cmdN te s e) by omega] at q94
                obtain ⟨rfl, D94⟩ := q94
                have sg := dSg (c := (cmdN te s e)) (n := (nuF te tn e re (cntN (cmdN te s e)))) I
                refine v_ifge (pc := 97) X (tgt := 104) (hd := dX7_readsOne_97) (kt := fun c97 => ?_) (kf := fun c97 => ?_)
                · have hdk : DK (cmdN te s e) w (nuF te tn e re (cntN (cmdN te s e))) := Classical.byContradiction fun q => by have := sg.2 q; rw [n_lt] at this; rw [n_le] at c97; omega
                  refine v_bipush (pc := 104) X (v := (-9)) (hd := dX7_readsOne_104) (kk := ?_)
                  exact v_endi (pc := 106) X hr hlk (hd := dX7_readsOne_106) (hf := by
    rcases D94 with ⟨k, -⟩ | ⟨k, MDx, OD⟩
    · exact absurd hdk k
    · exact ⟨O2.tr OD, Or.inl ⟨by unfold oP; rw [if_neg hc0, if_neg (by omega), if_neg (fun q => q sm), if_pos hdk], rfl, _, _, by unfold oN; rw [if_neg hc0, gd]; exact MDx⟩⟩)
                · have hdk : ¬ DK (cmdN te s e) w (nuF te tn e re (cntN (cmdN te s e))) := fun q => sg.1 q (n_nle c97)
                  refine v_iload_n (pc := 100) X (hd := dX7_readsOne_100) (kk := ?_)
                  refine v_goto (pc := 101) X (tgt := 106) (hd := dX7_readsOne_101) (kk := ?_)
                  exact v_endi (pc := 106) X hr hlk (hd := dX7_readsOne_106) (hf := by
    rcases D94 with ⟨k, rfl⟩ | ⟨k, MDx, OD⟩
    · exact ⟨O2, Or.inr ⟨s, by unfold oP; rw [if_neg hc0, if_neg (by omega), if_neg (fun q => q sm), if_neg hdk], by omega, rfl, _, _, _, by unfold oN; rw [if_neg hc0, gd]; exact M2⟩⟩
    · exact absurd k hdk)
              · have sm : ¬ semi te tn e (cntN (cmdN te s e)) := fun q => c84 ((semi_k hT).mpr q)
                refine v_aload_n (pc := 87) X (hd := dX7_readsOne_87) (kk := ?_)
                refine g_X7_108 (pc := 88) X (hd := dX7_readsOne_88) (hh := M2.1) (kk := ?_)
                exact v_endi (pc := 91) X hr hlk (hd := dX7_readsOne_91) (hf := ⟨O2, Or.inr ⟨SS te tn e (cntN (cmdN te s e)), by unfold oP; rw [if_neg hc0, if_neg (by omega), if_pos sm], hSb.2.2, rfl, _, _, _, by unfold oN; rw [if_neg hc0, gd]; exact M2⟩⟩)
            · exact absurd (Int32.le_refl _) c51
      · have x27 : (cmdN te s e) - 1 = 4 := (nI_eq (by omega) (by omega)).mp (Classical.not_not.mp c27)
        refine v_iconst (pc := 30) X (v := nI 1) (hd := dX7_readsOne_30) (kk := ?_)
        refine v_goto (pc := 31) X (tgt := 44) (hd := dX7_readsOne_31) (kk := ?_)
        refine v_topi (fun y44 e44 => ?_)
        obtain rfl : y44 = nI (cntN (cmdN te s e)) := e44.trans (congrArg nI (show cntN (cmdN te s e) = 1 from (by unfold cntN; rw [if_neg (by omega), if_pos (by omega)]))).symm
        refine v_istore_n (pc := 44) X (hd := dX7_readsOne_44) (kk := ?_)
        refine v_iconst (pc := 45) X (v := nI 0) (hd := dX7_readsOne_45) (kk := ?_)
        refine v_istore (pc := 46) X (hd := dX7_readsOne_46) (kk := ?_)
        refine v_for (pc := 48) (M := (cntN (cmdN te s e))) (Lf := fun i => [some (.ref m), some (.int (nI s)), some (.int (nI ((cmdN te s e) - 1))), some (.int (nI (cntN (cmdN te s e)))), some (.int (nI i))]) (I := fun i h1 => (∃ st1 ki1, MD m w pa he te (nuF te tn e re i) (nI np) (bI (true = true)) (nI tn) (nI (EE te tn e i)) st1 ki1 co h1) ∧ gdN te tn e i = i ∧ pO m (m + 6) h h1) (h0 := ⟨⟨_, _, hM⟩, rfl, pO.rf⟩) (hL := by rfl) (step := ?_) (out := ?_)
        · intro i h1 hi hI kk
          obtain ⟨⟨st1, ki1, M1⟩, gd, O1⟩ := hI
          have hEb := EE_b (te := te) hen i
          have hSb := SS_b (te := te) hen i
          refine v_iload (pc := 48) X (hd := dX7_readsOne_48) (kk := ?_)
          refine v_iload_n (pc := 50) X (hd := dX7_readsOne_50) (kk := ?_)
          refine v_icmpge (pc := 51) X (tgt := 74) (hd := dX7_readsOne_51) (kt := fun c51 => ?_) (kf := fun c51 => ?_)
          · exact absurd c51 (nI_ge hi (by omega))
          · refine v_aload_n (pc := 54) X (hd := dX7_readsOne_54) (kk := ?_)
            refine v_iload (pc := 55) X (hd := dX7_readsOne_55) (kk := ?_)
            refine v_callVi (pc := 57) X (hd := dX7_readsOne_57) (w := wv_X7_149) (hC := c_X7_isNumber l E m w pa he te (nuF te tn e re i) _ _ tn (EE te tn e i) i st1 ki1 co) (hp := ⟨M1, hT, hEb.2, by omega⟩) (hb := M1.1) (kk := fun r57 h57 q57 => ?_)
            obtain ⟨rfl, M2, O2⟩ := q57
            refine v_ifneB (pc := 60) X (tgt := 68) (hd := dX7_readsOne_60) (kt := fun c60 => ?_) (kf := fun c60 => ?_)
            · refine v_iincN (pc := 68) X (hd := dX7_readsOne_68) (kk := ?_)
              refine v_goto (pc := 71) X (tgt := 48) (hd := dX7_readsOne_71) (kk := ?_)
              refine kk _ ⟨⟨nI (SS te tn e i), kiV te tn (SS te tn e i), ?_⟩, gdN_s gd c60, O1.tr O2⟩
              have M3 := M2
              rw [if_pos (show nOk te (tokS te tn (EE te tn e i)) (tokE te tn (EE te tn e i)) from c60)] at M3
              exact M3
            · refine v_aload_n (pc := 63) X (hd := dX7_readsOne_63) (kk := ?_)
              refine g_X7_108 (pc := 64) X (hd := dX7_readsOne_64) (hh := M2.1) (kk := ?_)
              exact v_endi (pc := 67) X hr hlk (hd := dX7_readsOne_67) (hf := by
    have hg := gdN_bad gd c60 (cntN (cmdN te s e)) hi
    have M3 := M2
    rw [if_neg (show ¬ nOk te (tokS te tn (EE te tn e i)) (tokE te tn (EE te tn e i)) from c60)] at M3
    exact ⟨O1.tr O2, Or.inr ⟨SS te tn e i, by unfold oP; rw [if_neg hc0, if_pos (by omega), hg], hSb.2.2, rfl, _, _, _, by unfold oN; rw [if_neg hc0, hg]; exact M3⟩⟩)
        · intro h1 hI
          obtain ⟨⟨st1, ki1, M1⟩, gd, O1⟩ := hI
          have hEb := EE_b (te := te) hen (cntN (cmdN te s e))
          have hSb := SS_b (te := te) hen (cntN (cmdN te s e))
          refine v_iload (pc := 48) X (hd := dX7_readsOne_48) (kk := ?_)
          refine v_iload_n (pc := 50) X (hd := dX7_readsOne_50) (kk := ?_)
          refine v_icmpge (pc := 51) X (tgt := 74) (hd := dX7_readsOne_51) (kt := fun c51 => ?_) (kf := fun c51 => ?_)
          · refine v_aload_n (pc := 74) X (hd := dX7_readsOne_74) (kk := ?_)
            refine v_callVv (pc := 75) X (hd := dX7_readsOne_75) (w := wv_X7_121) (hC := c_X7_token l E m w pa he te (nuF te tn e re (cntN (cmdN te s e))) _ _ tn (EE te tn e (cntN (cmdN te s e))) st1 ki1 co) (hp := ⟨M1, hT, hEb.2⟩) (hb := M1.1) (kk := fun h75 q75 => ?_)
            obtain ⟨M2, F2⟩ := q75
            have O2 : pO m (m + 6) h h75 := fun q hq => (F2 q (by omega)).trans (O1 q hq)
            refine v_aload_n (pc := 78) X (hd := dX7_readsOne_78) (kk := ?_)
            refine g_X7_114 (pc := 79) X (hd := dX7_readsOne_79) (hh := M2.1) (kk := ?_)
            refine v_bipush (pc := 82) X (v := nI 59) (hd := dX7_readsOne_82) (kk := ?_)
            refine v_icmpeq (pc := 84) X (tgt := 92) (hd := dX7_readsOne_84) (kt := fun c84 => ?_) (kf := fun c84 => ?_)
            · have sm : semi te tn e (cntN (cmdN te s e)) := (semi_k hT).mp c84
              refine v_aload_n (pc := 92) X (hd := dX7_readsOne_92) (kk := ?_)
              refine v_iload_n (pc := 93) X (hd := dX7_readsOne_93) (kk := ?_)
              refine v_callVi (pc := 94) X (hd := dX7_readsOne_94) (w := wv_X7_152) (hC := c_X7_does l E m w pa he te (nuF te tn e re (cntN (cmdN te s e))) np true _ _ _ _ co ((cmdN te s e) - 1)) (hp := ⟨M2, hnp, I.iw, by omega⟩) (hb := M2.1) (kk := fun r94 h94 q94 => ?_)
              rw [show (cmdN te s e) - 1 + 1 = (cmdN te s e) by omega] at q94
              obtain ⟨rfl, D94⟩ := q94
              have sg := dSg (c := (cmdN te s e)) (n := (nuF te tn e re (cntN (cmdN te s e)))) I
              refine v_ifge (pc := 97) X (tgt := 104) (hd := dX7_readsOne_97) (kt := fun c97 => ?_) (kf := fun c97 => ?_)
              · have hdk : DK (cmdN te s e) w (nuF te tn e re (cntN (cmdN te s e))) := Classical.byContradiction fun q => by have := sg.2 q; rw [n_lt] at this; rw [n_le] at c97; omega
                refine v_bipush (pc := 104) X (v := (-9)) (hd := dX7_readsOne_104) (kk := ?_)
                exact v_endi (pc := 106) X hr hlk (hd := dX7_readsOne_106) (hf := by
    rcases D94 with ⟨k, -⟩ | ⟨k, MDx, OD⟩
    · exact absurd hdk k
    · exact ⟨O2.tr OD, Or.inl ⟨by unfold oP; rw [if_neg hc0, if_neg (by omega), if_neg (fun q => q sm), if_pos hdk], rfl, _, _, by unfold oN; rw [if_neg hc0, gd]; exact MDx⟩⟩)
              · have hdk : ¬ DK (cmdN te s e) w (nuF te tn e re (cntN (cmdN te s e))) := fun q => sg.1 q (n_nle c97)
                refine v_iload_n (pc := 100) X (hd := dX7_readsOne_100) (kk := ?_)
                refine v_goto (pc := 101) X (tgt := 106) (hd := dX7_readsOne_101) (kk := ?_)
                exact v_endi (pc := 106) X hr hlk (hd := dX7_readsOne_106) (hf := by
    rcases D94 with ⟨k, rfl⟩ | ⟨k, MDx, OD⟩
    · exact ⟨O2, Or.inr ⟨s, by unfold oP; rw [if_neg hc0, if_neg (by omega), if_neg (fun q => q sm), if_neg hdk], by omega, rfl, _, _, _, by unfold oN; rw [if_neg hc0, gd]; exact M2⟩⟩
    · exact absurd k hdk)
            · have sm : ¬ semi te tn e (cntN (cmdN te s e)) := fun q => c84 ((semi_k hT).mpr q)
              refine v_aload_n (pc := 87) X (hd := dX7_readsOne_87) (kk := ?_)
              refine g_X7_108 (pc := 88) X (hd := dX7_readsOne_88) (hh := M2.1) (kk := ?_)
              exact v_endi (pc := 91) X hr hlk (hd := dX7_readsOne_91) (hf := ⟨O2, Or.inr ⟨SS te tn e (cntN (cmdN te s e)), by unfold oP; rw [if_neg hc0, if_neg (by omega), if_pos sm], hSb.2.2, rfl, _, _, _, by unfold oN; rw [if_neg hc0, gd]; exact M2⟩⟩)
          · exact absurd (Int32.le_refl _) c51
  · have hc0 : (cmdN te s e) = 0 := Classical.byContradiction fun q => by
      have := Classical.not_not.mp c13
      rw [if_neg q] at this
      exact nI_n9 (by have := cmdN_b te s e; omega) this
    refine v_aload_n (pc := 16) X (hd := dX7_readsOne_16) (kk := ?_)
    refine g_X7_108 (pc := 17) X (hd := dX7_readsOne_17) (hh := hM.1) (kk := ?_)
    exact v_endi (pc := 20) X hr hlk (hd := dX7_readsOne_20) (hf := ⟨pO.rf, Or.inr ⟨s, by unfold oP; rw [if_pos hc0], by omega, rfl, _, _, _, by unfold oN; rw [if_pos hc0]; exact hM⟩⟩)
