/-! the reference's actions, as functions of its row -/
def zc (w : Nat → Int32) (j : Nat) : Nat → Nat → Int32
  | 0 => w
  | i + 1 => upd (zc w j i) (52 + 4 * j + i) (nI 0)
def gCome (w : Nat → Int32) (sp : Int32) (nh : Nat) : Nat → Int32 := upd (zc (upd (upd (upd w (6 + 3 * nh) sp) (6 + 3 * nh + 1) (nI 0)) (6 + 3 * nh + 2) (nI 0)) nh 4) 1 (zc (upd (upd (upd w (6 + 3 * nh) sp) (6 + 3 * nh + 1) (nI 0)) (6 + 3 * nh + 2) (nI 0)) nh 4 1 + nI 1)
abbrev kCome (w : Nat → Int32) (sp : Int32) : Prop := gI sp (nI 1) (nI 9) ∧ ¬ w 1 = nI 6
def rCome (w : Nat → Int32) (sp : Int32) : Int32 := if gI sp (nI 1) (nI 9) then (if w 1 = nI 6 then -3 else w 1) else -1
abbrev kSet (w : Nat → Int32) (x sp : Int32) : Prop := gH (w 1) x ∧ gI sp (nI 1) (nI 9)
def rSet (w : Nat → Int32) (x sp : Int32) : Int32 := if kSet w x sp then w (6 + 3 * nx x + 0) else -1
def gSet (w : Nat → Int32) (x sp : Int32) : Nat → Int32 := upd w (6 + 3 * nx x) sp
def abF (w : Nat → Int32) (al st : Int32) (b : Nat) : Nat → Nat → Int32
  | 0 => w
  | i + 1 => upd (abF w al st b i) (24 + 7 * b + i) (if i = 0 then al else if i = 1 then st else nI 0)
abbrev kAdd (w : Nat → Int32) (al st : Int32) : Prop := (gI al (nI 0) (nI 5000) ∧ gI st (nI 100) (nI 3000)) ∧ ¬ w 2 = nI 4
def rAdd (w : Nat → Int32) (al st : Int32) : Int32 := if gI al (nI 0) (nI 5000) ∧ gI st (nI 100) (nI 3000) then (if w 2 = nI 4 then -3 else w 2) else -1
def gAdd (w : Nat → Int32) (al st : Int32) (nb : Nat) : Nat → Int32 := upd (abF w al st nb 7) 2 (abF w al st nb 7 2 + nI 1)
abbrev kAllow (w : Nat → Int32) (x al : Int32) : Prop := gH (w 2) x ∧ gI al (nI 0) (nI 5000)
def rAllow (w : Nat → Int32) (x al : Int32) : Int32 := if kAllow w x al then w (24 + 7 * nx x + 0) else -1
def gAllow (w : Nat → Int32) (x al : Int32) : Nat → Int32 := upd w (24 + 7 * nx x) al
abbrev kGrant (w : Nat → Int32) (x y is : Int32) : Prop := gH (w 1) x ∧ gH (w 2) y ∧ gI is (nI 0) (nI 1)
def sGrant (s : Int32) (j : Nat) (is : Int32) : Int32 := (s &&& ((nI 1 <<< (nI j &&& 31)) ^^^ (-1))) ||| is <<< (nI j &&& 31)
def rGrant (w : Nat → Int32) (x y is : Int32) : Int32 := if kGrant w x y is then fOnes (sGrant (w (24 + 7 * nx y + 3)) (nx x) is) 6 else -1
def gGrant (w : Nat → Int32) (x y is : Int32) : Nat → Int32 := upd w (24 + 7 * nx y + 3) (sGrant (w (24 + 7 * nx y + 3)) (nx x) is)
abbrev kCut (w : Nat → Int32) (nh : Nat) (x y t : Int32) : Prop := (gH (w 1) x ∧ gH (w 2) y ∧ gI t (nI 1) (nI 1000)) ∧ t ≤ fMay w nh (nx x) (nx y) ∧ ¬ w 3 = nI 12
def rCut (w : Nat → Int32) (nh : Nat) (x y t : Int32) : Int32 := if gH (w 1) x ∧ gH (w 2) y ∧ gI t (nI 1) (nI 1000) then (if t ≤ fMay w nh (nx x) (nx y) then (if w 3 = nI 12 then -3 else w 3) else -2) else -1
def cuA (w : Nat → Int32) (j b : Nat) (t : Int32) : Nat → Int32 := upd (upd w (52 + 4 * j + b) (w (52 + 4 * j + b) + t)) (24 + 7 * b + 4) (upd w (52 + 4 * j + b) (w (52 + 4 * j + b) + t) (24 + 7 * b + 4) + t)
def cuB (w : Nat → Int32) (ns j b : Nat) (t : Int32) : Nat → Int32 := upd (upd (upd (upd (upd w (76 + 5 * ns + 0) (nI j)) (76 + 5 * ns + 1) (nI b)) (76 + 5 * ns + 2) t) (76 + 5 * ns + 3) (nI 100000)) (76 + 5 * ns + 4) (nI 0)
def gCut (w : Nat → Int32) (ns : Nat) (x y t : Int32) : Nat → Int32 := upd (cuB (cuA w (nx x) (nx y) t) ns (nx x) (nx y) t) 3 (cuB (cuA w (nx x) (nx y) t) ns (nx x) (nx y) t 3 + nI 1)
abbrev kTurn (w : Nat → Int32) (x : Int32) : Prop := gH (w 3) x ∧ ¬ w (76 + 5 * nx x + 4) = nI 3
def rTurn (w : Nat → Int32) (x : Int32) : Int32 := if gH (w 3) x then (if w (76 + 5 * nx x + 4) = nI 3 then -3 else w (76 + 5 * nx x + 4) + nI 1) else -1
def gTurn (w : Nat → Int32) (x : Int32) : Nat → Int32 := upd w (76 + 5 * nx x + 4) (w (76 + 5 * nx x + 4) + nI 1)
def goF (w : Nat → Int32) (j : Nat) : Nat → Nat → Int32
  | 0 => w
  | i + 1 => upd (goF w j i) (76 + 5 * j + i) (goF w j i (76 + 5 * j + i + 5))
def gGo (w : Nat → Int32) (j ns : Nat) : Nat → Int32 := goF (upd w 3 (w 3 - nI 1)) j (5 * (ns - 1 - j))
def mP (m : Nat) (w pa he te re : Nat → Int32) (np : Nat) (rr : Bool) (ty at_ st ki co : Int32) (ok : Prop) (r0 : Int32) (w1 : Nat → Int32) : pH → Int32 → pH → Prop := fun h r h' => r = r0 ∧ ((¬ ok ∧ h' = h) ∨ (ok ∧ okA m w pa he te re np rr ty at_ st ki co w1 h h'))
set_option maxRecDepth 100000 in
set_option maxHeartbeats 4000000 in
theorem c_X7_come (l : Launch) (E : pE) (m : Nat) (w pa he te re : Nat → Int32) (np : Nat) (rr : Bool) (ty at_ st ki co : Int32) (sp : Int32) (nh nb ns : Nat) : pC l E yX7_come cX7_come 4 (some .int) { frames := 1, cells := 0, slots := 0, locals := 22 } 0 0 [.ref m, .int sp] (fun h _ => MD m w pa he te re (nI np) (bI (rr = true)) ty at_ st ki co h ∧ np ≤ 5 ∧ Iv w nh nb ns) (pFi (mP m w pa he te re np rr ty at_ st ki co (kCome w sp) (rCome w sp) (gCome w sp nh))) := by
  refine pC_of (by decide) (by simp [Value.category]) (Nat.le_of_ble_eq_true rfl) ?_
  intro h z hp p__ e__ s__ m__ args__ below__ meth__ c__ X hr hlk hname
  obtain ⟨hM, hnp, I⟩ := hp
  have hM0 := hM
  obtain ⟨M0, M1, M2, M3, M4, M5⟩ := hM0
  obtain ⟨hn6, hb4, hs12, en, eb, es⟩ := I.1
  refine v_iload_n (pc := 0) X (hd := dX7_come_0) (kk := ?_)
  refine v_iconst (pc := 1) X (v := nI 1) (hd := dX7_come_1) (kk := ?_)
  refine v_bipush (pc := 2) X (v := nI 9) (hd := dX7_come_2) (kk := ?_)
  refine v_callSp (pc := 4) X (hd := dX7_come_4) (w := wv_X7_33) (hC := c_X7_in l E _ _ _) (hp := by first | assumption | exact trivial) (kk := ?_)
  refine v_ifneB (pc := 7) X (tgt := 12) (hd := dX7_come_7) (kt := fun c7 => ?_) (kf := fun c7 => ?_)
  · refine v_aload_n (pc := 12) X (hd := dX7_come_12) (kk := ?_)
    refine g_X7_7 (pc := 13) X (hd := dX7_come_13) (hh := by first | assumption | exact pset_s _ _ _ | exact (pset_n (by omega)).trans (by assumption)) (kk := ?_)
    refine v_iconst (pc := 16) X (v := nI 1) (hd := dX7_come_16) (kk := ?_)
    refine v_ialdN (pc := 17) X (j := 1) (hd := dX7_come_17) (hh := by first | assumption | exact pset_s _ _ _ | exact (pset_n (by omega)).trans (by assumption)) (hi := by first | rfl | (simp only [pk_mul, nI_add]; done)) (hj := by omega) (kk := ?_)
    refine v_bipush (pc := 18) X (v := nI 6) (hd := dX7_come_18) (kk := ?_)
    refine v_icmpne (pc := 20) X (tgt := 26) (hd := dX7_come_20) (kt := fun c20 => ?_) (kf := fun c20 => ?_)
    · have hlt : nh < 6 := by
        rcases Nat.lt_or_ge nh 6 with q | q
        · exact q
        · exact absurd (by rw [en, show nh = 6 by omega]) c20
      refine v_aload_n (pc := 26) X (hd := dX7_come_26) (kk := ?_)
      refine v_callVv (pc := 27) X (hd := dX7_come_27) (w := wv_X7_37) (hC := c_X7_acts l E _ _ _ _ _ _ _ _ _ _ _ _ _) (hp := ⟨hM, hnp⟩) (hb := by first | assumption | exact pset_s _ _ _ | exact (pset_n (by omega)).trans (by assumption)) (kk := fun h27 q27 => ?_)
      obtain ⟨hM1, hO1⟩ := q27
      have hM2 := hM1
      obtain ⟨N0, N1, N2, N3, N4, N5⟩ := hM2
      refine v_aload_n (pc := 30) X (hd := dX7_come_30) (kk := ?_)
      refine g_X7_7 (pc := 31) X (hd := dX7_come_31) (hh := by first | assumption | exact pset_s _ _ _ | exact (pset_n (by omega)).trans (by assumption)) (kk := ?_)
      refine v_iconst (pc := 34) X (v := nI 1) (hd := dX7_come_34) (kk := ?_)
      refine v_ialdN (pc := 35) X (j := 1) (hd := dX7_come_35) (hh := by first | assumption | exact pset_s _ _ _ | exact (pset_n (by omega)).trans (by assumption)) (hi := by first | rfl | (simp only [pk_mul, nI_add]; done)) (hj := by omega) (kk := ?_)
      rw [en]
      refine v_istore_n (pc := 36) X (hd := dX7_come_36) (kk := ?_)
      refine v_aload_n (pc := 37) X (hd := dX7_come_37) (kk := ?_)
      refine g_X7_7 (pc := 38) X (hd := dX7_come_38) (hh := by first | assumption | exact pset_s _ _ _ | exact (pset_n (by omega)).trans (by assumption)) (kk := ?_)
      refine v_bipush (pc := 41) X (v := nI 6) (hd := dX7_come_41) (kk := ?_)
      refine v_iconst (pc := 43) X (v := nI 3) (hd := dX7_come_43) (kk := ?_)
      refine v_iload_n (pc := 44) X (hd := dX7_come_44) (kk := ?_)
      refine v_imul (pc := 45) X (hd := dX7_come_45) (kk := ?_)
      refine v_iadd (pc := 46) X (hd := dX7_come_46) (kk := ?_)
      refine v_iload_n (pc := 47) X (hd := dX7_come_47) (kk := ?_)
      refine v_iastN (pc := 48) X (j := (6 + 3 * nh)) (hd := dX7_come_48) (hh := by first | assumption | exact pset_s _ _ _ | exact (pset_n (by omega)).trans (by assumption)) (hi := by first | rfl | (simp only [pk_mul, nI_add]; done)) (hj := by omega) (kk := ?_)
      refine v_aload_n (pc := 49) X (hd := dX7_come_49) (kk := ?_)
      refine g_X7_7 (pc := 50) X (hd := dX7_come_50) (hh := by first | assumption | exact pset_s _ _ _ | exact (pset_n (by omega)).trans (by assumption)) (kk := ?_)
      refine v_bipush (pc := 53) X (v := nI 6) (hd := dX7_come_53) (kk := ?_)
      refine v_iconst (pc := 55) X (v := nI 3) (hd := dX7_come_55) (kk := ?_)
      refine v_iload_n (pc := 56) X (hd := dX7_come_56) (kk := ?_)
      refine v_imul (pc := 57) X (hd := dX7_come_57) (kk := ?_)
      refine v_iadd (pc := 58) X (hd := dX7_come_58) (kk := ?_)
      refine v_iconst (pc := 59) X (v := nI 1) (hd := dX7_come_59) (kk := ?_)
      refine v_iadd (pc := 60) X (hd := dX7_come_60) (kk := ?_)
      refine v_iconst (pc := 61) X (v := nI 0) (hd := dX7_come_61) (kk := ?_)
      refine v_iastN (pc := 62) X (j := (6 + 3 * nh + 1)) (hd := dX7_come_62) (hh := by first | assumption | exact pset_s _ _ _ | exact (pset_n (by omega)).trans (by assumption)) (hi := by first | rfl | (simp only [pk_mul, nI_add]; done)) (hj := by omega) (kk := ?_)
      rw [pset_pset]
      refine v_aload_n (pc := 63) X (hd := dX7_come_63) (kk := ?_)
      refine g_X7_7 (pc := 64) X (hd := dX7_come_64) (hh := by first | assumption | exact pset_s _ _ _ | exact (pset_n (by omega)).trans (by assumption)) (kk := ?_)
      refine v_bipush (pc := 67) X (v := nI 6) (hd := dX7_come_67) (kk := ?_)
      refine v_iconst (pc := 69) X (v := nI 3) (hd := dX7_come_69) (kk := ?_)
      refine v_iload_n (pc := 70) X (hd := dX7_come_70) (kk := ?_)
      refine v_imul (pc := 71) X (hd := dX7_come_71) (kk := ?_)
      refine v_iadd (pc := 72) X (hd := dX7_come_72) (kk := ?_)
      refine v_iconst (pc := 73) X (v := nI 2) (hd := dX7_come_73) (kk := ?_)
      refine v_iadd (pc := 74) X (hd := dX7_come_74) (kk := ?_)
      refine v_iconst (pc := 75) X (v := nI 0) (hd := dX7_come_75) (kk := ?_)
      refine v_iastN (pc := 76) X (j := (6 + 3 * nh + 2)) (hd := dX7_come_76) (hh := by first | assumption | exact pset_s _ _ _ | exact (pset_n (by omega)).trans (by assumption)) (hi := by first | rfl | (simp only [pk_mul, nI_add]; done)) (hj := by omega) (kk := ?_)
      rw [pset_pset]
      refine v_iconst (pc := 77) X (v := nI 0) (hd := dX7_come_77) (kk := ?_)
      refine v_istore_n (pc := 78) X (hd := dX7_come_78) (kk := ?_)
      refine v_for (pc := 79) (M := 4) (Lf := fun i => [some (.ref m), some (.int sp), some (.int (nI nh)), some (.int (nI i))]) (I := fun i h2 => h2 = pset h27 (m + 1) (ai 1 410 (zc (upd (upd (upd w (6 + 3 * nh) sp) (6 + 3 * nh + 1) (nI 0)) (6 + 3 * nh + 2) (nI 0)) nh i))) (h0 := rfl) (hL := by rfl) (step := ?_) (out := ?_)
      · intro i h2 hi hI kk
        subst hI
        refine v_iload_n (pc := 79) X (hd := dX7_come_79) (kk := ?_)
        refine v_iconst (pc := 80) X (v := nI 4) (hd := dX7_come_80) (kk := ?_)
        refine v_icmpge (pc := 81) X (tgt := 104) (hd := dX7_come_81) (kt := fun c81 => ?_) (kf := fun c81 => ?_)
        · exact absurd c81 (nI_ge hi (by omega))
        · refine v_aload_n (pc := 84) X (hd := dX7_come_84) (kk := ?_)
          refine g_X7_7 (pc := 85) X (hd := dX7_come_85) (hh := by first | assumption | exact pset_s _ _ _ | exact (pset_n (by omega)).trans (by assumption)) (kk := ?_)
          refine v_bipush (pc := 88) X (v := nI 52) (hd := dX7_come_88) (kk := ?_)
          refine v_iconst (pc := 90) X (v := nI 4) (hd := dX7_come_90) (kk := ?_)
          refine v_iload_n (pc := 91) X (hd := dX7_come_91) (kk := ?_)
          refine v_imul (pc := 92) X (hd := dX7_come_92) (kk := ?_)
          refine v_iadd (pc := 93) X (hd := dX7_come_93) (kk := ?_)
          refine v_iload_n (pc := 94) X (hd := dX7_come_94) (kk := ?_)
          refine v_iadd (pc := 95) X (hd := dX7_come_95) (kk := ?_)
          refine v_iconst (pc := 96) X (v := nI 0) (hd := dX7_come_96) (kk := ?_)
          refine v_iastN (pc := 97) X (j := (52 + 4 * nh + i)) (hd := dX7_come_97) (hh := by first | assumption | exact pset_s _ _ _ | exact (pset_n (by omega)).trans (by assumption)) (hi := by first | rfl | (simp only [pk_mul, nI_add]; done)) (hj := by omega) (kk := ?_)
          rw [pset_pset]
          refine v_iincN (pc := 98) X (hd := dX7_come_98) (kk := ?_)
          refine v_goto (pc := 101) X (tgt := 79) (hd := dX7_come_101) (kk := ?_)
          exact kk _ rfl
      · intro h2 hI
        subst hI
        refine v_iload_n (pc := 79) X (hd := dX7_come_79) (kk := ?_)
        refine v_iconst (pc := 80) X (v := nI 4) (hd := dX7_come_80) (kk := ?_)
        refine v_icmpge (pc := 81) X (tgt := 104) (hd := dX7_come_81) (kt := fun c81 => ?_) (kf := fun c81 => ?_)
        · refine v_aload_n (pc := 104) X (hd := dX7_come_104) (kk := ?_)
          refine g_X7_7 (pc := 105) X (hd := dX7_come_105) (hh := by first | assumption | exact pset_s _ _ _ | exact (pset_n (by omega)).trans (by assumption)) (kk := ?_)
          refine v_iconst (pc := 108) X (v := nI 1) (hd := dX7_come_108) (kk := ?_)
          refine v_dup2 (pc := 109) X (hd := dX7_come_109) (kk := ?_)
          refine v_ialdN (pc := 110) X (j := 1) (hd := dX7_come_110) (hh := by first | assumption | exact pset_s _ _ _ | exact (pset_n (by omega)).trans (by assumption)) (hi := by first | rfl | (simp only [pk_mul, nI_add]; done)) (hj := by omega) (kk := ?_)
          refine v_iconst (pc := 111) X (v := nI 1) (hd := dX7_come_111) (kk := ?_)
          refine v_iadd (pc := 112) X (hd := dX7_come_112) (kk := ?_)
          refine v_iastN (pc := 113) X (j := 1) (hd := dX7_come_113) (hh := by first | assumption | exact pset_s _ _ _ | exact (pset_n (by omega)).trans (by assumption)) (hi := by first | rfl | (simp only [pk_mul, nI_add]; done)) (hj := by omega) (kk := ?_)
          rw [pset_pset]
          refine v_iload_n (pc := 114) X (hd := dX7_come_114) (kk := ?_)
          exact v_endi (pc := 115) X hr hlk (hd := dX7_come_115) (hf := ⟨by unfold rCome; rw [if_pos c7, if_neg c20, en], Or.inr ⟨⟨c7, c20⟩, by exact ⟨hM1.sw _, (hO1.set (by omega) (by omega))⟩⟩⟩)
        · exact absurd (Int32.le_refl _) c81
    · refine v_bipush (pc := 23) X (v := (-3)) (hd := dX7_come_23) (kk := ?_)
      exact v_endi (pc := 25) X hr hlk (hd := dX7_come_25) (hf := ⟨by unfold rCome; rw [if_pos c7, if_pos (Classical.not_not.mp c20)], Or.inl ⟨fun q => q.2 (Classical.not_not.mp c20), rfl⟩⟩)
  · refine v_iconst (pc := 10) X (v := (-1)) (hd := dX7_come_10) (kk := ?_)
    exact v_endi (pc := 11) X hr hlk (hd := dX7_come_11) (hf := ⟨by unfold rCome; rw [if_neg c7], Or.inl ⟨fun q => c7 q.1, rfl⟩⟩)
set_option maxRecDepth 100000 in
set_option maxHeartbeats 4000000 in
theorem c_X7_setSpades (l : Launch) (E : pE) (m : Nat) (w pa he te re : Nat → Int32) (np : Nat) (rr : Bool) (ty at_ st ki co : Int32) (x sp : Int32) (nh nb ns : Nat) : pC l E yX7_setSpades cX7_setSpades 4 (some .int) { frames := 1, cells := 0, slots := 0, locals := 22 } 0 0 [.ref m, .int x, .int sp] (fun h _ => MD m w pa he te re (nI np) (bI (rr = true)) ty at_ st ki co h ∧ np ≤ 5 ∧ Iv w nh nb ns) (pFi (mP m w pa he te re np rr ty at_ st ki co (kSet w x sp) (rSet w x sp) (gSet w x sp))) := by
  refine pC_of (by decide) (by simp [Value.category]) (Nat.le_of_ble_eq_true rfl) ?_
  intro h z hp p__ e__ s__ m__ args__ below__ meth__ c__ X hr hlk hname
  obtain ⟨hM, hnp, I⟩ := hp
  have hM0 := hM
  obtain ⟨M0, M1, M2, M3, M4, M5⟩ := hM0
  obtain ⟨hn6, hb4, hs12, en, eb, es⟩ := I.1
  refine v_aload_n (pc := 0) X (hd := dX7_setSpades_0) (kk := ?_)
  refine v_iload_n (pc := 1) X (hd := dX7_setSpades_1) (kk := ?_)
  refine v_callVp (pc := 2) X (hd := dX7_setSpades_2) (w := wv_X7_40) (hC := c_X7_isHouse l E _ _ _ _ _ _ _ _ _ _ _ _ _ _) (hp := by first | assumption | exact trivial) (hb := by first | assumption | exact pset_s _ _ _ | exact (pset_n (by omega)).trans (by assumption)) (kk := ?_)
  refine v_ifeqB (pc := 5) X (tgt := 18) (hd := dX7_setSpades_5) (kt := fun c5 => ?_) (kf := fun c5 => ?_)
  · refine v_iconst (pc := 18) X (v := (-1)) (hd := dX7_setSpades_18) (kk := ?_)
    exact v_endi (pc := 19) X hr hlk (hd := dX7_setSpades_19) (hf := ⟨by unfold rSet; rw [if_neg (fun q => c5 q.1)], Or.inl ⟨fun q => c5 q.1, rfl⟩⟩)
  · refine v_iload_n (pc := 8) X (hd := dX7_setSpades_8) (kk := ?_)
    refine v_iconst (pc := 9) X (v := nI 1) (hd := dX7_setSpades_9) (kk := ?_)
    refine v_bipush (pc := 10) X (v := nI 9) (hd := dX7_setSpades_10) (kk := ?_)
    refine v_callSp (pc := 12) X (hd := dX7_setSpades_12) (w := wv_X7_33) (hC := c_X7_in l E _ _ _) (hp := by first | assumption | exact trivial) (kk := ?_)
    refine v_ifneB (pc := 15) X (tgt := 20) (hd := dX7_setSpades_15) (kt := fun c15 => ?_) (kf := fun c15 => ?_)
    · obtain ⟨j, hj, rfl, ej⟩ := gH_j en (by omega) c5
      refine v_aload_n (pc := 20) X (hd := dX7_setSpades_20) (kk := ?_)
      refine v_callVv (pc := 21) X (hd := dX7_setSpades_21) (w := wv_X7_37) (hC := c_X7_acts l E _ _ _ _ _ _ _ _ _ _ _ _ _) (hp := ⟨hM, hnp⟩) (hb := by first | assumption | exact pset_s _ _ _ | exact (pset_n (by omega)).trans (by assumption)) (kk := fun h21 q21 => ?_)
      obtain ⟨hM1, hO1⟩ := q21
      have hM2 := hM1
      obtain ⟨N0, N1, N2, N3, N4, N5⟩ := hM2
      refine v_aload_n (pc := 24) X (hd := dX7_setSpades_24) (kk := ?_)
      refine v_iload_n (pc := 25) X (hd := dX7_setSpades_25) (kk := ?_)
      refine v_iconst (pc := 26) X (v := nI 0) (hd := dX7_setSpades_26) (kk := ?_)
      refine v_callVp (pc := 27) X (hd := dX7_setSpades_27) (w := wv_X7_44) (hC := c_X7_inHouse l E _ _ _ _ _ _ _ _ _ _ _ _ _ (j) 0) (hp := ⟨hM1, by omega⟩) (hb := by first | assumption | exact pset_s _ _ _ | exact (pset_n (by omega)).trans (by assumption)) (kk := ?_)
      refine v_istore_n (pc := 30) X (hd := dX7_setSpades_30) (kk := ?_)
      refine v_aload_n (pc := 31) X (hd := dX7_setSpades_31) (kk := ?_)
      refine g_X7_7 (pc := 32) X (hd := dX7_setSpades_32) (hh := by first | assumption | exact pset_s _ _ _ | exact (pset_n (by omega)).trans (by assumption)) (kk := ?_)
      refine v_bipush (pc := 35) X (v := nI 6) (hd := dX7_setSpades_35) (kk := ?_)
      refine v_iconst (pc := 37) X (v := nI 3) (hd := dX7_setSpades_37) (kk := ?_)
      refine v_iload_n (pc := 38) X (hd := dX7_setSpades_38) (kk := ?_)
      refine v_imul (pc := 39) X (hd := dX7_setSpades_39) (kk := ?_)
      refine v_iadd (pc := 40) X (hd := dX7_setSpades_40) (kk := ?_)
      refine v_iload_n (pc := 41) X (hd := dX7_setSpades_41) (kk := ?_)
      refine v_iastN (pc := 42) X (j := (6 + 3 * j)) (hd := dX7_setSpades_42) (hh := by first | assumption | exact pset_s _ _ _ | exact (pset_n (by omega)).trans (by assumption)) (hi := by first | rfl | (simp only [pk_mul, nI_add]; done)) (hj := by omega) (kk := ?_)
      refine v_iload_n (pc := 43) X (hd := dX7_setSpades_43) (kk := ?_)
      exact v_endi (pc := 44) X hr hlk (hd := dX7_setSpades_44) (hf := ⟨by unfold rSet; rw [if_pos ⟨c5, c15⟩, ej], Or.inr ⟨⟨c5, c15⟩, by unfold gSet; rw [ej]; exact ⟨hM1.sw _, (hO1.set (by omega) (by omega))⟩⟩⟩)
    · refine v_iconst (pc := 18) X (v := (-1)) (hd := dX7_setSpades_18) (kk := ?_)
      exact v_endi (pc := 19) X hr hlk (hd := dX7_setSpades_19) (hf := ⟨by unfold rSet; rw [if_neg (fun q => c15 q.2)], Or.inl ⟨fun q => c15 q.2, rfl⟩⟩)
set_option maxRecDepth 100000 in
set_option maxHeartbeats 4000000 in
theorem c_X7_addBank (l : Launch) (E : pE) (m : Nat) (w pa he te re : Nat → Int32) (np : Nat) (rr : Bool) (ty at_ st ki co : Int32) (al str : Int32) (nh nb ns : Nat) : pC l E yX7_addBank cX7_addBank 5 (some .int) { frames := 1, cells := 0, slots := 0, locals := 22 } 0 0 [.ref m, .int al, .int str] (fun h _ => MD m w pa he te re (nI np) (bI (rr = true)) ty at_ st ki co h ∧ np ≤ 5 ∧ Iv w nh nb ns) (pFi (mP m w pa he te re np rr ty at_ st ki co (kAdd w al str) (rAdd w al str) (gAdd w al str nb))) := by
  refine pC_of (by decide) (by simp [Value.category]) (Nat.le_of_ble_eq_true rfl) ?_
  intro h z hp p__ e__ s__ m__ args__ below__ meth__ c__ X hr hlk hname
  obtain ⟨hM, hnp, I⟩ := hp
  have hM0 := hM
  obtain ⟨M0, M1, M2, M3, M4, M5⟩ := hM0
  obtain ⟨hn6, hb4, hs12, en, eb, es⟩ := I.1
  refine v_iload_n (pc := 0) X (hd := dX7_addBank_0) (kk := ?_)
  refine v_iconst (pc := 1) X (v := nI 0) (hd := dX7_addBank_1) (kk := ?_)
  refine v_sipush (pc := 2) X (v := nI 5000) (hd := dX7_addBank_2) (kk := ?_)
  refine v_callSp (pc := 5) X (hd := dX7_addBank_5) (w := wv_X7_33) (hC := c_X7_in l E _ _ _) (hp := by first | assumption | exact trivial) (kk := ?_)
  refine v_ifeqB (pc := 8) X (tgt := 23) (hd := dX7_addBank_8) (kt := fun c8 => ?_) (kf := fun c8 => ?_)
  · refine v_iconst (pc := 23) X (v := (-1)) (hd := dX7_addBank_23) (kk := ?_)
    exact v_endi (pc := 24) X hr hlk (hd := dX7_addBank_24) (hf := ⟨by unfold rAdd; rw [if_neg (fun q => c8 q.1)], Or.inl ⟨fun q => c8 q.1.1, rfl⟩⟩)
  · refine v_iload_n (pc := 11) X (hd := dX7_addBank_11) (kk := ?_)
    refine v_bipush (pc := 12) X (v := nI 100) (hd := dX7_addBank_12) (kk := ?_)
    refine v_sipush (pc := 14) X (v := nI 3000) (hd := dX7_addBank_14) (kk := ?_)
    refine v_callSp (pc := 17) X (hd := dX7_addBank_17) (w := wv_X7_33) (hC := c_X7_in l E _ _ _) (hp := by first | assumption | exact trivial) (kk := ?_)
    refine v_ifneB (pc := 20) X (tgt := 25) (hd := dX7_addBank_20) (kt := fun c20 => ?_) (kf := fun c20 => ?_)
    · refine v_aload_n (pc := 25) X (hd := dX7_addBank_25) (kk := ?_)
      refine g_X7_7 (pc := 26) X (hd := dX7_addBank_26) (hh := by first | assumption | exact pset_s _ _ _ | exact (pset_n (by omega)).trans (by assumption)) (kk := ?_)
      refine v_iconst (pc := 29) X (v := nI 2) (hd := dX7_addBank_29) (kk := ?_)
      refine v_ialdN (pc := 30) X (j := 2) (hd := dX7_addBank_30) (hh := by first | assumption | exact pset_s _ _ _ | exact (pset_n (by omega)).trans (by assumption)) (hi := by first | rfl | (simp only [pk_mul, nI_add]; done)) (hj := by omega) (kk := ?_)
      refine v_iconst (pc := 31) X (v := nI 4) (hd := dX7_addBank_31) (kk := ?_)
      refine v_icmpne (pc := 32) X (tgt := 38) (hd := dX7_addBank_32) (kt := fun c32 => ?_) (kf := fun c32 => ?_)
      · have hlt : nb < 4 := by
          rcases Nat.lt_or_ge nb 4 with q | q
          · exact q
          · exact absurd (by rw [eb, show nb = 4 by omega]) c32
        refine v_aload_n (pc := 38) X (hd := dX7_addBank_38) (kk := ?_)
        refine v_callVv (pc := 39) X (hd := dX7_addBank_39) (w := wv_X7_37) (hC := c_X7_acts l E _ _ _ _ _ _ _ _ _ _ _ _ _) (hp := ⟨hM, hnp⟩) (hb := by first | assumption | exact pset_s _ _ _ | exact (pset_n (by omega)).trans (by assumption)) (kk := fun h39 q39 => ?_)
        obtain ⟨hM1, hO1⟩ := q39
        have hM2 := hM1
        obtain ⟨N0, N1, N2, N3, N4, N5⟩ := hM2
        refine v_aload_n (pc := 42) X (hd := dX7_addBank_42) (kk := ?_)
        refine g_X7_7 (pc := 43) X (hd := dX7_addBank_43) (hh := by first | assumption | exact pset_s _ _ _ | exact (pset_n (by omega)).trans (by assumption)) (kk := ?_)
        refine v_iconst (pc := 46) X (v := nI 2) (hd := dX7_addBank_46) (kk := ?_)
        refine v_ialdN (pc := 47) X (j := 2) (hd := dX7_addBank_47) (hh := by first | assumption | exact pset_s _ _ _ | exact (pset_n (by omega)).trans (by assumption)) (hi := by first | rfl | (simp only [pk_mul, nI_add]; done)) (hj := by omega) (kk := ?_)
        rw [eb]
        refine v_istore_n (pc := 48) X (hd := dX7_addBank_48) (kk := ?_)
        refine v_iconst (pc := 49) X (v := nI 0) (hd := dX7_addBank_49) (kk := ?_)
        refine v_istore (pc := 50) X (hd := dX7_addBank_50) (kk := ?_)
        refine v_for (pc := 52) (M := 7) (Lf := fun i => [some (.ref m), some (.int al), some (.int str), some (.int (nI nb)), some (.int (nI i))]) (I := fun i h2 => h2 = pset h39 (m + 1) (ai 1 410 (abF w al str nb i))) (h0 := pset_id N1) (hL := by rfl) (step := ?_) (out := ?_)
        · intro i h2 hi hI kk
          subst hI
          refine v_iload (pc := 52) X (hd := dX7_addBank_52) (kk := ?_)
          refine v_bipush (pc := 54) X (v := nI 7) (hd := dX7_addBank_54) (kk := ?_)
          refine v_icmpge (pc := 56) X (tgt := 100) (hd := dX7_addBank_56) (kt := fun c56 => ?_) (kf := fun c56 => ?_)
          · exact absurd c56 (nI_ge hi (by omega))
          · refine v_aload_n (pc := 59) X (hd := dX7_addBank_59) (kk := ?_)
            refine g_X7_7 (pc := 60) X (hd := dX7_addBank_60) (hh := by first | assumption | exact pset_s _ _ _ | exact (pset_n (by omega)).trans (by assumption)) (kk := ?_)
            refine v_bipush (pc := 63) X (v := nI 24) (hd := dX7_addBank_63) (kk := ?_)
            refine v_bipush (pc := 65) X (v := nI 7) (hd := dX7_addBank_65) (kk := ?_)
            refine v_iload_n (pc := 67) X (hd := dX7_addBank_67) (kk := ?_)
            refine v_imul (pc := 68) X (hd := dX7_addBank_68) (kk := ?_)
            refine v_iadd (pc := 69) X (hd := dX7_addBank_69) (kk := ?_)
            refine v_iload (pc := 70) X (hd := dX7_addBank_70) (kk := ?_)
            refine v_iadd (pc := 72) X (hd := dX7_addBank_72) (kk := ?_)
            refine v_iload (pc := 73) X (hd := dX7_addBank_73) (kk := ?_)
            refine v_ifne (pc := 75) X (tgt := 82) (hd := dX7_addBank_75) (kt := fun c75 => ?_) (kf := fun c75 => ?_)
            · have e75 : ¬ i = 0 := fun q => c75 (by rw [q]; exact nI_z)
              refine v_iload (pc := 82) X (hd := dX7_addBank_82) (kk := ?_)
              refine v_iconst (pc := 84) X (v := nI 1) (hd := dX7_addBank_84) (kk := ?_)
              refine v_icmpne (pc := 85) X (tgt := 92) (hd := dX7_addBank_85) (kt := fun c85 => ?_) (kf := fun c85 => ?_)
              · have e85 : ¬ i = 1 := fun q => c85 (by rw [q])
                refine v_iconst (pc := 92) X (v := nI 0) (hd := dX7_addBank_92) (kk := ?_)
                refine v_iastN (pc := 93) X (j := (24 + 7 * nb + i)) (hd := dX7_addBank_93) (hh := by first | assumption | exact pset_s _ _ _ | exact (pset_n (by omega)).trans (by assumption)) (hi := by first | rfl | (simp only [pk_mul, nI_add]; done)) (hj := by omega) (kk := ?_)
                rw [pset_pset]
                refine v_iincN (pc := 94) X (hd := dX7_addBank_94) (kk := ?_)
                refine v_goto (pc := 97) X (tgt := 52) (hd := dX7_addBank_97) (kk := ?_)
                exact kk _ (by first | (show _ = pset _ _ (ai 1 410 (upd _ _ (if i = 0 then al else if i = 1 then str else nI 0))); first | rw [if_pos e75] | rw [if_neg e75, if_pos e85] | rw [if_neg e75, if_neg e85]))
              · have e85 : i = 1 := (nI_eq (by omega) (by omega)).mp (Classical.not_not.mp c85)
                refine v_iload_n (pc := 88) X (hd := dX7_addBank_88) (kk := ?_)
                refine v_goto (pc := 89) X (tgt := 93) (hd := dX7_addBank_89) (kk := ?_)
                refine v_iastN (pc := 93) X (j := (24 + 7 * nb + i)) (hd := dX7_addBank_93) (hh := by first | assumption | exact pset_s _ _ _ | exact (pset_n (by omega)).trans (by assumption)) (hi := by first | rfl | (simp only [pk_mul, nI_add]; done)) (hj := by omega) (kk := ?_)
                rw [pset_pset]
                refine v_iincN (pc := 94) X (hd := dX7_addBank_94) (kk := ?_)
                refine v_goto (pc := 97) X (tgt := 52) (hd := dX7_addBank_97) (kk := ?_)
                exact kk _ (by first | (show _ = pset _ _ (ai 1 410 (upd _ _ (if i = 0 then al else if i = 1 then str else nI 0))); first | rw [if_pos e75] | rw [if_neg e75, if_pos e85] | rw [if_neg e75, if_neg e85]))
            · have e75 : i = 0 := (nI_eq (by omega) (by omega)).mp ((Classical.not_not.mp c75).trans nI_z.symm)
              refine v_iload_n (pc := 78) X (hd := dX7_addBank_78) (kk := ?_)
              refine v_goto (pc := 79) X (tgt := 93) (hd := dX7_addBank_79) (kk := ?_)
              refine v_iastN (pc := 93) X (j := (24 + 7 * nb + i)) (hd := dX7_addBank_93) (hh := by first | assumption | exact pset_s _ _ _ | exact (pset_n (by omega)).trans (by assumption)) (hi := by first | rfl | (simp only [pk_mul, nI_add]; done)) (hj := by omega) (kk := ?_)
              rw [pset_pset]
              refine v_iincN (pc := 94) X (hd := dX7_addBank_94) (kk := ?_)
              refine v_goto (pc := 97) X (tgt := 52) (hd := dX7_addBank_97) (kk := ?_)
              exact kk _ (by first | (show _ = pset _ _ (ai 1 410 (upd _ _ (if i = 0 then al else if i = 1 then str else nI 0))); first | rw [if_pos e75] | rw [if_neg e75, if_pos e85] | rw [if_neg e75, if_neg e85]))
        · intro h2 hI
          subst hI
          refine v_iload (pc := 52) X (hd := dX7_addBank_52) (kk := ?_)
          refine v_bipush (pc := 54) X (v := nI 7) (hd := dX7_addBank_54) (kk := ?_)
          refine v_icmpge (pc := 56) X (tgt := 100) (hd := dX7_addBank_56) (kt := fun c56 => ?_) (kf := fun c56 => ?_)
          · refine v_aload_n (pc := 100) X (hd := dX7_addBank_100) (kk := ?_)
            refine g_X7_7 (pc := 101) X (hd := dX7_addBank_101) (hh := by first | assumption | exact pset_s _ _ _ | exact (pset_n (by omega)).trans (by assumption)) (kk := ?_)
            refine v_iconst (pc := 104) X (v := nI 2) (hd := dX7_addBank_104) (kk := ?_)
            refine v_dup2 (pc := 105) X (hd := dX7_addBank_105) (kk := ?_)
            refine v_ialdN (pc := 106) X (j := 2) (hd := dX7_addBank_106) (hh := by first | assumption | exact pset_s _ _ _ | exact (pset_n (by omega)).trans (by assumption)) (hi := by first | rfl | (simp only [pk_mul, nI_add]; done)) (hj := by omega) (kk := ?_)
            refine v_iconst (pc := 107) X (v := nI 1) (hd := dX7_addBank_107) (kk := ?_)
            refine v_iadd (pc := 108) X (hd := dX7_addBank_108) (kk := ?_)
            refine v_iastN (pc := 109) X (j := 2) (hd := dX7_addBank_109) (hh := by first | assumption | exact pset_s _ _ _ | exact (pset_n (by omega)).trans (by assumption)) (hi := by first | rfl | (simp only [pk_mul, nI_add]; done)) (hj := by omega) (kk := ?_)
            rw [pset_pset]
            refine v_iload_n (pc := 110) X (hd := dX7_addBank_110) (kk := ?_)
            exact v_endi (pc := 111) X hr hlk (hd := dX7_addBank_111) (hf := ⟨by unfold rAdd; rw [if_pos ⟨c8, c20⟩, if_neg c32, eb], Or.inr ⟨⟨⟨c8, c20⟩, c32⟩, by exact ⟨hM1.sw _, (hO1.set (by omega) (by omega))⟩⟩⟩)
          · exact absurd (Int32.le_refl _) c56
      · refine v_bipush (pc := 35) X (v := (-3)) (hd := dX7_addBank_35) (kk := ?_)
        exact v_endi (pc := 37) X hr hlk (hd := dX7_addBank_37) (hf := ⟨by unfold rAdd; rw [if_pos ⟨c8, c20⟩, if_pos (Classical.not_not.mp c32)], Or.inl ⟨fun q => q.2 (Classical.not_not.mp c32), rfl⟩⟩)
    · refine v_iconst (pc := 23) X (v := (-1)) (hd := dX7_addBank_23) (kk := ?_)
      exact v_endi (pc := 24) X hr hlk (hd := dX7_addBank_24) (hf := ⟨by unfold rAdd; rw [if_neg (fun q => c20 q.2)], Or.inl ⟨fun q => c20 q.1.2, rfl⟩⟩)
set_option maxRecDepth 100000 in
set_option maxHeartbeats 4000000 in
theorem c_X7_setAllowance (l : Launch) (E : pE) (m : Nat) (w pa he te re : Nat → Int32) (np : Nat) (rr : Bool) (ty at_ st ki co : Int32) (x al : Int32) (nh nb ns : Nat) : pC l E yX7_setAllowance cX7_setAllowance 4 (some .int) { frames := 1, cells := 0, slots := 0, locals := 22 } 0 0 [.ref m, .int x, .int al] (fun h _ => MD m w pa he te re (nI np) (bI (rr = true)) ty at_ st ki co h ∧ np ≤ 5 ∧ Iv w nh nb ns) (pFi (mP m w pa he te re np rr ty at_ st ki co (kAllow w x al) (rAllow w x al) (gAllow w x al))) := by
  refine pC_of (by decide) (by simp [Value.category]) (Nat.le_of_ble_eq_true rfl) ?_
  intro h z hp p__ e__ s__ m__ args__ below__ meth__ c__ X hr hlk hname
  obtain ⟨hM, hnp, I⟩ := hp
  have hM0 := hM
  obtain ⟨M0, M1, M2, M3, M4, M5⟩ := hM0
  obtain ⟨hn6, hb4, hs12, en, eb, es⟩ := I.1
  refine v_aload_n (pc := 0) X (hd := dX7_setAllowance_0) (kk := ?_)
  refine v_iload_n (pc := 1) X (hd := dX7_setAllowance_1) (kk := ?_)
  refine v_callVp (pc := 2) X (hd := dX7_setAllowance_2) (w := wv_X7_48) (hC := c_X7_isBank l E _ _ _ _ _ _ _ _ _ _ _ _ _ _) (hp := by first | assumption | exact trivial) (hb := by first | assumption | exact pset_s _ _ _ | exact (pset_n (by omega)).trans (by assumption)) (kk := ?_)
  refine v_ifeqB (pc := 5) X (tgt := 19) (hd := dX7_setAllowance_5) (kt := fun c5 => ?_) (kf := fun c5 => ?_)
  · refine v_iconst (pc := 19) X (v := (-1)) (hd := dX7_setAllowance_19) (kk := ?_)
    exact v_endi (pc := 20) X hr hlk (hd := dX7_setAllowance_20) (hf := ⟨by unfold rAllow; rw [if_neg (fun q => c5 q.1)], Or.inl ⟨fun q => c5 q.1, rfl⟩⟩)
  · refine v_iload_n (pc := 8) X (hd := dX7_setAllowance_8) (kk := ?_)
    refine v_iconst (pc := 9) X (v := nI 0) (hd := dX7_setAllowance_9) (kk := ?_)
    refine v_sipush (pc := 10) X (v := nI 5000) (hd := dX7_setAllowance_10) (kk := ?_)
    refine v_callSp (pc := 13) X (hd := dX7_setAllowance_13) (w := wv_X7_33) (hC := c_X7_in l E _ _ _) (hp := by first | assumption | exact trivial) (kk := ?_)
    refine v_ifneB (pc := 16) X (tgt := 21) (hd := dX7_setAllowance_16) (kt := fun c16 => ?_) (kf := fun c16 => ?_)
    · obtain ⟨j, hj, rfl, ej⟩ := gH_j eb (by omega) c5
      refine v_aload_n (pc := 21) X (hd := dX7_setAllowance_21) (kk := ?_)
      refine v_callVv (pc := 22) X (hd := dX7_setAllowance_22) (w := wv_X7_37) (hC := c_X7_acts l E _ _ _ _ _ _ _ _ _ _ _ _ _) (hp := ⟨hM, hnp⟩) (hb := by first | assumption | exact pset_s _ _ _ | exact (pset_n (by omega)).trans (by assumption)) (kk := fun h22 q22 => ?_)
      obtain ⟨hM1, hO1⟩ := q22
      have hM2 := hM1
      obtain ⟨N0, N1, N2, N3, N4, N5⟩ := hM2
      refine v_aload_n (pc := 25) X (hd := dX7_setAllowance_25) (kk := ?_)
      refine v_iload_n (pc := 26) X (hd := dX7_setAllowance_26) (kk := ?_)
      refine v_iconst (pc := 27) X (v := nI 0) (hd := dX7_setAllowance_27) (kk := ?_)
      refine v_callVp (pc := 28) X (hd := dX7_setAllowance_28) (w := wv_X7_51) (hC := c_X7_inBank l E _ _ _ _ _ _ _ _ _ _ _ _ _ (j) 0) (hp := ⟨hM1, by omega⟩) (hb := by first | assumption | exact pset_s _ _ _ | exact (pset_n (by omega)).trans (by assumption)) (kk := ?_)
      refine v_istore_n (pc := 31) X (hd := dX7_setAllowance_31) (kk := ?_)
      refine v_aload_n (pc := 32) X (hd := dX7_setAllowance_32) (kk := ?_)
      refine g_X7_7 (pc := 33) X (hd := dX7_setAllowance_33) (hh := by first | assumption | exact pset_s _ _ _ | exact (pset_n (by omega)).trans (by assumption)) (kk := ?_)
      refine v_bipush (pc := 36) X (v := nI 24) (hd := dX7_setAllowance_36) (kk := ?_)
      refine v_bipush (pc := 38) X (v := nI 7) (hd := dX7_setAllowance_38) (kk := ?_)
      refine v_iload_n (pc := 40) X (hd := dX7_setAllowance_40) (kk := ?_)
      refine v_imul (pc := 41) X (hd := dX7_setAllowance_41) (kk := ?_)
      refine v_iadd (pc := 42) X (hd := dX7_setAllowance_42) (kk := ?_)
      refine v_iload_n (pc := 43) X (hd := dX7_setAllowance_43) (kk := ?_)
      refine v_iastN (pc := 44) X (j := (24 + 7 * j)) (hd := dX7_setAllowance_44) (hh := by first | assumption | exact pset_s _ _ _ | exact (pset_n (by omega)).trans (by assumption)) (hi := by first | rfl | (simp only [pk_mul, nI_add]; done)) (hj := by omega) (kk := ?_)
      refine v_iload_n (pc := 45) X (hd := dX7_setAllowance_45) (kk := ?_)
      exact v_endi (pc := 46) X hr hlk (hd := dX7_setAllowance_46) (hf := ⟨by unfold rAllow; rw [if_pos ⟨c5, c16⟩, ej], Or.inr ⟨⟨c5, c16⟩, by unfold gAllow; rw [ej]; exact ⟨hM1.sw _, (hO1.set (by omega) (by omega))⟩⟩⟩)
    · refine v_iconst (pc := 19) X (v := (-1)) (hd := dX7_setAllowance_19) (kk := ?_)
      exact v_endi (pc := 20) X hr hlk (hd := dX7_setAllowance_20) (hf := ⟨by unfold rAllow; rw [if_neg (fun q => c16 q.2)], Or.inl ⟨fun q => c16 q.2, rfl⟩⟩)
set_option maxRecDepth 100000 in
set_option maxHeartbeats 4000000 in
theorem c_X7_grant (l : Launch) (E : pE) (m : Nat) (w pa he te re : Nat → Int32) (np : Nat) (rr : Bool) (ty at_ st ki co : Int32) (x y is : Int32) (nh nb ns : Nat) : pC l E yX7_grant cX7_grant 5 (some .int) { frames := 1, cells := 0, slots := 0, locals := 22 } 0 0 [.ref m, .int x, .int y, .int is] (fun h _ => MD m w pa he te re (nI np) (bI (rr = true)) ty at_ st ki co h ∧ np ≤ 5 ∧ Iv w nh nb ns) (pFi (mP m w pa he te re np rr ty at_ st ki co (kGrant w x y is) (rGrant w x y is) (gGrant w x y is))) := by
  refine pC_of (by decide) (by simp [Value.category]) (Nat.le_of_ble_eq_true rfl) ?_
  intro h z hp p__ e__ s__ m__ args__ below__ meth__ c__ X hr hlk hname
  obtain ⟨hM, hnp, I⟩ := hp
  have hM0 := hM
  obtain ⟨M0, M1, M2, M3, M4, M5⟩ := hM0
  obtain ⟨hn6, hb4, hs12, en, eb, es⟩ := I.1
  refine v_aload_n (pc := 0) X (hd := dX7_grant_0) (kk := ?_)
  refine v_iload_n (pc := 1) X (hd := dX7_grant_1) (kk := ?_)
  refine v_callVp (pc := 2) X (hd := dX7_grant_2) (w := wv_X7_40) (hC := c_X7_isHouse l E _ _ _ _ _ _ _ _ _ _ _ _ _ _) (hp := by first | assumption | exact trivial) (hb := by first | assumption | exact pset_s _ _ _ | exact (pset_n (by omega)).trans (by assumption)) (kk := ?_)
  refine v_ifeqB (pc := 5) X (tgt := 25) (hd := dX7_grant_5) (kt := fun c5 => ?_) (kf := fun c5 => ?_)
  · refine v_iconst (pc := 25) X (v := (-1)) (hd := dX7_grant_25) (kk := ?_)
    exact v_endi (pc := 26) X hr hlk (hd := dX7_grant_26) (hf := ⟨by unfold rGrant; rw [if_neg (fun q => c5 q.1)], Or.inl ⟨fun q => c5 q.1, rfl⟩⟩)
  · refine v_aload_n (pc := 8) X (hd := dX7_grant_8) (kk := ?_)
    refine v_iload_n (pc := 9) X (hd := dX7_grant_9) (kk := ?_)
    refine v_callVp (pc := 10) X (hd := dX7_grant_10) (w := wv_X7_48) (hC := c_X7_isBank l E _ _ _ _ _ _ _ _ _ _ _ _ _ _) (hp := by first | assumption | exact trivial) (hb := by first | assumption | exact pset_s _ _ _ | exact (pset_n (by omega)).trans (by assumption)) (kk := ?_)
    refine v_ifeqB (pc := 13) X (tgt := 25) (hd := dX7_grant_13) (kt := fun c13 => ?_) (kf := fun c13 => ?_)
    · refine v_iconst (pc := 25) X (v := (-1)) (hd := dX7_grant_25) (kk := ?_)
      exact v_endi (pc := 26) X hr hlk (hd := dX7_grant_26) (hf := ⟨by unfold rGrant; rw [if_neg (fun q => c13 q.2.1)], Or.inl ⟨fun q => c13 q.2.1, rfl⟩⟩)
    · refine v_iload_n (pc := 16) X (hd := dX7_grant_16) (kk := ?_)
      refine v_iconst (pc := 17) X (v := nI 0) (hd := dX7_grant_17) (kk := ?_)
      refine v_iconst (pc := 18) X (v := nI 1) (hd := dX7_grant_18) (kk := ?_)
      refine v_callSp (pc := 19) X (hd := dX7_grant_19) (w := wv_X7_33) (hC := c_X7_in l E _ _ _) (hp := by first | assumption | exact trivial) (kk := ?_)
      refine v_ifneB (pc := 22) X (tgt := 27) (hd := dX7_grant_22) (kt := fun c22 => ?_) (kf := fun c22 => ?_)
      · obtain ⟨j, hj, rfl, ej⟩ := gH_j en (by omega) c5
        obtain ⟨b, hb, rfl, eb_⟩ := gH_j eb (by omega) c13
        refine v_aload_n (pc := 27) X (hd := dX7_grant_27) (kk := ?_)
        refine v_callVv (pc := 28) X (hd := dX7_grant_28) (w := wv_X7_37) (hC := c_X7_acts l E _ _ _ _ _ _ _ _ _ _ _ _ _) (hp := ⟨hM, hnp⟩) (hb := by first | assumption | exact pset_s _ _ _ | exact (pset_n (by omega)).trans (by assumption)) (kk := fun h28 q28 => ?_)
        obtain ⟨hM1, hO1⟩ := q28
        have hM2 := hM1
        obtain ⟨N0, N1, N2, N3, N4, N5⟩ := hM2
        refine v_aload_n (pc := 31) X (hd := dX7_grant_31) (kk := ?_)
        refine v_iload_n (pc := 32) X (hd := dX7_grant_32) (kk := ?_)
        refine v_iconst (pc := 33) X (v := nI 3) (hd := dX7_grant_33) (kk := ?_)
        refine v_callVp (pc := 34) X (hd := dX7_grant_34) (w := wv_X7_51) (hC := c_X7_inBank l E _ _ _ _ _ _ _ _ _ _ _ _ _ (b) 3) (hp := ⟨hM1, by omega⟩) (hb := by first | assumption | exact pset_s _ _ _ | exact (pset_n (by omega)).trans (by assumption)) (kk := ?_)
        refine v_iconst (pc := 37) X (v := nI 1) (hd := dX7_grant_37) (kk := ?_)
        refine v_iload_n (pc := 38) X (hd := dX7_grant_38) (kk := ?_)
        refine v_ishl (pc := 39) X (hd := dX7_grant_39) (kk := ?_)
        refine v_iconst (pc := 40) X (v := (-1)) (hd := dX7_grant_40) (kk := ?_)
        refine v_ixor (pc := 41) X (hd := dX7_grant_41) (kk := ?_)
        refine v_iand (pc := 42) X (hd := dX7_grant_42) (kk := ?_)
        refine v_iload_n (pc := 43) X (hd := dX7_grant_43) (kk := ?_)
        refine v_iload_n (pc := 44) X (hd := dX7_grant_44) (kk := ?_)
        refine v_ishl (pc := 45) X (hd := dX7_grant_45) (kk := ?_)
        refine v_ior (pc := 46) X (hd := dX7_grant_46) (kk := ?_)
        refine v_istore (pc := 47) X (hd := dX7_grant_47) (kk := ?_)
        refine v_aload_n (pc := 49) X (hd := dX7_grant_49) (kk := ?_)
        refine g_X7_7 (pc := 50) X (hd := dX7_grant_50) (hh := by first | assumption | exact pset_s _ _ _ | exact (pset_n (by omega)).trans (by assumption)) (kk := ?_)
        refine v_bipush (pc := 53) X (v := nI 24) (hd := dX7_grant_53) (kk := ?_)
        refine v_bipush (pc := 55) X (v := nI 7) (hd := dX7_grant_55) (kk := ?_)
        refine v_iload_n (pc := 57) X (hd := dX7_grant_57) (kk := ?_)
        refine v_imul (pc := 58) X (hd := dX7_grant_58) (kk := ?_)
        refine v_iadd (pc := 59) X (hd := dX7_grant_59) (kk := ?_)
        refine v_iconst (pc := 60) X (v := nI 3) (hd := dX7_grant_60) (kk := ?_)
        refine v_iadd (pc := 61) X (hd := dX7_grant_61) (kk := ?_)
        refine v_iload (pc := 62) X (hd := dX7_grant_62) (kk := ?_)
        refine v_iastN (pc := 64) X (j := (24 + 7 * b + 3)) (hd := dX7_grant_64) (hh := by first | assumption | exact pset_s _ _ _ | exact (pset_n (by omega)).trans (by assumption)) (hi := by first | rfl | (simp only [pk_mul, nI_add]; done)) (hj := by omega) (kk := ?_)
        refine v_iload (pc := 65) X (hd := dX7_grant_65) (kk := ?_)
        refine v_callSp (pc := 67) X (hd := dX7_grant_67) (w := wv_X7_54) (hC := c_X7_ones l E _) (hp := trivial) (kk := ?_)
        exact v_endi (pc := 70) X hr hlk (hd := dX7_grant_70) (hf := ⟨by unfold rGrant; rw [if_pos ⟨c5, c13, c22⟩, ej, eb_]; rfl, Or.inr ⟨⟨c5, c13, c22⟩, by unfold gGrant; rw [ej, eb_]; exact ⟨hM1.sw _, (hO1.set (by omega) (by omega))⟩⟩⟩)
      · refine v_iconst (pc := 25) X (v := (-1)) (hd := dX7_grant_25) (kk := ?_)
        exact v_endi (pc := 26) X hr hlk (hd := dX7_grant_26) (hf := ⟨by unfold rGrant; rw [if_neg (fun q => c22 q.2.2)], Or.inl ⟨fun q => c22 q.2.2, rfl⟩⟩)
set_option maxRecDepth 100000 in
set_option maxHeartbeats 4000000 in
theorem c_X7_cut (l : Launch) (E : pE) (m : Nat) (w pa he te re : Nat → Int32) (np : Nat) (rr : Bool) (ty at_ st ki co : Int32) (x y t : Int32) (nh nb ns : Nat) : pC l E yX7_cut cX7_cut 5 (some .int) { frames := 5, cells := 0, slots := 0, locals := 116 } 0 0 [.ref m, .int x, .int y, .int t] (fun h _ => MD m w pa he te re (nI np) (bI (rr = true)) ty at_ st ki co h ∧ np ≤ 5 ∧ Iv w nh nb ns) (pFi (mP m w pa he te re np rr ty at_ st ki co (kCut w nh x y t) (rCut w nh x y t) (gCut w ns x y t))) := by
  refine pC_of (by decide) (by simp [Value.category]) (Nat.le_of_ble_eq_true rfl) ?_
  intro h z hp p__ e__ s__ m__ args__ below__ meth__ c__ X hr hlk hname
  obtain ⟨hM, hnp, I⟩ := hp
  have hM0 := hM
  obtain ⟨M0, M1, M2, M3, M4, M5⟩ := hM0
  obtain ⟨hn6, hb4, hs12, en, eb, es⟩ := I.1
  refine v_aload_n (pc := 0) X (hd := dX7_cut_0) (kk := ?_)
  refine v_iload_n (pc := 1) X (hd := dX7_cut_1) (kk := ?_)
  refine v_callVp (pc := 2) X (hd := dX7_cut_2) (w := wv_X7_40) (hC := c_X7_isHouse l E _ _ _ _ _ _ _ _ _ _ _ _ _ _) (hp := by first | assumption | exact trivial) (hb := by first | assumption | exact pset_s _ _ _ | exact (pset_n (by omega)).trans (by assumption)) (kk := ?_)
  refine v_ifeqB (pc := 5) X (tgt := 27) (hd := dX7_cut_5) (kt := fun c5 => ?_) (kf := fun c5 => ?_)
  · refine v_iconst (pc := 27) X (v := (-1)) (hd := dX7_cut_27) (kk := ?_)
    exact v_endi (pc := 28) X hr hlk (hd := dX7_cut_28) (hf := ⟨by unfold rCut; rw [if_neg (fun q => c5 q.1)], Or.inl ⟨fun q => c5 q.1.1, rfl⟩⟩)
  · refine v_aload_n (pc := 8) X (hd := dX7_cut_8) (kk := ?_)
    refine v_iload_n (pc := 9) X (hd := dX7_cut_9) (kk := ?_)
    refine v_callVp (pc := 10) X (hd := dX7_cut_10) (w := wv_X7_48) (hC := c_X7_isBank l E _ _ _ _ _ _ _ _ _ _ _ _ _ _) (hp := by first | assumption | exact trivial) (hb := by first | assumption | exact pset_s _ _ _ | exact (pset_n (by omega)).trans (by assumption)) (kk := ?_)
    refine v_ifeqB (pc := 13) X (tgt := 27) (hd := dX7_cut_13) (kt := fun c13 => ?_) (kf := fun c13 => ?_)
    · refine v_iconst (pc := 27) X (v := (-1)) (hd := dX7_cut_27) (kk := ?_)
      exact v_endi (pc := 28) X hr hlk (hd := dX7_cut_28) (hf := ⟨by unfold rCut; rw [if_neg (fun q => c13 q.2.1)], Or.inl ⟨fun q => c13 q.1.2.1, rfl⟩⟩)
    · refine v_iload_n (pc := 16) X (hd := dX7_cut_16) (kk := ?_)
      refine v_iconst (pc := 17) X (v := nI 1) (hd := dX7_cut_17) (kk := ?_)
      refine v_sipush (pc := 18) X (v := nI 1000) (hd := dX7_cut_18) (kk := ?_)
      refine v_callSp (pc := 21) X (hd := dX7_cut_21) (w := wv_X7_33) (hC := c_X7_in l E _ _ _) (hp := by first | assumption | exact trivial) (kk := ?_)
      refine v_ifneB (pc := 24) X (tgt := 29) (hd := dX7_cut_24) (kt := fun c24 => ?_) (kf := fun c24 => ?_)
      · obtain ⟨j, hj, rfl, ej⟩ := gH_j en (by omega) c5
        obtain ⟨b, hb, rfl, eb_⟩ := gH_j eb (by omega) c13
        refine v_iload_n (pc := 29) X (hd := dX7_cut_29) (kk := ?_)
        refine v_aload_n (pc := 30) X (hd := dX7_cut_30) (kk := ?_)
        refine v_iload_n (pc := 31) X (hd := dX7_cut_31) (kk := ?_)
        refine v_iload_n (pc := 32) X (hd := dX7_cut_32) (kk := ?_)
        refine v_callVp (pc := 33) X (hd := dX7_cut_33) (w := wv_X7_68) (hC := c_X7_mayCut l E _ _ _ _ _ _ _ _ _ _ _ _ _ j b nh) (hp := ⟨hM, by omega, by omega, hn6, en, fun q => I.spz hj q, fun k hk q => I.spz hk q⟩) (hb := by first | assumption | exact pset_s _ _ _ | exact (pset_n (by omega)).trans (by assumption)) (kk := ?_)
        refine v_icmple (pc := 36) X (tgt := 42) (hd := dX7_cut_36) (kt := fun c36 => ?_) (kf := fun c36 => ?_)
        · refine v_aload_n (pc := 42) X (hd := dX7_cut_42) (kk := ?_)
          refine g_X7_7 (pc := 43) X (hd := dX7_cut_43) (hh := by first | assumption | exact pset_s _ _ _ | exact (pset_n (by omega)).trans (by assumption)) (kk := ?_)
          refine v_iconst (pc := 46) X (v := nI 3) (hd := dX7_cut_46) (kk := ?_)
          refine v_ialdN (pc := 47) X (j := 3) (hd := dX7_cut_47) (hh := by first | assumption | exact pset_s _ _ _ | exact (pset_n (by omega)).trans (by assumption)) (hi := by first | rfl | (simp only [pk_mul, nI_add]; done)) (hj := by omega) (kk := ?_)
          refine v_bipush (pc := 48) X (v := nI 12) (hd := dX7_cut_48) (kk := ?_)
          refine v_icmpne (pc := 50) X (tgt := 56) (hd := dX7_cut_50) (kt := fun c50 => ?_) (kf := fun c50 => ?_)
          · have hlt : ns < 12 := by
              rcases Nat.lt_or_ge ns 12 with q | q
              · exact q
              · exact absurd (by rw [es, show ns = 12 by omega]) c50
            refine v_aload_n (pc := 56) X (hd := dX7_cut_56) (kk := ?_)
            refine v_callVv (pc := 57) X (hd := dX7_cut_57) (w := wv_X7_37) (hC := c_X7_acts l E _ _ _ _ _ _ _ _ _ _ _ _ _) (hp := ⟨hM, hnp⟩) (hb := by first | assumption | exact pset_s _ _ _ | exact (pset_n (by omega)).trans (by assumption)) (kk := fun h57 q57 => ?_)
            obtain ⟨hM1, hO1⟩ := q57
            have hM2 := hM1
            obtain ⟨N0, N1, N2, N3, N4, N5⟩ := hM2
            refine v_aload_n (pc := 60) X (hd := dX7_cut_60) (kk := ?_)
            refine g_X7_7 (pc := 61) X (hd := dX7_cut_61) (hh := by first | assumption | exact pset_s _ _ _ | exact (pset_n (by omega)).trans (by assumption)) (kk := ?_)
            refine v_bipush (pc := 64) X (v := nI 52) (hd := dX7_cut_64) (kk := ?_)
            refine v_iconst (pc := 66) X (v := nI 4) (hd := dX7_cut_66) (kk := ?_)
            refine v_iload_n (pc := 67) X (hd := dX7_cut_67) (kk := ?_)
            refine v_imul (pc := 68) X (hd := dX7_cut_68) (kk := ?_)
            refine v_iadd (pc := 69) X (hd := dX7_cut_69) (kk := ?_)
            refine v_iload_n (pc := 70) X (hd := dX7_cut_70) (kk := ?_)
            refine v_iadd (pc := 71) X (hd := dX7_cut_71) (kk := ?_)
            refine v_dup2 (pc := 72) X (hd := dX7_cut_72) (kk := ?_)
            refine v_ialdN (pc := 73) X (j := (52 + 4 * j + b)) (hd := dX7_cut_73) (hh := by first | assumption | exact pset_s _ _ _ | exact (pset_n (by omega)).trans (by assumption)) (hi := by first | rfl | (simp only [pk_mul, nI_add]; done)) (hj := by omega) (kk := ?_)
            refine v_iload_n (pc := 74) X (hd := dX7_cut_74) (kk := ?_)
            refine v_iadd (pc := 75) X (hd := dX7_cut_75) (kk := ?_)
            refine v_iastN (pc := 76) X (j := (52 + 4 * j + b)) (hd := dX7_cut_76) (hh := by first | assumption | exact pset_s _ _ _ | exact (pset_n (by omega)).trans (by assumption)) (hi := by first | rfl | (simp only [pk_mul, nI_add]; done)) (hj := by omega) (kk := ?_)
            refine v_aload_n (pc := 77) X (hd := dX7_cut_77) (kk := ?_)
            refine g_X7_7 (pc := 78) X (hd := dX7_cut_78) (hh := by first | assumption | exact pset_s _ _ _ | exact (pset_n (by omega)).trans (by assumption)) (kk := ?_)
            refine v_bipush (pc := 81) X (v := nI 24) (hd := dX7_cut_81) (kk := ?_)
            refine v_bipush (pc := 83) X (v := nI 7) (hd := dX7_cut_83) (kk := ?_)
            refine v_iload_n (pc := 85) X (hd := dX7_cut_85) (kk := ?_)
            refine v_imul (pc := 86) X (hd := dX7_cut_86) (kk := ?_)
            refine v_iadd (pc := 87) X (hd := dX7_cut_87) (kk := ?_)
            refine v_iconst (pc := 88) X (v := nI 4) (hd := dX7_cut_88) (kk := ?_)
            refine v_iadd (pc := 89) X (hd := dX7_cut_89) (kk := ?_)
            refine v_dup2 (pc := 90) X (hd := dX7_cut_90) (kk := ?_)
            refine v_ialdN (pc := 91) X (j := (24 + 7 * b + 4)) (hd := dX7_cut_91) (hh := by first | assumption | exact pset_s _ _ _ | exact (pset_n (by omega)).trans (by assumption)) (hi := by first | rfl | (simp only [pk_mul, nI_add]; done)) (hj := by omega) (kk := ?_)
            refine v_iload_n (pc := 92) X (hd := dX7_cut_92) (kk := ?_)
            refine v_iadd (pc := 93) X (hd := dX7_cut_93) (kk := ?_)
            refine v_iastN (pc := 94) X (j := (24 + 7 * b + 4)) (hd := dX7_cut_94) (hh := by first | assumption | exact pset_s _ _ _ | exact (pset_n (by omega)).trans (by assumption)) (hi := by first | rfl | (simp only [pk_mul, nI_add]; done)) (hj := by omega) (kk := ?_)
            rw [pset_pset]
            refine v_bipush (pc := 95) X (v := nI 76) (hd := dX7_cut_95) (kk := ?_)
            refine v_iconst (pc := 97) X (v := nI 5) (hd := dX7_cut_97) (kk := ?_)
            refine v_aload_n (pc := 98) X (hd := dX7_cut_98) (kk := ?_)
            refine g_X7_7 (pc := 99) X (hd := dX7_cut_99) (hh := by first | assumption | exact pset_s _ _ _ | exact (pset_n (by omega)).trans (by assumption)) (kk := ?_)
            refine v_iconst (pc := 102) X (v := nI 3) (hd := dX7_cut_102) (kk := ?_)
            refine v_ialdN (pc := 103) X (j := 3) (hd := dX7_cut_103) (hh := by first | assumption | exact pset_s _ _ _ | exact (pset_n (by omega)).trans (by assumption)) (hi := by first | rfl | (simp only [pk_mul, nI_add]; done)) (hj := by omega) (kk := ?_)
            refine v_topi (fun y103 e103 => ?_)
            obtain rfl : y103 = nI ns := e103.trans ((pk_un (by omega)).trans ((pk_un (by omega)).trans es))
            refine v_imul (pc := 104) X (hd := dX7_cut_104) (kk := ?_)
            refine v_iadd (pc := 105) X (hd := dX7_cut_105) (kk := ?_)
            refine v_istore (pc := 106) X (hd := dX7_cut_106) (kk := ?_)
            refine v_aload_n (pc := 108) X (hd := dX7_cut_108) (kk := ?_)
            refine g_X7_7 (pc := 109) X (hd := dX7_cut_109) (hh := by first | assumption | exact pset_s _ _ _ | exact (pset_n (by omega)).trans (by assumption)) (kk := ?_)
            refine v_iload (pc := 112) X (hd := dX7_cut_112) (kk := ?_)
            refine v_iconst (pc := 114) X (v := nI 0) (hd := dX7_cut_114) (kk := ?_)
            refine v_iadd (pc := 115) X (hd := dX7_cut_115) (kk := ?_)
            refine v_iload_n (pc := 116) X (hd := dX7_cut_116) (kk := ?_)
            refine v_iastN (pc := 117) X (j := (76 + 5 * ns + 0)) (hd := dX7_cut_117) (hh := by first | assumption | exact pset_s _ _ _ | exact (pset_n (by omega)).trans (by assumption)) (hi := by first | rfl | (simp only [pk_mul, nI_add]; done)) (hj := by omega) (kk := ?_)
            rw [pset_pset]
            refine v_aload_n (pc := 118) X (hd := dX7_cut_118) (kk := ?_)
            refine g_X7_7 (pc := 119) X (hd := dX7_cut_119) (hh := by first | assumption | exact pset_s _ _ _ | exact (pset_n (by omega)).trans (by assumption)) (kk := ?_)
            refine v_iload (pc := 122) X (hd := dX7_cut_122) (kk := ?_)
            refine v_iconst (pc := 124) X (v := nI 1) (hd := dX7_cut_124) (kk := ?_)
            refine v_iadd (pc := 125) X (hd := dX7_cut_125) (kk := ?_)
            refine v_iload_n (pc := 126) X (hd := dX7_cut_126) (kk := ?_)
            refine v_iastN (pc := 127) X (j := (76 + 5 * ns + 1)) (hd := dX7_cut_127) (hh := by first | assumption | exact pset_s _ _ _ | exact (pset_n (by omega)).trans (by assumption)) (hi := by first | rfl | (simp only [pk_mul, nI_add]; done)) (hj := by omega) (kk := ?_)
            rw [pset_pset]
            refine v_aload_n (pc := 128) X (hd := dX7_cut_128) (kk := ?_)
            refine g_X7_7 (pc := 129) X (hd := dX7_cut_129) (hh := by first | assumption | exact pset_s _ _ _ | exact (pset_n (by omega)).trans (by assumption)) (kk := ?_)
            refine v_iload (pc := 132) X (hd := dX7_cut_132) (kk := ?_)
            refine v_iconst (pc := 134) X (v := nI 2) (hd := dX7_cut_134) (kk := ?_)
            refine v_iadd (pc := 135) X (hd := dX7_cut_135) (kk := ?_)
            refine v_iload_n (pc := 136) X (hd := dX7_cut_136) (kk := ?_)
            refine v_iastN (pc := 137) X (j := (76 + 5 * ns + 2)) (hd := dX7_cut_137) (hh := by first | assumption | exact pset_s _ _ _ | exact (pset_n (by omega)).trans (by assumption)) (hi := by first | rfl | (simp only [pk_mul, nI_add]; done)) (hj := by omega) (kk := ?_)
            rw [pset_pset]
            refine v_aload_n (pc := 138) X (hd := dX7_cut_138) (kk := ?_)
            refine g_X7_7 (pc := 139) X (hd := dX7_cut_139) (hh := by first | assumption | exact pset_s _ _ _ | exact (pset_n (by omega)).trans (by assumption)) (kk := ?_)
            refine v_iload (pc := 142) X (hd := dX7_cut_142) (kk := ?_)
            refine v_iconst (pc := 144) X (v := nI 3) (hd := dX7_cut_144) (kk := ?_)
            refine v_iadd (pc := 145) X (hd := dX7_cut_145) (kk := ?_)
            refine v_ldc (v := nI 100000) (pc := 146) X (hw := wq_X7_71) (hd := dX7_cut_146) (kk := ?_)
            refine v_iastN (pc := 148) X (j := (76 + 5 * ns + 3)) (hd := dX7_cut_148) (hh := by first | assumption | exact pset_s _ _ _ | exact (pset_n (by omega)).trans (by assumption)) (hi := by first | rfl | (simp only [pk_mul, nI_add]; done)) (hj := by omega) (kk := ?_)
            rw [pset_pset]
            refine v_aload_n (pc := 149) X (hd := dX7_cut_149) (kk := ?_)
            refine g_X7_7 (pc := 150) X (hd := dX7_cut_150) (hh := by first | assumption | exact pset_s _ _ _ | exact (pset_n (by omega)).trans (by assumption)) (kk := ?_)
            refine v_iload (pc := 153) X (hd := dX7_cut_153) (kk := ?_)
            refine v_iconst (pc := 155) X (v := nI 4) (hd := dX7_cut_155) (kk := ?_)
            refine v_iadd (pc := 156) X (hd := dX7_cut_156) (kk := ?_)
            refine v_iconst (pc := 157) X (v := nI 0) (hd := dX7_cut_157) (kk := ?_)
            refine v_iastN (pc := 158) X (j := (76 + 5 * ns + 4)) (hd := dX7_cut_158) (hh := by first | assumption | exact pset_s _ _ _ | exact (pset_n (by omega)).trans (by assumption)) (hi := by first | rfl | (simp only [pk_mul, nI_add]; done)) (hj := by omega) (kk := ?_)
            rw [pset_pset]
            refine v_aload_n (pc := 159) X (hd := dX7_cut_159) (kk := ?_)
            refine g_X7_7 (pc := 160) X (hd := dX7_cut_160) (hh := by first | assumption | exact pset_s _ _ _ | exact (pset_n (by omega)).trans (by assumption)) (kk := ?_)
            refine v_iconst (pc := 163) X (v := nI 3) (hd := dX7_cut_163) (kk := ?_)
            refine v_dup2 (pc := 164) X (hd := dX7_cut_164) (kk := ?_)
            refine v_ialdN (pc := 165) X (j := 3) (hd := dX7_cut_165) (hh := by first | assumption | exact pset_s _ _ _ | exact (pset_n (by omega)).trans (by assumption)) (hi := by first | rfl | (simp only [pk_mul, nI_add]; done)) (hj := by omega) (kk := ?_)
            refine v_iconst (pc := 166) X (v := nI 1) (hd := dX7_cut_166) (kk := ?_)
            refine v_iadd (pc := 167) X (hd := dX7_cut_167) (kk := ?_)
            refine v_iastN (pc := 168) X (j := 3) (hd := dX7_cut_168) (hh := by first | assumption | exact pset_s _ _ _ | exact (pset_n (by omega)).trans (by assumption)) (hi := by first | rfl | (simp only [pk_mul, nI_add]; done)) (hj := by omega) (kk := ?_)
            rw [pset_pset]
            refine v_aload_n (pc := 169) X (hd := dX7_cut_169) (kk := ?_)
            refine g_X7_7 (pc := 170) X (hd := dX7_cut_170) (hh := by first | assumption | exact pset_s _ _ _ | exact (pset_n (by omega)).trans (by assumption)) (kk := ?_)
            refine v_iconst (pc := 173) X (v := nI 3) (hd := dX7_cut_173) (kk := ?_)
            refine v_ialdN (pc := 174) X (j := 3) (hd := dX7_cut_174) (hh := by first | assumption | exact pset_s _ _ _ | exact (pset_n (by omega)).trans (by assumption)) (hi := by first | rfl | (simp only [pk_mul, nI_add]; done)) (hj := by omega) (kk := ?_)
            refine v_topi (fun y173 e173 => ?_)
            obtain rfl : y173 = nI ns + nI 1 := e173.trans (pk_us.trans (congrArg (· + nI 1) ((pk_un (by omega)).trans ((pk_un (by omega)).trans ((pk_un (by omega)).trans ((pk_un (by omega)).trans ((pk_un (by omega)).trans ((pk_un (by omega)).trans ((pk_un (by omega)).trans es)))))))))
            refine v_iconst (pc := 175) X (v := nI 1) (hd := dX7_cut_175) (kk := ?_)
            refine v_isub (pc := 176) X (hd := dX7_cut_176) (kk := ?_)
            exact v_endi (pc := 177) X hr hlk (hd := dX7_cut_177) (hf := ⟨by unfold rCut; rw [if_pos ⟨c5, c13, c24⟩, ej, eb_, if_pos c36, if_neg c50, es, nI_add, pk_sub (by omega)]; rfl, Or.inr ⟨⟨⟨c5, c13, c24⟩, by rw [ej, eb_]; exact c36, c50⟩, by unfold gCut; rw [ej, eb_]; exact ⟨hM1.sw _, (hO1.set (by omega) (by omega))⟩⟩⟩)
          · refine v_bipush (pc := 53) X (v := (-3)) (hd := dX7_cut_53) (kk := ?_)
            exact v_endi (pc := 55) X hr hlk (hd := dX7_cut_55) (hf := ⟨by unfold rCut; rw [if_pos ⟨c5, c13, c24⟩, ej, eb_, if_pos c36, if_pos (Classical.not_not.mp c50)], Or.inl ⟨fun q => q.2.2 (Classical.not_not.mp c50), rfl⟩⟩)
        · refine v_bipush (pc := 39) X (v := (-2)) (hd := dX7_cut_39) (kk := ?_)
          exact v_endi (pc := 41) X hr hlk (hd := dX7_cut_41) (hf := ⟨by unfold rCut; rw [if_pos ⟨c5, c13, c24⟩, ej, eb_, if_neg c36], Or.inl ⟨fun q => c36 (by have := q.2.1; rw [ej, eb_] at this; exact this), rfl⟩⟩)
      · refine v_iconst (pc := 27) X (v := (-1)) (hd := dX7_cut_27) (kk := ?_)
        exact v_endi (pc := 28) X hr hlk (hd := dX7_cut_28) (hf := ⟨by unfold rCut; rw [if_neg (fun q => c24 q.2.2)], Or.inl ⟨fun q => c24 q.1.2.2, rfl⟩⟩)
set_option maxRecDepth 100000 in
set_option maxHeartbeats 4000000 in
theorem c_X7_turn (l : Launch) (E : pE) (m : Nat) (w pa he te re : Nat → Int32) (np : Nat) (rr : Bool) (ty at_ st ki co : Int32) (x : Int32) (nh nb ns : Nat) : pC l E yX7_turn cX7_turn 2 (some .int) { frames := 1, cells := 0, slots := 0, locals := 22 } 0 0 [.ref m, .int x] (fun h _ => MD m w pa he te re (nI np) (bI (rr = true)) ty at_ st ki co h ∧ np ≤ 5 ∧ Iv w nh nb ns) (pFi (mP m w pa he te re np rr ty at_ st ki co (kTurn w x) (rTurn w x) (gTurn w x))) := by
  refine pC_of (by decide) (by simp [Value.category]) (Nat.le_of_ble_eq_true rfl) ?_
  intro h z hp p__ e__ s__ m__ args__ below__ meth__ c__ X hr hlk hname
  obtain ⟨hM, hnp, I⟩ := hp
  have hM0 := hM
  obtain ⟨M0, M1, M2, M3, M4, M5⟩ := hM0
  obtain ⟨hn6, hb4, hs12, en, eb, es⟩ := I.1
  refine v_aload_n (pc := 0) X (hd := dX7_turn_0) (kk := ?_)
  refine v_iload_n (pc := 1) X (hd := dX7_turn_1) (kk := ?_)
  refine v_callVp (pc := 2) X (hd := dX7_turn_2) (w := wv_X7_72) (hC := c_X7_isStack l E _ _ _ _ _ _ _ _ _ _ _ _ _ _) (hp := by first | assumption | exact trivial) (hb := by first | assumption | exact pset_s _ _ _ | exact (pset_n (by omega)).trans (by assumption)) (kk := ?_)
  refine v_ifneB (pc := 5) X (tgt := 10) (hd := dX7_turn_5) (kt := fun c5 => ?_) (kf := fun c5 => ?_)
  · obtain ⟨j, hj, rfl, ej⟩ := gH_j es (by omega) c5
    refine v_aload_n (pc := 10) X (hd := dX7_turn_10) (kk := ?_)
    refine v_iload_n (pc := 11) X (hd := dX7_turn_11) (kk := ?_)
    refine v_iconst (pc := 12) X (v := nI 4) (hd := dX7_turn_12) (kk := ?_)
    refine v_callVp (pc := 13) X (hd := dX7_turn_13) (w := wv_X7_75) (hC := c_X7_inStack l E _ _ _ _ _ _ _ _ _ _ _ _ _ (j) 4) (hp := ⟨hM, by omega⟩) (hb := by first | assumption | exact pset_s _ _ _ | exact (pset_n (by omega)).trans (by assumption)) (kk := ?_)
    refine v_iconst (pc := 16) X (v := nI 3) (hd := dX7_turn_16) (kk := ?_)
    refine v_icmpne (pc := 17) X (tgt := 23) (hd := dX7_turn_17) (kt := fun c17 => ?_) (kf := fun c17 => ?_)
    · refine v_aload_n (pc := 23) X (hd := dX7_turn_23) (kk := ?_)
      refine v_callVv (pc := 24) X (hd := dX7_turn_24) (w := wv_X7_37) (hC := c_X7_acts l E _ _ _ _ _ _ _ _ _ _ _ _ _) (hp := ⟨hM, hnp⟩) (hb := by first | assumption | exact pset_s _ _ _ | exact (pset_n (by omega)).trans (by assumption)) (kk := fun h24 q24 => ?_)
      obtain ⟨hM1, hO1⟩ := q24
      have hM2 := hM1
      obtain ⟨N0, N1, N2, N3, N4, N5⟩ := hM2
      refine v_aload_n (pc := 27) X (hd := dX7_turn_27) (kk := ?_)
      refine g_X7_7 (pc := 28) X (hd := dX7_turn_28) (hh := by first | assumption | exact pset_s _ _ _ | exact (pset_n (by omega)).trans (by assumption)) (kk := ?_)
      refine v_bipush (pc := 31) X (v := nI 76) (hd := dX7_turn_31) (kk := ?_)
      refine v_iconst (pc := 33) X (v := nI 5) (hd := dX7_turn_33) (kk := ?_)
      refine v_iload_n (pc := 34) X (hd := dX7_turn_34) (kk := ?_)
      refine v_imul (pc := 35) X (hd := dX7_turn_35) (kk := ?_)
      refine v_iadd (pc := 36) X (hd := dX7_turn_36) (kk := ?_)
      refine v_iconst (pc := 37) X (v := nI 4) (hd := dX7_turn_37) (kk := ?_)
      refine v_iadd (pc := 38) X (hd := dX7_turn_38) (kk := ?_)
      refine v_dup2 (pc := 39) X (hd := dX7_turn_39) (kk := ?_)
      refine v_ialdN (pc := 40) X (j := (76 + 5 * j + 4)) (hd := dX7_turn_40) (hh := by first | assumption | exact pset_s _ _ _ | exact (pset_n (by omega)).trans (by assumption)) (hi := by first | rfl | (simp only [pk_mul, nI_add]; done)) (hj := by omega) (kk := ?_)
      refine v_iconst (pc := 41) X (v := nI 1) (hd := dX7_turn_41) (kk := ?_)
      refine v_iadd (pc := 42) X (hd := dX7_turn_42) (kk := ?_)
      refine v_iastN (pc := 43) X (j := (76 + 5 * j + 4)) (hd := dX7_turn_43) (hh := by first | assumption | exact pset_s _ _ _ | exact (pset_n (by omega)).trans (by assumption)) (hi := by first | rfl | (simp only [pk_mul, nI_add]; done)) (hj := by omega) (kk := ?_)
      refine v_aload_n (pc := 44) X (hd := dX7_turn_44) (kk := ?_)
      refine v_iload_n (pc := 45) X (hd := dX7_turn_45) (kk := ?_)
      refine v_iconst (pc := 46) X (v := nI 4) (hd := dX7_turn_46) (kk := ?_)
      refine v_callVp (pc := 47) X (hd := dX7_turn_47) (w := wv_X7_75) (hC := c_X7_inStack l E _ _ _ _ _ _ _ _ _ _ _ _ _ (j) 4) (hp := ⟨hM1.sw _, by omega⟩) (hb := by first | assumption | exact pset_s _ _ _ | exact (pset_n (by omega)).trans (by assumption)) (kk := ?_)
      exact v_endi (pc := 50) X hr hlk (hd := dX7_turn_50) (hf := ⟨by rw [pk_us]; unfold rTurn; rw [if_pos c5, ej, if_neg c17], Or.inr ⟨⟨c5, by rw [ej]; exact c17⟩, by unfold gTurn; rw [ej]; exact ⟨hM1.sw _, (hO1.set (by omega) (by omega))⟩⟩⟩)
    · refine v_bipush (pc := 20) X (v := (-3)) (hd := dX7_turn_20) (kk := ?_)
      exact v_endi (pc := 22) X hr hlk (hd := dX7_turn_22) (hf := ⟨by unfold rTurn; rw [if_pos c5, ej, if_pos (Classical.not_not.mp c17)], Or.inl ⟨fun q => q.2 (by rw [ej]; exact Classical.not_not.mp c17), rfl⟩⟩)
  · refine v_iconst (pc := 8) X (v := (-1)) (hd := dX7_turn_8) (kk := ?_)
    exact v_endi (pc := 9) X hr hlk (hd := dX7_turn_9) (hf := ⟨by unfold rTurn; rw [if_neg c5], Or.inl ⟨fun q => c5 q.1, rfl⟩⟩)
theorem goF_3 (w : Nat → Int32) (j i : Nat) : goF w j i 3 = w 3 := by
  induction i with
  | zero => rfl
  | succ i ih => exact (pk_un (by omega)).trans ih
set_option maxRecDepth 100000 in
set_option maxHeartbeats 4000000 in
theorem c_X7_goes (l : Launch) (E : pE) (m : Nat) (w pa he te re : Nat → Int32) (np : Nat) (rr : Bool) (ty at_ st ki co : Int32) (j ns : Nat) : pC l E yX7_goes cX7_goes 3 none { frames := 0, cells := 0, slots := 0, locals := 0 } 0 0 [.ref m, .int (nI j)] (fun h _ => MD m w pa he te re (nI np) (bI (rr = true)) ty at_ st ki co h ∧ j < ns ∧ ns ≤ 12 ∧ w 3 = nI ns) (pFv (fun h h' => MD m (gGo w j ns) pa he te re (nI np) (bI (rr = true)) ty at_ st ki co h' ∧ pO m (m + 6) h h')) := by
  refine pC_of (by decide) (by simp [Value.category]) (Nat.le_of_ble_eq_true rfl) ?_
  intro h z hp p__ e__ s__ m__ args__ below__ meth__ c__ X hr hlk hname
  obtain ⟨hM, hj, hs12, es⟩ := hp
  have hM0 := hM
  obtain ⟨M0, M1, M2, M3, M4, M5⟩ := hM0
  refine v_aload_n (pc := 0) X (hd := dX7_goes_0) (kk := ?_)
  refine g_X7_7 (pc := 1) X (hd := dX7_goes_1) (hh := by first | assumption | exact pset_s _ _ _ | exact (pset_n (by omega)).trans (by assumption)) (kk := ?_)
  refine v_iconst (pc := 4) X (v := nI 3) (hd := dX7_goes_4) (kk := ?_)
  refine v_dup2 (pc := 5) X (hd := dX7_goes_5) (kk := ?_)
  refine v_ialdN (pc := 6) X (j := 3) (hd := dX7_goes_6) (hh := by first | assumption | exact pset_s _ _ _ | exact (pset_n (by omega)).trans (by assumption)) (hi := by first | rfl | (simp only [pk_mul, nI_add]; done)) (hj := by omega) (kk := ?_)
  refine v_iconst (pc := 7) X (v := nI 1) (hd := dX7_goes_7) (kk := ?_)
  refine v_isub (pc := 8) X (hd := dX7_goes_8) (kk := ?_)
  refine v_iastN (pc := 9) X (j := 3) (hd := dX7_goes_9) (hh := by first | assumption | exact pset_s _ _ _ | exact (pset_n (by omega)).trans (by assumption)) (hi := by first | rfl | (simp only [pk_mul, nI_add]; done)) (hj := by omega) (kk := ?_)
  refine v_bipush (pc := 10) X (v := nI 76) (hd := dX7_goes_10) (kk := ?_)
  refine v_iconst (pc := 12) X (v := nI 5) (hd := dX7_goes_12) (kk := ?_)
  refine v_iload_n (pc := 13) X (hd := dX7_goes_13) (kk := ?_)
  refine v_imul (pc := 14) X (hd := dX7_goes_14) (kk := ?_)
  refine v_iadd (pc := 15) X (hd := dX7_goes_15) (kk := ?_)
  refine v_istore_n (pc := 16) X (hd := dX7_goes_16) (kk := ?_)
  refine v_for (pc := 17) (M := (5 * (ns - 1 - j))) (Lf := fun i => [some (.ref m), some (.int (nI j)), some (.int (nI (76 + 5 * j + i)))]) (I := fun i h2 => h2 = pset h (m + 1) (ai 1 410 (goF (upd w 3 (w 3 - nI 1)) j i))) (h0 := rfl) (hL := by rw [pk_mul, nI_add]; rfl) (step := ?_) (out := ?_)
  · intro i h2 hi hI kk
    subst hI
    refine v_iload_n (pc := 17) X (hd := dX7_goes_17) (kk := ?_)
    refine v_bipush (pc := 18) X (v := nI 76) (hd := dX7_goes_18) (kk := ?_)
    refine v_iconst (pc := 20) X (v := nI 5) (hd := dX7_goes_20) (kk := ?_)
    refine v_aload_n (pc := 21) X (hd := dX7_goes_21) (kk := ?_)
    refine g_X7_7 (pc := 22) X (hd := dX7_goes_22) (hh := by first | assumption | exact pset_s _ _ _ | exact (pset_n (by omega)).trans (by assumption)) (kk := ?_)
    refine v_iconst (pc := 25) X (v := nI 3) (hd := dX7_goes_25) (kk := ?_)
    refine v_ialdN (pc := 26) X (j := 3) (hd := dX7_goes_26) (hh := by first | assumption | exact pset_s _ _ _ | exact (pset_n (by omega)).trans (by assumption)) (hi := by first | rfl | (simp only [pk_mul, nI_add]; done)) (hj := by omega) (kk := ?_)
    refine v_topi (fun y25 e25 => ?_)
    obtain rfl : y25 = nI (ns - 1) := e25.trans ((goF_3 _ _ _).trans (pk_us.trans (by rw [es, show ns = (ns - 1) + 1 by omega]; exact nI_pred _)))
    refine v_imul (pc := 27) X (hd := dX7_goes_27) (kk := ?_)
    refine v_iadd (pc := 28) X (hd := dX7_goes_28) (kk := ?_)
    refine v_icmpge (pc := 29) X (tgt := 52) (hd := dX7_goes_29) (kt := fun c29 => ?_) (kf := fun c29 => ?_)
    · exact absurd c29 (by rw [pk_mul, nI_add]; exact nI_ge (by omega) (by omega))
    · refine v_aload_n (pc := 32) X (hd := dX7_goes_32) (kk := ?_)
      refine g_X7_7 (pc := 33) X (hd := dX7_goes_33) (hh := by first | assumption | exact pset_s _ _ _ | exact (pset_n (by omega)).trans (by assumption)) (kk := ?_)
      refine v_iload_n (pc := 36) X (hd := dX7_goes_36) (kk := ?_)
      refine v_aload_n (pc := 37) X (hd := dX7_goes_37) (kk := ?_)
      refine g_X7_7 (pc := 38) X (hd := dX7_goes_38) (hh := by first | assumption | exact pset_s _ _ _ | exact (pset_n (by omega)).trans (by assumption)) (kk := ?_)
      refine v_iload_n (pc := 41) X (hd := dX7_goes_41) (kk := ?_)
      refine v_iconst (pc := 42) X (v := nI 5) (hd := dX7_goes_42) (kk := ?_)
      refine v_iadd (pc := 43) X (hd := dX7_goes_43) (kk := ?_)
      refine v_ialdN (pc := 44) X (j := (76 + 5 * j + i + 5)) (hd := dX7_goes_44) (hh := by first | assumption | exact pset_s _ _ _ | exact (pset_n (by omega)).trans (by assumption)) (hi := by first | rfl | (simp only [pk_mul, nI_add]; done)) (hj := by omega) (kk := ?_)
      refine v_iastN (pc := 45) X (j := (76 + 5 * j + i)) (hd := dX7_goes_45) (hh := by first | assumption | exact pset_s _ _ _ | exact (pset_n (by omega)).trans (by assumption)) (hi := by first | rfl | (simp only [pk_mul, nI_add]; done)) (hj := by omega) (kk := ?_)
      rw [pset_pset]
      refine v_iincN (pc := 46) X (hd := dX7_goes_46) (kk := ?_)
      refine v_goto (pc := 49) X (tgt := 17) (hd := dX7_goes_49) (kk := ?_)
      exact kk _ rfl
  · intro h2 hI
    subst hI
    refine v_iload_n (pc := 17) X (hd := dX7_goes_17) (kk := ?_)
    refine v_bipush (pc := 18) X (v := nI 76) (hd := dX7_goes_18) (kk := ?_)
    refine v_iconst (pc := 20) X (v := nI 5) (hd := dX7_goes_20) (kk := ?_)
    refine v_aload_n (pc := 21) X (hd := dX7_goes_21) (kk := ?_)
    refine g_X7_7 (pc := 22) X (hd := dX7_goes_22) (hh := by first | assumption | exact pset_s _ _ _ | exact (pset_n (by omega)).trans (by assumption)) (kk := ?_)
    refine v_iconst (pc := 25) X (v := nI 3) (hd := dX7_goes_25) (kk := ?_)
    refine v_ialdN (pc := 26) X (j := 3) (hd := dX7_goes_26) (hh := by first | assumption | exact pset_s _ _ _ | exact (pset_n (by omega)).trans (by assumption)) (hi := by first | rfl | (simp only [pk_mul, nI_add]; done)) (hj := by omega) (kk := ?_)
    refine v_topi (fun y25 e25 => ?_)
    obtain rfl : y25 = nI (ns - 1) := e25.trans ((goF_3 _ _ _).trans (pk_us.trans (by rw [es, show ns = (ns - 1) + 1 by omega]; exact nI_pred _)))
    refine v_imul (pc := 27) X (hd := dX7_goes_27) (kk := ?_)
    refine v_iadd (pc := 28) X (hd := dX7_goes_28) (kk := ?_)
    refine v_icmpge (pc := 29) X (tgt := 52) (hd := dX7_goes_29) (kt := fun c29 => ?_) (kf := fun c29 => ?_)
    · exact v_endv (pc := 52) X hr hlk (hd := dX7_goes_52) (hf := ⟨hM.sw _, pO.rf.set (by omega) (by omega)⟩)
    · exact absurd (by rw [pk_mul, nI_add]; exact nI_le (by omega) (by omega)) c29
