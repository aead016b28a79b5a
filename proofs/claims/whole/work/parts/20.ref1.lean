/-! what the row of numbers tells -/
abbrev gH (n x : Int32) : Prop := 0 ≤ x ∧ x < n
abbrev gI (x lo hi : Int32) : Prop := lo ≤ x ∧ x ≤ hi
abbrev hR (v : Nat → Int32) (h b : Nat) : Prop := bt (v (24 + 7 * b + 3)) h = nI 1
def fSp (v : Nat → Int32) (b : Nat) : Nat → Int32
  | 0 => nI 0
  | k + 1 => fSp v b k + (if hR v k b then v (6 + 3 * k + 0) else nI 0)
def fLeft (v : Nat → Int32) (b : Nat) (all : Int32) : Nat → Int32
  | 0 => v (24 + 7 * b + 0)
  | k + 1 => fLeft v b all k - (if hR v k b then v (24 + 7 * b + 0) * v (6 + 3 * k + 0) / all else nI 0)
def fAhead (v : Nat → Int32) (b hh : Nat) : Nat → Int32
  | 0 => nI 0
  | k + 1 => fAhead v b hh k + (if k < hh ∧ hR v k b then nI 1 else nI 0)
def fShare (v : Nat → Int32) (nh hh b : Nat) : Int32 := if hR v hh b then v (24 + 7 * b + 0) * v (6 + 3 * hh + 0) / fSp v b nh + (if fAhead v b hh nh < fLeft v b (fSp v b nh) nh then nI 1 else nI 0) else nI 0
def fMay (v : Nat → Int32) (nh hh b : Nat) : Int32 := if fShare v nh hh b - v (52 + 4 * hh + b) < 0 then nI 0 else fShare v nh hh b - v (52 + 4 * hh + b)
def fDryN (v : Nat → Int32) : Nat → Int32
  | 0 => nI 0
  | k + 1 => fDryN v k + (if v (76 + 5 * k + 3) ≤ nI 30000 then nI 1 else nI 0)
def fBanksOf (v : Nat → Int32) (hh : Nat) : Nat → Int32
  | 0 => nI 0
  | k + 1 => fBanksOf v hh k + (if hR v hh k then nI 1 else nI 0)
def fStacksOf (v : Nat → Int32) (hh : Int32) (tf : Bool) : Nat → Int32
  | 0 => nI 0
  | k + 1 => fStacksOf v hh tf k + (if v (76 + 5 * k + 0) = hh then (if tf then v (76 + 5 * k + 2) else nI 1) else nI 0)
def fTurfsAt (v : Nat → Int32) (b : Int32) : Nat → Int32
  | 0 => nI 0
  | k + 1 => fTurfsAt v b k + (if v (76 + 5 * k + 1) = b then v (76 + 5 * k + 2) else nI 0)
def fDried (we tn wi ra : Int32) : Int32 := if nI 100000 < we * (nI 64 - wi * (tn + nI 1)) / nI 64 + nI 1500 * ra then nI 100000 else we * (nI 64 - wi * (tn + nI 1)) / nI 64 + nI 1500 * ra
def fOnes (x : Int32) : Nat → Int32
  | 0 => nI 0
  | k + 1 => fOnes x k + bt x k
/-! the reference: its object at m, its rows behind it -/
def MD (m : Nat) (w pa he te re : Nat → Int32) (ps rn ty at_ st ki co : Int32) (h : pH) : Prop :=
  h m = some (ob 7 [.ref (m + 1), .ref (m + 2), .ref (m + 3), .int ps, .int rn, .ref (m + 4), .int ty, .int at_, .int st, .int ki, .ref (m + 5), .int co]) ∧ h (m + 1) = some (ai 1 410 w) ∧ h (m + 2) = some (ai 1 2050 pa) ∧ h (m + 3) = some (ai 1 410 he) ∧ h (m + 4) = some (ai 1 140 te) ∧ h (m + 5) = some (ai 1 3 re)
set_option maxRecDepth 100000 in
set_option maxHeartbeats 4000000 in
theorem c_X7_in (l : Launch) (E : pE) (x lo hi : Int32) : pC l E yX7_in cX7_in 3 (some .boolean) { frames := 0, cells := 0, slots := 0, locals := 0 } 0 0 [.int x, .int lo, .int hi] (fun h _ => True) (pFp ((bI (gI x lo hi)))) := by
  refine pC_of (by decide) (by simp [Value.category]) (Nat.le_of_ble_eq_true rfl) ?_
  intro h z hp p__ e__ s__ m__ args__ below__ meth__ c__ X hr hlk hname
  refine v_iload_n (pc := 0) X (hd := dX7_in_0) (kk := ?_)
  refine v_iload_n (pc := 1) X (hd := dX7_in_1) (kk := ?_)
  refine v_icmplt (pc := 2) X (tgt := 14) (hd := dX7_in_2) (kt := fun c2 => ?_) (kf := fun c2 => ?_)
  · refine v_iconst (pc := 14) X (v := nI 0) (hd := dX7_in_14) (kk := ?_)
    exact v_endb (pc := 15) X hr hlk (hd := dX7_in_15) (hf := bI_0 (fun q => by have q1 := q.1; rw [n_le] at q1; rw [n_lt] at c2; omega))
  · refine v_iload_n (pc := 5) X (hd := dX7_in_5) (kk := ?_)
    refine v_iload_n (pc := 6) X (hd := dX7_in_6) (kk := ?_)
    refine v_icmpgt (pc := 7) X (tgt := 14) (hd := dX7_in_7) (kt := fun c7 => ?_) (kf := fun c7 => ?_)
    · refine v_iconst (pc := 14) X (v := nI 0) (hd := dX7_in_14) (kk := ?_)
      exact v_endb (pc := 15) X hr hlk (hd := dX7_in_15) (hf := bI_0 (fun q => by have q1 := q.2; rw [n_le] at q1; rw [n_lt] at c7; omega))
    · refine v_iconst (pc := 10) X (v := nI 1) (hd := dX7_in_10) (kk := ?_)
      refine v_goto (pc := 11) X (tgt := 15) (hd := dX7_in_11) (kk := ?_)
      exact v_endb (pc := 15) X hr hlk (hd := dX7_in_15) (hf := bI_1 ⟨n_nlt c2, n_nlt c7⟩)
set_option maxRecDepth 100000 in
set_option maxHeartbeats 4000000 in
theorem c_X7_isHouse (l : Launch) (E : pE) (m : Nat) (w pa he te re : Nat → Int32) (ps rn ty at_ st ki co : Int32) (x : Int32) : pC l E yX7_isHouse cX7_isHouse 2 (some .boolean) { frames := 0, cells := 0, slots := 0, locals := 0 } 0 0 [.ref m, .int x] (fun h _ => MD m w pa he te re ps rn ty at_ st ki co h) (pFp ((bI (gH (w 1) x)))) := by
  refine pC_of (by decide) (by simp [Value.category]) (Nat.le_of_ble_eq_true rfl) ?_
  intro h z hp p__ e__ s__ m__ args__ below__ meth__ c__ X hr hlk hname
  have hM := hp
  have hM0 := hM
  obtain ⟨M0, M1, M2, M3, M4, M5⟩ := hM0
  refine v_iload_n (pc := 0) X (hd := dX7_isHouse_0) (kk := ?_)
  refine v_iflt (pc := 1) X (tgt := 18) (hd := dX7_isHouse_1) (kt := fun c1 => ?_) (kf := fun c1 => ?_)
  · refine v_iconst (pc := 18) X (v := nI 0) (hd := dX7_isHouse_18) (kk := ?_)
    exact v_endb (pc := 19) X hr hlk (hd := dX7_isHouse_19) (hf := bI_0 (fun q => by have q1 := q.1; rw [n_le] at q1; rw [n_lt] at c1; omega))
  · refine v_iload_n (pc := 4) X (hd := dX7_isHouse_4) (kk := ?_)
    refine v_aload_n (pc := 5) X (hd := dX7_isHouse_5) (kk := ?_)
    refine g_X7_7 (pc := 6) X (hd := dX7_isHouse_6) (hh := by first | assumption | exact pset_s _ _ _ | exact (pset_n (by omega)).trans (by assumption)) (kk := ?_)
    refine v_iconst (pc := 9) X (v := nI 1) (hd := dX7_isHouse_9) (kk := ?_)
    refine v_ialdN (pc := 10) X (j := 1) (hd := dX7_isHouse_10) (hh := by first | assumption | exact pset_s _ _ _ | exact (pset_n (by omega)).trans (by assumption)) (hi := by first | rfl | (simp only [pk_mul, nI_add]; done)) (hj := by omega) (kk := ?_)
    refine v_icmpge (pc := 11) X (tgt := 18) (hd := dX7_isHouse_11) (kt := fun c11 => ?_) (kf := fun c11 => ?_)
    · refine v_iconst (pc := 18) X (v := nI 0) (hd := dX7_isHouse_18) (kk := ?_)
      exact v_endb (pc := 19) X hr hlk (hd := dX7_isHouse_19) (hf := bI_0 (fun q => by have q1 := q.2; rw [n_lt] at q1; rw [n_le] at c11; omega))
    · refine v_iconst (pc := 14) X (v := nI 1) (hd := dX7_isHouse_14) (kk := ?_)
      refine v_goto (pc := 15) X (tgt := 19) (hd := dX7_isHouse_15) (kk := ?_)
      exact v_endb (pc := 19) X hr hlk (hd := dX7_isHouse_19) (hf := bI_1 ⟨n_nlt c1, n_nle c11⟩)
set_option maxRecDepth 100000 in
set_option maxHeartbeats 4000000 in
theorem c_X7_isBank (l : Launch) (E : pE) (m : Nat) (w pa he te re : Nat → Int32) (ps rn ty at_ st ki co : Int32) (x : Int32) : pC l E yX7_isBank cX7_isBank 2 (some .boolean) { frames := 0, cells := 0, slots := 0, locals := 0 } 0 0 [.ref m, .int x] (fun h _ => MD m w pa he te re ps rn ty at_ st ki co h) (pFp ((bI (gH (w 2) x)))) := by
  refine pC_of (by decide) (by simp [Value.category]) (Nat.le_of_ble_eq_true rfl) ?_
  intro h z hp p__ e__ s__ m__ args__ below__ meth__ c__ X hr hlk hname
  have hM := hp
  have hM0 := hM
  obtain ⟨M0, M1, M2, M3, M4, M5⟩ := hM0
  refine v_iload_n (pc := 0) X (hd := dX7_isBank_0) (kk := ?_)
  refine v_iflt (pc := 1) X (tgt := 18) (hd := dX7_isBank_1) (kt := fun c1 => ?_) (kf := fun c1 => ?_)
  · refine v_iconst (pc := 18) X (v := nI 0) (hd := dX7_isBank_18) (kk := ?_)
    exact v_endb (pc := 19) X hr hlk (hd := dX7_isBank_19) (hf := bI_0 (fun q => by have q1 := q.1; rw [n_le] at q1; rw [n_lt] at c1; omega))
  · refine v_iload_n (pc := 4) X (hd := dX7_isBank_4) (kk := ?_)
    refine v_aload_n (pc := 5) X (hd := dX7_isBank_5) (kk := ?_)
    refine g_X7_7 (pc := 6) X (hd := dX7_isBank_6) (hh := by first | assumption | exact pset_s _ _ _ | exact (pset_n (by omega)).trans (by assumption)) (kk := ?_)
    refine v_iconst (pc := 9) X (v := nI 2) (hd := dX7_isBank_9) (kk := ?_)
    refine v_ialdN (pc := 10) X (j := 2) (hd := dX7_isBank_10) (hh := by first | assumption | exact pset_s _ _ _ | exact (pset_n (by omega)).trans (by assumption)) (hi := by first | rfl | (simp only [pk_mul, nI_add]; done)) (hj := by omega) (kk := ?_)
    refine v_icmpge (pc := 11) X (tgt := 18) (hd := dX7_isBank_11) (kt := fun c11 => ?_) (kf := fun c11 => ?_)
    · refine v_iconst (pc := 18) X (v := nI 0) (hd := dX7_isBank_18) (kk := ?_)
      exact v_endb (pc := 19) X hr hlk (hd := dX7_isBank_19) (hf := bI_0 (fun q => by have q1 := q.2; rw [n_lt] at q1; rw [n_le] at c11; omega))
    · refine v_iconst (pc := 14) X (v := nI 1) (hd := dX7_isBank_14) (kk := ?_)
      refine v_goto (pc := 15) X (tgt := 19) (hd := dX7_isBank_15) (kk := ?_)
      exact v_endb (pc := 19) X hr hlk (hd := dX7_isBank_19) (hf := bI_1 ⟨n_nlt c1, n_nle c11⟩)
set_option maxRecDepth 100000 in
set_option maxHeartbeats 4000000 in
theorem c_X7_isStack (l : Launch) (E : pE) (m : Nat) (w pa he te re : Nat → Int32) (ps rn ty at_ st ki co : Int32) (x : Int32) : pC l E yX7_isStack cX7_isStack 2 (some .boolean) { frames := 0, cells := 0, slots := 0, locals := 0 } 0 0 [.ref m, .int x] (fun h _ => MD m w pa he te re ps rn ty at_ st ki co h) (pFp ((bI (gH (w 3) x)))) := by
  refine pC_of (by decide) (by simp [Value.category]) (Nat.le_of_ble_eq_true rfl) ?_
  intro h z hp p__ e__ s__ m__ args__ below__ meth__ c__ X hr hlk hname
  have hM := hp
  have hM0 := hM
  obtain ⟨M0, M1, M2, M3, M4, M5⟩ := hM0
  refine v_iload_n (pc := 0) X (hd := dX7_isStack_0) (kk := ?_)
  refine v_iflt (pc := 1) X (tgt := 18) (hd := dX7_isStack_1) (kt := fun c1 => ?_) (kf := fun c1 => ?_)
  · refine v_iconst (pc := 18) X (v := nI 0) (hd := dX7_isStack_18) (kk := ?_)
    exact v_endb (pc := 19) X hr hlk (hd := dX7_isStack_19) (hf := bI_0 (fun q => by have q1 := q.1; rw [n_le] at q1; rw [n_lt] at c1; omega))
  · refine v_iload_n (pc := 4) X (hd := dX7_isStack_4) (kk := ?_)
    refine v_aload_n (pc := 5) X (hd := dX7_isStack_5) (kk := ?_)
    refine g_X7_7 (pc := 6) X (hd := dX7_isStack_6) (hh := by first | assumption | exact pset_s _ _ _ | exact (pset_n (by omega)).trans (by assumption)) (kk := ?_)
    refine v_iconst (pc := 9) X (v := nI 3) (hd := dX7_isStack_9) (kk := ?_)
    refine v_ialdN (pc := 10) X (j := 3) (hd := dX7_isStack_10) (hh := by first | assumption | exact pset_s _ _ _ | exact (pset_n (by omega)).trans (by assumption)) (hi := by first | rfl | (simp only [pk_mul, nI_add]; done)) (hj := by omega) (kk := ?_)
    refine v_icmpge (pc := 11) X (tgt := 18) (hd := dX7_isStack_11) (kt := fun c11 => ?_) (kf := fun c11 => ?_)
    · refine v_iconst (pc := 18) X (v := nI 0) (hd := dX7_isStack_18) (kk := ?_)
      exact v_endb (pc := 19) X hr hlk (hd := dX7_isStack_19) (hf := bI_0 (fun q => by have q1 := q.2; rw [n_lt] at q1; rw [n_le] at c11; omega))
    · refine v_iconst (pc := 14) X (v := nI 1) (hd := dX7_isStack_14) (kk := ?_)
      refine v_goto (pc := 15) X (tgt := 19) (hd := dX7_isStack_15) (kk := ?_)
      exact v_endb (pc := 19) X hr hlk (hd := dX7_isStack_19) (hf := bI_1 ⟨n_nlt c1, n_nle c11⟩)
set_option maxRecDepth 100000 in
set_option maxHeartbeats 4000000 in
theorem c_X7_inHouse (l : Launch) (E : pE) (m : Nat) (w pa he te re : Nat → Int32) (ps rn ty at_ st ki co : Int32) (j q : Nat) : pC l E yX7_inHouse cX7_inHouse 3 (some .int) { frames := 0, cells := 0, slots := 0, locals := 0 } 0 0 [.ref m, .int (nI j), .int (nI q)] (fun h _ => MD m w pa he te re ps rn ty at_ st ki co h ∧ 6 + 3 * j + q < 410) (pFp ((w (6 + 3 * j + q)))) := by
  refine pC_of (by decide) (by simp [Value.category]) (Nat.le_of_ble_eq_true rfl) ?_
  intro h z hp p__ e__ s__ m__ args__ below__ meth__ c__ X hr hlk hname
  obtain ⟨hM, hE⟩ := hp
  have hM0 := hM
  obtain ⟨M0, M1, M2, M3, M4, M5⟩ := hM0
  refine v_aload_n (pc := 0) X (hd := dX7_inHouse_0) (kk := ?_)
  refine g_X7_7 (pc := 1) X (hd := dX7_inHouse_1) (hh := by first | assumption | exact pset_s _ _ _ | exact (pset_n (by omega)).trans (by assumption)) (kk := ?_)
  refine v_bipush (pc := 4) X (v := nI 6) (hd := dX7_inHouse_4) (kk := ?_)
  refine v_iconst (pc := 6) X (v := nI 3) (hd := dX7_inHouse_6) (kk := ?_)
  refine v_iload_n (pc := 7) X (hd := dX7_inHouse_7) (kk := ?_)
  refine v_imul (pc := 8) X (hd := dX7_inHouse_8) (kk := ?_)
  refine v_iadd (pc := 9) X (hd := dX7_inHouse_9) (kk := ?_)
  refine v_iload_n (pc := 10) X (hd := dX7_inHouse_10) (kk := ?_)
  refine v_iadd (pc := 11) X (hd := dX7_inHouse_11) (kk := ?_)
  refine v_ialdN (pc := 12) X (j := (6 + 3 * j + q)) (hd := dX7_inHouse_12) (hh := by first | assumption | exact pset_s _ _ _ | exact (pset_n (by omega)).trans (by assumption)) (hi := by rw [pk_mul, nI_add, nI_add]) (hj := by omega) (kk := ?_)
  exact v_endp (pc := 13) X hr hlk (hd := dX7_inHouse_13) (hf := rfl)
set_option maxRecDepth 100000 in
set_option maxHeartbeats 4000000 in
theorem c_X7_inBank (l : Launch) (E : pE) (m : Nat) (w pa he te re : Nat → Int32) (ps rn ty at_ st ki co : Int32) (j q : Nat) : pC l E yX7_inBank cX7_inBank 3 (some .int) { frames := 0, cells := 0, slots := 0, locals := 0 } 0 0 [.ref m, .int (nI j), .int (nI q)] (fun h _ => MD m w pa he te re ps rn ty at_ st ki co h ∧ 24 + 7 * j + q < 410) (pFp ((w (24 + 7 * j + q)))) := by
  refine pC_of (by decide) (by simp [Value.category]) (Nat.le_of_ble_eq_true rfl) ?_
  intro h z hp p__ e__ s__ m__ args__ below__ meth__ c__ X hr hlk hname
  obtain ⟨hM, hE⟩ := hp
  have hM0 := hM
  obtain ⟨M0, M1, M2, M3, M4, M5⟩ := hM0
  refine v_aload_n (pc := 0) X (hd := dX7_inBank_0) (kk := ?_)
  refine g_X7_7 (pc := 1) X (hd := dX7_inBank_1) (hh := by first | assumption | exact pset_s _ _ _ | exact (pset_n (by omega)).trans (by assumption)) (kk := ?_)
  refine v_bipush (pc := 4) X (v := nI 24) (hd := dX7_inBank_4) (kk := ?_)
  refine v_bipush (pc := 6) X (v := nI 7) (hd := dX7_inBank_6) (kk := ?_)
  refine v_iload_n (pc := 8) X (hd := dX7_inBank_8) (kk := ?_)
  refine v_imul (pc := 9) X (hd := dX7_inBank_9) (kk := ?_)
  refine v_iadd (pc := 10) X (hd := dX7_inBank_10) (kk := ?_)
  refine v_iload_n (pc := 11) X (hd := dX7_inBank_11) (kk := ?_)
  refine v_iadd (pc := 12) X (hd := dX7_inBank_12) (kk := ?_)
  refine v_ialdN (pc := 13) X (j := (24 + 7 * j + q)) (hd := dX7_inBank_13) (hh := by first | assumption | exact pset_s _ _ _ | exact (pset_n (by omega)).trans (by assumption)) (hi := by rw [pk_mul, nI_add, nI_add]) (hj := by omega) (kk := ?_)
  exact v_endp (pc := 14) X hr hlk (hd := dX7_inBank_14) (hf := rfl)
set_option maxRecDepth 100000 in
set_option maxHeartbeats 4000000 in
theorem c_X7_inStack (l : Launch) (E : pE) (m : Nat) (w pa he te re : Nat → Int32) (ps rn ty at_ st ki co : Int32) (j q : Nat) : pC l E yX7_inStack cX7_inStack 3 (some .int) { frames := 0, cells := 0, slots := 0, locals := 0 } 0 0 [.ref m, .int (nI j), .int (nI q)] (fun h _ => MD m w pa he te re ps rn ty at_ st ki co h ∧ 76 + 5 * j + q < 410) (pFp ((w (76 + 5 * j + q)))) := by
  refine pC_of (by decide) (by simp [Value.category]) (Nat.le_of_ble_eq_true rfl) ?_
  intro h z hp p__ e__ s__ m__ args__ below__ meth__ c__ X hr hlk hname
  obtain ⟨hM, hE⟩ := hp
  have hM0 := hM
  obtain ⟨M0, M1, M2, M3, M4, M5⟩ := hM0
  refine v_aload_n (pc := 0) X (hd := dX7_inStack_0) (kk := ?_)
  refine g_X7_7 (pc := 1) X (hd := dX7_inStack_1) (hh := by first | assumption | exact pset_s _ _ _ | exact (pset_n (by omega)).trans (by assumption)) (kk := ?_)
  refine v_bipush (pc := 4) X (v := nI 76) (hd := dX7_inStack_4) (kk := ?_)
  refine v_iconst (pc := 6) X (v := nI 5) (hd := dX7_inStack_6) (kk := ?_)
  refine v_iload_n (pc := 7) X (hd := dX7_inStack_7) (kk := ?_)
  refine v_imul (pc := 8) X (hd := dX7_inStack_8) (kk := ?_)
  refine v_iadd (pc := 9) X (hd := dX7_inStack_9) (kk := ?_)
  refine v_iload_n (pc := 10) X (hd := dX7_inStack_10) (kk := ?_)
  refine v_iadd (pc := 11) X (hd := dX7_inStack_11) (kk := ?_)
  refine v_ialdN (pc := 12) X (j := (76 + 5 * j + q)) (hd := dX7_inStack_12) (hh := by first | assumption | exact pset_s _ _ _ | exact (pset_n (by omega)).trans (by assumption)) (hi := by rw [pk_mul, nI_add, nI_add]) (hj := by omega) (kk := ?_)
  exact v_endp (pc := 13) X hr hlk (hd := dX7_inStack_13) (hf := rfl)
set_option maxRecDepth 100000 in
set_option maxHeartbeats 4000000 in
theorem c_X7_hasRight (l : Launch) (E : pE) (m : Nat) (w pa he te re : Nat → Int32) (ps rn ty at_ st ki co : Int32) (j b : Nat) : pC l E yX7_hasRight cX7_hasRight 3 (some .boolean) { frames := 1, cells := 0, slots := 0, locals := 22 } 0 0 [.ref m, .int (nI j), .int (nI b)] (fun h _ => MD m w pa he te re ps rn ty at_ st ki co h ∧ b < 4) (pFp ((bI (hR w j b)))) := by
  refine pC_of (by decide) (by simp [Value.category]) (Nat.le_of_ble_eq_true rfl) ?_
  intro h z hp p__ e__ s__ m__ args__ below__ meth__ c__ X hr hlk hname
  obtain ⟨hM, hE⟩ := hp
  have hM0 := hM
  obtain ⟨M0, M1, M2, M3, M4, M5⟩ := hM0
  refine v_aload_n (pc := 0) X (hd := dX7_hasRight_0) (kk := ?_)
  refine v_iload_n (pc := 1) X (hd := dX7_hasRight_1) (kk := ?_)
  refine v_iconst (pc := 2) X (v := nI 3) (hd := dX7_hasRight_2) (kk := ?_)
  refine v_callVp (pc := 3) X (hd := dX7_hasRight_3) (w := wv_X7_51) (hC := c_X7_inBank l E _ _ _ _ _ _ _ _ _ _ _ _ _ (b) 3) (hp := ⟨hM, by omega⟩) (hb := by first | assumption | exact pset_s _ _ _ | exact (pset_n (by omega)).trans (by assumption)) (kk := ?_)
  refine v_iload_n (pc := 6) X (hd := dX7_hasRight_6) (kk := ?_)
  refine v_ishr (pc := 7) X (hd := dX7_hasRight_7) (kk := ?_)
  refine v_iconst (pc := 8) X (v := nI 1) (hd := dX7_hasRight_8) (kk := ?_)
  refine v_iand (pc := 9) X (hd := dX7_hasRight_9) (kk := ?_)
  refine v_iconst (pc := 10) X (v := nI 1) (hd := dX7_hasRight_10) (kk := ?_)
  refine v_icmpne (pc := 11) X (tgt := 18) (hd := dX7_hasRight_11) (kt := fun c11 => ?_) (kf := fun c11 => ?_)
  · refine v_iconst (pc := 18) X (v := nI 0) (hd := dX7_hasRight_18) (kk := ?_)
    exact v_endb (pc := 19) X hr hlk (hd := dX7_hasRight_19) (hf := bI_0 c11)
  · refine v_iconst (pc := 14) X (v := nI 1) (hd := dX7_hasRight_14) (kk := ?_)
    refine v_goto (pc := 15) X (tgt := 19) (hd := dX7_hasRight_15) (kk := ?_)
    exact v_endb (pc := 19) X hr hlk (hd := dX7_hasRight_19) (hf := bI_1 (Classical.not_not.mp c11))
set_option maxRecDepth 100000 in
set_option maxHeartbeats 4000000 in
theorem c_X7_ones (l : Launch) (E : pE) (x : Int32) : pC l E yX7_ones cX7_ones 3 (some .int) { frames := 0, cells := 0, slots := 0, locals := 0 } 0 0 [.int x] (fun h _ => True) (pFp ((fOnes x 6))) := by
  refine pC_of (by decide) (by simp [Value.category]) (Nat.le_of_ble_eq_true rfl) ?_
  intro h z hp p__ e__ s__ m__ args__ below__ meth__ c__ X hr hlk hname
  refine v_iconst (pc := 0) X (v := nI 0) (hd := dX7_ones_0) (kk := ?_)
  refine v_istore_n (pc := 1) X (hd := dX7_ones_1) (kk := ?_)
  refine v_iconst (pc := 2) X (v := nI 0) (hd := dX7_ones_2) (kk := ?_)
  refine v_istore_n (pc := 3) X (hd := dX7_ones_3) (kk := ?_)
  refine v_forp (pc := 4) (M := 6) (Lf := fun i => [some (.int x), some (.int (fOnes x i)), some (.int (nI i))]) (hL := by rfl) (step := ?_) (out := ?_)
  · intro i hi kk
    refine v_iload_n (pc := 4) X (hd := dX7_ones_4) (kk := ?_)
    refine v_bipush (pc := 5) X (v := nI 6) (hd := dX7_ones_5) (kk := ?_)
    refine v_icmpge (pc := 7) X (tgt := 24) (hd := dX7_ones_7) (kt := fun c7 => ?_) (kf := fun c7 => ?_)
    · exact absurd c7 (nI_ge hi (by omega))
    · refine v_iload_n (pc := 10) X (hd := dX7_ones_10) (kk := ?_)
      refine v_iload_n (pc := 11) X (hd := dX7_ones_11) (kk := ?_)
      refine v_iload_n (pc := 12) X (hd := dX7_ones_12) (kk := ?_)
      refine v_ishr (pc := 13) X (hd := dX7_ones_13) (kk := ?_)
      refine v_iconst (pc := 14) X (v := nI 1) (hd := dX7_ones_14) (kk := ?_)
      refine v_iand (pc := 15) X (hd := dX7_ones_15) (kk := ?_)
      refine v_iadd (pc := 16) X (hd := dX7_ones_16) (kk := ?_)
      refine v_istore_n (pc := 17) X (hd := dX7_ones_17) (kk := ?_)
      refine v_iincN (pc := 18) X (hd := dX7_ones_18) (kk := ?_)
      refine v_goto (pc := 21) X (tgt := 4) (hd := dX7_ones_21) (kk := ?_)
      exact kk
  · skip
    refine v_iload_n (pc := 4) X (hd := dX7_ones_4) (kk := ?_)
    refine v_bipush (pc := 5) X (v := nI 6) (hd := dX7_ones_5) (kk := ?_)
    refine v_icmpge (pc := 7) X (tgt := 24) (hd := dX7_ones_7) (kt := fun c7 => ?_) (kf := fun c7 => ?_)
    · refine v_iload_n (pc := 24) X (hd := dX7_ones_24) (kk := ?_)
      exact v_endp (pc := 25) X hr hlk (hd := dX7_ones_25) (hf := rfl)
    · exact absurd (Int32.le_refl _) c7
set_option maxRecDepth 100000 in
set_option maxHeartbeats 4000000 in
theorem c_X7_spadesOf (l : Launch) (E : pE) (m : Nat) (w pa he te re : Nat → Int32) (ps rn ty at_ st ki co : Int32) (b nh : Nat) : pC l E yX7_spadesOf cX7_spadesOf 4 (some .int) { frames := 2, cells := 0, slots := 0, locals := 44 } 0 0 [.ref m, .int (nI b)] (fun h _ => MD m w pa he te re ps rn ty at_ st ki co h ∧ b < 4 ∧ nh ≤ 6 ∧ w 1 = nI nh) (pFp ((fSp w b nh))) := by
  refine pC_of (by decide) (by simp [Value.category]) (Nat.le_of_ble_eq_true rfl) ?_
  intro h z hp p__ e__ s__ m__ args__ below__ meth__ c__ X hr hlk hname
  obtain ⟨hM, hE⟩ := hp
  have hM0 := hM
  obtain ⟨M0, M1, M2, M3, M4, M5⟩ := hM0
  obtain ⟨hb, hn6, hn⟩ := hE
  refine v_iconst (pc := 0) X (v := nI 0) (hd := dX7_spadesOf_0) (kk := ?_)
  refine v_istore_n (pc := 1) X (hd := dX7_spadesOf_1) (kk := ?_)
  refine v_iconst (pc := 2) X (v := nI 0) (hd := dX7_spadesOf_2) (kk := ?_)
  refine v_istore_n (pc := 3) X (hd := dX7_spadesOf_3) (kk := ?_)
  refine v_forp (pc := 4) (M := nh) (Lf := fun i => [some (.ref m), some (.int (nI b)), some (.int (fSp w b i)), some (.int (nI i))]) (hL := by rfl) (step := ?_) (out := ?_)
  · intro i hi kk
    refine v_iload_n (pc := 4) X (hd := dX7_spadesOf_4) (kk := ?_)
    refine v_aload_n (pc := 5) X (hd := dX7_spadesOf_5) (kk := ?_)
    refine g_X7_7 (pc := 6) X (hd := dX7_spadesOf_6) (hh := by first | assumption | exact pset_s _ _ _ | exact (pset_n (by omega)).trans (by assumption)) (kk := ?_)
    refine v_iconst (pc := 9) X (v := nI 1) (hd := dX7_spadesOf_9) (kk := ?_)
    refine v_ialdN (pc := 10) X (j := 1) (hd := dX7_spadesOf_10) (hh := by first | assumption | exact pset_s _ _ _ | exact (pset_n (by omega)).trans (by assumption)) (hi := by first | rfl | (simp only [pk_mul, nI_add]; done)) (hj := by omega) (kk := ?_)
    rw [hn]
    refine v_icmpge (pc := 11) X (tgt := 42) (hd := dX7_spadesOf_11) (kt := fun c11 => ?_) (kf := fun c11 => ?_)
    · exact absurd c11 (nI_ge hi (by omega))
    · refine v_iload_n (pc := 14) X (hd := dX7_spadesOf_14) (kk := ?_)
      refine v_aload_n (pc := 15) X (hd := dX7_spadesOf_15) (kk := ?_)
      refine v_iload_n (pc := 16) X (hd := dX7_spadesOf_16) (kk := ?_)
      refine v_iload_n (pc := 17) X (hd := dX7_spadesOf_17) (kk := ?_)
      refine v_callVp (pc := 18) X (hd := dX7_spadesOf_18) (w := wv_X7_58) (hC := c_X7_hasRight l E _ _ _ _ _ _ _ _ _ _ _ _ _ (i) (b)) (hp := ⟨hM, by omega⟩) (hb := by first | assumption | exact pset_s _ _ _ | exact (pset_n (by omega)).trans (by assumption)) (kk := ?_)
      refine v_ifeqB (pc := 21) X (tgt := 33) (hd := dX7_spadesOf_21) (kt := fun c21 => ?_) (kf := fun c21 => ?_)
      · rw [show fSp w b (i + 1) = fSp w b i + nI 0 from by show fSp w b i + _ = _; rw [if_neg c21]] at kk
        refine v_iconst (pc := 33) X (v := nI 0) (hd := dX7_spadesOf_33) (kk := ?_)
        refine v_iadd (pc := 34) X (hd := dX7_spadesOf_34) (kk := ?_)
        refine v_istore_n (pc := 35) X (hd := dX7_spadesOf_35) (kk := ?_)
        refine v_iincN (pc := 36) X (hd := dX7_spadesOf_36) (kk := ?_)
        refine v_goto (pc := 39) X (tgt := 4) (hd := dX7_spadesOf_39) (kk := ?_)
        exact kk
      · rw [show fSp w b (i + 1) = fSp w b i + w (6 + 3 * i + 0) from by show fSp w b i + _ = _; rw [if_pos c21]] at kk
        refine v_aload_n (pc := 24) X (hd := dX7_spadesOf_24) (kk := ?_)
        refine v_iload_n (pc := 25) X (hd := dX7_spadesOf_25) (kk := ?_)
        refine v_iconst (pc := 26) X (v := nI 0) (hd := dX7_spadesOf_26) (kk := ?_)
        refine v_callVp (pc := 27) X (hd := dX7_spadesOf_27) (w := wv_X7_44) (hC := c_X7_inHouse l E _ _ _ _ _ _ _ _ _ _ _ _ _ (i) 0) (hp := ⟨hM, by omega⟩) (hb := by first | assumption | exact pset_s _ _ _ | exact (pset_n (by omega)).trans (by assumption)) (kk := ?_)
        refine v_goto (pc := 30) X (tgt := 34) (hd := dX7_spadesOf_30) (kk := ?_)
        refine v_iadd (pc := 34) X (hd := dX7_spadesOf_34) (kk := ?_)
        refine v_istore_n (pc := 35) X (hd := dX7_spadesOf_35) (kk := ?_)
        refine v_iincN (pc := 36) X (hd := dX7_spadesOf_36) (kk := ?_)
        refine v_goto (pc := 39) X (tgt := 4) (hd := dX7_spadesOf_39) (kk := ?_)
        exact kk
  · skip
    refine v_iload_n (pc := 4) X (hd := dX7_spadesOf_4) (kk := ?_)
    refine v_aload_n (pc := 5) X (hd := dX7_spadesOf_5) (kk := ?_)
    refine g_X7_7 (pc := 6) X (hd := dX7_spadesOf_6) (hh := by first | assumption | exact pset_s _ _ _ | exact (pset_n (by omega)).trans (by assumption)) (kk := ?_)
    refine v_iconst (pc := 9) X (v := nI 1) (hd := dX7_spadesOf_9) (kk := ?_)
    refine v_ialdN (pc := 10) X (j := 1) (hd := dX7_spadesOf_10) (hh := by first | assumption | exact pset_s _ _ _ | exact (pset_n (by omega)).trans (by assumption)) (hi := by first | rfl | (simp only [pk_mul, nI_add]; done)) (hj := by omega) (kk := ?_)
    rw [hn]
    refine v_icmpge (pc := 11) X (tgt := 42) (hd := dX7_spadesOf_11) (kt := fun c11 => ?_) (kf := fun c11 => ?_)
    · refine v_iload_n (pc := 42) X (hd := dX7_spadesOf_42) (kk := ?_)
      exact v_endp (pc := 43) X hr hlk (hd := dX7_spadesOf_43) (hf := rfl)
    · exact absurd (Int32.le_refl _) c11
set_option maxRecDepth 100000 in
set_option maxHeartbeats 4000000 in
theorem c_X7_shareOf (l : Launch) (E : pE) (m : Nat) (w pa he te re : Nat → Int32) (ps rn ty at_ st ki co : Int32) (hh b nh : Nat) : pC l E yX7_shareOf cX7_shareOf 7 (some .int) { frames := 3, cells := 0, slots := 0, locals := 67 } 0 0 [.ref m, .int (nI hh), .int (nI b)] (fun h _ => MD m w pa he te re ps rn ty at_ st ki co h ∧ hh < 6 ∧ b < 4 ∧ nh ≤ 6 ∧ w 1 = nI nh ∧ (hR w hh b → ¬ fSp w b nh = 0) ∧ (∀ k, k < nh → hR w k b → ¬ fSp w b nh = 0)) (pFp ((fShare w nh hh b))) := by
  refine pC_of (by decide) (by simp [Value.category]) (Nat.le_of_ble_eq_true rfl) ?_
  intro h z hp p__ e__ s__ m__ args__ below__ meth__ c__ X hr hlk hname
  obtain ⟨hM, hE⟩ := hp
  have hM0 := hM
  obtain ⟨M0, M1, M2, M3, M4, M5⟩ := hM0
  obtain ⟨hh6, hb, hn6, hn, hz1, hz2⟩ := hE
  refine v_aload_n (pc := 0) X (hd := dX7_shareOf_0) (kk := ?_)
  refine v_iload_n (pc := 1) X (hd := dX7_shareOf_1) (kk := ?_)
  refine v_callVp (pc := 2) X (hd := dX7_shareOf_2) (w := wv_X7_62) (hC := c_X7_spadesOf l E _ _ _ _ _ _ _ _ _ _ _ _ _ b nh) (hp := ⟨hM, hb, hn6, hn⟩) (hb := by first | assumption | exact pset_s _ _ _ | exact (pset_n (by omega)).trans (by assumption)) (kk := ?_)
  refine v_istore_n (pc := 5) X (hd := dX7_shareOf_5) (kk := ?_)
  refine v_aload_n (pc := 6) X (hd := dX7_shareOf_6) (kk := ?_)
  refine v_iload_n (pc := 7) X (hd := dX7_shareOf_7) (kk := ?_)
  refine v_iload_n (pc := 8) X (hd := dX7_shareOf_8) (kk := ?_)
  refine v_callVp (pc := 9) X (hd := dX7_shareOf_9) (w := wv_X7_58) (hC := c_X7_hasRight l E _ _ _ _ _ _ _ _ _ _ _ _ _ (hh) (b)) (hp := ⟨hM, by omega⟩) (hb := by first | assumption | exact pset_s _ _ _ | exact (pset_n (by omega)).trans (by assumption)) (kk := ?_)
  refine v_ifneB (pc := 12) X (tgt := 17) (hd := dX7_shareOf_12) (kt := fun c12 => ?_) (kf := fun c12 => ?_)
  · refine v_aload_n (pc := 17) X (hd := dX7_shareOf_17) (kk := ?_)
    refine v_iload_n (pc := 18) X (hd := dX7_shareOf_18) (kk := ?_)
    refine v_iconst (pc := 19) X (v := nI 0) (hd := dX7_shareOf_19) (kk := ?_)
    refine v_callVp (pc := 20) X (hd := dX7_shareOf_20) (w := wv_X7_51) (hC := c_X7_inBank l E _ _ _ _ _ _ _ _ _ _ _ _ _ (b) 0) (hp := ⟨hM, by omega⟩) (hb := by first | assumption | exact pset_s _ _ _ | exact (pset_n (by omega)).trans (by assumption)) (kk := ?_)
    refine v_istore (pc := 23) X (hd := dX7_shareOf_23) (kk := ?_)
    refine v_iconst (pc := 25) X (v := nI 0) (hd := dX7_shareOf_25) (kk := ?_)
    refine v_istore (pc := 26) X (hd := dX7_shareOf_26) (kk := ?_)
    refine v_iconst (pc := 28) X (v := nI 0) (hd := dX7_shareOf_28) (kk := ?_)
    refine v_istore (pc := 29) X (hd := dX7_shareOf_29) (kk := ?_)
    refine v_forp (pc := 31) (M := nh) (Lf := fun i => [some (.ref m), some (.int (nI hh)), some (.int (nI b)), some (.int (fSp w b nh)), some (.int (fLeft w b (fSp w b nh) i)), some (.int (fAhead w b hh i)), some (.int (nI i))]) (hL := by rfl) (step := ?_) (out := ?_)
    · intro i hi kk
      refine v_iload (pc := 31) X (hd := dX7_shareOf_31) (kk := ?_)
      refine v_aload_n (pc := 33) X (hd := dX7_shareOf_33) (kk := ?_)
      refine g_X7_7 (pc := 34) X (hd := dX7_shareOf_34) (hh := by first | assumption | exact pset_s _ _ _ | exact (pset_n (by omega)).trans (by assumption)) (kk := ?_)
      refine v_iconst (pc := 37) X (v := nI 1) (hd := dX7_shareOf_37) (kk := ?_)
      refine v_ialdN (pc := 38) X (j := 1) (hd := dX7_shareOf_38) (hh := by first | assumption | exact pset_s _ _ _ | exact (pset_n (by omega)).trans (by assumption)) (hi := by first | rfl | (simp only [pk_mul, nI_add]; done)) (hj := by omega) (kk := ?_)
      rw [hn]
      refine v_icmpge (pc := 39) X (tgt := 109) (hd := dX7_shareOf_39) (kt := fun c39 => ?_) (kf := fun c39 => ?_)
      · exact absurd c39 (nI_ge hi (by omega))
      · refine v_iload (pc := 42) X (hd := dX7_shareOf_42) (kk := ?_)
        refine v_aload_n (pc := 44) X (hd := dX7_shareOf_44) (kk := ?_)
        refine v_iload (pc := 45) X (hd := dX7_shareOf_45) (kk := ?_)
        refine v_iload_n (pc := 47) X (hd := dX7_shareOf_47) (kk := ?_)
        refine v_callVp (pc := 48) X (hd := dX7_shareOf_48) (w := wv_X7_58) (hC := c_X7_hasRight l E _ _ _ _ _ _ _ _ _ _ _ _ _ (i) (b)) (hp := ⟨hM, by omega⟩) (hb := by first | assumption | exact pset_s _ _ _ | exact (pset_n (by omega)).trans (by assumption)) (kk := ?_)
        refine v_ifeqB (pc := 51) X (tgt := 73) (hd := dX7_shareOf_51) (kt := fun c51 => ?_) (kf := fun c51 => ?_)
        · rw [show fLeft w b (fSp w b nh) (i + 1) = fLeft w b (fSp w b nh) i - nI 0 from by show fLeft w b (fSp w b nh) i - _ = _; rw [if_neg c51]] at kk
          refine v_iconst (pc := 73) X (v := nI 0) (hd := dX7_shareOf_73) (kk := ?_)
          refine v_isub (pc := 74) X (hd := dX7_shareOf_74) (kk := ?_)
          refine v_istore (pc := 75) X (hd := dX7_shareOf_75) (kk := ?_)
          refine v_iload (pc := 77) X (hd := dX7_shareOf_77) (kk := ?_)
          refine v_iload (pc := 79) X (hd := dX7_shareOf_79) (kk := ?_)
          refine v_iload_n (pc := 81) X (hd := dX7_shareOf_81) (kk := ?_)
          refine v_icmpge (pc := 82) X (tgt := 99) (hd := dX7_shareOf_82) (kt := fun c82 => ?_) (kf := fun c82 => ?_)
          · rw [show fAhead w b hh (i + 1) = fAhead w b hh i + nI 0 from by show fAhead w b hh i + _ = _; rw [if_neg (fun q => by have q1 := q.1; exact absurd c82 (nI_ge q1 (by omega)))]] at kk
            refine v_iconst (pc := 99) X (v := nI 0) (hd := dX7_shareOf_99) (kk := ?_)
            refine v_iadd (pc := 100) X (hd := dX7_shareOf_100) (kk := ?_)
            refine v_istore (pc := 101) X (hd := dX7_shareOf_101) (kk := ?_)
            refine v_iincN (pc := 103) X (hd := dX7_shareOf_103) (kk := ?_)
            refine v_goto (pc := 106) X (tgt := 31) (hd := dX7_shareOf_106) (kk := ?_)
            exact kk
          · have c83 : i < hh := (nI_ltI (by omega) (by omega)).mp (n_nle c82)
            refine v_aload_n (pc := 85) X (hd := dX7_shareOf_85) (kk := ?_)
            refine v_iload (pc := 86) X (hd := dX7_shareOf_86) (kk := ?_)
            refine v_iload_n (pc := 88) X (hd := dX7_shareOf_88) (kk := ?_)
            refine v_callVp (pc := 89) X (hd := dX7_shareOf_89) (w := wv_X7_58) (hC := c_X7_hasRight l E _ _ _ _ _ _ _ _ _ _ _ _ _ (i) (b)) (hp := ⟨hM, by omega⟩) (hb := by first | assumption | exact pset_s _ _ _ | exact (pset_n (by omega)).trans (by assumption)) (kk := ?_)
            refine v_ifeqB (pc := 92) X (tgt := 99) (hd := dX7_shareOf_92) (kt := fun c92 => ?_) (kf := fun c92 => ?_)
            · rw [show fAhead w b hh (i + 1) = fAhead w b hh i + nI 0 from by show fAhead w b hh i + _ = _; rw [if_neg (fun q => c92 q.2)]] at kk
              refine v_iconst (pc := 99) X (v := nI 0) (hd := dX7_shareOf_99) (kk := ?_)
              refine v_iadd (pc := 100) X (hd := dX7_shareOf_100) (kk := ?_)
              refine v_istore (pc := 101) X (hd := dX7_shareOf_101) (kk := ?_)
              refine v_iincN (pc := 103) X (hd := dX7_shareOf_103) (kk := ?_)
              refine v_goto (pc := 106) X (tgt := 31) (hd := dX7_shareOf_106) (kk := ?_)
              exact kk
            · rw [show fAhead w b hh (i + 1) = fAhead w b hh i + nI 1 from by show fAhead w b hh i + _ = _; rw [if_pos ⟨c83, c92⟩]] at kk
              refine v_iconst (pc := 95) X (v := nI 1) (hd := dX7_shareOf_95) (kk := ?_)
              refine v_goto (pc := 96) X (tgt := 100) (hd := dX7_shareOf_96) (kk := ?_)
              refine v_iadd (pc := 100) X (hd := dX7_shareOf_100) (kk := ?_)
              refine v_istore (pc := 101) X (hd := dX7_shareOf_101) (kk := ?_)
              refine v_iincN (pc := 103) X (hd := dX7_shareOf_103) (kk := ?_)
              refine v_goto (pc := 106) X (tgt := 31) (hd := dX7_shareOf_106) (kk := ?_)
              exact kk
        · rw [show fLeft w b (fSp w b nh) (i + 1) = fLeft w b (fSp w b nh) i - w (24 + 7 * b + 0) * w (6 + 3 * i + 0) / fSp w b nh from by show fLeft w b (fSp w b nh) i - _ = _; rw [if_pos c51]] at kk
          refine v_aload_n (pc := 54) X (hd := dX7_shareOf_54) (kk := ?_)
          refine v_iload_n (pc := 55) X (hd := dX7_shareOf_55) (kk := ?_)
          refine v_iconst (pc := 56) X (v := nI 0) (hd := dX7_shareOf_56) (kk := ?_)
          refine v_callVp (pc := 57) X (hd := dX7_shareOf_57) (w := wv_X7_51) (hC := c_X7_inBank l E _ _ _ _ _ _ _ _ _ _ _ _ _ (b) 0) (hp := ⟨hM, by omega⟩) (hb := by first | assumption | exact pset_s _ _ _ | exact (pset_n (by omega)).trans (by assumption)) (kk := ?_)
          refine v_aload_n (pc := 60) X (hd := dX7_shareOf_60) (kk := ?_)
          refine v_iload (pc := 61) X (hd := dX7_shareOf_61) (kk := ?_)
          refine v_iconst (pc := 63) X (v := nI 0) (hd := dX7_shareOf_63) (kk := ?_)
          refine v_callVp (pc := 64) X (hd := dX7_shareOf_64) (w := wv_X7_44) (hC := c_X7_inHouse l E _ _ _ _ _ _ _ _ _ _ _ _ _ (i) 0) (hp := ⟨hM, by omega⟩) (hb := by first | assumption | exact pset_s _ _ _ | exact (pset_n (by omega)).trans (by assumption)) (kk := ?_)
          refine v_imul (pc := 67) X (hd := dX7_shareOf_67) (kk := ?_)
          refine v_iload_n (pc := 68) X (hd := dX7_shareOf_68) (kk := ?_)
          refine v_idiv (pc := 69) X (hd := dX7_shareOf_69) (hne := hz2 i hi c51) (kk := ?_)
          refine v_goto (pc := 70) X (tgt := 74) (hd := dX7_shareOf_70) (kk := ?_)
          refine v_isub (pc := 74) X (hd := dX7_shareOf_74) (kk := ?_)
          refine v_istore (pc := 75) X (hd := dX7_shareOf_75) (kk := ?_)
          refine v_iload (pc := 77) X (hd := dX7_shareOf_77) (kk := ?_)
          refine v_iload (pc := 79) X (hd := dX7_shareOf_79) (kk := ?_)
          refine v_iload_n (pc := 81) X (hd := dX7_shareOf_81) (kk := ?_)
          refine v_icmpge (pc := 82) X (tgt := 99) (hd := dX7_shareOf_82) (kt := fun c82 => ?_) (kf := fun c82 => ?_)
          · rw [show fAhead w b hh (i + 1) = fAhead w b hh i + nI 0 from by show fAhead w b hh i + _ = _; rw [if_neg (fun q => by have q1 := q.1; exact absurd c82 (nI_ge q1 (by omega)))]] at kk
            refine v_iconst (pc := 99) X (v := nI 0) (hd := dX7_shareOf_99) (kk := ?_)
            refine v_iadd (pc := 100) X (hd := dX7_shareOf_100) (kk := ?_)
            refine v_istore (pc := 101) X (hd := dX7_shareOf_101) (kk := ?_)
            refine v_iincN (pc := 103) X (hd := dX7_shareOf_103) (kk := ?_)
            refine v_goto (pc := 106) X (tgt := 31) (hd := dX7_shareOf_106) (kk := ?_)
            exact kk
          · have c83 : i < hh := (nI_ltI (by omega) (by omega)).mp (n_nle c82)
            refine v_aload_n (pc := 85) X (hd := dX7_shareOf_85) (kk := ?_)
            refine v_iload (pc := 86) X (hd := dX7_shareOf_86) (kk := ?_)
            refine v_iload_n (pc := 88) X (hd := dX7_shareOf_88) (kk := ?_)
            refine v_callVp (pc := 89) X (hd := dX7_shareOf_89) (w := wv_X7_58) (hC := c_X7_hasRight l E _ _ _ _ _ _ _ _ _ _ _ _ _ (i) (b)) (hp := ⟨hM, by omega⟩) (hb := by first | assumption | exact pset_s _ _ _ | exact (pset_n (by omega)).trans (by assumption)) (kk := ?_)
            refine v_ifeqB (pc := 92) X (tgt := 99) (hd := dX7_shareOf_92) (kt := fun c92 => ?_) (kf := fun c92 => ?_)
            · rw [show fAhead w b hh (i + 1) = fAhead w b hh i + nI 0 from by show fAhead w b hh i + _ = _; rw [if_neg (fun q => c92 q.2)]] at kk
              refine v_iconst (pc := 99) X (v := nI 0) (hd := dX7_shareOf_99) (kk := ?_)
              refine v_iadd (pc := 100) X (hd := dX7_shareOf_100) (kk := ?_)
              refine v_istore (pc := 101) X (hd := dX7_shareOf_101) (kk := ?_)
              refine v_iincN (pc := 103) X (hd := dX7_shareOf_103) (kk := ?_)
              refine v_goto (pc := 106) X (tgt := 31) (hd := dX7_shareOf_106) (kk := ?_)
              exact kk
            · rw [show fAhead w b hh (i + 1) = fAhead w b hh i + nI 1 from by show fAhead w b hh i + _ = _; rw [if_pos ⟨c83, c92⟩]] at kk
              refine v_iconst (pc := 95) X (v := nI 1) (hd := dX7_shareOf_95) (kk := ?_)
              refine v_goto (pc := 96) X (tgt := 100) (hd := dX7_shareOf_96) (kk := ?_)
              refine v_iadd (pc := 100) X (hd := dX7_shareOf_100) (kk := ?_)
              refine v_istore (pc := 101) X (hd := dX7_shareOf_101) (kk := ?_)
              refine v_iincN (pc := 103) X (hd := dX7_shareOf_103) (kk := ?_)
              refine v_goto (pc := 106) X (tgt := 31) (hd := dX7_shareOf_106) (kk := ?_)
              exact kk
    · skip
      refine v_iload (pc := 31) X (hd := dX7_shareOf_31) (kk := ?_)
      refine v_aload_n (pc := 33) X (hd := dX7_shareOf_33) (kk := ?_)
      refine g_X7_7 (pc := 34) X (hd := dX7_shareOf_34) (hh := by first | assumption | exact pset_s _ _ _ | exact (pset_n (by omega)).trans (by assumption)) (kk := ?_)
      refine v_iconst (pc := 37) X (v := nI 1) (hd := dX7_shareOf_37) (kk := ?_)
      refine v_ialdN (pc := 38) X (j := 1) (hd := dX7_shareOf_38) (hh := by first | assumption | exact pset_s _ _ _ | exact (pset_n (by omega)).trans (by assumption)) (hi := by first | rfl | (simp only [pk_mul, nI_add]; done)) (hj := by omega) (kk := ?_)
      rw [hn]
      refine v_icmpge (pc := 39) X (tgt := 109) (hd := dX7_shareOf_39) (kt := fun c39 => ?_) (kf := fun c39 => ?_)
      · refine v_aload_n (pc := 109) X (hd := dX7_shareOf_109) (kk := ?_)
        refine v_iload_n (pc := 110) X (hd := dX7_shareOf_110) (kk := ?_)
        refine v_iconst (pc := 111) X (v := nI 0) (hd := dX7_shareOf_111) (kk := ?_)
        refine v_callVp (pc := 112) X (hd := dX7_shareOf_112) (w := wv_X7_51) (hC := c_X7_inBank l E _ _ _ _ _ _ _ _ _ _ _ _ _ (b) 0) (hp := ⟨hM, by omega⟩) (hb := by first | assumption | exact pset_s _ _ _ | exact (pset_n (by omega)).trans (by assumption)) (kk := ?_)
        refine v_aload_n (pc := 115) X (hd := dX7_shareOf_115) (kk := ?_)
        refine v_iload_n (pc := 116) X (hd := dX7_shareOf_116) (kk := ?_)
        refine v_iconst (pc := 117) X (v := nI 0) (hd := dX7_shareOf_117) (kk := ?_)
        refine v_callVp (pc := 118) X (hd := dX7_shareOf_118) (w := wv_X7_44) (hC := c_X7_inHouse l E _ _ _ _ _ _ _ _ _ _ _ _ _ (hh) 0) (hp := ⟨hM, by omega⟩) (hb := by first | assumption | exact pset_s _ _ _ | exact (pset_n (by omega)).trans (by assumption)) (kk := ?_)
        refine v_imul (pc := 121) X (hd := dX7_shareOf_121) (kk := ?_)
        refine v_iload_n (pc := 122) X (hd := dX7_shareOf_122) (kk := ?_)
        refine v_idiv (pc := 123) X (hd := dX7_shareOf_123) (hne := hz1 (by assumption)) (kk := ?_)
        refine v_iload (pc := 124) X (hd := dX7_shareOf_124) (kk := ?_)
        refine v_iload (pc := 126) X (hd := dX7_shareOf_126) (kk := ?_)
        refine v_icmpge (pc := 128) X (tgt := 135) (hd := dX7_shareOf_128) (kt := fun c128 => ?_) (kf := fun c128 => ?_)
        · refine v_iconst (pc := 135) X (v := nI 0) (hd := dX7_shareOf_135) (kk := ?_)
          refine v_iadd (pc := 136) X (hd := dX7_shareOf_136) (kk := ?_)
          exact v_endp (pc := 137) X hr hlk (hd := dX7_shareOf_137) (hf := by unfold fShare; rw [if_pos (by assumption), if_neg (by rw [n_le] at c128; rw [n_lt]; omega)])
        · refine v_iconst (pc := 131) X (v := nI 1) (hd := dX7_shareOf_131) (kk := ?_)
          refine v_goto (pc := 132) X (tgt := 136) (hd := dX7_shareOf_132) (kk := ?_)
          refine v_iadd (pc := 136) X (hd := dX7_shareOf_136) (kk := ?_)
          exact v_endp (pc := 137) X hr hlk (hd := dX7_shareOf_137) (hf := by unfold fShare; rw [if_pos (by assumption), if_pos (n_nle c128)])
      · exact absurd (Int32.le_refl _) c39
  · refine v_iconst (pc := 15) X (v := nI 0) (hd := dX7_shareOf_15) (kk := ?_)
    exact v_endp (pc := 16) X hr hlk (hd := dX7_shareOf_16) (hf := (if_neg c12).symm)
set_option maxRecDepth 100000 in
set_option maxHeartbeats 4000000 in
theorem c_X7_mayCut (l : Launch) (E : pE) (m : Nat) (w pa he te re : Nat → Int32) (ps rn ty at_ st ki co : Int32) (hh b nh : Nat) : pC l E yX7_mayCut cX7_mayCut 4 (some .int) { frames := 4, cells := 0, slots := 0, locals := 93 } 0 0 [.ref m, .int (nI hh), .int (nI b)] (fun h _ => MD m w pa he te re ps rn ty at_ st ki co h ∧ hh < 6 ∧ b < 4 ∧ nh ≤ 6 ∧ w 1 = nI nh ∧ (hR w hh b → ¬ fSp w b nh = 0) ∧ (∀ k, k < nh → hR w k b → ¬ fSp w b nh = 0)) (pFp ((fMay w nh hh b))) := by
  refine pC_of (by decide) (by simp [Value.category]) (Nat.le_of_ble_eq_true rfl) ?_
  intro h z hp p__ e__ s__ m__ args__ below__ meth__ c__ X hr hlk hname
  obtain ⟨hM, hE⟩ := hp
  have hM0 := hM
  obtain ⟨M0, M1, M2, M3, M4, M5⟩ := hM0
  refine v_aload_n (pc := 0) X (hd := dX7_mayCut_0) (kk := ?_)
  refine v_iload_n (pc := 1) X (hd := dX7_mayCut_1) (kk := ?_)
  refine v_iload_n (pc := 2) X (hd := dX7_mayCut_2) (kk := ?_)
  refine v_callVp (pc := 3) X (hd := dX7_mayCut_3) (w := wv_X7_65) (hC := c_X7_shareOf l E _ _ _ _ _ _ _ _ _ _ _ _ _ hh b nh) (hp := ⟨hM, hE⟩) (hb := by first | assumption | exact pset_s _ _ _ | exact (pset_n (by omega)).trans (by assumption)) (kk := ?_)
  refine v_aload_n (pc := 6) X (hd := dX7_mayCut_6) (kk := ?_)
  refine g_X7_7 (pc := 7) X (hd := dX7_mayCut_7) (hh := by first | assumption | exact pset_s _ _ _ | exact (pset_n (by omega)).trans (by assumption)) (kk := ?_)
  refine v_bipush (pc := 10) X (v := nI 52) (hd := dX7_mayCut_10) (kk := ?_)
  refine v_iconst (pc := 12) X (v := nI 4) (hd := dX7_mayCut_12) (kk := ?_)
  refine v_iload_n (pc := 13) X (hd := dX7_mayCut_13) (kk := ?_)
  refine v_imul (pc := 14) X (hd := dX7_mayCut_14) (kk := ?_)
  refine v_iadd (pc := 15) X (hd := dX7_mayCut_15) (kk := ?_)
  refine v_iload_n (pc := 16) X (hd := dX7_mayCut_16) (kk := ?_)
  refine v_iadd (pc := 17) X (hd := dX7_mayCut_17) (kk := ?_)
  refine v_ialdN (pc := 18) X (j := (52 + 4 * hh + b)) (hd := dX7_mayCut_18) (hh := by first | assumption | exact pset_s _ _ _ | exact (pset_n (by omega)).trans (by assumption)) (hi := by rw [pk_mul, nI_add, nI_add]) (hj := by have := hE.1; have := hE.2.1; omega) (kk := ?_)
  refine v_isub (pc := 19) X (hd := dX7_mayCut_19) (kk := ?_)
  refine v_istore_n (pc := 20) X (hd := dX7_mayCut_20) (kk := ?_)
  refine v_iload_n (pc := 21) X (hd := dX7_mayCut_21) (kk := ?_)
  refine v_ifge (pc := 22) X (tgt := 29) (hd := dX7_mayCut_22) (kt := fun c22 => ?_) (kf := fun c22 => ?_)
  · refine v_iload_n (pc := 29) X (hd := dX7_mayCut_29) (kk := ?_)
    exact v_endp (pc := 30) X hr hlk (hd := dX7_mayCut_30) (hf := by unfold fMay; rw [if_neg (by rw [n_le] at c22; rw [n_lt]; omega)])
  · refine v_iconst (pc := 25) X (v := nI 0) (hd := dX7_mayCut_25) (kk := ?_)
    refine v_goto (pc := 26) X (tgt := 30) (hd := dX7_mayCut_26) (kk := ?_)
    exact v_endp (pc := 30) X hr hlk (hd := dX7_mayCut_30) (hf := by unfold fMay; rw [if_pos (n_nle c22)])
set_option maxRecDepth 100000 in
set_option maxHeartbeats 4000000 in
theorem c_X7_isDry (l : Launch) (E : pE) (m : Nat) (w pa he te re : Nat → Int32) (ps rn ty at_ st ki co : Int32) (k9 : Nat) : pC l E yX7_isDry cX7_isDry 2 (some .boolean) { frames := 1, cells := 0, slots := 0, locals := 22 } 0 0 [.ref m, .int (nI k9)] (fun h _ => MD m w pa he te re ps rn ty at_ st ki co h ∧ 76 + 5 * k9 + 3 < 410) (pFp ((bI (w (76 + 5 * k9 + 3) ≤ nI 30000)))) := by
  refine pC_of (by decide) (by simp [Value.category]) (Nat.le_of_ble_eq_true rfl) ?_
  intro h z hp p__ e__ s__ m__ args__ below__ meth__ c__ X hr hlk hname
  obtain ⟨hM, hE⟩ := hp
  have hM0 := hM
  obtain ⟨M0, M1, M2, M3, M4, M5⟩ := hM0
  refine v_aload_n (pc := 0) X (hd := dX7_isDry_0) (kk := ?_)
  refine v_iload_n (pc := 1) X (hd := dX7_isDry_1) (kk := ?_)
  refine v_iconst (pc := 2) X (v := nI 3) (hd := dX7_isDry_2) (kk := ?_)
  refine v_callVp (pc := 3) X (hd := dX7_isDry_3) (w := wv_X7_75) (hC := c_X7_inStack l E _ _ _ _ _ _ _ _ _ _ _ _ _ (k9) 3) (hp := ⟨hM, by omega⟩) (hb := by first | assumption | exact pset_s _ _ _ | exact (pset_n (by omega)).trans (by assumption)) (kk := ?_)
  refine v_sipush (pc := 6) X (v := nI 30000) (hd := dX7_isDry_6) (kk := ?_)
  refine v_icmpgt (pc := 9) X (tgt := 16) (hd := dX7_isDry_9) (kt := fun c9 => ?_) (kf := fun c9 => ?_)
  · refine v_iconst (pc := 16) X (v := nI 0) (hd := dX7_isDry_16) (kk := ?_)
    exact v_endb (pc := 17) X hr hlk (hd := dX7_isDry_17) (hf := bI_0 (fun q => by rw [n_le] at q; rw [n_lt] at c9; omega))
  · refine v_iconst (pc := 12) X (v := nI 1) (hd := dX7_isDry_12) (kk := ?_)
    refine v_goto (pc := 13) X (tgt := 17) (hd := dX7_isDry_13) (kk := ?_)
    exact v_endb (pc := 17) X hr hlk (hd := dX7_isDry_17) (hf := bI_1 (n_nlt c9))
set_option maxRecDepth 100000 in
set_option maxHeartbeats 4000000 in
theorem c_X7_weight (l : Launch) (E : pE) (m : Nat) (w pa he te re : Nat → Int32) (ps rn ty at_ st ki co : Int32) (k9 : Nat) : pC l E yX7_weight cX7_weight 2 (some .int) { frames := 1, cells := 0, slots := 0, locals := 22 } 0 0 [.ref m, .int (nI k9)] (fun h _ => MD m w pa he te re ps rn ty at_ st ki co h ∧ 76 + 5 * k9 + 3 < 410) (pFp ((fW (w (76 + 5 * k9 + 3))))) := by
  refine pC_of (by decide) (by simp [Value.category]) (Nat.le_of_ble_eq_true rfl) ?_
  intro h z hp p__ e__ s__ m__ args__ below__ meth__ c__ X hr hlk hname
  obtain ⟨hM, hE⟩ := hp
  have hM0 := hM
  obtain ⟨M0, M1, M2, M3, M4, M5⟩ := hM0
  refine v_sipush (pc := 0) X (v := nI 1000) (hd := dX7_weight_0) (kk := ?_)
  refine v_aload_n (pc := 3) X (hd := dX7_weight_3) (kk := ?_)
  refine v_iload_n (pc := 4) X (hd := dX7_weight_4) (kk := ?_)
  refine v_iconst (pc := 5) X (v := nI 3) (hd := dX7_weight_5) (kk := ?_)
  refine v_callVp (pc := 6) X (hd := dX7_weight_6) (w := wv_X7_75) (hC := c_X7_inStack l E _ _ _ _ _ _ _ _ _ _ _ _ _ (k9) 3) (hp := ⟨hM, by omega⟩) (hb := by first | assumption | exact pset_s _ _ _ | exact (pset_n (by omega)).trans (by assumption)) (kk := ?_)
  refine v_bipush (pc := 9) X (v := nI 100) (hd := dX7_weight_9) (kk := ?_)
  refine v_idiv (pc := 11) X (hd := dX7_weight_11) (hne := by decide +kernel) (kk := ?_)
  refine v_iadd (pc := 12) X (hd := dX7_weight_12) (kk := ?_)
  exact v_endp (pc := 13) X hr hlk (hd := dX7_weight_13) (hf := rfl)
set_option maxRecDepth 100000 in
set_option maxHeartbeats 4000000 in
theorem c_X7_load (l : Launch) (E : pE) (m : Nat) (w pa he te re : Nat → Int32) (ps rn ty at_ st ki co : Int32) (k9 : Nat) (t : Int32) : pC l E yX7_load cX7_load 3 (some .int) { frames := 2, cells := 0, slots := 0, locals := 43 } 0 0 [.ref m, .int (nI k9), .int t] (fun h _ => MD m w pa he te re ps rn ty at_ st ki co h ∧ 76 + 5 * k9 + 3 < 410) (pFp ((fLoad (w (76 + 5 * k9 + 3)) t))) := by
  refine pC_of (by decide) (by simp [Value.category]) (Nat.le_of_ble_eq_true rfl) ?_
  intro h z hp p__ e__ s__ m__ args__ below__ meth__ c__ X hr hlk hname
  obtain ⟨hM, hE⟩ := hp
  have hM0 := hM
  obtain ⟨M0, M1, M2, M3, M4, M5⟩ := hM0
  refine v_iload_n (pc := 0) X (hd := dX7_load_0) (kk := ?_)
  refine v_aload_n (pc := 1) X (hd := dX7_load_1) (kk := ?_)
  refine v_iload_n (pc := 2) X (hd := dX7_load_2) (kk := ?_)
  refine v_callVp (pc := 3) X (hd := dX7_load_3) (w := wv_X7_82) (hC := c_X7_weight l E _ _ _ _ _ _ _ _ _ _ _ _ _ k9) (hp := ⟨hM, hE⟩) (hb := by first | assumption | exact pset_s _ _ _ | exact (pset_n (by omega)).trans (by assumption)) (kk := ?_)
  refine v_imul (pc := 6) X (hd := dX7_load_6) (kk := ?_)
  refine v_sipush (pc := 7) X (v := nI 999) (hd := dX7_load_7) (kk := ?_)
  refine v_iadd (pc := 10) X (hd := dX7_load_10) (kk := ?_)
  refine v_sipush (pc := 11) X (v := nI 1000) (hd := dX7_load_11) (kk := ?_)
  refine v_idiv (pc := 14) X (hd := dX7_load_14) (hne := by decide +kernel) (kk := ?_)
  exact v_endp (pc := 15) X hr hlk (hd := dX7_load_15) (hf := rfl)
set_option maxRecDepth 100000 in
set_option maxHeartbeats 4000000 in
theorem c_X7_bears (l : Launch) (E : pE) (m : Nat) (w pa he te re : Nat → Int32) (ps rn ty at_ st ki co : Int32) (b : Nat) : pC l E yX7_bears cX7_bears 3 (some .int) { frames := 1, cells := 0, slots := 0, locals := 22 } 0 0 [.ref m, .int (nI b)] (fun h _ => MD m w pa he te re ps rn ty at_ st ki co h ∧ b < 4) (pFp ((fBear (w (24 + 7 * b + 1)) (w 4) (w (24 + 7 * b + 2))))) := by
  refine pC_of (by decide) (by simp [Value.category]) (Nat.le_of_ble_eq_true rfl) ?_
  intro h z hp p__ e__ s__ m__ args__ below__ meth__ c__ X hr hlk hname
  obtain ⟨hM, hE⟩ := hp
  have hM0 := hM
  obtain ⟨M0, M1, M2, M3, M4, M5⟩ := hM0
  refine v_aload_n (pc := 0) X (hd := dX7_bears_0) (kk := ?_)
  refine v_iload_n (pc := 1) X (hd := dX7_bears_1) (kk := ?_)
  refine v_iconst (pc := 2) X (v := nI 1) (hd := dX7_bears_2) (kk := ?_)
  refine v_callVp (pc := 3) X (hd := dX7_bears_3) (w := wv_X7_51) (hC := c_X7_inBank l E _ _ _ _ _ _ _ _ _ _ _ _ _ (b) 1) (hp := ⟨hM, by omega⟩) (hb := by first | assumption | exact pset_s _ _ _ | exact (pset_n (by omega)).trans (by assumption)) (kk := ?_)
  refine v_bipush (pc := 6) X (v := nI 40) (hd := dX7_bears_6) (kk := ?_)
  refine v_aload_n (pc := 8) X (hd := dX7_bears_8) (kk := ?_)
  refine g_X7_7 (pc := 9) X (hd := dX7_bears_9) (hh := by first | assumption | exact pset_s _ _ _ | exact (pset_n (by omega)).trans (by assumption)) (kk := ?_)
  refine v_iconst (pc := 12) X (v := nI 4) (hd := dX7_bears_12) (kk := ?_)
  refine v_ialdN (pc := 13) X (j := 4) (hd := dX7_bears_13) (hh := by first | assumption | exact pset_s _ _ _ | exact (pset_n (by omega)).trans (by assumption)) (hi := by first | rfl | (simp only [pk_mul, nI_add]; done)) (hj := by omega) (kk := ?_)
  refine v_imul (pc := 14) X (hd := dX7_bears_14) (kk := ?_)
  refine v_isub (pc := 15) X (hd := dX7_bears_15) (kk := ?_)
  refine v_aload_n (pc := 16) X (hd := dX7_bears_16) (kk := ?_)
  refine v_iload_n (pc := 17) X (hd := dX7_bears_17) (kk := ?_)
  refine v_iconst (pc := 18) X (v := nI 2) (hd := dX7_bears_18) (kk := ?_)
  refine v_callVp (pc := 19) X (hd := dX7_bears_19) (w := wv_X7_51) (hC := c_X7_inBank l E _ _ _ _ _ _ _ _ _ _ _ _ _ (b) 2) (hp := ⟨hM, by omega⟩) (hb := by first | assumption | exact pset_s _ _ _ | exact (pset_n (by omega)).trans (by assumption)) (kk := ?_)
  refine v_isub (pc := 22) X (hd := dX7_bears_22) (kk := ?_)
  refine v_istore_n (pc := 23) X (hd := dX7_bears_23) (kk := ?_)
  refine v_iload_n (pc := 24) X (hd := dX7_bears_24) (kk := ?_)
  refine v_ifge (pc := 25) X (tgt := 32) (hd := dX7_bears_25) (kt := fun c25 => ?_) (kf := fun c25 => ?_)
  · refine v_iload_n (pc := 32) X (hd := dX7_bears_32) (kk := ?_)
    exact v_endp (pc := 33) X hr hlk (hd := dX7_bears_33) (hf := by unfold fBear; rw [if_neg (by rw [n_le] at c25; rw [n_lt]; omega)])
  · refine v_iconst (pc := 28) X (v := nI 0) (hd := dX7_bears_28) (kk := ?_)
    refine v_goto (pc := 29) X (tgt := 33) (hd := dX7_bears_29) (kk := ?_)
    exact v_endp (pc := 33) X hr hlk (hd := dX7_bears_33) (hf := by unfold fBear; rw [if_pos (n_nle c25)])
set_option maxRecDepth 100000 in
set_option maxHeartbeats 4000000 in
theorem c_X7_dried (l : Launch) (E : pE) (we tn wi ra : Int32) : pC l E yX7_dried cX7_dried 5 (some .int) { frames := 0, cells := 0, slots := 0, locals := 0 } 0 0 [.int we, .int tn, .int wi, .int ra] (fun h _ => True) (pFp ((fDried we tn wi ra))) := by
  refine pC_of (by decide) (by simp [Value.category]) (Nat.le_of_ble_eq_true rfl) ?_
  intro h z hp p__ e__ s__ m__ args__ below__ meth__ c__ X hr hlk hname
  refine v_iload_n (pc := 0) X (hd := dX7_dried_0) (kk := ?_)
  refine v_bipush (pc := 1) X (v := nI 64) (hd := dX7_dried_1) (kk := ?_)
  refine v_iload_n (pc := 3) X (hd := dX7_dried_3) (kk := ?_)
  refine v_iload_n (pc := 4) X (hd := dX7_dried_4) (kk := ?_)
  refine v_iconst (pc := 5) X (v := nI 1) (hd := dX7_dried_5) (kk := ?_)
  refine v_iadd (pc := 6) X (hd := dX7_dried_6) (kk := ?_)
  refine v_imul (pc := 7) X (hd := dX7_dried_7) (kk := ?_)
  refine v_isub (pc := 8) X (hd := dX7_dried_8) (kk := ?_)
  refine v_imul (pc := 9) X (hd := dX7_dried_9) (kk := ?_)
  refine v_bipush (pc := 10) X (v := nI 64) (hd := dX7_dried_10) (kk := ?_)
  refine v_idiv (pc := 12) X (hd := dX7_dried_12) (hne := by decide +kernel) (kk := ?_)
  refine v_sipush (pc := 13) X (v := nI 1500) (hd := dX7_dried_13) (kk := ?_)
  refine v_iload_n (pc := 16) X (hd := dX7_dried_16) (kk := ?_)
  refine v_imul (pc := 17) X (hd := dX7_dried_17) (kk := ?_)
  refine v_iadd (pc := 18) X (hd := dX7_dried_18) (kk := ?_)
  refine v_istore (pc := 19) X (hd := dX7_dried_19) (kk := ?_)
  refine v_iload (pc := 21) X (hd := dX7_dried_21) (kk := ?_)
  refine v_ldc (v := nI 100000) (pc := 23) X (hw := wq_X7_71) (hd := dX7_dried_23) (kk := ?_)
  refine v_icmple (pc := 25) X (tgt := 33) (hd := dX7_dried_25) (kt := fun c25 => ?_) (kf := fun c25 => ?_)
  · refine v_iload (pc := 33) X (hd := dX7_dried_33) (kk := ?_)
    exact v_endp (pc := 35) X hr hlk (hd := dX7_dried_35) (hf := by unfold fDried; rw [if_neg (by rw [n_le] at c25; rw [n_lt]; exact Int.not_lt.mpr c25)])
  · refine v_ldc (v := nI 100000) (pc := 28) X (hw := wq_X7_71) (hd := dX7_dried_28) (kk := ?_)
    refine v_goto (pc := 30) X (tgt := 35) (hd := dX7_dried_30) (kk := ?_)
    exact v_endp (pc := 35) X hr hlk (hd := dX7_dried_35) (hf := by unfold fDried; rw [if_pos (n_nle c25)])
set_option maxRecDepth 100000 in
set_option maxHeartbeats 4000000 in
theorem c_X7_dryStacks (l : Launch) (E : pE) (m : Nat) (w pa he te re : Nat → Int32) (ps rn ty at_ st ki co : Int32) (ns : Nat) : pC l E yX7_dryStacks cX7_dryStacks 3 (some .int) { frames := 2, cells := 0, slots := 0, locals := 43 } 0 0 [.ref m] (fun h _ => MD m w pa he te re ps rn ty at_ st ki co h ∧ ns ≤ 12 ∧ w 3 = nI ns) (pFp ((fDryN w ns))) := by
  refine pC_of (by decide) (by simp [Value.category]) (Nat.le_of_ble_eq_true rfl) ?_
  intro h z hp p__ e__ s__ m__ args__ below__ meth__ c__ X hr hlk hname
  obtain ⟨hM, hE⟩ := hp
  have hM0 := hM
  obtain ⟨M0, M1, M2, M3, M4, M5⟩ := hM0
  obtain ⟨hn6, hn⟩ := hE
  refine v_iconst (pc := 0) X (v := nI 0) (hd := dX7_dryStacks_0) (kk := ?_)
  refine v_istore_n (pc := 1) X (hd := dX7_dryStacks_1) (kk := ?_)
  refine v_iconst (pc := 2) X (v := nI 0) (hd := dX7_dryStacks_2) (kk := ?_)
  refine v_istore_n (pc := 3) X (hd := dX7_dryStacks_3) (kk := ?_)
  refine v_forp (pc := 4) (M := ns) (Lf := fun i => [some (.ref m), some (.int (fDryN w i)), some (.int (nI i))]) (hL := by rfl) (step := ?_) (out := ?_)
  · intro i hi kk
    refine v_iload_n (pc := 4) X (hd := dX7_dryStacks_4) (kk := ?_)
    refine v_aload_n (pc := 5) X (hd := dX7_dryStacks_5) (kk := ?_)
    refine g_X7_7 (pc := 6) X (hd := dX7_dryStacks_6) (hh := by first | assumption | exact pset_s _ _ _ | exact (pset_n (by omega)).trans (by assumption)) (kk := ?_)
    refine v_iconst (pc := 9) X (v := nI 3) (hd := dX7_dryStacks_9) (kk := ?_)
    refine v_ialdN (pc := 10) X (j := 3) (hd := dX7_dryStacks_10) (hh := by first | assumption | exact pset_s _ _ _ | exact (pset_n (by omega)).trans (by assumption)) (hi := by first | rfl | (simp only [pk_mul, nI_add]; done)) (hj := by omega) (kk := ?_)
    rw [hn]
    refine v_icmpge (pc := 11) X (tgt := 36) (hd := dX7_dryStacks_11) (kt := fun c11 => ?_) (kf := fun c11 => ?_)
    · exact absurd c11 (nI_ge hi (by omega))
    · refine v_iload_n (pc := 14) X (hd := dX7_dryStacks_14) (kk := ?_)
      refine v_aload_n (pc := 15) X (hd := dX7_dryStacks_15) (kk := ?_)
      refine v_iload_n (pc := 16) X (hd := dX7_dryStacks_16) (kk := ?_)
      refine v_callVp (pc := 17) X (hd := dX7_dryStacks_17) (w := wv_X7_91) (hC := c_X7_isDry l E _ _ _ _ _ _ _ _ _ _ _ _ _ i) (hp := ⟨hM, by omega⟩) (hb := by first | assumption | exact pset_s _ _ _ | exact (pset_n (by omega)).trans (by assumption)) (kk := ?_)
      refine v_ifeqB (pc := 20) X (tgt := 27) (hd := dX7_dryStacks_20) (kt := fun c20 => ?_) (kf := fun c20 => ?_)
      · rw [show fDryN w (i + 1) = fDryN w i + nI 0 from by show fDryN w i + _ = _; rw [if_neg c20]] at kk
        refine v_iconst (pc := 27) X (v := nI 0) (hd := dX7_dryStacks_27) (kk := ?_)
        refine v_iadd (pc := 28) X (hd := dX7_dryStacks_28) (kk := ?_)
        refine v_istore_n (pc := 29) X (hd := dX7_dryStacks_29) (kk := ?_)
        refine v_iincN (pc := 30) X (hd := dX7_dryStacks_30) (kk := ?_)
        refine v_goto (pc := 33) X (tgt := 4) (hd := dX7_dryStacks_33) (kk := ?_)
        exact kk
      · rw [show fDryN w (i + 1) = fDryN w i + nI 1 from by show fDryN w i + _ = _; rw [if_pos c20]] at kk
        refine v_iconst (pc := 23) X (v := nI 1) (hd := dX7_dryStacks_23) (kk := ?_)
        refine v_goto (pc := 24) X (tgt := 28) (hd := dX7_dryStacks_24) (kk := ?_)
        refine v_iadd (pc := 28) X (hd := dX7_dryStacks_28) (kk := ?_)
        refine v_istore_n (pc := 29) X (hd := dX7_dryStacks_29) (kk := ?_)
        refine v_iincN (pc := 30) X (hd := dX7_dryStacks_30) (kk := ?_)
        refine v_goto (pc := 33) X (tgt := 4) (hd := dX7_dryStacks_33) (kk := ?_)
        exact kk
  · skip
    refine v_iload_n (pc := 4) X (hd := dX7_dryStacks_4) (kk := ?_)
    refine v_aload_n (pc := 5) X (hd := dX7_dryStacks_5) (kk := ?_)
    refine g_X7_7 (pc := 6) X (hd := dX7_dryStacks_6) (hh := by first | assumption | exact pset_s _ _ _ | exact (pset_n (by omega)).trans (by assumption)) (kk := ?_)
    refine v_iconst (pc := 9) X (v := nI 3) (hd := dX7_dryStacks_9) (kk := ?_)
    refine v_ialdN (pc := 10) X (j := 3) (hd := dX7_dryStacks_10) (hh := by first | assumption | exact pset_s _ _ _ | exact (pset_n (by omega)).trans (by assumption)) (hi := by first | rfl | (simp only [pk_mul, nI_add]; done)) (hj := by omega) (kk := ?_)
    rw [hn]
    refine v_icmpge (pc := 11) X (tgt := 36) (hd := dX7_dryStacks_11) (kt := fun c11 => ?_) (kf := fun c11 => ?_)
    · refine v_iload_n (pc := 36) X (hd := dX7_dryStacks_36) (kk := ?_)
      exact v_endp (pc := 37) X hr hlk (hd := dX7_dryStacks_37) (hf := rfl)
    · exact absurd (Int32.le_refl _) c11
set_option maxRecDepth 100000 in
set_option maxHeartbeats 4000000 in
theorem c_X7_banksOf (l : Launch) (E : pE) (m : Nat) (w pa he te re : Nat → Int32) (ps rn ty at_ st ki co : Int32) (hh nb : Nat) : pC l E yX7_banksOf cX7_banksOf 4 (some .int) { frames := 2, cells := 0, slots := 0, locals := 44 } 0 0 [.ref m, .int (nI hh)] (fun h _ => MD m w pa he te re ps rn ty at_ st ki co h ∧ nb ≤ 4 ∧ w 2 = nI nb) (pFp ((fBanksOf w hh nb))) := by
  refine pC_of (by decide) (by simp [Value.category]) (Nat.le_of_ble_eq_true rfl) ?_
  intro h z hp p__ e__ s__ m__ args__ below__ meth__ c__ X hr hlk hname
  obtain ⟨hM, hE⟩ := hp
  have hM0 := hM
  obtain ⟨M0, M1, M2, M3, M4, M5⟩ := hM0
  obtain ⟨hn6, hn⟩ := hE
  refine v_iconst (pc := 0) X (v := nI 0) (hd := dX7_banksOf_0) (kk := ?_)
  refine v_istore_n (pc := 1) X (hd := dX7_banksOf_1) (kk := ?_)
  refine v_iconst (pc := 2) X (v := nI 0) (hd := dX7_banksOf_2) (kk := ?_)
  refine v_istore_n (pc := 3) X (hd := dX7_banksOf_3) (kk := ?_)
  refine v_forp (pc := 4) (M := nb) (Lf := fun i => [some (.ref m), some (.int (nI hh)), some (.int (fBanksOf w hh i)), some (.int (nI i))]) (hL := by rfl) (step := ?_) (out := ?_)
  · intro i hi kk
    refine v_iload_n (pc := 4) X (hd := dX7_banksOf_4) (kk := ?_)
    refine v_aload_n (pc := 5) X (hd := dX7_banksOf_5) (kk := ?_)
    refine g_X7_7 (pc := 6) X (hd := dX7_banksOf_6) (hh := by first | assumption | exact pset_s _ _ _ | exact (pset_n (by omega)).trans (by assumption)) (kk := ?_)
    refine v_iconst (pc := 9) X (v := nI 2) (hd := dX7_banksOf_9) (kk := ?_)
    refine v_ialdN (pc := 10) X (j := 2) (hd := dX7_banksOf_10) (hh := by first | assumption | exact pset_s _ _ _ | exact (pset_n (by omega)).trans (by assumption)) (hi := by first | rfl | (simp only [pk_mul, nI_add]; done)) (hj := by omega) (kk := ?_)
    rw [hn]
    refine v_icmpge (pc := 11) X (tgt := 37) (hd := dX7_banksOf_11) (kt := fun c11 => ?_) (kf := fun c11 => ?_)
    · exact absurd c11 (nI_ge hi (by omega))
    · refine v_iload_n (pc := 14) X (hd := dX7_banksOf_14) (kk := ?_)
      refine v_aload_n (pc := 15) X (hd := dX7_banksOf_15) (kk := ?_)
      refine v_iload_n (pc := 16) X (hd := dX7_banksOf_16) (kk := ?_)
      refine v_iload_n (pc := 17) X (hd := dX7_banksOf_17) (kk := ?_)
      refine v_callVp (pc := 18) X (hd := dX7_banksOf_18) (w := wv_X7_58) (hC := c_X7_hasRight l E _ _ _ _ _ _ _ _ _ _ _ _ _ (hh) (i)) (hp := ⟨hM, by omega⟩) (hb := by first | assumption | exact pset_s _ _ _ | exact (pset_n (by omega)).trans (by assumption)) (kk := ?_)
      refine v_ifeqB (pc := 21) X (tgt := 28) (hd := dX7_banksOf_21) (kt := fun c21 => ?_) (kf := fun c21 => ?_)
      · rw [show fBanksOf w hh (i + 1) = fBanksOf w hh i + nI 0 from by show fBanksOf w hh i + _ = _; rw [if_neg c21]] at kk
        refine v_iconst (pc := 28) X (v := nI 0) (hd := dX7_banksOf_28) (kk := ?_)
        refine v_iadd (pc := 29) X (hd := dX7_banksOf_29) (kk := ?_)
        refine v_istore_n (pc := 30) X (hd := dX7_banksOf_30) (kk := ?_)
        refine v_iincN (pc := 31) X (hd := dX7_banksOf_31) (kk := ?_)
        refine v_goto (pc := 34) X (tgt := 4) (hd := dX7_banksOf_34) (kk := ?_)
        exact kk
      · rw [show fBanksOf w hh (i + 1) = fBanksOf w hh i + nI 1 from by show fBanksOf w hh i + _ = _; rw [if_pos c21]] at kk
        refine v_iconst (pc := 24) X (v := nI 1) (hd := dX7_banksOf_24) (kk := ?_)
        refine v_goto (pc := 25) X (tgt := 29) (hd := dX7_banksOf_25) (kk := ?_)
        refine v_iadd (pc := 29) X (hd := dX7_banksOf_29) (kk := ?_)
        refine v_istore_n (pc := 30) X (hd := dX7_banksOf_30) (kk := ?_)
        refine v_iincN (pc := 31) X (hd := dX7_banksOf_31) (kk := ?_)
        refine v_goto (pc := 34) X (tgt := 4) (hd := dX7_banksOf_34) (kk := ?_)
        exact kk
  · skip
    refine v_iload_n (pc := 4) X (hd := dX7_banksOf_4) (kk := ?_)
    refine v_aload_n (pc := 5) X (hd := dX7_banksOf_5) (kk := ?_)
    refine g_X7_7 (pc := 6) X (hd := dX7_banksOf_6) (hh := by first | assumption | exact pset_s _ _ _ | exact (pset_n (by omega)).trans (by assumption)) (kk := ?_)
    refine v_iconst (pc := 9) X (v := nI 2) (hd := dX7_banksOf_9) (kk := ?_)
    refine v_ialdN (pc := 10) X (j := 2) (hd := dX7_banksOf_10) (hh := by first | assumption | exact pset_s _ _ _ | exact (pset_n (by omega)).trans (by assumption)) (hi := by first | rfl | (simp only [pk_mul, nI_add]; done)) (hj := by omega) (kk := ?_)
    rw [hn]
    refine v_icmpge (pc := 11) X (tgt := 37) (hd := dX7_banksOf_11) (kt := fun c11 => ?_) (kf := fun c11 => ?_)
    · refine v_iload_n (pc := 37) X (hd := dX7_banksOf_37) (kk := ?_)
      exact v_endp (pc := 38) X hr hlk (hd := dX7_banksOf_38) (hf := rfl)
    · exact absurd (Int32.le_refl _) c11
set_option maxRecDepth 100000 in
set_option maxHeartbeats 4000000 in
theorem c_X7_turfsAt (l : Launch) (E : pE) (m : Nat) (w pa he te re : Nat → Int32) (ps rn ty at_ st ki co : Int32) (b : Int32) (ns : Nat) : pC l E yX7_turfsAt cX7_turfsAt 4 (some .int) { frames := 1, cells := 0, slots := 0, locals := 22 } 0 0 [.ref m, .int b] (fun h _ => MD m w pa he te re ps rn ty at_ st ki co h ∧ ns ≤ 12 ∧ w 3 = nI ns) (pFp ((fTurfsAt w b ns))) := by
  refine pC_of (by decide) (by simp [Value.category]) (Nat.le_of_ble_eq_true rfl) ?_
  intro h z hp p__ e__ s__ m__ args__ below__ meth__ c__ X hr hlk hname
  obtain ⟨hM, hE⟩ := hp
  have hM0 := hM
  obtain ⟨M0, M1, M2, M3, M4, M5⟩ := hM0
  obtain ⟨hn6, hn⟩ := hE
  refine v_iconst (pc := 0) X (v := nI 0) (hd := dX7_turfsAt_0) (kk := ?_)
  refine v_istore_n (pc := 1) X (hd := dX7_turfsAt_1) (kk := ?_)
  refine v_iconst (pc := 2) X (v := nI 0) (hd := dX7_turfsAt_2) (kk := ?_)
  refine v_istore_n (pc := 3) X (hd := dX7_turfsAt_3) (kk := ?_)
  refine v_forp (pc := 4) (M := ns) (Lf := fun i => [some (.ref m), some (.int b), some (.int (fTurfsAt w b i)), some (.int (nI i))]) (hL := by rfl) (step := ?_) (out := ?_)
  · intro i hi kk
    refine v_iload_n (pc := 4) X (hd := dX7_turfsAt_4) (kk := ?_)
    refine v_aload_n (pc := 5) X (hd := dX7_turfsAt_5) (kk := ?_)
    refine g_X7_7 (pc := 6) X (hd := dX7_turfsAt_6) (hh := by first | assumption | exact pset_s _ _ _ | exact (pset_n (by omega)).trans (by assumption)) (kk := ?_)
    refine v_iconst (pc := 9) X (v := nI 3) (hd := dX7_turfsAt_9) (kk := ?_)
    refine v_ialdN (pc := 10) X (j := 3) (hd := dX7_turfsAt_10) (hh := by first | assumption | exact pset_s _ _ _ | exact (pset_n (by omega)).trans (by assumption)) (hi := by first | rfl | (simp only [pk_mul, nI_add]; done)) (hj := by omega) (kk := ?_)
    rw [hn]
    refine v_icmpge (pc := 11) X (tgt := 43) (hd := dX7_turfsAt_11) (kt := fun c11 => ?_) (kf := fun c11 => ?_)
    · exact absurd c11 (nI_ge hi (by omega))
    · refine v_iload_n (pc := 14) X (hd := dX7_turfsAt_14) (kk := ?_)
      refine v_aload_n (pc := 15) X (hd := dX7_turfsAt_15) (kk := ?_)
      refine v_iload_n (pc := 16) X (hd := dX7_turfsAt_16) (kk := ?_)
      refine v_iconst (pc := 17) X (v := nI 1) (hd := dX7_turfsAt_17) (kk := ?_)
      refine v_callVp (pc := 18) X (hd := dX7_turfsAt_18) (w := wv_X7_75) (hC := c_X7_inStack l E _ _ _ _ _ _ _ _ _ _ _ _ _ (i) 1) (hp := ⟨hM, by omega⟩) (hb := by first | assumption | exact pset_s _ _ _ | exact (pset_n (by omega)).trans (by assumption)) (kk := ?_)
      refine v_iload_n (pc := 21) X (hd := dX7_turfsAt_21) (kk := ?_)
      refine v_icmpne (pc := 22) X (tgt := 34) (hd := dX7_turfsAt_22) (kt := fun c22 => ?_) (kf := fun c22 => ?_)
      · rw [show fTurfsAt w b (i + 1) = fTurfsAt w b i + nI 0 from by show fTurfsAt w b i + _ = _; rw [if_neg c22]] at kk
        refine v_iconst (pc := 34) X (v := nI 0) (hd := dX7_turfsAt_34) (kk := ?_)
        refine v_iadd (pc := 35) X (hd := dX7_turfsAt_35) (kk := ?_)
        refine v_istore_n (pc := 36) X (hd := dX7_turfsAt_36) (kk := ?_)
        refine v_iincN (pc := 37) X (hd := dX7_turfsAt_37) (kk := ?_)
        refine v_goto (pc := 40) X (tgt := 4) (hd := dX7_turfsAt_40) (kk := ?_)
        exact kk
      · rw [show fTurfsAt w b (i + 1) = fTurfsAt w b i + w (76 + 5 * i + 2) from by show fTurfsAt w b i + _ = _; rw [if_pos (Classical.not_not.mp c22)]] at kk
        refine v_aload_n (pc := 25) X (hd := dX7_turfsAt_25) (kk := ?_)
        refine v_iload_n (pc := 26) X (hd := dX7_turfsAt_26) (kk := ?_)
        refine v_iconst (pc := 27) X (v := nI 2) (hd := dX7_turfsAt_27) (kk := ?_)
        refine v_callVp (pc := 28) X (hd := dX7_turfsAt_28) (w := wv_X7_75) (hC := c_X7_inStack l E _ _ _ _ _ _ _ _ _ _ _ _ _ (i) 2) (hp := ⟨hM, by omega⟩) (hb := by first | assumption | exact pset_s _ _ _ | exact (pset_n (by omega)).trans (by assumption)) (kk := ?_)
        refine v_goto (pc := 31) X (tgt := 35) (hd := dX7_turfsAt_31) (kk := ?_)
        refine v_iadd (pc := 35) X (hd := dX7_turfsAt_35) (kk := ?_)
        refine v_istore_n (pc := 36) X (hd := dX7_turfsAt_36) (kk := ?_)
        refine v_iincN (pc := 37) X (hd := dX7_turfsAt_37) (kk := ?_)
        refine v_goto (pc := 40) X (tgt := 4) (hd := dX7_turfsAt_40) (kk := ?_)
        exact kk
  · skip
    refine v_iload_n (pc := 4) X (hd := dX7_turfsAt_4) (kk := ?_)
    refine v_aload_n (pc := 5) X (hd := dX7_turfsAt_5) (kk := ?_)
    refine g_X7_7 (pc := 6) X (hd := dX7_turfsAt_6) (hh := by first | assumption | exact pset_s _ _ _ | exact (pset_n (by omega)).trans (by assumption)) (kk := ?_)
    refine v_iconst (pc := 9) X (v := nI 3) (hd := dX7_turfsAt_9) (kk := ?_)
    refine v_ialdN (pc := 10) X (j := 3) (hd := dX7_turfsAt_10) (hh := by first | assumption | exact pset_s _ _ _ | exact (pset_n (by omega)).trans (by assumption)) (hi := by first | rfl | (simp only [pk_mul, nI_add]; done)) (hj := by omega) (kk := ?_)
    rw [hn]
    refine v_icmpge (pc := 11) X (tgt := 43) (hd := dX7_turfsAt_11) (kt := fun c11 => ?_) (kf := fun c11 => ?_)
    · refine v_iload_n (pc := 43) X (hd := dX7_turfsAt_43) (kk := ?_)
      exact v_endp (pc := 44) X hr hlk (hd := dX7_turfsAt_44) (hf := rfl)
    · exact absurd (Int32.le_refl _) c11
set_option maxRecDepth 100000 in
set_option maxHeartbeats 4000000 in
theorem c_X7_stacksOf (l : Launch) (E : pE) (m : Nat) (w pa he te re : Nat → Int32) (ps rn ty at_ st ki co : Int32) (hh : Int32) (tf : Bool) (ns : Nat) : pC l E yX7_stacksOf cX7_stacksOf 5 (some .int) { frames := 1, cells := 0, slots := 0, locals := 22 } 0 0 [.ref m, .int hh, .int (bI (tf = true))] (fun h _ => MD m w pa he te re ps rn ty at_ st ki co h ∧ ns ≤ 12 ∧ w 3 = nI ns) (pFp ((fStacksOf w hh tf ns))) := by
  refine pC_of (by decide) (by simp [Value.category]) (Nat.le_of_ble_eq_true rfl) ?_
  intro h z hp p__ e__ s__ m__ args__ below__ meth__ c__ X hr hlk hname
  obtain ⟨hM, hE⟩ := hp
  have hM0 := hM
  obtain ⟨M0, M1, M2, M3, M4, M5⟩ := hM0
  obtain ⟨hn6, hn⟩ := hE
  refine v_iconst (pc := 0) X (v := nI 0) (hd := dX7_stacksOf_0) (kk := ?_)
  refine v_istore_n (pc := 1) X (hd := dX7_stacksOf_1) (kk := ?_)
  refine v_iconst (pc := 2) X (v := nI 0) (hd := dX7_stacksOf_2) (kk := ?_)
  refine v_istore (pc := 3) X (hd := dX7_stacksOf_3) (kk := ?_)
  refine v_forp (pc := 5) (M := ns) (Lf := fun i => [some (.ref m), some (.int hh), some (.int (bI (tf = true))), some (.int (fStacksOf w hh tf i)), some (.int (nI i))]) (hL := by rfl) (step := ?_) (out := ?_)
  · intro i hi kk
    refine v_iload (pc := 5) X (hd := dX7_stacksOf_5) (kk := ?_)
    refine v_aload_n (pc := 7) X (hd := dX7_stacksOf_7) (kk := ?_)
    refine g_X7_7 (pc := 8) X (hd := dX7_stacksOf_8) (hh := by first | assumption | exact pset_s _ _ _ | exact (pset_n (by omega)).trans (by assumption)) (kk := ?_)
    refine v_iconst (pc := 11) X (v := nI 3) (hd := dX7_stacksOf_11) (kk := ?_)
    refine v_ialdN (pc := 12) X (j := 3) (hd := dX7_stacksOf_12) (hh := by first | assumption | exact pset_s _ _ _ | exact (pset_n (by omega)).trans (by assumption)) (hi := by first | rfl | (simp only [pk_mul, nI_add]; done)) (hj := by omega) (kk := ?_)
    rw [hn]
    refine v_icmpge (pc := 13) X (tgt := 55) (hd := dX7_stacksOf_13) (kt := fun c13 => ?_) (kf := fun c13 => ?_)
    · exact absurd c13 (nI_ge hi (by omega))
    · refine v_iload_n (pc := 16) X (hd := dX7_stacksOf_16) (kk := ?_)
      refine v_aload_n (pc := 17) X (hd := dX7_stacksOf_17) (kk := ?_)
      refine v_iload (pc := 18) X (hd := dX7_stacksOf_18) (kk := ?_)
      refine v_iconst (pc := 20) X (v := nI 0) (hd := dX7_stacksOf_20) (kk := ?_)
      refine v_callVp (pc := 21) X (hd := dX7_stacksOf_21) (w := wv_X7_75) (hC := c_X7_inStack l E _ _ _ _ _ _ _ _ _ _ _ _ _ (i) 0) (hp := ⟨hM, by omega⟩) (hb := by first | assumption | exact pset_s _ _ _ | exact (pset_n (by omega)).trans (by assumption)) (kk := ?_)
      refine v_iload_n (pc := 24) X (hd := dX7_stacksOf_24) (kk := ?_)
      refine v_icmpeq (pc := 25) X (tgt := 32) (hd := dX7_stacksOf_25) (kt := fun c25 => ?_) (kf := fun c25 => ?_)
      · refine v_iload_n (pc := 32) X (hd := dX7_stacksOf_32) (kk := ?_)
        refine v_ifeqB (pc := 33) X (tgt := 46) (hd := dX7_stacksOf_33) (kt := fun c33 => ?_) (kf := fun c33 => ?_)
        · rw [show fStacksOf w hh tf (i + 1) = fStacksOf w hh tf i + nI 1 from by show fStacksOf w hh tf i + _ = _; rw [if_pos c25, if_neg c33]] at kk
          refine v_iconst (pc := 46) X (v := nI 1) (hd := dX7_stacksOf_46) (kk := ?_)
          refine v_iadd (pc := 47) X (hd := dX7_stacksOf_47) (kk := ?_)
          refine v_istore_n (pc := 48) X (hd := dX7_stacksOf_48) (kk := ?_)
          refine v_iincN (pc := 49) X (hd := dX7_stacksOf_49) (kk := ?_)
          refine v_goto (pc := 52) X (tgt := 5) (hd := dX7_stacksOf_52) (kk := ?_)
          exact kk
        · rw [show fStacksOf w hh tf (i + 1) = fStacksOf w hh tf i + w (76 + 5 * i + 2) from by show fStacksOf w hh tf i + _ = _; rw [if_pos c25, if_pos c33]] at kk
          refine v_aload_n (pc := 36) X (hd := dX7_stacksOf_36) (kk := ?_)
          refine v_iload (pc := 37) X (hd := dX7_stacksOf_37) (kk := ?_)
          refine v_iconst (pc := 39) X (v := nI 2) (hd := dX7_stacksOf_39) (kk := ?_)
          refine v_callVp (pc := 40) X (hd := dX7_stacksOf_40) (w := wv_X7_75) (hC := c_X7_inStack l E _ _ _ _ _ _ _ _ _ _ _ _ _ (i) 2) (hp := ⟨hM, by omega⟩) (hb := by first | assumption | exact pset_s _ _ _ | exact (pset_n (by omega)).trans (by assumption)) (kk := ?_)
          refine v_goto (pc := 43) X (tgt := 47) (hd := dX7_stacksOf_43) (kk := ?_)
          refine v_iadd (pc := 47) X (hd := dX7_stacksOf_47) (kk := ?_)
          refine v_istore_n (pc := 48) X (hd := dX7_stacksOf_48) (kk := ?_)
          refine v_iincN (pc := 49) X (hd := dX7_stacksOf_49) (kk := ?_)
          refine v_goto (pc := 52) X (tgt := 5) (hd := dX7_stacksOf_52) (kk := ?_)
          exact kk
      · rw [show fStacksOf w hh tf (i + 1) = fStacksOf w hh tf i + nI 0 from by show fStacksOf w hh tf i + _ = _; rw [if_neg c25]] at kk
        refine v_iconst (pc := 28) X (v := nI 0) (hd := dX7_stacksOf_28) (kk := ?_)
        refine v_goto (pc := 29) X (tgt := 47) (hd := dX7_stacksOf_29) (kk := ?_)
        refine v_iadd (pc := 47) X (hd := dX7_stacksOf_47) (kk := ?_)
        refine v_istore_n (pc := 48) X (hd := dX7_stacksOf_48) (kk := ?_)
        refine v_iincN (pc := 49) X (hd := dX7_stacksOf_49) (kk := ?_)
        refine v_goto (pc := 52) X (tgt := 5) (hd := dX7_stacksOf_52) (kk := ?_)
        exact kk
  · skip
    refine v_iload (pc := 5) X (hd := dX7_stacksOf_5) (kk := ?_)
    refine v_aload_n (pc := 7) X (hd := dX7_stacksOf_7) (kk := ?_)
    refine g_X7_7 (pc := 8) X (hd := dX7_stacksOf_8) (hh := by first | assumption | exact pset_s _ _ _ | exact (pset_n (by omega)).trans (by assumption)) (kk := ?_)
    refine v_iconst (pc := 11) X (v := nI 3) (hd := dX7_stacksOf_11) (kk := ?_)
    refine v_ialdN (pc := 12) X (j := 3) (hd := dX7_stacksOf_12) (hh := by first | assumption | exact pset_s _ _ _ | exact (pset_n (by omega)).trans (by assumption)) (hi := by first | rfl | (simp only [pk_mul, nI_add]; done)) (hj := by omega) (kk := ?_)
    rw [hn]
    refine v_icmpge (pc := 13) X (tgt := 55) (hd := dX7_stacksOf_13) (kt := fun c13 => ?_) (kf := fun c13 => ?_)
    · refine v_iload_n (pc := 55) X (hd := dX7_stacksOf_55) (kk := ?_)
      exact v_endp (pc := 56) X hr hlk (hd := dX7_stacksOf_56) (hf := rfl)
    · exact absurd (Int32.le_refl _) c13
set_option maxRecDepth 100000 in
set_option maxHeartbeats 4000000 in
theorem c_X7_most (l : Launch) (E : pE) (m : Nat) (w pa he te re : Nat → Int32) (ps rn ty at_ st ki co : Int32) (k9 : Nat) (t b : Int32) : pC l E yX7_most cX7_most 5 (some .int) { frames := 2, cells := 0, slots := 0, locals := 43 } 0 0 [.ref m, .int (nI k9), .int t, .int b] (fun h _ => MD m w pa he te re ps rn ty at_ st ki co h ∧ 76 + 5 * k9 + 3 < 410 ∧ ¬ fW (w (76 + 5 * k9 + 3)) = 0) (pFp ((fMost (w (76 + 5 * k9 + 3)) t b))) := by
  refine pC_of (by decide) (by simp [Value.category]) (Nat.le_of_ble_eq_true rfl) ?_
  intro h z hp p__ e__ s__ m__ args__ below__ meth__ c__ X hr hlk hname
  obtain ⟨hM, hE⟩ := hp
  have hM0 := hM
  obtain ⟨M0, M1, M2, M3, M4, M5⟩ := hM0
  refine v_iload_n (pc := 0) X (hd := dX7_most_0) (kk := ?_)
  refine v_sipush (pc := 1) X (v := nI 1000) (hd := dX7_most_1) (kk := ?_)
  refine v_imul (pc := 4) X (hd := dX7_most_4) (kk := ?_)
  refine v_aload_n (pc := 5) X (hd := dX7_most_5) (kk := ?_)
  refine v_iload_n (pc := 6) X (hd := dX7_most_6) (kk := ?_)
  refine v_callVp (pc := 7) X (hd := dX7_most_7) (w := wv_X7_82) (hC := c_X7_weight l E _ _ _ _ _ _ _ _ _ _ _ _ _ k9) (hp := ⟨hM, hE.1⟩) (hb := by first | assumption | exact pset_s _ _ _ | exact (pset_n (by omega)).trans (by assumption)) (kk := ?_)
  refine v_idiv (pc := 10) X (hd := dX7_most_10) (hne := hE.2) (kk := ?_)
  refine v_istore (pc := 11) X (hd := dX7_most_11) (kk := ?_)
  refine v_iload (pc := 13) X (hd := dX7_most_13) (kk := ?_)
  refine v_iload_n (pc := 15) X (hd := dX7_most_15) (kk := ?_)
  refine v_icmpge (pc := 16) X (tgt := 24) (hd := dX7_most_16) (kt := fun c16 => ?_) (kf := fun c16 => ?_)
  · refine v_iload_n (pc := 24) X (hd := dX7_most_24) (kk := ?_)
    refine v_istore (pc := 25) X (hd := dX7_most_25) (kk := ?_)
    refine v_iload (pc := 27) X (hd := dX7_most_27) (kk := ?_)
    refine v_sipush (pc := 29) X (v := nI 1000) (hd := dX7_most_29) (kk := ?_)
    refine v_icmpge (pc := 32) X (tgt := 40) (hd := dX7_most_32) (kt := fun c32 => ?_) (kf := fun c32 => ?_)
    · refine v_sipush (pc := 40) X (v := nI 1000) (hd := dX7_most_40) (kk := ?_)
      exact v_endp (pc := 43) X hr hlk (hd := dX7_most_43) (hf := by unfold fMost; rw [fMn_f c16, fMn_f c32])
    · refine v_iload (pc := 35) X (hd := dX7_most_35) (kk := ?_)
      refine v_goto (pc := 37) X (tgt := 43) (hd := dX7_most_37) (kk := ?_)
      exact v_endp (pc := 43) X hr hlk (hd := dX7_most_43) (hf := by unfold fMost; rw [fMn_f c16, fMn_t c32])
  · refine v_iload (pc := 19) X (hd := dX7_most_19) (kk := ?_)
    refine v_goto (pc := 21) X (tgt := 25) (hd := dX7_most_21) (kk := ?_)
    refine v_istore (pc := 25) X (hd := dX7_most_25) (kk := ?_)
    refine v_iload (pc := 27) X (hd := dX7_most_27) (kk := ?_)
    refine v_sipush (pc := 29) X (v := nI 1000) (hd := dX7_most_29) (kk := ?_)
    refine v_icmpge (pc := 32) X (tgt := 40) (hd := dX7_most_32) (kt := fun c32 => ?_) (kf := fun c32 => ?_)
    · refine v_sipush (pc := 40) X (v := nI 1000) (hd := dX7_most_40) (kk := ?_)
      exact v_endp (pc := 43) X hr hlk (hd := dX7_most_43) (hf := by unfold fMost; rw [fMn_t c16, fMn_f c32])
    · refine v_iload (pc := 35) X (hd := dX7_most_35) (kk := ?_)
      refine v_goto (pc := 37) X (tgt := 43) (hd := dX7_most_37) (kk := ?_)
      exact v_endp (pc := 43) X hr hlk (hd := dX7_most_43) (hf := by unfold fMost; rw [fMn_t c16, fMn_t c32])
