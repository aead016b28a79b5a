/-! numbers -/
theorem pset_id {h : pH} {a : Nat} {x : va_E} (hh : h a = some x) : h = pset h a x := by
  funext q
  unfold pset
  by_cases e : q = a
  · rw [if_pos e, e]; exact hh
  · rw [if_neg e]
theorem nI_t : nI 1 = 1 := by decide +kernel
theorem nI_z : nI 0 = 0 := by decide +kernel
theorem bI_1 {P : Prop} [Decidable P] (hp : P) : nI 1 = bI P := by rw [bI_t hp]; exact nI_t
theorem bI_0 {P : Prop} [Decidable P] (hp : ¬ P) : nI 0 = bI P := by rw [bI_f hp]; exact nI_z
theorem n_lt {x y : Int32} : x < y ↔ x.toInt < y.toInt := Int32.lt_iff_toInt_lt
theorem n_le {x y : Int32} : x ≤ y ↔ x.toInt ≤ y.toInt := Int32.le_iff_toInt_le
theorem n_nlt {x y : Int32} (h : ¬ x < y) : y ≤ x := by rw [n_lt] at h; rw [n_le]; omega
theorem n_nle {x y : Int32} (h : ¬ x ≤ y) : y < x := by rw [n_le] at h; rw [n_lt]; omega
theorem n_eq {x y : Int32} (h : x.toInt = y.toInt) : x = y := Int32.toInt_inj.mp h
def bt (x : Int32) (i : Nat) : Int32 := (x >>> (nI i &&& 31)) &&& nI 1
def fW (w : Int32) : Int32 := nI 1000 + w / nI 100
def fLoad (w t : Int32) : Int32 := (t * fW w + nI 999) / nI 1000
def fBear (s r w : Int32) : Int32 := if s - nI 40 * r - w < 0 then nI 0 else s - nI 40 * r - w
def fMn (a b : Int32) : Int32 := if a < b then a else b
theorem fMn_t {a b : Int32} (h : ¬ b ≤ a) : fMn a b = a := if_pos (n_nle h)
theorem fMn_f {a b : Int32} (h : b ≤ a) : fMn a b = b := if_neg (fun q => by rw [n_lt] at q; rw [n_le] at h; omega)
def fMost (w t b : Int32) : Int32 := fMn (fMn (b * nI 1000 / fW w) t) (nI 1000)
def fWear (l : Int32) : Int32 := (l + nI 49) / nI 50
theorem n_max0 (x : Int32) : (if nI 0 < x then x else nI 0) = if x < 0 then nI 0 else x := by
  have z : (nI 0).toInt = 0 := by decide +kernel
  have z2 : (0 : Int32).toInt = 0 := by decide +kernel
  by_cases h1 : x < 0
  · rw [if_pos h1, if_neg (by rw [n_lt] at h1 ⊢; omega)]
  · rw [if_neg h1]
    by_cases h2 : nI 0 < x
    · rw [if_pos h2]
    · rw [if_neg h2]
      exact n_eq (by rw [n_lt] at h1 h2; omega)
theorem n_min3 (a b c : Int32) : (if (if c < b then c else b) < a then (if c < b then c else b) else a) = if (if a < b then a else b) < c then (if a < b then a else b) else c := by
  simp only [n_lt]
  apply n_eq
  by_cases h1 : c.toInt < b.toInt <;> by_cases h2 : a.toInt < b.toInt <;> simp only [h1, h2, if_true, if_false] <;> (repeat' split) <;> omega
/-- the number of the first k that are set -/
def fCnt (f : Nat → Int32) : Nat → Int32
  | 0 => nI 0
  | k + 1 => fCnt f k + f k
theorem bt_01 : ∀ x, x < 64 → ∀ i, i < 6 → (bt (nI x) i = 0 ∨ bt (nI x) i = 1) := by decide +kernel
theorem bt_or : ∀ x, x < 64 → ∀ i, i < 6 → (bt (nI x) i = 0 → nI (x % 2 ^ i) = nI (x % 2 ^ (i + 1))) ∧ (¬ bt (nI x) i = 0 → nI (x % 2 ^ i) ||| nI 1 <<< (nI i &&& 31) = nI (x % 2 ^ (i + 1))) := by decide +kernel
/-! the leaves: objects by their fields -/
set_option maxRecDepth 100000 in
set_option maxHeartbeats 4000000 in
theorem c_X6_isWithin (l : Launch) (E : pE) (x lo hi : Int32) : pC l E yX6_isWithin cX6_isWithin 3 (some .boolean) { frames := 0, cells := 0, slots := 0, locals := 0 } 0 0 [.int x, .int lo, .int hi] (fun h _ => True) (pFp ((bI (lo ≤ x ∧ x ≤ hi)))) := by
  refine pC_of (by decide) (by simp [Value.category]) (Nat.le_of_ble_eq_true rfl) ?_
  intro h z hp p__ e__ s__ m__ args__ below__ meth__ c__ X hr hlk hname
  refine v_iload_n (pc := 0) X (hd := dX6_isWithin_0) (kk := ?_)
  refine v_iload_n (pc := 1) X (hd := dX6_isWithin_1) (kk := ?_)
  refine v_icmplt (pc := 2) X (tgt := 14) (hd := dX6_isWithin_2) (kt := fun c2 => ?_) (kf := fun c2 => ?_)
  · refine v_iconst (pc := 14) X (v := nI 0) (hd := dX6_isWithin_14) (kk := ?_)
    exact v_endb (pc := 15) X hr hlk (hd := dX6_isWithin_15) (hf := bI_0 (fun q => by have q1 := q.1; rw [n_le] at q1; rw [n_lt] at c2; omega))
  · refine v_iload_n (pc := 5) X (hd := dX6_isWithin_5) (kk := ?_)
    refine v_iload_n (pc := 6) X (hd := dX6_isWithin_6) (kk := ?_)
    refine v_icmpgt (pc := 7) X (tgt := 14) (hd := dX6_isWithin_7) (kt := fun c7 => ?_) (kf := fun c7 => ?_)
    · refine v_iconst (pc := 14) X (v := nI 0) (hd := dX6_isWithin_14) (kk := ?_)
      exact v_endb (pc := 15) X hr hlk (hd := dX6_isWithin_15) (hf := bI_0 (fun q => by have q1 := q.2; rw [n_le] at q1; rw [n_lt] at c7; omega))
    · refine v_iconst (pc := 10) X (v := nI 1) (hd := dX6_isWithin_10) (kk := ?_)
      refine v_goto (pc := 11) X (tgt := 15) (hd := dX6_isWithin_11) (kk := ?_)
      exact v_endb (pc := 15) X hr hlk (hd := dX6_isWithin_15) (hf := bI_1 ⟨n_nlt c2, n_nlt c7⟩)
set_option maxRecDepth 100000 in
set_option maxHeartbeats 4000000 in
theorem c_X5_isDry (l : Launch) (E : pE) (a : Nat) (o b t w n : Int32) : pC l E yX5_isDry cX5_isDry 1 (some .boolean) { frames := 0, cells := 0, slots := 0, locals := 0 } 0 0 [.ref a] (fun h _ => h a = some (ob 5 [.int o, .int b, .int t, .int w, .int n])) (pFp ((bI (w ≤ nI 30000)))) := by
  refine pC_of (by decide) (by simp [Value.category]) (Nat.le_of_ble_eq_true rfl) ?_
  intro h z hp p__ e__ s__ m__ args__ below__ meth__ c__ X hr hlk hname
  refine v_aload_n (pc := 0) X (hd := dX5_isDry_0) (kk := ?_)
  refine g_X5_21 (pc := 1) X (hd := dX5_isDry_1) (hh := by first | assumption | exact pset_s _ _ _ | exact (pset_n (by omega)).trans (by assumption)) (kk := ?_)
  refine v_sipush (pc := 4) X (v := nI 30000) (hd := dX5_isDry_4) (kk := ?_)
  refine v_icmpgt (pc := 7) X (tgt := 14) (hd := dX5_isDry_7) (kt := fun c7 => ?_) (kf := fun c7 => ?_)
  · refine v_iconst (pc := 14) X (v := nI 0) (hd := dX5_isDry_14) (kk := ?_)
    exact v_endb (pc := 15) X hr hlk (hd := dX5_isDry_15) (hf := bI_0 (fun q => by rw [n_le] at q; rw [n_lt] at c7; omega))
  · refine v_iconst (pc := 10) X (v := nI 1) (hd := dX5_isDry_10) (kk := ?_)
    refine v_goto (pc := 11) X (tgt := 15) (hd := dX5_isDry_11) (kk := ?_)
    exact v_endb (pc := 15) X hr hlk (hd := dX5_isDry_15) (hf := bI_1 (n_nlt c7))
set_option maxRecDepth 100000 in
set_option maxHeartbeats 4000000 in
theorem c_X5_turfWeight (l : Launch) (E : pE) (a : Nat) (o b t w n : Int32) : pC l E yX5_turfWeight cX5_turfWeight 1 (some .int) { frames := 0, cells := 0, slots := 0, locals := 0 } 0 0 [.ref a] (fun h _ => h a = some (ob 5 [.int o, .int b, .int t, .int w, .int n])) (pFp ((fW w))) := by
  refine pC_of (by decide) (by simp [Value.category]) (Nat.le_of_ble_eq_true rfl) ?_
  intro h z hp p__ e__ s__ m__ args__ below__ meth__ c__ X hr hlk hname
  refine v_sipush (pc := 0) X (v := nI 1000) (hd := dX5_turfWeight_0) (kk := ?_)
  refine v_aload_n (pc := 3) X (hd := dX5_turfWeight_3) (kk := ?_)
  refine g_X5_21 (pc := 4) X (hd := dX5_turfWeight_4) (hh := by first | assumption | exact pset_s _ _ _ | exact (pset_n (by omega)).trans (by assumption)) (kk := ?_)
  refine v_bipush (pc := 7) X (v := nI 100) (hd := dX5_turfWeight_7) (kk := ?_)
  refine v_idiv (pc := 9) X (hd := dX5_turfWeight_9) (hne := by decide +kernel) (kk := ?_)
  refine v_iadd (pc := 10) X (hd := dX5_turfWeight_10) (kk := ?_)
  exact v_endp (pc := 11) X hr hlk (hd := dX5_turfWeight_11) (hf := rfl)
set_option maxRecDepth 100000 in
set_option maxHeartbeats 4000000 in
theorem c_X5_loadOf (l : Launch) (E : pE) (a : Nat) (o b t w n num : Int32) : pC l E yX5_loadOf cX5_loadOf 2 (some .int) { frames := 1, cells := 0, slots := 0, locals := 20 } 0 0 [.ref a, .int num] (fun h _ => h a = some (ob 5 [.int o, .int b, .int t, .int w, .int n])) (pFp ((fLoad w num))) := by
  refine pC_of (by decide) (by simp [Value.category]) (Nat.le_of_ble_eq_true rfl) ?_
  intro h z hp p__ e__ s__ m__ args__ below__ meth__ c__ X hr hlk hname
  refine v_iload_n (pc := 0) X (hd := dX5_loadOf_0) (kk := ?_)
  refine v_aload_n (pc := 1) X (hd := dX5_loadOf_1) (kk := ?_)
  refine v_callVp (pc := 2) X (hd := dX5_loadOf_2) (w := wv_X5_27) (hC := c_X5_turfWeight l E _ _ _ _ _ _) (hp := by assumption) (hb := by first | assumption | exact pset_s _ _ _ | exact (pset_n (by omega)).trans (by assumption)) (kk := ?_)
  refine v_imul (pc := 5) X (hd := dX5_loadOf_5) (kk := ?_)
  refine v_sipush (pc := 6) X (v := nI 999) (hd := dX5_loadOf_6) (kk := ?_)
  refine v_iadd (pc := 9) X (hd := dX5_loadOf_9) (kk := ?_)
  refine v_sipush (pc := 10) X (v := nI 1000) (hd := dX5_loadOf_10) (kk := ?_)
  refine v_idiv (pc := 13) X (hd := dX5_loadOf_13) (hne := by decide +kernel) (kk := ?_)
  exact v_endp (pc := 14) X hr hlk (hd := dX5_loadOf_14) (hf := rfl)
set_option maxRecDepth 100000 in
set_option maxHeartbeats 4000000 in
theorem c_X0_bearing (l : Launch) (E : pE) (a ga ca2 : Nat) (al st we cu ca le : Int32) (w r : Int32) : pC l E yX0_bearing cX0_bearing 3 (some .int) { frames := 1, cells := 0, slots := 0, locals := 21 } 0 0 [.ref a, .int w, .int r] (fun h _ => h a = some (ob 0 [.int al, .int st, .int we, .int cu, .int ca, .int le, .ref ga, .ref ca2])) (pFp ((fBear st r w))) := by
  refine pC_of (by decide) (by simp [Value.category]) (Nat.le_of_ble_eq_true rfl) ?_
  intro h z hp p__ e__ s__ m__ args__ below__ meth__ c__ X hr hlk hname
  refine v_iconst (pc := 0) X (v := nI 0) (hd := dX0_bearing_0) (kk := ?_)
  refine v_aload_n (pc := 1) X (hd := dX0_bearing_1) (kk := ?_)
  refine g_X0_15 (pc := 2) X (hd := dX0_bearing_2) (hh := by first | assumption | exact pset_s _ _ _ | exact (pset_n (by omega)).trans (by assumption)) (kk := ?_)
  refine v_bipush (pc := 5) X (v := nI 40) (hd := dX0_bearing_5) (kk := ?_)
  refine v_iload_n (pc := 7) X (hd := dX0_bearing_7) (kk := ?_)
  refine v_imul (pc := 8) X (hd := dX0_bearing_8) (kk := ?_)
  refine v_isub (pc := 9) X (hd := dX0_bearing_9) (kk := ?_)
  refine v_iload_n (pc := 10) X (hd := dX0_bearing_10) (kk := ?_)
  refine v_isub (pc := 11) X (hd := dX0_bearing_11) (kk := ?_)
  refine v_max (pc := 12) X (hd := dX0_bearing_12) (hw1 := wm_X0_38) (hw2 := wt_max) (hw3 := wi_Math) (hw4 := wc_max) (kk := ?_)
  exact v_endp (pc := 15) X hr hlk (hd := dX0_bearing_15) (hf := n_max0 _)
set_option maxRecDepth 100000 in
set_option maxHeartbeats 4000000 in
theorem c_X0_wearBy (l : Launch) (E : pE) (x : Int32) : pC l E yX0_wearBy cX0_wearBy 1 (some .int) { frames := 0, cells := 0, slots := 0, locals := 0 } 0 0 [.int x] (fun h _ => True) (pFp ((fWear x))) := by
  refine pC_of (by decide) (by simp [Value.category]) (Nat.le_of_ble_eq_true rfl) ?_
  intro h z hp p__ e__ s__ m__ args__ below__ meth__ c__ X hr hlk hname
  refine v_iload_n (pc := 0) X (hd := dX0_wearBy_0) (kk := ?_)
  refine v_bipush (pc := 1) X (v := nI 49) (hd := dX0_wearBy_1) (kk := ?_)
  refine v_iadd (pc := 3) X (hd := dX0_wearBy_3) (kk := ?_)
  refine v_bipush (pc := 4) X (v := nI 50) (hd := dX0_wearBy_4) (kk := ?_)
  refine v_idiv (pc := 6) X (hd := dX0_wearBy_6) (hne := by decide +kernel) (kk := ?_)
  exact v_endp (pc := 7) X hr hlk (hd := dX0_wearBy_7) (hf := rfl)
set_option maxRecDepth 100000 in
set_option maxHeartbeats 4000000 in
theorem c_X0_holders (l : Launch) (E : pE) (a ga ca2 : Nat) (al st we cu ca le : Int32) (f : Nat → Int32) : pC l E yX0_holders cX0_holders 3 (some .int) { frames := 0, cells := 0, slots := 0, locals := 0 } 0 0 [.ref a] (fun h _ => h a = some (ob 0 [.int al, .int st, .int we, .int cu, .int ca, .int le, .ref ga, .ref ca2]) ∧ h ga = some (ai 2 6 f) ∧ ∀ i, i < 6 → (f i = 0 ∨ f i = 1)) (pFp ((fCnt f 6))) := by
  refine pC_of (by decide) (by simp [Value.category]) (Nat.le_of_ble_eq_true rfl) ?_
  intro h z hp p__ e__ s__ m__ args__ below__ meth__ c__ X hr hlk hname
  obtain ⟨hp1, hp2, hp3⟩ := hp
  refine v_iconst (pc := 0) X (v := nI 0) (hd := dX0_holders_0) (kk := ?_)
  refine v_istore_n (pc := 1) X (hd := dX0_holders_1) (kk := ?_)
  refine v_iconst (pc := 2) X (v := nI 0) (hd := dX0_holders_2) (kk := ?_)
  refine v_istore_n (pc := 3) X (hd := dX0_holders_3) (kk := ?_)
  refine v_forp (pc := 4) (M := 6) (Lf := fun i => [some (.ref a), some (.int (fCnt f i)), some (.int (nI i))]) (hL := by rfl) (step := ?_) (out := ?_)
  · intro i hi kk
    refine v_iload_n (pc := 4) X (hd := dX0_holders_4) (kk := ?_)
    refine v_bipush (pc := 5) X (v := nI 6) (hd := dX0_holders_5) (kk := ?_)
    refine v_icmpge (pc := 7) X (tgt := 28) (hd := dX0_holders_7) (kt := fun c7 => ?_) (kf := fun c7 => ?_)
    · exact absurd c7 (nI_ge hi (by omega))
    · refine v_aload_n (pc := 10) X (hd := dX0_holders_10) (kk := ?_)
      refine g_X0_30 (pc := 11) X (hd := dX0_holders_11) (hh := by first | assumption | exact pset_s _ _ _ | exact (pset_n (by omega)).trans (by assumption)) (kk := ?_)
      refine v_iload_n (pc := 14) X (hd := dX0_holders_14) (kk := ?_)
      refine v_zaldN (pc := 15) X (j := i) (hd := dX0_holders_15) (hh := hp2) (hi := by first | rfl | (simp only [pk_mul, nI_add]; done)) (hj := by omega) (kk := ?_)
      refine v_ifeq (pc := 16) X (tgt := 22) (hd := dX0_holders_16) (kt := fun c16 => ?_) (kf := fun c16 => ?_)
      · rw [show fCnt f (i + 1) = fCnt f i from by show fCnt f i + f i = _; rw [c16]; exact Int32.add_zero _] at kk
        refine v_iincN (pc := 22) X (hd := dX0_holders_22) (kk := ?_)
        refine v_goto (pc := 25) X (tgt := 4) (hd := dX0_holders_25) (kk := ?_)
        exact kk
      · have c17 : f i = 1 := (hp3 i hi).resolve_left c16
        rw [show fCnt f (i + 1) = fCnt f i + 1 from by show fCnt f i + f i = _; rw [c17]] at kk
        refine v_iinc1 (pc := 19) X (hd := dX0_holders_19) (kk := ?_)
        refine v_iincN (pc := 22) X (hd := dX0_holders_22) (kk := ?_)
        refine v_goto (pc := 25) X (tgt := 4) (hd := dX0_holders_25) (kk := ?_)
        exact kk
  · skip
    refine v_iload_n (pc := 4) X (hd := dX0_holders_4) (kk := ?_)
    refine v_bipush (pc := 5) X (v := nI 6) (hd := dX0_holders_5) (kk := ?_)
    refine v_icmpge (pc := 7) X (tgt := 28) (hd := dX0_holders_7) (kt := fun c7 => ?_) (kf := fun c7 => ?_)
    · refine v_iload_n (pc := 28) X (hd := dX0_holders_28) (kk := ?_)
      exact v_endp (pc := 29) X hr hlk (hd := dX0_holders_29) (hf := rfl)
    · exact absurd (Int32.le_refl _) c7
set_option maxRecDepth 100000 in
set_option maxHeartbeats 4000000 in
theorem c_X0_holdersAsBits (l : Launch) (E : pE) (a ga ca2 : Nat) (al st we cu ca le : Int32) (f : Nat → Int32) (x : Nat) : pC l E yX0_holdersAsBits cX0_holdersAsBits 3 (some .int) { frames := 0, cells := 0, slots := 0, locals := 0 } 0 0 [.ref a] (fun h _ => h a = some (ob 0 [.int al, .int st, .int we, .int cu, .int ca, .int le, .ref ga, .ref ca2]) ∧ h ga = some (ai 2 6 f) ∧ x < 64 ∧ ∀ i, i < 6 → f i = bt (nI x) i) (pFp ((nI x))) := by
  refine pC_of (by decide) (by simp [Value.category]) (Nat.le_of_ble_eq_true rfl) ?_
  intro h z hp p__ e__ s__ m__ args__ below__ meth__ c__ X hr hlk hname
  obtain ⟨hp1, hp2, hp3, hp4⟩ := hp
  refine v_iconst (pc := 0) X (v := nI 0) (hd := dX0_holdersAsBits_0) (kk := ?_)
  refine v_istore_n (pc := 1) X (hd := dX0_holdersAsBits_1) (kk := ?_)
  refine v_iconst (pc := 2) X (v := nI 0) (hd := dX0_holdersAsBits_2) (kk := ?_)
  refine v_istore_n (pc := 3) X (hd := dX0_holdersAsBits_3) (kk := ?_)
  refine v_forp (pc := 4) (M := 6) (Lf := fun i => [some (.ref a), some (.int (nI (x % 2 ^ i))), some (.int (nI i))]) (hL := by rw [Nat.pow_zero, Nat.mod_one]; rfl) (step := ?_) (out := ?_)
  · intro i hi kk
    refine v_iload_n (pc := 4) X (hd := dX0_holdersAsBits_4) (kk := ?_)
    refine v_bipush (pc := 5) X (v := nI 6) (hd := dX0_holdersAsBits_5) (kk := ?_)
    refine v_icmpge (pc := 7) X (tgt := 31) (hd := dX0_holdersAsBits_7) (kt := fun c7 => ?_) (kf := fun c7 => ?_)
    · exact absurd c7 (nI_ge hi (by omega))
    · refine v_aload_n (pc := 10) X (hd := dX0_holdersAsBits_10) (kk := ?_)
      refine g_X0_30 (pc := 11) X (hd := dX0_holdersAsBits_11) (hh := by first | assumption | exact pset_s _ _ _ | exact (pset_n (by omega)).trans (by assumption)) (kk := ?_)
      refine v_iload_n (pc := 14) X (hd := dX0_holdersAsBits_14) (kk := ?_)
      refine v_zaldN (pc := 15) X (j := i) (hd := dX0_holdersAsBits_15) (hh := hp2) (hi := by first | rfl | (simp only [pk_mul, nI_add]; done)) (hj := by omega) (kk := ?_)
      refine v_ifeq (pc := 16) X (tgt := 25) (hd := dX0_holdersAsBits_16) (kt := fun c16 => ?_) (kf := fun c16 => ?_)
      · rw [← (bt_or x hp3 i hi).1 (by rw [← hp4 i hi]; exact c16)] at kk
        refine v_iincN (pc := 25) X (hd := dX0_holdersAsBits_25) (kk := ?_)
        refine v_goto (pc := 28) X (tgt := 4) (hd := dX0_holdersAsBits_28) (kk := ?_)
        exact kk
      · rw [← (bt_or x hp3 i hi).2 (by rw [← hp4 i hi]; exact c16)] at kk
        refine v_iload_n (pc := 19) X (hd := dX0_holdersAsBits_19) (kk := ?_)
        refine v_iconst (pc := 20) X (v := nI 1) (hd := dX0_holdersAsBits_20) (kk := ?_)
        refine v_iload_n (pc := 21) X (hd := dX0_holdersAsBits_21) (kk := ?_)
        refine v_ishl (pc := 22) X (hd := dX0_holdersAsBits_22) (kk := ?_)
        refine v_ior (pc := 23) X (hd := dX0_holdersAsBits_23) (kk := ?_)
        refine v_istore_n (pc := 24) X (hd := dX0_holdersAsBits_24) (kk := ?_)
        refine v_iincN (pc := 25) X (hd := dX0_holdersAsBits_25) (kk := ?_)
        refine v_goto (pc := 28) X (tgt := 4) (hd := dX0_holdersAsBits_28) (kk := ?_)
        exact kk
  · skip
    rw [show x % 2 ^ 6 = x from Nat.mod_eq_of_lt hp3]
    refine v_iload_n (pc := 4) X (hd := dX0_holdersAsBits_4) (kk := ?_)
    refine v_bipush (pc := 5) X (v := nI 6) (hd := dX0_holdersAsBits_5) (kk := ?_)
    refine v_icmpge (pc := 7) X (tgt := 31) (hd := dX0_holdersAsBits_7) (kt := fun c7 => ?_) (kf := fun c7 => ?_)
    · refine v_iload_n (pc := 31) X (hd := dX0_holdersAsBits_31) (kk := ?_)
      exact v_endp (pc := 32) X hr hlk (hd := dX0_holdersAsBits_32) (hf := rfl)
    · exact absurd (Int32.le_refl _) c7
set_option maxRecDepth 100000 in
set_option maxHeartbeats 4000000 in
theorem c_X0_forgetYear (l : Launch) (E : pE) (a ga ca2 : Nat) (al st we cu ca le : Int32) (f : Nat → Int32) : pC l E yX0_forgetYear cX0_forgetYear 2 none { frames := 0, cells := 0, slots := 0, locals := 0 } 0 0 [.ref a] (fun h _ => h a = some (ob 0 [.int al, .int st, .int we, .int cu, .int ca, .int le, .ref ga, .ref ca2]) ∧ h ca2 = some (ai 1 6 f) ∧ a ≠ ca2) (pFv (fun h h' => ∃ f' : Nat → Int32, h' = pset h ca2 (ai 1 6 f') ∧ ∀ i, i < 6 → f' i = nI 0)) := by
  refine pC_of (by decide) (by simp [Value.category]) (Nat.le_of_ble_eq_true rfl) ?_
  intro h z hp p__ e__ s__ m__ args__ below__ meth__ c__ X hr hlk hname
  obtain ⟨hp1, hp2, hp3⟩ := hp
  refine v_iconst (pc := 0) X (v := nI 0) (hd := dX0_forgetYear_0) (kk := ?_)
  refine v_istore_n (pc := 1) X (hd := dX0_forgetYear_1) (kk := ?_)
  refine v_for (pc := 2) (M := 6) (Lf := fun i => [some (.ref a), some (.int (nI i))]) (I := fun i h1 => ∃ f' : Nat → Int32, h1 = pset h ca2 (ai 1 6 f') ∧ ∀ j, j < i → f' j = nI 0) (h0 := ⟨f, pset_id hp2, fun j hj => absurd hj (Nat.not_lt_zero _)⟩) (hL := by rfl) (step := ?_) (out := ?_)
  · intro i h1 hi hI kk
    obtain ⟨f', rfl, hf⟩ := hI
    refine v_iload_n (pc := 2) X (hd := dX0_forgetYear_2) (kk := ?_)
    refine v_bipush (pc := 3) X (v := nI 6) (hd := dX0_forgetYear_3) (kk := ?_)
    refine v_icmpge (pc := 5) X (tgt := 21) (hd := dX0_forgetYear_5) (kt := fun c5 => ?_) (kf := fun c5 => ?_)
    · exact absurd c5 (nI_ge hi (by omega))
    · refine v_aload_n (pc := 8) X (hd := dX0_forgetYear_8) (kk := ?_)
      refine g_X0_34 (pc := 9) X (hd := dX0_forgetYear_9) (hh := (pset_n hp3).trans hp1) (kk := ?_)
      refine v_iload_n (pc := 12) X (hd := dX0_forgetYear_12) (kk := ?_)
      refine v_iconst (pc := 13) X (v := nI 0) (hd := dX0_forgetYear_13) (kk := ?_)
      refine v_iastN (pc := 14) X (j := i) (hd := dX0_forgetYear_14) (hh := pset_s _ _ _) (hi := by first | rfl | (simp only [pk_mul, nI_add]; done)) (hj := by omega) (kk := ?_)
      refine v_iincN (pc := 15) X (hd := dX0_forgetYear_15) (kk := ?_)
      refine v_goto (pc := 18) X (tgt := 2) (hd := dX0_forgetYear_18) (kk := ?_)
      exact kk _ ⟨upd f' i (nI 0), pset_pset _ _ _ _, fun j hj => by
        by_cases e : j = i
        · rw [e]; exact pk_us
        · rw [pk_un e]; exact hf j (by omega)⟩
  · intro h1 hI
    refine v_iload_n (pc := 2) X (hd := dX0_forgetYear_2) (kk := ?_)
    refine v_bipush (pc := 3) X (v := nI 6) (hd := dX0_forgetYear_3) (kk := ?_)
    refine v_icmpge (pc := 5) X (tgt := 21) (hd := dX0_forgetYear_5) (kt := fun c5 => ?_) (kf := fun c5 => ?_)
    · exact v_endv (pc := 21) X hr hlk (hd := dX0_forgetYear_21) (hf := hI)
    · exact absurd (Int32.le_refl _) c5
set_option maxRecDepth 100000 in
set_option maxHeartbeats 4000000 in
theorem c_X5_copyFrom (l : Launch) (E : pE) (a a2 : Nat) (o b t w n o2 b2 t2 w2 n2 : Int32) : pC l E yX5_copyFrom cX5_copyFrom 2 none { frames := 0, cells := 0, slots := 0, locals := 0 } 0 0 [.ref a, .ref a2] (fun h _ => h a = some (ob 5 [.int o, .int b, .int t, .int w, .int n]) ∧ h a2 = some (ob 5 [.int o2, .int b2, .int t2, .int w2, .int n2]) ∧ a2 ≠ a) (pFv (fun h h' => h' = pset h a (ob 5 [.int o2, .int b2, .int t2, .int w2, .int n2]))) := by
  refine pC_of (by decide) (by simp [Value.category]) (Nat.le_of_ble_eq_true rfl) ?_
  intro h z hp p__ e__ s__ m__ args__ below__ meth__ c__ X hr hlk hname
  obtain ⟨hp1, hp2, hne⟩ := hp
  refine v_aload_n (pc := 0) X (hd := dX5_copyFrom_0) (kk := ?_)
  refine v_aload_n (pc := 1) X (hd := dX5_copyFrom_1) (kk := ?_)
  refine g_X5_9 (pc := 2) X (hd := dX5_copyFrom_2) (hh := by first | assumption | exact (pset_n hne).trans hp2) (kk := ?_)
  refine p_X5_9 (pc := 5) X (hd := dX5_copyFrom_5) (hh := by first | assumption | exact pset_s _ _ _ | exact (pset_n (by omega)).trans (by assumption)) (kk := ?_)
  refine v_aload_n (pc := 8) X (hd := dX5_copyFrom_8) (kk := ?_)
  refine v_aload_n (pc := 9) X (hd := dX5_copyFrom_9) (kk := ?_)
  refine g_X5_15 (pc := 10) X (hd := dX5_copyFrom_10) (hh := by first | assumption | exact (pset_n hne).trans hp2) (kk := ?_)
  refine p_X5_15 (pc := 13) X (hd := dX5_copyFrom_13) (hh := by first | assumption | exact pset_s _ _ _ | exact (pset_n (by omega)).trans (by assumption)) (kk := ?_)
  rw [pset_pset]
  refine v_aload_n (pc := 16) X (hd := dX5_copyFrom_16) (kk := ?_)
  refine v_aload_n (pc := 17) X (hd := dX5_copyFrom_17) (kk := ?_)
  refine g_X5_18 (pc := 18) X (hd := dX5_copyFrom_18) (hh := by first | assumption | exact (pset_n hne).trans hp2) (kk := ?_)
  refine p_X5_18 (pc := 21) X (hd := dX5_copyFrom_21) (hh := by first | assumption | exact pset_s _ _ _ | exact (pset_n (by omega)).trans (by assumption)) (kk := ?_)
  rw [pset_pset]
  refine v_aload_n (pc := 24) X (hd := dX5_copyFrom_24) (kk := ?_)
  refine v_aload_n (pc := 25) X (hd := dX5_copyFrom_25) (kk := ?_)
  refine g_X5_21 (pc := 26) X (hd := dX5_copyFrom_26) (hh := by first | assumption | exact (pset_n hne).trans hp2) (kk := ?_)
  refine p_X5_21 (pc := 29) X (hd := dX5_copyFrom_29) (hh := by first | assumption | exact pset_s _ _ _ | exact (pset_n (by omega)).trans (by assumption)) (kk := ?_)
  rw [pset_pset]
  refine v_aload_n (pc := 32) X (hd := dX5_copyFrom_32) (kk := ?_)
  refine v_aload_n (pc := 33) X (hd := dX5_copyFrom_33) (kk := ?_)
  refine g_X5_24 (pc := 34) X (hd := dX5_copyFrom_34) (hh := by first | assumption | exact (pset_n hne).trans hp2) (kk := ?_)
  refine p_X5_24 (pc := 37) X (hd := dX5_copyFrom_37) (hh := by first | assumption | exact pset_s _ _ _ | exact (pset_n (by omega)).trans (by assumption)) (kk := ?_)
  rw [pset_pset]
  exact v_endv (pc := 40) X hr hlk (hd := dX5_copyFrom_40) (hf := rfl)
set_option maxRecDepth 100000 in
set_option maxHeartbeats 4000000 in
theorem c_X1_copyFrom (l : Launch) (E : pE) (a a2 : Nat) (o b t o2 b2 t2 : Int32) : pC l E yX1_copyFrom cX1_copyFrom 2 none { frames := 0, cells := 0, slots := 0, locals := 0 } 0 0 [.ref a, .ref a2] (fun h _ => h a = some (ob 1 [.int o, .int b, .int t]) ∧ h a2 = some (ob 1 [.int o2, .int b2, .int t2]) ∧ a2 ≠ a) (pFv (fun h h' => h' = pset h a (ob 1 [.int o2, .int b2, .int t2]))) := by
  refine pC_of (by decide) (by simp [Value.category]) (Nat.le_of_ble_eq_true rfl) ?_
  intro h z hp p__ e__ s__ m__ args__ below__ meth__ c__ X hr hlk hname
  obtain ⟨hp1, hp2, hne⟩ := hp
  refine v_aload_n (pc := 0) X (hd := dX1_copyFrom_0) (kk := ?_)
  refine v_aload_n (pc := 1) X (hd := dX1_copyFrom_1) (kk := ?_)
  refine g_X1_7 (pc := 2) X (hd := dX1_copyFrom_2) (hh := by first | assumption | exact (pset_n hne).trans hp2) (kk := ?_)
  refine p_X1_7 (pc := 5) X (hd := dX1_copyFrom_5) (hh := by first | assumption | exact pset_s _ _ _ | exact (pset_n (by omega)).trans (by assumption)) (kk := ?_)
  refine v_aload_n (pc := 8) X (hd := dX1_copyFrom_8) (kk := ?_)
  refine v_aload_n (pc := 9) X (hd := dX1_copyFrom_9) (kk := ?_)
  refine g_X1_13 (pc := 10) X (hd := dX1_copyFrom_10) (hh := by first | assumption | exact (pset_n hne).trans hp2) (kk := ?_)
  refine p_X1_13 (pc := 13) X (hd := dX1_copyFrom_13) (hh := by first | assumption | exact pset_s _ _ _ | exact (pset_n (by omega)).trans (by assumption)) (kk := ?_)
  rw [pset_pset]
  refine v_aload_n (pc := 16) X (hd := dX1_copyFrom_16) (kk := ?_)
  refine v_aload_n (pc := 17) X (hd := dX1_copyFrom_17) (kk := ?_)
  refine g_X1_16 (pc := 18) X (hd := dX1_copyFrom_18) (hh := by first | assumption | exact (pset_n hne).trans hp2) (kk := ?_)
  refine p_X1_16 (pc := 21) X (hd := dX1_copyFrom_21) (hh := by first | assumption | exact pset_s _ _ _ | exact (pset_n (by omega)).trans (by assumption)) (kk := ?_)
  rw [pset_pset]
  exact v_endv (pc := 24) X hr hlk (hd := dX1_copyFrom_24) (hf := rfl)
