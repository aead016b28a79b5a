/-! tokens -/
def kd (x : Int32) : Nat := if nI 97 ≤ x ∧ x ≤ nI 122 then 1 else if nI 48 ≤ x ∧ x ≤ nI 57 then 2 else 3
def kR (x : Int32) : Int32 := if kd x = 1 then nI 1000 else if kd x = 2 then nI 1001 else x
def TX (te : Nat → Int32) (tn : Nat) : Prop := tn ≤ 140 ∧ ∀ i, i < tn → isN (te i) 1 255
def skE (te : Nat → Int32) : Nat → Nat → Nat
  | 0, a => a
  | d + 1, a => if te a = nI 32 then skE te d (a + 1) else a
def exE (te : Nat → Int32) (k : Nat) : Nat → Nat → Nat
  | 0, a => a
  | d + 1, a => if kd (te a) = k then exE te k d (a + 1) else a
def tokS (te : Nat → Int32) (tn a : Nat) : Nat := skE te (tn - a) a
def tokE (te : Nat → Int32) (tn a : Nat) : Nat := if tokS te tn a < tn then (if kd (te (tokS te tn a)) = 3 then tokS te tn a + 1 else exE te (kd (te (tokS te tn a))) (tn - (tokS te tn a + 1)) (tokS te tn a + 1)) else tokS te tn a
def kiV (te : Nat → Int32) (tn s : Nat) : Int32 := if s < tn then kR (te s) else -1
theorem kd_c (x : Int32) : kd x = 1 ∨ kd x = 2 ∨ kd x = 3 := by
  unfold kd
  split
  · exact Or.inl rfl
  · split
    · exact Or.inr (Or.inl rfl)
    · exact Or.inr (Or.inr rfl)
theorem skE_p (te : Nat → Int32) : ∀ d a, a ≤ skE te d a ∧ skE te d a ≤ a + d ∧ (∀ i, a + i < skE te d a → te (a + i) = nI 32) ∧ (skE te d a < a + d → ¬ te (skE te d a) = nI 32) := by
  intro d
  induction d with
  | zero => intro a; exact ⟨Nat.le_refl _, Nat.le_refl _, fun i hi => by have : skE te 0 a = a := rfl; omega, fun h => by have : skE te 0 a = a := rfl; omega⟩
  | succ d ih =>
    intro a
    by_cases e : te a = nI 32
    · have e1 : skE te (d + 1) a = skE te d (a + 1) := if_pos e
      obtain ⟨h1, h2, h3, h4⟩ := ih (a + 1)
      rw [e1]
      refine ⟨by omega, by omega, fun i hi => ?_, fun h => h4 (by omega)⟩
      cases i with
      | zero => exact e
      | succ i =>
        have := h3 i (by omega)
        rw [show a + (i + 1) = a + 1 + i by omega]
        exact this
    · have e1 : skE te (d + 1) a = a := if_neg e
      rw [e1]
      exact ⟨Nat.le_refl _, by omega, fun i hi => by omega, fun _ => e⟩
theorem exE_p (te : Nat → Int32) (k : Nat) : ∀ d a, a ≤ exE te k d a ∧ exE te k d a ≤ a + d ∧ (∀ i, a + i < exE te k d a → kd (te (a + i)) = k) ∧ (exE te k d a < a + d → ¬ kd (te (exE te k d a)) = k) := by
  intro d
  induction d with
  | zero => intro a; exact ⟨Nat.le_refl _, Nat.le_refl _, fun i hi => by have : exE te k 0 a = a := rfl; omega, fun h => by have : exE te k 0 a = a := rfl; omega⟩
  | succ d ih =>
    intro a
    by_cases e : kd (te a) = k
    · have e1 : exE te k (d + 1) a = exE te k d (a + 1) := if_pos e
      obtain ⟨h1, h2, h3, h4⟩ := ih (a + 1)
      rw [e1]
      refine ⟨by omega, by omega, fun i hi => ?_, fun h => h4 (by omega)⟩
      cases i with
      | zero => exact e
      | succ i =>
        have := h3 i (by omega)
        rw [show a + (i + 1) = a + 1 + i by omega]
        exact this
    · have e1 : exE te k (d + 1) a = a := if_neg e
      rw [e1]
      exact ⟨Nat.le_refl _, by omega, fun i hi => by omega, fun _ => e⟩
theorem tokS_p {te : Nat → Int32} {tn a : Nat} (h : a ≤ tn) : a ≤ tokS te tn a ∧ tokS te tn a ≤ tn ∧ (∀ i, a + i < tokS te tn a → te (a + i) = nI 32) ∧ (tokS te tn a < tn → ¬ te (tokS te tn a) = nI 32) := by
  obtain ⟨h1, h2, h3, h4⟩ := skE_p te (tn - a) a
  exact ⟨h1, by unfold tokS; omega, h3, fun q => h4 (by unfold tokS at q; omega)⟩
theorem tokE_n {te : Nat → Int32} {tn a : Nat} (h : ¬ tokS te tn a < tn) : tokE te tn a = tokS te tn a := if_neg h
theorem tokE_3 {te : Nat → Int32} {tn a : Nat} (h : tokS te tn a < tn) (h3 : kd (te (tokS te tn a)) = 3) : tokE te tn a = tokS te tn a + 1 := by
  unfold tokE
  rw [if_pos h, if_pos h3]
theorem tokE_p {te : Nat → Int32} {tn a : Nat} (h : tokS te tn a < tn) (h3 : ¬ kd (te (tokS te tn a)) = 3) : tokS te tn a + 1 ≤ tokE te tn a ∧ tokE te tn a ≤ tn ∧ (∀ i, tokS te tn a + 1 + i < tokE te tn a → kd (te (tokS te tn a + 1 + i)) = kd (te (tokS te tn a))) ∧ (tokE te tn a < tn → ¬ kd (te (tokE te tn a)) = kd (te (tokS te tn a))) := by
  have e : tokE te tn a = exE te (kd (te (tokS te tn a))) (tn - (tokS te tn a + 1)) (tokS te tn a + 1) := by unfold tokE; rw [if_pos h, if_neg h3]
  rw [e]
  obtain ⟨h1, h2, h4, h5⟩ := exE_p te (kd (te (tokS te tn a))) (tn - (tokS te tn a + 1)) (tokS te tn a + 1)
  exact ⟨h1, by omega, h4, fun q => h5 (by omega)⟩
theorem tokE_b {te : Nat → Int32} {tn a : Nat} (h : a ≤ tn) : tokS te tn a ≤ tokE te tn a ∧ tokE te tn a ≤ tn ∧ (tokS te tn a < tn → tokS te tn a < tokE te tn a) := by
  have h0 := (tokS_p (te := te) h).2.1
  by_cases h1 : tokS te tn a < tn
  · by_cases h3 : kd (te (tokS te tn a)) = 3
    · rw [tokE_3 h1 h3]; omega
    · have := tokE_p h1 h3; omega
  · rw [tokE_n h1]; omega
/-- within a token: goes on exactly while before its end -/
theorem tokE_more {te : Nat → Int32} {tn a i : Nat} (h : tokS te tn a < tn) (hi : tokS te tn a + i < tokE te tn a) : tokS te tn a + (i + 1) < tokE te tn a ↔ (¬ kd (te (tokS te tn a)) = 3 ∧ tokS te tn a + (i + 1) < tn ∧ kd (te (tokS te tn a + (i + 1))) = kd (te (tokS te tn a))) := by
  by_cases h3 : kd (te (tokS te tn a)) = 3
  · rw [tokE_3 h h3] at hi ⊢
    exact ⟨fun q => by omega, fun q => absurd h3 q.1⟩
  · obtain ⟨h1, h2, h4, h5⟩ := tokE_p h h3
    refine ⟨fun q => ⟨h3, by omega, ?_⟩, fun q => ?_⟩
    · have := h4 i (by omega)
      rw [show tokS te tn a + (i + 1) = tokS te tn a + 1 + i by omega]
      exact this
    · rcases Nat.lt_or_ge (tokS te tn a + (i + 1)) (tokE te tn a) with w | w
      · exact w
      · have e : tokE te tn a = tokS te tn a + (i + 1) := by omega
        exact absurd (by rw [e]; exact q.2.2) (h5 (by omega))
theorem kR_3 {x : Int32} (h : kd x = 3) : kR x = x := by unfold kR; rw [if_neg (by omega), if_neg (by omega)]
theorem kR_nn {x : Int32} (h : isN x 1 255) : ¬ kR x < 0 := by
  unfold kR
  split
  · decide +kernel
  · split
    · decide +kernel
    · exact h.nn (by omega)
theorem kR_big {x : Int32} (h : isN x 1 255) : kR x ≤ nI 999 ↔ kd x = 3 := by
  unfold kR
  rcases kd_c x with e | e | e
  · rw [if_pos e]; exact ⟨fun q => absurd q (by decide +kernel), fun q => by omega⟩
  · rw [if_neg (by omega), if_pos e]; exact ⟨fun q => absurd q (by decide +kernel), fun q => by omega⟩
  · rw [if_neg (by omega), if_neg (by omega)]
    obtain ⟨j, j1, j2, rfl⟩ := h
    exact ⟨fun _ => e, fun _ => nI_le (by omega) (by omega)⟩
theorem kR_eq {x y : Int32} (hx : isN x 1 255) (hy : ¬ kd y = 3) : kR x = kR y ↔ kd x = kd y := by
  have b1 : ∀ j, j ≤ 255 → nI j ≠ nI 1000 := fun j hj q => absurd ((nI_eq (by omega) (by omega)).mp q) (by omega)
  have b2 : ∀ j, j ≤ 255 → nI j ≠ nI 1001 := fun j hj q => absurd ((nI_eq (by omega) (by omega)).mp q) (by omega)
  obtain ⟨j, j1, j2, rfl⟩ := hx
  unfold kR
  rcases kd_c (nI j) with e | e | e <;> rcases kd_c y with f | f | f
  · rw [if_pos e, if_pos f]; exact ⟨fun _ => by omega, fun _ => rfl⟩
  · rw [if_pos e, if_neg (by omega), if_pos f]; exact ⟨fun q => absurd q (by decide +kernel), fun q => by omega⟩
  · exact absurd f hy
  · rw [if_neg (by omega), if_pos e, if_pos f]; exact ⟨fun q => absurd q (by decide +kernel), fun q => by omega⟩
  · rw [if_neg (by omega), if_pos e, if_neg (by omega), if_pos f]; exact ⟨fun _ => by omega, fun _ => rfl⟩
  · exact absurd f hy
  · rw [if_neg (by omega), if_neg (by omega), if_pos f]; exact ⟨fun q => absurd q (b1 j j2), fun q => by omega⟩
  · rw [if_neg (by omega), if_neg (by omega), if_neg (by omega), if_pos f]; exact ⟨fun q => absurd q (b2 j j2), fun q => by omega⟩
  · exact absurd f hy
theorem kd_1 {x : Int32} (h : nI 97 ≤ x ∧ x ≤ nI 122) : kd x = 1 := if_pos h
theorem kd_2 {x : Int32} (h0 : ¬ (nI 97 ≤ x ∧ x ≤ nI 122)) (h : nI 48 ≤ x ∧ x ≤ nI 57) : kd x = 2 := by unfold kd; rw [if_neg h0, if_pos h]
theorem kd_3 {x : Int32} (h0 : ¬ (nI 97 ≤ x ∧ x ≤ nI 122)) (h : ¬ (nI 48 ≤ x ∧ x ≤ nI 57)) : kd x = 3 := by unfold kd; rw [if_neg h0, if_neg h]
set_option maxRecDepth 100000 in
set_option maxHeartbeats 4000000 in
theorem c_X3_kindOf (l : Launch) (E : pE) (x : Int32) : pC l E yX3_kindOf cX3_kindOf 1 (some .int) { frames := 0, cells := 0, slots := 0, locals := 0 } 0 0 [.int x] (fun h _ => True) (pFp ((nI (kd x)))) := by
  refine pC_of (by decide) (by simp [Value.category]) (Nat.le_of_ble_eq_true rfl) ?_
  intro h z hp p__ e__ s__ m__ args__ below__ meth__ c__ X hr hlk hname
  refine v_iload_n (pc := 0) X (hd := dX3_kindOf_0) (kk := ?_)
  refine v_bipush (pc := 1) X (v := nI 97) (hd := dX3_kindOf_1) (kk := ?_)
  refine v_icmplt (pc := 3) X (tgt := 14) (hd := dX3_kindOf_3) (kt := fun c3 => ?_) (kf := fun c3 => ?_)
  · have k1 : ¬ (nI 97 ≤ x ∧ x ≤ nI 122) := fun q => by have q1 := q.1; rw [n_le] at q1; rw [n_lt] at c3; omega
    refine v_iload_n (pc := 14) X (hd := dX3_kindOf_14) (kk := ?_)
    refine v_bipush (pc := 15) X (v := nI 48) (hd := dX3_kindOf_15) (kk := ?_)
    refine v_icmplt (pc := 17) X (tgt := 30) (hd := dX3_kindOf_17) (kt := fun c17 => ?_) (kf := fun c17 => ?_)
    · have k2 : ¬ (nI 48 ≤ x ∧ x ≤ nI 57) := fun q => by have q1 := q.1; rw [n_le] at q1; rw [n_lt] at c17; omega
      refine v_iconst (pc := 30) X (v := nI 3) (hd := dX3_kindOf_30) (kk := ?_)
      exact v_endp (pc := 31) X hr hlk (hd := dX3_kindOf_31) (hf := by rw [kd_3 k1 k2])
    · refine v_iload_n (pc := 20) X (hd := dX3_kindOf_20) (kk := ?_)
      refine v_bipush (pc := 21) X (v := nI 57) (hd := dX3_kindOf_21) (kk := ?_)
      refine v_icmpgt (pc := 23) X (tgt := 30) (hd := dX3_kindOf_23) (kt := fun c23 => ?_) (kf := fun c23 => ?_)
      · have k2 : ¬ (nI 48 ≤ x ∧ x ≤ nI 57) := fun q => by have q1 := q.2; rw [n_le] at q1; rw [n_lt] at c23; omega
        refine v_iconst (pc := 30) X (v := nI 3) (hd := dX3_kindOf_30) (kk := ?_)
        exact v_endp (pc := 31) X hr hlk (hd := dX3_kindOf_31) (hf := by rw [kd_3 k1 k2])
      · have k2 : nI 48 ≤ x ∧ x ≤ nI 57 := ⟨n_nlt c17, n_nlt c23⟩
        refine v_iconst (pc := 26) X (v := nI 2) (hd := dX3_kindOf_26) (kk := ?_)
        refine v_goto (pc := 27) X (tgt := 31) (hd := dX3_kindOf_27) (kk := ?_)
        exact v_endp (pc := 31) X hr hlk (hd := dX3_kindOf_31) (hf := by rw [kd_2 k1 k2])
  · refine v_iload_n (pc := 6) X (hd := dX3_kindOf_6) (kk := ?_)
    refine v_bipush (pc := 7) X (v := nI 122) (hd := dX3_kindOf_7) (kk := ?_)
    refine v_icmpgt (pc := 9) X (tgt := 14) (hd := dX3_kindOf_9) (kt := fun c9 => ?_) (kf := fun c9 => ?_)
    · have k1 : ¬ (nI 97 ≤ x ∧ x ≤ nI 122) := fun q => by have q1 := q.2; rw [n_le] at q1; rw [n_lt] at c9; omega
      refine v_iload_n (pc := 14) X (hd := dX3_kindOf_14) (kk := ?_)
      refine v_bipush (pc := 15) X (v := nI 48) (hd := dX3_kindOf_15) (kk := ?_)
      refine v_icmplt (pc := 17) X (tgt := 30) (hd := dX3_kindOf_17) (kt := fun c17 => ?_) (kf := fun c17 => ?_)
      · have k2 : ¬ (nI 48 ≤ x ∧ x ≤ nI 57) := fun q => by have q1 := q.1; rw [n_le] at q1; rw [n_lt] at c17; omega
        refine v_iconst (pc := 30) X (v := nI 3) (hd := dX3_kindOf_30) (kk := ?_)
        exact v_endp (pc := 31) X hr hlk (hd := dX3_kindOf_31) (hf := by rw [kd_3 k1 k2])
      · refine v_iload_n (pc := 20) X (hd := dX3_kindOf_20) (kk := ?_)
        refine v_bipush (pc := 21) X (v := nI 57) (hd := dX3_kindOf_21) (kk := ?_)
        refine v_icmpgt (pc := 23) X (tgt := 30) (hd := dX3_kindOf_23) (kt := fun c23 => ?_) (kf := fun c23 => ?_)
        · have k2 : ¬ (nI 48 ≤ x ∧ x ≤ nI 57) := fun q => by have q1 := q.2; rw [n_le] at q1; rw [n_lt] at c23; omega
          refine v_iconst (pc := 30) X (v := nI 3) (hd := dX3_kindOf_30) (kk := ?_)
          exact v_endp (pc := 31) X hr hlk (hd := dX3_kindOf_31) (hf := by rw [kd_3 k1 k2])
        · have k2 : nI 48 ≤ x ∧ x ≤ nI 57 := ⟨n_nlt c17, n_nlt c23⟩
          refine v_iconst (pc := 26) X (v := nI 2) (hd := dX3_kindOf_26) (kk := ?_)
          refine v_goto (pc := 27) X (tgt := 31) (hd := dX3_kindOf_27) (kk := ?_)
          exact v_endp (pc := 31) X hr hlk (hd := dX3_kindOf_31) (hf := by rw [kd_2 k1 k2])
    · have k1 : nI 97 ≤ x ∧ x ≤ nI 122 := ⟨n_nlt c3, n_nlt c9⟩
      refine v_iconst (pc := 12) X (v := nI 1) (hd := dX3_kindOf_12) (kk := ?_)
      exact v_endp (pc := 13) X hr hlk (hd := dX3_kindOf_13) (hf := by rw [kd_1 k1])
set_option maxRecDepth 100000 in
set_option maxHeartbeats 4000000 in
theorem c_X7_kindOf (l : Launch) (E : pE) (x : Int32) : pC l E yX7_kindOf cX7_kindOf 1 (some .int) { frames := 1, cells := 0, slots := 0, locals := 22 } 0 0 [.int x] (fun h _ => True) (pFp ((kR x))) := by
  refine pC_of (by decide) (by simp [Value.category]) (Nat.le_of_ble_eq_true rfl) ?_
  intro h z hp p__ e__ s__ m__ args__ below__ meth__ c__ X hr hlk hname
  refine v_iload_n (pc := 0) X (hd := dX7_kindOf_0) (kk := ?_)
  refine v_bipush (pc := 1) X (v := nI 97) (hd := dX7_kindOf_1) (kk := ?_)
  refine v_bipush (pc := 3) X (v := nI 122) (hd := dX7_kindOf_3) (kk := ?_)
  refine v_callSp (pc := 5) X (hd := dX7_kindOf_5) (w := wv_X7_33) (hC := c_X7_in l E _ _ _) (hp := by first | assumption | exact trivial) (kk := ?_)
  refine v_ifeqB (pc := 8) X (tgt := 17) (hd := dX7_kindOf_8) (kt := fun c8 => ?_) (kf := fun c8 => ?_)
  · refine v_iload_n (pc := 17) X (hd := dX7_kindOf_17) (kk := ?_)
    refine v_bipush (pc := 18) X (v := nI 48) (hd := dX7_kindOf_18) (kk := ?_)
    refine v_bipush (pc := 20) X (v := nI 57) (hd := dX7_kindOf_20) (kk := ?_)
    refine v_callSp (pc := 22) X (hd := dX7_kindOf_22) (w := wv_X7_33) (hC := c_X7_in l E _ _ _) (hp := by first | assumption | exact trivial) (kk := ?_)
    refine v_ifeqB (pc := 25) X (tgt := 34) (hd := dX7_kindOf_25) (kt := fun c25 => ?_) (kf := fun c25 => ?_)
    · refine v_iload_n (pc := 34) X (hd := dX7_kindOf_34) (kk := ?_)
      exact v_endp (pc := 35) X hr hlk (hd := dX7_kindOf_35) (hf := (kR_3 (kd_3 c8 c25)).symm)
    · refine v_sipush (pc := 28) X (v := nI 1001) (hd := dX7_kindOf_28) (kk := ?_)
      refine v_goto (pc := 31) X (tgt := 35) (hd := dX7_kindOf_31) (kk := ?_)
      exact v_endp (pc := 35) X hr hlk (hd := dX7_kindOf_35) (hf := by unfold kR; rw [kd_2 c8 c25, if_neg (by decide), if_pos rfl])
  · refine v_sipush (pc := 11) X (v := nI 1000) (hd := dX7_kindOf_11) (kk := ?_)
    refine v_goto (pc := 14) X (tgt := 35) (hd := dX7_kindOf_14) (kk := ?_)
    exact v_endp (pc := 35) X hr hlk (hd := dX7_kindOf_35) (hf := by unfold kR; rw [if_pos (kd_1 c8)])
set_option maxRecDepth 100000 in
set_option maxHeartbeats 4000000 in
theorem c_X3_readToken (l : Launch) (E : pE) (x tn e : Nat) (te : Nat → Int32) (st : Int32) (nu : Nat → Int32) : pC l E yX3_readToken cX3_readToken 2 none { frames := 1, cells := 0, slots := 0, locals := 20 } 0 0 [.ref (x + 212)] (fun h _ => KP x tn te st (nI e) nu h ∧ TX te tn ∧ e ≤ tn) (pFv (fun h h' => KP x tn te (nI (tokS te tn e)) (nI (tokE te tn e)) nu h' ∧ ∀ q, q ≠ x + 212 → h' q = h q)) := by
  refine pC_of (by decide) (by simp [Value.category]) (Nat.le_of_ble_eq_true rfl) ?_
  intro h z hp p__ e__ s__ m__ args__ below__ meth__ c__ X hr hlk hname
  obtain ⟨hK, hT, he⟩ := hp
  have h140 := hT.1
  have tS := tokS_p (te := te) he
  refine v_aload_n (pc := 0) X (hd := dX3_readToken_0) (kk := ?_)
  refine v_aload_n (pc := 1) X (hd := dX3_readToken_1) (kk := ?_)
  refine g_X3_22 (pc := 2) X (hd := dX3_readToken_2) (hh := hK.1) (kk := ?_)
  refine p_X3_19 (pc := 5) X (hd := dX3_readToken_5) (hh := hK.1) (kk := ?_)
  refine v_for (pc := 8) (M := ((tokS te tn e) - e)) (Lf := fun i => [some (.ref (x + 212)), none]) (I := fun i h1 => (h1 (x + 212) = some (ob 3 [.ref (x + 213), .int (nI tn), .int (nI (e + i)), .int (nI e), .ref (x + 214)]) ∧ ∀ q, q ≠ x + 212 → h1 q = h q)) (h0 := ⟨pset_s _ _ _, fun q hq => pset_n hq⟩) (hL := by rfl) (step := ?_) (out := ?_)
  · intro i h1 hi hI kk
    obtain ⟨C1, C2⟩ := hI
    have V1 := (C2 (x + 213) (by omega)).trans hK.2.1
    have sp := tS.2.2.1 i (by omega)
    refine v_aload_n (pc := 8) X (hd := dX3_readToken_8) (kk := ?_)
    refine g_X3_19 (pc := 9) X (hd := dX3_readToken_9) (hh := C1) (kk := ?_)
    refine v_aload_n (pc := 12) X (hd := dX3_readToken_12) (kk := ?_)
    refine g_X3_15 (pc := 13) X (hd := dX3_readToken_13) (hh := C1) (kk := ?_)
    refine v_icmpge (pc := 16) X (tgt := 46) (hd := dX3_readToken_16) (kt := fun c16 => ?_) (kf := fun c16 => ?_)
    · exact absurd c16 (nI_ge (by omega) (by omega))
    · refine v_aload_n (pc := 19) X (hd := dX3_readToken_19) (kk := ?_)
      refine g_X3_9 (pc := 20) X (hd := dX3_readToken_20) (hh := C1) (kk := ?_)
      refine v_aload_n (pc := 23) X (hd := dX3_readToken_23) (kk := ?_)
      refine g_X3_19 (pc := 24) X (hd := dX3_readToken_24) (hh := C1) (kk := ?_)
      refine v_caldN (pc := 27) X (j := (e + i)) (hd := dX3_readToken_27) (hh := V1) (hi := by first | rfl | (simp only [pk_mul, nI_add]; done)) (hj := by omega) (kk := ?_)
      refine v_bipush (pc := 28) X (v := nI 32) (hd := dX3_readToken_28) (kk := ?_)
      refine v_icmpne (pc := 30) X (tgt := 46) (hd := dX3_readToken_30) (kt := fun c30 => ?_) (kf := fun c30 => ?_)
      · exact absurd sp c30
      · refine v_aload_n (pc := 33) X (hd := dX3_readToken_33) (kk := ?_)
        refine v_dup (pc := 34) X (hd := dX3_readToken_34) (kk := ?_)
        refine g_X3_19 (pc := 35) X (hd := dX3_readToken_35) (hh := C1) (kk := ?_)
        refine v_iconst (pc := 38) X (v := nI 1) (hd := dX3_readToken_38) (kk := ?_)
        refine v_iadd (pc := 39) X (hd := dX3_readToken_39) (kk := ?_)
        rw [nI_add]
        refine p_X3_19 (pc := 40) X (hd := dX3_readToken_40) (hh := C1) (kk := ?_)
        refine v_goto (pc := 43) X (tgt := 8) (hd := dX3_readToken_43) (kk := ?_)
        exact kk _ ⟨by rw [← Nat.add_assoc]; exact pset_s _ _ _, fun q hq => (pset_n hq).trans (C2 q hq)⟩
  · intro h1 hI
    obtain ⟨C1, C2⟩ := hI
    rw [show e + ((tokS te tn e) - e) = (tokS te tn e) by omega] at C1
    have V1 := (C2 (x + 213) (by omega)).trans hK.2.1
    refine v_aload_n (pc := 8) X (hd := dX3_readToken_8) (kk := ?_)
    refine g_X3_19 (pc := 9) X (hd := dX3_readToken_9) (hh := C1) (kk := ?_)
    refine v_aload_n (pc := 12) X (hd := dX3_readToken_12) (kk := ?_)
    refine g_X3_15 (pc := 13) X (hd := dX3_readToken_13) (hh := C1) (kk := ?_)
    refine v_icmpge (pc := 16) X (tgt := 46) (hd := dX3_readToken_16) (kt := fun c16 => ?_) (kf := fun c16 => ?_)
    · have hs : ¬ (tokS te tn e) < tn := fun q => absurd c16 (nI_ge q (by omega))
      refine v_aload_n (pc := 46) X (hd := dX3_readToken_46) (kk := ?_)
      refine v_aload_n (pc := 47) X (hd := dX3_readToken_47) (kk := ?_)
      refine g_X3_19 (pc := 48) X (hd := dX3_readToken_48) (hh := C1) (kk := ?_)
      refine p_X3_22 (pc := 51) X (hd := dX3_readToken_51) (hh := C1) (kk := ?_)
      refine v_aload_n (pc := 54) X (hd := dX3_readToken_54) (kk := ?_)
      refine g_X3_22 (pc := 55) X (hd := dX3_readToken_55) (hh := pset_s _ _ _) (kk := ?_)
      refine v_aload_n (pc := 58) X (hd := dX3_readToken_58) (kk := ?_)
      refine g_X3_15 (pc := 59) X (hd := dX3_readToken_59) (hh := pset_s _ _ _) (kk := ?_)
      refine v_icmplt (pc := 62) X (tgt := 66) (hd := dX3_readToken_62) (kt := fun c62 => ?_) (kf := fun c62 => ?_)
      · exact absurd ((nI_ltI (by omega) (by omega)).mp c62) hs
      · exact v_endv (pc := 65) X hr hlk (hd := dX3_readToken_65) (hf := ⟨⟨by rw [tokE_n hs]; exact pset_s _ _ _, (pset_n (by omega)).trans ((C2 _ (by omega)).trans hK.2.1), (pset_n (by omega)).trans ((C2 _ (by omega)).trans hK.2.2)⟩, fun q hq => (pset_n hq).trans (C2 q hq)⟩)
    · have hs : (tokS te tn e) < tn := by
        rcases Nat.lt_or_ge (tokS te tn e) tn with q | q
        · exact q
        · exact absurd (nI_le q (by omega)) c16
      refine v_aload_n (pc := 19) X (hd := dX3_readToken_19) (kk := ?_)
      refine g_X3_9 (pc := 20) X (hd := dX3_readToken_20) (hh := C1) (kk := ?_)
      refine v_aload_n (pc := 23) X (hd := dX3_readToken_23) (kk := ?_)
      refine g_X3_19 (pc := 24) X (hd := dX3_readToken_24) (hh := C1) (kk := ?_)
      refine v_caldN (pc := 27) X (j := (tokS te tn e)) (hd := dX3_readToken_27) (hh := V1) (hi := by first | rfl | (simp only [pk_mul, nI_add]; done)) (hj := by omega) (kk := ?_)
      refine v_bipush (pc := 28) X (v := nI 32) (hd := dX3_readToken_28) (kk := ?_)
      refine v_icmpne (pc := 30) X (tgt := 46) (hd := dX3_readToken_30) (kt := fun c30 => ?_) (kf := fun c30 => ?_)
      · refine v_aload_n (pc := 46) X (hd := dX3_readToken_46) (kk := ?_)
        refine v_aload_n (pc := 47) X (hd := dX3_readToken_47) (kk := ?_)
        refine g_X3_19 (pc := 48) X (hd := dX3_readToken_48) (hh := C1) (kk := ?_)
        refine p_X3_22 (pc := 51) X (hd := dX3_readToken_51) (hh := C1) (kk := ?_)
        refine v_aload_n (pc := 54) X (hd := dX3_readToken_54) (kk := ?_)
        refine g_X3_22 (pc := 55) X (hd := dX3_readToken_55) (hh := pset_s _ _ _) (kk := ?_)
        refine v_aload_n (pc := 58) X (hd := dX3_readToken_58) (kk := ?_)
        refine g_X3_15 (pc := 59) X (hd := dX3_readToken_59) (hh := pset_s _ _ _) (kk := ?_)
        refine v_icmplt (pc := 62) X (tgt := 66) (hd := dX3_readToken_62) (kt := fun c62 => ?_) (kf := fun c62 => ?_)
        · refine v_aload_n (pc := 66) X (hd := dX3_readToken_66) (kk := ?_)
          refine g_X3_9 (pc := 67) X (hd := dX3_readToken_67) (hh := pset_s _ _ _) (kk := ?_)
          refine v_aload_n (pc := 70) X (hd := dX3_readToken_70) (kk := ?_)
          refine g_X3_19 (pc := 71) X (hd := dX3_readToken_71) (hh := pset_s _ _ _) (kk := ?_)
          refine v_caldN (pc := 74) X (j := (tokS te tn e)) (hd := dX3_readToken_74) (hh := (pset_n (by omega)).trans V1) (hi := by first | rfl | (simp only [pk_mul, nI_add]; done)) (hj := by omega) (kk := ?_)
          refine v_callSp (pc := 75) X (hd := dX3_readToken_75) (w := wv_X3_65) (hC := c_X3_kindOf l E _) (hp := by first | assumption | exact trivial) (kk := ?_)
          refine v_istore_n (pc := 78) X (hd := dX3_readToken_78) (kk := ?_)
          refine v_aload_n (pc := 79) X (hd := dX3_readToken_79) (kk := ?_)
          refine v_dup (pc := 80) X (hd := dX3_readToken_80) (kk := ?_)
          refine g_X3_22 (pc := 81) X (hd := dX3_readToken_81) (hh := pset_s _ _ _) (kk := ?_)
          refine v_iconst (pc := 84) X (v := nI 1) (hd := dX3_readToken_84) (kk := ?_)
          refine v_iadd (pc := 85) X (hd := dX3_readToken_85) (kk := ?_)
          refine p_X3_22 (pc := 86) X (hd := dX3_readToken_86) (hh := pset_s _ _ _) (kk := ?_)
          rw [pset_pset, nI_add]
          refine v_for (pc := 89) (M := ((tokE te tn e) - ((tokS te tn e) + 1))) (Lf := fun i => [some (.ref (x + 212)), some (.int (nI (kd (te (tokS te tn e)))))]) (I := fun i h1 => (h1 (x + 212) = some (ob 3 [.ref (x + 213), .int (nI tn), .int (nI (tokS te tn e)), .int (nI ((tokS te tn e) + 1 + i)), .ref (x + 214)]) ∧ ∀ q, q ≠ x + 212 → h1 q = h q)) (h0 := ⟨pset_s _ _ _, fun q hq => (pset_n hq).trans (C2 q hq)⟩) (hL := by rfl) (step := ?_) (out := ?_)
          · intro i h2 hi hI kk
            clear C1 C2 V1
            obtain ⟨C1, C2⟩ := hI
            have V1 := (C2 (x + 213) (by omega)).trans hK.2.1
            have h3 : ¬ kd (te (tokS te tn e)) = 3 := fun q => by have := tokE_3 hs q; omega
            have tE := tokE_p hs h3
            have sk := tE.2.2.1 i (by omega)
            refine v_iload_n (pc := 89) X (hd := dX3_readToken_89) (kk := ?_)
            refine v_iconst (pc := 90) X (v := nI 3) (hd := dX3_readToken_90) (kk := ?_)
            refine v_icmpeq (pc := 91) X (tgt := 134) (hd := dX3_readToken_91) (kt := fun c91 => ?_) (kf := fun c91 => ?_)
            · exact absurd ((nI_eq (by have := kd_c (te (tokS te tn e)); omega) (by omega)).mp c91) h3
            · refine v_aload_n (pc := 94) X (hd := dX3_readToken_94) (kk := ?_)
              refine g_X3_22 (pc := 95) X (hd := dX3_readToken_95) (hh := C1) (kk := ?_)
              refine v_aload_n (pc := 98) X (hd := dX3_readToken_98) (kk := ?_)
              refine g_X3_15 (pc := 99) X (hd := dX3_readToken_99) (hh := C1) (kk := ?_)
              refine v_icmpge (pc := 102) X (tgt := 134) (hd := dX3_readToken_102) (kt := fun c102 => ?_) (kf := fun c102 => ?_)
              · exact absurd c102 (nI_ge (by omega) (by omega))
              · refine v_aload_n (pc := 105) X (hd := dX3_readToken_105) (kk := ?_)
                refine g_X3_9 (pc := 106) X (hd := dX3_readToken_106) (hh := C1) (kk := ?_)
                refine v_aload_n (pc := 109) X (hd := dX3_readToken_109) (kk := ?_)
                refine g_X3_22 (pc := 110) X (hd := dX3_readToken_110) (hh := C1) (kk := ?_)
                refine v_caldN (pc := 113) X (j := ((tokS te tn e) + 1 + i)) (hd := dX3_readToken_113) (hh := V1) (hi := by first | rfl | (simp only [pk_mul, nI_add]; done)) (hj := by omega) (kk := ?_)
                refine v_callSp (pc := 114) X (hd := dX3_readToken_114) (w := wv_X3_65) (hC := c_X3_kindOf l E _) (hp := by first | assumption | exact trivial) (kk := ?_)
                refine v_iload_n (pc := 117) X (hd := dX3_readToken_117) (kk := ?_)
                refine v_icmpne (pc := 118) X (tgt := 134) (hd := dX3_readToken_118) (kt := fun c118 => ?_) (kf := fun c118 => ?_)
                · exact absurd (by rw [sk]) c118
                · refine v_aload_n (pc := 121) X (hd := dX3_readToken_121) (kk := ?_)
                  refine v_dup (pc := 122) X (hd := dX3_readToken_122) (kk := ?_)
                  refine g_X3_22 (pc := 123) X (hd := dX3_readToken_123) (hh := C1) (kk := ?_)
                  refine v_iconst (pc := 126) X (v := nI 1) (hd := dX3_readToken_126) (kk := ?_)
                  refine v_iadd (pc := 127) X (hd := dX3_readToken_127) (kk := ?_)
                  rw [nI_add]
                  refine p_X3_22 (pc := 128) X (hd := dX3_readToken_128) (hh := C1) (kk := ?_)
                  refine v_goto (pc := 131) X (tgt := 89) (hd := dX3_readToken_131) (kk := ?_)
                  exact kk _ ⟨by rw [← Nat.add_assoc]; exact pset_s _ _ _, fun q hq => (pset_n hq).trans (C2 q hq)⟩
          · intro h2 hI
            clear C1 C2 V1
            obtain ⟨C1, C2⟩ := hI
            have tB := tokE_b (te := te) he
            have tB3 := tB.2.2 hs
            rw [show (tokS te tn e) + 1 + ((tokE te tn e) - ((tokS te tn e) + 1)) = (tokE te tn e) by omega] at C1
            have V1 := (C2 (x + 213) (by omega)).trans hK.2.1
            refine v_iload_n (pc := 89) X (hd := dX3_readToken_89) (kk := ?_)
            refine v_iconst (pc := 90) X (v := nI 3) (hd := dX3_readToken_90) (kk := ?_)
            refine v_icmpeq (pc := 91) X (tgt := 134) (hd := dX3_readToken_91) (kt := fun c91 => ?_) (kf := fun c91 => ?_)
            · exact v_endv (pc := 134) X hr hlk (hd := dX3_readToken_134) (hf := ⟨⟨C1, (C2 _ (by omega)).trans hK.2.1, (C2 _ (by omega)).trans hK.2.2⟩, C2⟩)
            · have h3 : ¬ kd (te (tokS te tn e)) = 3 := fun q => c91 (by rw [q])
              have tE := tokE_p hs h3
              refine v_aload_n (pc := 94) X (hd := dX3_readToken_94) (kk := ?_)
              refine g_X3_22 (pc := 95) X (hd := dX3_readToken_95) (hh := C1) (kk := ?_)
              refine v_aload_n (pc := 98) X (hd := dX3_readToken_98) (kk := ?_)
              refine g_X3_15 (pc := 99) X (hd := dX3_readToken_99) (hh := C1) (kk := ?_)
              refine v_icmpge (pc := 102) X (tgt := 134) (hd := dX3_readToken_102) (kt := fun c102 => ?_) (kf := fun c102 => ?_)
              · exact v_endv (pc := 134) X hr hlk (hd := dX3_readToken_134) (hf := ⟨⟨C1, (C2 _ (by omega)).trans hK.2.1, (C2 _ (by omega)).trans hK.2.2⟩, C2⟩)
              · have he2 : (tokE te tn e) < tn := by
                  rcases Nat.lt_or_ge (tokE te tn e) tn with q | q
                  · exact q
                  · exact absurd (nI_le q (by omega)) c102
                refine v_aload_n (pc := 105) X (hd := dX3_readToken_105) (kk := ?_)
                refine g_X3_9 (pc := 106) X (hd := dX3_readToken_106) (hh := C1) (kk := ?_)
                refine v_aload_n (pc := 109) X (hd := dX3_readToken_109) (kk := ?_)
                refine g_X3_22 (pc := 110) X (hd := dX3_readToken_110) (hh := C1) (kk := ?_)
                refine v_caldN (pc := 113) X (j := (tokE te tn e)) (hd := dX3_readToken_113) (hh := V1) (hi := by first | rfl | (simp only [pk_mul, nI_add]; done)) (hj := by omega) (kk := ?_)
                refine v_callSp (pc := 114) X (hd := dX3_readToken_114) (w := wv_X3_65) (hC := c_X3_kindOf l E _) (hp := by first | assumption | exact trivial) (kk := ?_)
                refine v_iload_n (pc := 117) X (hd := dX3_readToken_117) (kk := ?_)
                refine v_icmpne (pc := 118) X (tgt := 134) (hd := dX3_readToken_118) (kt := fun c118 => ?_) (kf := fun c118 => ?_)
                · exact v_endv (pc := 134) X hr hlk (hd := dX3_readToken_134) (hf := ⟨⟨C1, (C2 _ (by omega)).trans hK.2.1, (C2 _ (by omega)).trans hK.2.2⟩, C2⟩)
                · exact absurd ((nI_eq (by have := kd_c (te (tokE te tn e)); omega) (by have := kd_c (te (tokS te tn e)); omega)).mp (Classical.not_not.mp c118)) (tE.2.2.2 he2)
        · exact absurd (nI_lt hs (by omega)) c62
      · exact absurd (Classical.not_not.mp c30) (tS.2.2.2 hs)
set_option maxRecDepth 100000 in
set_option maxHeartbeats 4000000 in
theorem c_X7_token (l : Launch) (E : pE) (m : Nat) (w pa he te re : Nat → Int32) (ps rn : Int32) (tn a : Nat) (st ki co : Int32) : pC l E yX7_token cX7_token 2 none { frames := 2, cells := 0, slots := 0, locals := 42 } 0 0 [.ref m] (fun h _ => MD m w pa he te re ps rn (nI tn) (nI a) (st) (ki) co h ∧ TX te tn ∧ a ≤ tn) (pFv (fun h h' => MD m w pa he te re ps rn (nI tn) (nI (tokE te tn a)) (nI (tokS te tn a)) (kiV te tn (tokS te tn a)) co h' ∧ ∀ q, q ≠ m → h' q = h q)) := by
  refine pC_of (by decide) (by simp [Value.category]) (Nat.le_of_ble_eq_true rfl) ?_
  intro h z hp p__ e__ s__ m__ args__ below__ meth__ c__ X hr hlk hname
  obtain ⟨hM, hT, ha⟩ := hp
  have h140 := hT.1
  have tS := tokS_p (te := te) ha
  refine v_for (pc := 0) (M := ((tokS te tn a) - a)) (Lf := fun i => [some (.ref m), none]) (I := fun i h1 => (MD m w pa he te re ps rn (nI tn) (nI (a + i)) (st) (ki) co h1 ∧ ∀ q, q ≠ m → h1 q = h q)) (h0 := ⟨hM, fun q hq => rfl⟩) (hL := by rfl) (step := ?_) (out := ?_)
  · intro i h1 hi hI kk
    obtain ⟨C1, C2⟩ := hI
    obtain ⟨N0, N1, N2, N3, N4, N5⟩ := C1
    have sp := tS.2.2.1 i (by omega)
    refine v_aload_n (pc := 0) X (hd := dX7_token_0) (kk := ?_)
    refine g_X7_105 (pc := 1) X (hd := dX7_token_1) (hh := N0) (kk := ?_)
    refine v_aload_n (pc := 4) X (hd := dX7_token_4) (kk := ?_)
    refine g_X7_102 (pc := 5) X (hd := dX7_token_5) (hh := N0) (kk := ?_)
    refine v_icmpge (pc := 8) X (tgt := 38) (hd := dX7_token_8) (kt := fun c8 => ?_) (kf := fun c8 => ?_)
    · exact absurd c8 (nI_ge (by omega) (by omega))
    · refine v_aload_n (pc := 11) X (hd := dX7_token_11) (kk := ?_)
      refine g_X7_19 (pc := 12) X (hd := dX7_token_12) (hh := N0) (kk := ?_)
      refine v_aload_n (pc := 15) X (hd := dX7_token_15) (kk := ?_)
      refine g_X7_105 (pc := 16) X (hd := dX7_token_16) (hh := N0) (kk := ?_)
      refine v_ialdN (pc := 19) X (j := (a + i)) (hd := dX7_token_19) (hh := N4) (hi := by first | rfl | (simp only [pk_mul, nI_add]; done)) (hj := by omega) (kk := ?_)
      refine v_bipush (pc := 20) X (v := nI 32) (hd := dX7_token_20) (kk := ?_)
      refine v_icmpne (pc := 22) X (tgt := 38) (hd := dX7_token_22) (kt := fun c22 => ?_) (kf := fun c22 => ?_)
      · exact absurd sp c22
      · refine v_aload_n (pc := 25) X (hd := dX7_token_25) (kk := ?_)
        refine v_dup (pc := 26) X (hd := dX7_token_26) (kk := ?_)
        refine g_X7_105 (pc := 27) X (hd := dX7_token_27) (hh := N0) (kk := ?_)
        refine v_iconst (pc := 30) X (v := nI 1) (hd := dX7_token_30) (kk := ?_)
        refine v_iadd (pc := 31) X (hd := dX7_token_31) (kk := ?_)
        refine p_X7_105 (pc := 32) X (hd := dX7_token_32) (hh := N0) (kk := ?_)
        rw [nI_add]
        refine v_goto (pc := 35) X (tgt := 0) (hd := dX7_token_35) (kk := ?_)
        refine kk _ ⟨?_, fun q hq => (pset_n hq).trans (C2 q hq)⟩
        exact MD.sob (at1 := nI (a + i + 1)) ⟨N0, N1, N2, N3, N4, N5⟩
  · intro h1 hI
    obtain ⟨C1, C2⟩ := hI
    rw [show a + ((tokS te tn a) - a) = (tokS te tn a) by omega] at C1
    obtain ⟨N0, N1, N2, N3, N4, N5⟩ := C1
    refine v_aload_n (pc := 0) X (hd := dX7_token_0) (kk := ?_)
    refine g_X7_105 (pc := 1) X (hd := dX7_token_1) (hh := N0) (kk := ?_)
    refine v_aload_n (pc := 4) X (hd := dX7_token_4) (kk := ?_)
    refine g_X7_102 (pc := 5) X (hd := dX7_token_5) (hh := N0) (kk := ?_)
    refine v_icmpge (pc := 8) X (tgt := 38) (hd := dX7_token_8) (kt := fun c8 => ?_) (kf := fun c8 => ?_)
    · have hs : ¬ (tokS te tn a) < tn := fun q => absurd c8 (nI_ge q (by omega))
      refine v_aload_n (pc := 38) X (hd := dX7_token_38) (kk := ?_)
      refine v_aload_n (pc := 39) X (hd := dX7_token_39) (kk := ?_)
      refine g_X7_105 (pc := 40) X (hd := dX7_token_40) (hh := N0) (kk := ?_)
      refine p_X7_108 (pc := 43) X (hd := dX7_token_43) (hh := N0) (kk := ?_)
      refine v_aload_n (pc := 46) X (hd := dX7_token_46) (kk := ?_)
      refine v_aload_n (pc := 47) X (hd := dX7_token_47) (kk := ?_)
      refine g_X7_105 (pc := 48) X (hd := dX7_token_48) (hh := pset_s _ _ _) (kk := ?_)
      refine v_aload_n (pc := 51) X (hd := dX7_token_51) (kk := ?_)
      refine g_X7_102 (pc := 52) X (hd := dX7_token_52) (hh := pset_s _ _ _) (kk := ?_)
      refine v_icmpge (pc := 55) X (tgt := 73) (hd := dX7_token_55) (kt := fun c55 => ?_) (kf := fun c55 => ?_)
      · refine v_iconst (pc := 73) X (v := (-1)) (hd := dX7_token_73) (kk := ?_)
        refine p_X7_114 (pc := 74) X (hd := dX7_token_74) (hh := pset_s _ _ _) (kk := ?_)
        rw [pset_pset]
        refine v_gen (P := fun h9 => (MD m w pa he te re ps rn (nI tn) (nI (tokS te tn a)) (nI (tokS te tn a)) (-1) co h9 ∧ ∀ q, q ≠ m → h9 q = h q)) ⟨MD.sob ⟨N0, N1, N2, N3, N4, N5⟩, fun q hq => (pset_n hq).trans (C2 q hq)⟩ (fun h74 q74 => ?_)
        obtain ⟨D1, D2⟩ := q74
        refine v_aload_n (pc := 77) X (hd := dX7_token_77) (kk := ?_)
        refine g_X7_114 (pc := 78) X (hd := dX7_token_78) (hh := D1.1) (kk := ?_)
        refine v_iflt (pc := 81) X (tgt := 88) (hd := dX7_token_81) (kt := fun c81 => ?_) (kf := fun c81 => ?_)
        · refine v_iconst (pc := 88) X (v := nI 0) (hd := dX7_token_88) (kk := ?_)
          refine v_istore_n (pc := 89) X (hd := dX7_token_89) (kk := ?_)
          refine v_iload_n (pc := 90) X (hd := dX7_token_90) (kk := ?_)
          refine v_ifeq (pc := 91) X (tgt := 153) (hd := dX7_token_91) (kt := fun c91 => ?_) (kf := fun c91 => ?_)
          · exact v_endv (pc := 153) X hr hlk (hd := dX7_token_153) (hf := ⟨by rw [tokE_n hs]; unfold kiV; rw [if_neg hs]; exact D1, D2⟩)
          · exact absurd nI_z c91
        · exact absurd (show (-1 : Int32) < 0 by decide) c81
      · exact absurd (nI_le (Nat.not_lt.mp hs) (by omega)) c55
    · have hs : (tokS te tn a) < tn := by
        rcases Nat.lt_or_ge (tokS te tn a) tn with q | q
        · exact q
        · exact absurd (nI_le q (by omega)) c8
      refine v_aload_n (pc := 11) X (hd := dX7_token_11) (kk := ?_)
      refine g_X7_19 (pc := 12) X (hd := dX7_token_12) (hh := N0) (kk := ?_)
      refine v_aload_n (pc := 15) X (hd := dX7_token_15) (kk := ?_)
      refine g_X7_105 (pc := 16) X (hd := dX7_token_16) (hh := N0) (kk := ?_)
      refine v_ialdN (pc := 19) X (j := (tokS te tn a)) (hd := dX7_token_19) (hh := N4) (hi := by first | rfl | (simp only [pk_mul, nI_add]; done)) (hj := by omega) (kk := ?_)
      refine v_bipush (pc := 20) X (v := nI 32) (hd := dX7_token_20) (kk := ?_)
      refine v_icmpne (pc := 22) X (tgt := 38) (hd := dX7_token_22) (kt := fun c22 => ?_) (kf := fun c22 => ?_)
      · refine v_aload_n (pc := 38) X (hd := dX7_token_38) (kk := ?_)
        refine v_aload_n (pc := 39) X (hd := dX7_token_39) (kk := ?_)
        refine g_X7_105 (pc := 40) X (hd := dX7_token_40) (hh := N0) (kk := ?_)
        refine p_X7_108 (pc := 43) X (hd := dX7_token_43) (hh := N0) (kk := ?_)
        refine v_aload_n (pc := 46) X (hd := dX7_token_46) (kk := ?_)
        refine v_aload_n (pc := 47) X (hd := dX7_token_47) (kk := ?_)
        refine g_X7_105 (pc := 48) X (hd := dX7_token_48) (hh := pset_s _ _ _) (kk := ?_)
        refine v_aload_n (pc := 51) X (hd := dX7_token_51) (kk := ?_)
        refine g_X7_102 (pc := 52) X (hd := dX7_token_52) (hh := pset_s _ _ _) (kk := ?_)
        refine v_icmpge (pc := 55) X (tgt := 73) (hd := dX7_token_55) (kt := fun c55 => ?_) (kf := fun c55 => ?_)
        · exact absurd c55 (nI_ge hs (by omega))
        · refine v_aload_n (pc := 58) X (hd := dX7_token_58) (kk := ?_)
          refine g_X7_19 (pc := 59) X (hd := dX7_token_59) (hh := pset_s _ _ _) (kk := ?_)
          refine v_aload_n (pc := 62) X (hd := dX7_token_62) (kk := ?_)
          refine g_X7_105 (pc := 63) X (hd := dX7_token_63) (hh := pset_s _ _ _) (kk := ?_)
          refine v_ialdN (pc := 66) X (j := (tokS te tn a)) (hd := dX7_token_66) (hh := (pset_n (by omega)).trans N4) (hi := by first | rfl | (simp only [pk_mul, nI_add]; done)) (hj := by omega) (kk := ?_)
          refine v_callSp (pc := 67) X (hd := dX7_token_67) (w := wv_X7_111) (hC := c_X7_kindOf l E _) (hp := by first | assumption | exact trivial) (kk := ?_)
          refine v_goto (pc := 70) X (tgt := 74) (hd := dX7_token_70) (kk := ?_)
          refine p_X7_114 (pc := 74) X (hd := dX7_token_74) (hh := pset_s _ _ _) (kk := ?_)
          rw [pset_pset]
          refine v_gen (P := fun h9 => (MD m w pa he te re ps rn (nI tn) (nI (tokS te tn a)) (nI (tokS te tn a)) (kR (te (tokS te tn a))) co h9 ∧ ∀ q, q ≠ m → h9 q = h q)) ⟨MD.sob ⟨N0, N1, N2, N3, N4, N5⟩, fun q hq => (pset_n hq).trans (C2 q hq)⟩ (fun h74 q74 => ?_)
          obtain ⟨D1, D2⟩ := q74
          refine v_aload_n (pc := 77) X (hd := dX7_token_77) (kk := ?_)
          refine g_X7_114 (pc := 78) X (hd := dX7_token_78) (hh := D1.1) (kk := ?_)
          refine v_iflt (pc := 81) X (tgt := 88) (hd := dX7_token_81) (kt := fun c81 => ?_) (kf := fun c81 => ?_)
          · exact absurd c81 (kR_nn (hT.2 _ hs))
          · have tB3 := (tokE_b (te := te) ha).2.2 hs
            refine v_iconst (pc := 84) X (v := nI 1) (hd := dX7_token_84) (kk := ?_)
            refine v_goto (pc := 85) X (tgt := 89) (hd := dX7_token_85) (kk := ?_)
            refine v_istore_n (pc := 89) X (hd := dX7_token_89) (kk := ?_)
            refine v_for (pc := 90) (M := ((tokE te tn a) - (tokS te tn a))) (Lf := fun i => [some (.ref m), some (.int (bI ((tokS te tn a) + i < (tokE te tn a))))]) (I := fun i h1 => (MD m w pa he te re ps rn (nI tn) (nI ((tokS te tn a) + i)) (nI (tokS te tn a)) (kR (te (tokS te tn a))) co h1 ∧ ∀ q, q ≠ m → h1 q = h q)) (h0 := ⟨D1, D2⟩) (hL := by rw [show bI ((tokS te tn a) + 0 < (tokE te tn a)) = nI 1 from by rw [bI_t (by omega)]; exact nI_t.symm]; rfl) (step := ?_) (out := ?_)
            · intro i h2 hi hI kk
              clear C2 D1 D2
              obtain ⟨C1, C2⟩ := hI
              obtain ⟨N0, N1, N2, N3, N4, N5⟩ := C1
              have hmore := tokE_more (te := te) (i := i) hs (by omega)
              have hEb := (tokE_b (te := te) ha).2.1
              refine v_iload_n (pc := 90) X (hd := dX7_token_90) (kk := ?_)
              refine v_ifeqB (pc := 91) X (tgt := 153) (hd := dX7_token_91) (kt := fun c91 => ?_) (kf := fun c91 => ?_)
              · exact absurd (show (tokS te tn a) + i < (tokE te tn a) by omega) c91
              · refine v_aload_n (pc := 94) X (hd := dX7_token_94) (kk := ?_)
                refine v_dup (pc := 95) X (hd := dX7_token_95) (kk := ?_)
                refine g_X7_105 (pc := 96) X (hd := dX7_token_96) (hh := N0) (kk := ?_)
                refine v_iconst (pc := 99) X (v := nI 1) (hd := dX7_token_99) (kk := ?_)
                refine v_iadd (pc := 100) X (hd := dX7_token_100) (kk := ?_)
                refine p_X7_105 (pc := 101) X (hd := dX7_token_101) (hh := N0) (kk := ?_)
                rw [nI_add]
                refine v_aload_n (pc := 104) X (hd := dX7_token_104) (kk := ?_)
                refine g_X7_114 (pc := 105) X (hd := dX7_token_105) (hh := pset_s _ _ _) (kk := ?_)
                refine v_sipush (pc := 108) X (v := nI 999) (hd := dX7_token_108) (kk := ?_)
                refine v_icmple (pc := 111) X (tgt := 148) (hd := dX7_token_111) (kt := fun c111 => ?_) (kf := fun c111 => ?_)
                · refine v_iconst (pc := 148) X (v := nI 0) (hd := dX7_token_148) (kk := ?_)
                  refine v_istore_n (pc := 149) X (hd := dX7_token_149) (kk := ?_)
                  refine v_goto (pc := 150) X (tgt := 90) (hd := dX7_token_150) (kk := ?_)
                  rw [show nI 0 = bI ((tokS te tn a) + (i + 1) < (tokE te tn a)) from bI_0 (fun q => (hmore.mp q).1 ((kR_big (hT.2 _ hs)).mp c111))]
                  refine kk _ ⟨?_, fun q hq => (pset_n hq).trans (C2 q hq)⟩
                  exact MD.sob (at1 := nI ((tokS te tn a) + i + 1)) ⟨N0, N1, N2, N3, N4, N5⟩
                · have k3 : ¬ kd (te (tokS te tn a)) = 3 := fun q => c111 ((kR_big (hT.2 _ hs)).mpr q)
                  refine v_aload_n (pc := 114) X (hd := dX7_token_114) (kk := ?_)
                  refine g_X7_105 (pc := 115) X (hd := dX7_token_115) (hh := pset_s _ _ _) (kk := ?_)
                  refine v_aload_n (pc := 118) X (hd := dX7_token_118) (kk := ?_)
                  refine g_X7_102 (pc := 119) X (hd := dX7_token_119) (hh := pset_s _ _ _) (kk := ?_)
                  refine v_icmpge (pc := 122) X (tgt := 148) (hd := dX7_token_122) (kt := fun c122 => ?_) (kf := fun c122 => ?_)
                  · refine v_iconst (pc := 148) X (v := nI 0) (hd := dX7_token_148) (kk := ?_)
                    refine v_istore_n (pc := 149) X (hd := dX7_token_149) (kk := ?_)
                    refine v_goto (pc := 150) X (tgt := 90) (hd := dX7_token_150) (kk := ?_)
                    rw [show nI 0 = bI ((tokS te tn a) + (i + 1) < (tokE te tn a)) from bI_0 (fun q => absurd c122 (nI_ge (hmore.mp q).2.1 (by have := h140; omega)))]
                    refine kk _ ⟨?_, fun q hq => (pset_n hq).trans (C2 q hq)⟩
                    exact MD.sob (at1 := nI ((tokS te tn a) + i + 1)) ⟨N0, N1, N2, N3, N4, N5⟩
                  · have k4 : (tokS te tn a) + (i + 1) < tn := by
                      rcases Nat.lt_or_ge ((tokS te tn a) + (i + 1)) tn with q | q
                      · exact q
                      · exact absurd (nI_le q (by omega)) c122
                    refine v_aload_n (pc := 125) X (hd := dX7_token_125) (kk := ?_)
                    refine g_X7_19 (pc := 126) X (hd := dX7_token_126) (hh := pset_s _ _ _) (kk := ?_)
                    refine v_aload_n (pc := 129) X (hd := dX7_token_129) (kk := ?_)
                    refine g_X7_105 (pc := 130) X (hd := dX7_token_130) (hh := pset_s _ _ _) (kk := ?_)
                    refine v_ialdN (pc := 133) X (j := ((tokS te tn a) + (i + 1))) (hd := dX7_token_133) (hh := (pset_n (by omega)).trans N4) (hi := rfl) (hj := by omega) (kk := ?_)
                    refine v_callSp (pc := 134) X (hd := dX7_token_134) (w := wv_X7_111) (hC := c_X7_kindOf l E _) (hp := by first | assumption | exact trivial) (kk := ?_)
                    refine v_aload_n (pc := 137) X (hd := dX7_token_137) (kk := ?_)
                    refine g_X7_114 (pc := 138) X (hd := dX7_token_138) (hh := pset_s _ _ _) (kk := ?_)
                    refine v_icmpne (pc := 141) X (tgt := 148) (hd := dX7_token_141) (kt := fun c141 => ?_) (kf := fun c141 => ?_)
                    · refine v_iconst (pc := 148) X (v := nI 0) (hd := dX7_token_148) (kk := ?_)
                      refine v_istore_n (pc := 149) X (hd := dX7_token_149) (kk := ?_)
                      refine v_goto (pc := 150) X (tgt := 90) (hd := dX7_token_150) (kk := ?_)
                      rw [show nI 0 = bI ((tokS te tn a) + (i + 1) < (tokE te tn a)) from bI_0 (fun q => c141 ((kR_eq (hT.2 _ k4) k3).mpr (hmore.mp q).2.2))]
                      refine kk _ ⟨?_, fun q hq => (pset_n hq).trans (C2 q hq)⟩
                      exact MD.sob (at1 := nI ((tokS te tn a) + i + 1)) ⟨N0, N1, N2, N3, N4, N5⟩
                    · refine v_iconst (pc := 144) X (v := nI 1) (hd := dX7_token_144) (kk := ?_)
                      refine v_goto (pc := 145) X (tgt := 149) (hd := dX7_token_145) (kk := ?_)
                      refine v_istore_n (pc := 149) X (hd := dX7_token_149) (kk := ?_)
                      refine v_goto (pc := 150) X (tgt := 90) (hd := dX7_token_150) (kk := ?_)
                      rw [show nI 1 = bI ((tokS te tn a) + (i + 1) < (tokE te tn a)) from bI_1 (hmore.mpr ⟨k3, k4, (kR_eq (hT.2 _ k4) k3).mp (Classical.not_not.mp c141)⟩)]
                      refine kk _ ⟨?_, fun q hq => (pset_n hq).trans (C2 q hq)⟩
                      exact MD.sob (at1 := nI ((tokS te tn a) + i + 1)) ⟨N0, N1, N2, N3, N4, N5⟩
            · intro h2 hI
              clear C2 D1 D2
              obtain ⟨C1, C2⟩ := hI
              refine v_iload_n (pc := 90) X (hd := dX7_token_90) (kk := ?_)
              refine v_ifeqB (pc := 91) X (tgt := 153) (hd := dX7_token_91) (kt := fun c91 => ?_) (kf := fun c91 => ?_)
              · exact v_endv (pc := 153) X hr hlk (hd := dX7_token_153) (hf := ⟨by rw [show (tokS te tn a) + ((tokE te tn a) - (tokS te tn a)) = (tokE te tn a) by omega] at C1; unfold kiV; rw [if_pos hs]; exact C1, C2⟩)
              · exact absurd c91 (by omega)
      · exact absurd (Classical.not_not.mp c22) (tS.2.2.2 hs)
