/-! words and numbers -/
abbrev wE (te : Nat → Int32) (s e k : Nat) : Prop := e - s = pTl.getD k 0 ∧ ∀ j, j < pTl.getD k 0 → te (s + j) = (pTb.getD k []).getD j 0
abbrev nOk (te : Nat → Int32) (s e : Nat) : Prop := (1 ≤ e - s ∧ e - s ≤ 4) ∧ kd (te s) = 2 ∧ (e - s = 1 ∨ ¬ te s = nI 48)
def vlE (te : Nat → Int32) (s : Nat) : Nat → Int32
  | 0 => nI 0
  | n + 1 => vlE te s n * nI 10 + (te (s + n) - nI 48)
def cmdN (te : Nat → Int32) (s e : Nat) : Nat := if wE te s e 0 then 1 else if wE te s e 1 then 2 else if wE te s e 2 then 3 else if wE te s e 3 then 4 else if wE te s e 4 then 5 else if wE te s e 5 then 6 else if wE te s e 6 then 7 else 0
def cntN (c : Nat) : Nat := if c = 4 then 3 else if c = 1 ∨ c = 5 then 1 else 2
theorem i_lin (v t a b : Int32) : a * v + t - b = v * a + (t - b) := by
  rw [Int32.mul_comm a v, Int32.sub_eq_add_neg, Int32.sub_eq_add_neg, Int32.add_assoc]
def okB (ki : Int32) (te : Nat → Int32) (s e : Nat) (cf : Nat → Int32) : Nat → Bool
  | 0 => decide (ki = nI 1000)
  | i + 1 => okB ki te s e cf i && (if cf i = 0 then decide (e ≤ s + i) else (decide (s + i < e) && decide (te (s + i) = cf i)))
theorem okB_s {ki : Int32} {te : Nat → Int32} {s e : Nat} {cf : Nat → Int32} {i : Nat} : okB ki te s e cf (i + 1) = true ↔ okB ki te s e cf i = true ∧ ((cf i = 0 ∧ e ≤ s + i) ∨ (¬ cf i = 0 ∧ s + i < e ∧ te (s + i) = cf i)) := by
  show (okB ki te s e cf i && (if cf i = 0 then decide (e ≤ s + i) else (decide (s + i < e) && decide (te (s + i) = cf i)))) = true ↔ _
  rw [Bool.and_eq_true]
  by_cases h : cf i = 0
  · rw [if_pos h, decide_eq_true_eq]
    exact ⟨fun q => ⟨q.1, Or.inl ⟨h, q.2⟩⟩, fun q => ⟨q.1, q.2.elim (fun w => w.2) (fun w => absurd h w.1)⟩⟩
  · rw [if_neg h, Bool.and_eq_true, decide_eq_true_eq, decide_eq_true_eq]
    exact ⟨fun q => ⟨q.1, Or.inr ⟨h, q.2⟩⟩, fun q => ⟨q.1, q.2.elim (fun w => absurd w.1 h) (fun w => w.2)⟩⟩
theorem okB_0 {ki : Int32} {te : Nat → Int32} {s e : Nat} {cf : Nat → Int32} : okB ki te s e cf 0 = true ↔ ki = nI 1000 := decide_eq_true_iff
theorem okB_all {ki : Int32} {te : Nat → Int32} {s e : Nat} {cf : Nat → Int32} : ∀ n, okB ki te s e cf n = true ↔ ki = nI 1000 ∧ ∀ j, j < n → ((cf j = 0 ∧ e ≤ s + j) ∨ (¬ cf j = 0 ∧ s + j < e ∧ te (s + j) = cf j)) := by
  intro n
  induction n with
  | zero => exact okB_0.trans ⟨fun q => ⟨q, fun j hj => by omega⟩, fun q => q.1⟩
  | succ n ih =>
    rw [okB_s, ih]
    refine ⟨fun q => ⟨q.1.1, fun j hj => ?_⟩, fun q => ⟨⟨q.1, fun j hj => q.2 j (by omega)⟩, q.2 n (by omega)⟩⟩
    by_cases e1 : j = n
    · rw [e1]; exact q.2
    · exact q.1.2 j (by omega)
def CFW (c0 c1 c2 c3 c4 : Int32) : Nat → Int32 := fun j => ([c0, c1, c2, c3, c4] : List Int32).getD j 0
theorem wd_l : ∀ k, k < 7 → (1 ≤ pTl.getD k 0 ∧ pTl.getD k 0 ≤ 5) ∧ (∀ j, j < 5 → (j < pTl.getD k 0 → (¬ (pTb.getD k []).getD j 0 = 0 ∧ kd ((pTb.getD k []).getD j 0) = 1)) ∧ (pTl.getD k 0 ≤ j → (pTb.getD k []).getD j 0 = 0)) := by decide +kernel
theorem kR_1000 {x : Int32} (h : isN x 1 255) : kR x = nI 1000 ↔ kd x = 1 := by
  unfold kR
  rcases kd_c x with e | e | e
  · rw [if_pos e]; exact ⟨fun _ => e, fun _ => rfl⟩
  · rw [if_neg (by omega), if_pos e]; exact ⟨fun q => absurd q (by decide +kernel), fun q => by omega⟩
  · rw [if_neg (by omega), if_neg (by omega)]
    obtain ⟨j, j1, j2, rfl⟩ := h
    exact ⟨fun q => absurd ((nI_eq (by omega) (by omega)).mp q) (by omega), fun q => by omega⟩
theorem kR_1001 {x : Int32} (h : isN x 1 255) : kR x = nI 1001 ↔ kd x = 2 := by
  unfold kR
  rcases kd_c x with e | e | e
  · rw [if_pos e]; exact ⟨fun q => absurd q (by decide +kernel), fun q => by omega⟩
  · rw [if_neg (by omega), if_pos e]; exact ⟨fun _ => e, fun _ => rfl⟩
  · rw [if_neg (by omega), if_neg (by omega)]
    obtain ⟨j, j1, j2, rfl⟩ := h
    exact ⟨fun q => absurd ((nI_eq (by omega) (by omega)).mp q) (by omega), fun q => by omega⟩
theorem ok_word {te : Nat → Int32} {tn s e k : Nat} {cf : Nat → Int32} (hT : TX te tn) (hse : s ≤ e) (hen : e ≤ tn) (hk : k < 7) (hcf : ∀ j, j < 5 → cf j = (pTb.getD k []).getD j 0) : (okB (kiV te tn s) te s e cf 5 = true ∧ e - s < 6) ↔ wE te s e k := by
  obtain ⟨⟨l1, l2⟩, hl⟩ := wd_l k hk
  rw [okB_all]
  constructor
  · rintro ⟨⟨q0, q⟩, q6⟩
    have a1 : ∀ j, j < pTl.getD k 0 → s + j < e ∧ te (s + j) = (pTb.getD k []).getD j 0 := fun j hj => by
      rcases q j (by omega) with ⟨w, -⟩ | ⟨w, w1, w2⟩
      · rw [hcf j (by omega)] at w; exact absurd w ((hl j (by omega)).1 hj).1
      · rw [hcf j (by omega)] at w2; exact ⟨w1, w2⟩
    refine ⟨?_, fun j hj => (a1 j hj).2⟩
    have a2 := (a1 (pTl.getD k 0 - 1) (by omega)).1
    rcases Nat.lt_or_ge (pTl.getD k 0) 5 with w | w
    · rcases q _ w with ⟨-, w1⟩ | ⟨w1, -⟩
      · omega
      · rw [hcf _ w] at w1; exact absurd ((hl _ w).2 (Nat.le_refl _)) w1
    · omega
  · rintro ⟨q0, q⟩
    have hs : s < tn := by omega
    have h1 := q 0 (by omega)
    rw [Nat.add_zero] at h1
    refine ⟨⟨?_, fun j hj => ?_⟩, by omega⟩
    · unfold kiV
      rw [if_pos hs, kR_1000 (hT.2 s hs), h1]
      exact ((hl 0 (by omega)).1 (by omega)).2
    · rw [hcf j hj]
      rcases Nat.lt_or_ge j (pTl.getD k 0) with w | w
      · exact Or.inr ⟨((hl j hj).1 w).1, by omega, q j w⟩
      · exact Or.inl ⟨(hl j hj).2 w, by omega⟩
set_option maxRecDepth 100000 in
set_option maxHeartbeats 4000000 in
theorem c_X3_isToken (l : Launch) (E : pE) (x tn s e : Nat) (te : Nat → Int32) (nu : Nat → Int32) (k9 : Nat) : pC l E yX3_isToken cX3_isToken 3 (some .boolean) { frames := 4, cells := 0, slots := 0, locals := 85 } 0 0 [.ref (x + 212), .ref (E.2.2.2.1 k9)] (fun h _ => KP x tn te (nI s) (nI e) nu h ∧ s ≤ e ∧ e ≤ tn ∧ tn ≤ 140 ∧ k9 < 8) (pFp ((bI (wE te s e k9)))) := by
  refine pC_of (by decide) (by simp [Value.category]) (Nat.le_of_ble_eq_true rfl) ?_
  intro h z hp p__ e__ s__ m__ args__ below__ meth__ c__ X hr hlk hname
  obtain ⟨hK, hse, hen, h140, hk⟩ := hp
  have hl5 := (sl_ok k9 hk).1
  refine v_aload_n (pc := 0) X (hd := dX3_isToken_0) (kk := ?_)
  refine g_X3_22 (pc := 1) X (hd := dX3_isToken_1) (hh := hK.1) (kk := ?_)
  refine v_aload_n (pc := 4) X (hd := dX3_isToken_4) (kk := ?_)
  refine g_X3_19 (pc := 5) X (hd := dX3_isToken_5) (hh := hK.1) (kk := ?_)
  refine v_isub (pc := 8) X (hd := dX3_isToken_8) (kk := ?_)
  rw [pk_sub hse]
  refine v_aload_n (pc := 9) X (hd := dX3_isToken_9) (kk := ?_)
  refine v_callVsp (pc := 10) X (hd := dX3_isToken_10) (w := wv_X3_69) (hC := c_J0_length_8abf5 l E k9) (hi := hk) (hp := hk) (kk := ?_)
  refine v_icmpeq (pc := 13) X (tgt := 18) (hd := dX3_isToken_13) (kt := fun c13 => ?_) (kf := fun c13 => ?_)
  · have hl : e - s = pTl.getD k9 0 := (nI_eq (by omega) (by omega)).mp c13
    refine v_iconst (pc := 18) X (v := nI 0) (hd := dX3_isToken_18) (kk := ?_)
    refine v_istore_n (pc := 19) X (hd := dX3_isToken_19) (kk := ?_)
    refine v_for (pc := 20) (M := (pTl.getD k9 0)) (Lf := fun i => [some (.ref (x + 212)), some (.ref (E.2.2.2.1 k9)), some (.int (nI i))]) (I := fun i h1 => h1 = h ∧ ∀ j, j < i → te (s + j) = (pTb.getD k9 []).getD j 0) (h0 := ⟨rfl, fun j hj => by omega⟩) (hL := by rfl) (step := ?_) (out := ?_)
    · intro i h1 hi hI kk
      obtain ⟨rfl, hm⟩ := hI
      refine v_iload_n (pc := 20) X (hd := dX3_isToken_20) (kk := ?_)
      refine v_aload_n (pc := 21) X (hd := dX3_isToken_21) (kk := ?_)
      refine v_callVsp (pc := 22) X (hd := dX3_isToken_22) (w := wv_X3_69) (hC := c_J0_length_8abf5 l E k9) (hi := hk) (hp := hk) (kk := ?_)
      refine v_icmpge (pc := 25) X (tgt := 55) (hd := dX3_isToken_25) (kt := fun c25 => ?_) (kf := fun c25 => ?_)
      · exact absurd c25 (nI_ge hi (by omega))
      · refine v_aload_n (pc := 28) X (hd := dX3_isToken_28) (kk := ?_)
        refine g_X3_9 (pc := 29) X (hd := dX3_isToken_29) (hh := hK.1) (kk := ?_)
        refine v_aload_n (pc := 32) X (hd := dX3_isToken_32) (kk := ?_)
        refine g_X3_19 (pc := 33) X (hd := dX3_isToken_33) (hh := hK.1) (kk := ?_)
        refine v_iload_n (pc := 36) X (hd := dX3_isToken_36) (kk := ?_)
        refine v_iadd (pc := 37) X (hd := dX3_isToken_37) (kk := ?_)
        refine v_caldN (pc := 38) X (j := (s + i)) (hd := dX3_isToken_38) (hh := hK.2.1) (hi := by first | rfl | (simp only [pk_mul, nI_add]; done)) (hj := by omega) (kk := ?_)
        refine v_aload_n (pc := 39) X (hd := dX3_isToken_39) (kk := ?_)
        refine v_iload_n (pc := 40) X (hd := dX3_isToken_40) (kk := ?_)
        refine v_callVsp (pc := 41) X (hd := dX3_isToken_41) (w := wv_X3_73) (hC := c_J0_charAt_5068e l E k9 i) (hi := hk) (hp := ⟨hk, hi⟩) (kk := ?_)
        refine v_icmpeq (pc := 44) X (tgt := 49) (hd := dX3_isToken_44) (kt := fun c44 => ?_) (kf := fun c44 => ?_)
        · refine v_iincN (pc := 49) X (hd := dX3_isToken_49) (kk := ?_)
          refine v_goto (pc := 52) X (tgt := 20) (hd := dX3_isToken_52) (kk := ?_)
          refine kk _ ⟨rfl, fun j hj => ?_⟩
          by_cases e1 : j = i
          · rw [e1]; exact c44
          · exact hm j (by omega)
        · refine v_iconst (pc := 47) X (v := nI 0) (hd := dX3_isToken_47) (kk := ?_)
          exact v_endb (pc := 48) X hr hlk (hd := dX3_isToken_48) (hf := bI_0 (fun q => c44 (q.2 i hi)))
    · intro h1 hI
      obtain ⟨rfl, hm⟩ := hI
      refine v_iload_n (pc := 20) X (hd := dX3_isToken_20) (kk := ?_)
      refine v_aload_n (pc := 21) X (hd := dX3_isToken_21) (kk := ?_)
      refine v_callVsp (pc := 22) X (hd := dX3_isToken_22) (w := wv_X3_69) (hC := c_J0_length_8abf5 l E k9) (hi := hk) (hp := hk) (kk := ?_)
      refine v_icmpge (pc := 25) X (tgt := 55) (hd := dX3_isToken_25) (kt := fun c25 => ?_) (kf := fun c25 => ?_)
      · refine v_iconst (pc := 55) X (v := nI 1) (hd := dX3_isToken_55) (kk := ?_)
        exact v_endb (pc := 56) X hr hlk (hd := dX3_isToken_56) (hf := bI_1 ⟨hl, hm⟩)
      · exact absurd (Int32.le_refl _) c25
  · refine v_iconst (pc := 16) X (v := nI 0) (hd := dX3_isToken_16) (kk := ?_)
    exact v_endb (pc := 17) X hr hlk (hd := dX3_isToken_17) (hf := bI_0 (fun q => c13 (by rw [q.1])))
set_option maxRecDepth 100000 in
set_option maxHeartbeats 4000000 in
theorem c_X3_valueOfToken (l : Launch) (E : pE) (x tn s e : Nat) (te : Nat → Int32) (nu : Nat → Int32) : pC l E yX3_valueOfToken cX3_valueOfToken 3 (some .int) { frames := 0, cells := 0, slots := 0, locals := 0 } 0 0 [.ref (x + 212)] (fun h _ => KP x tn te (nI s) (nI e) nu h ∧ s ≤ e ∧ e ≤ tn ∧ tn ≤ 140) (pFp ((vlE te s (e - s)))) := by
  refine pC_of (by decide) (by simp [Value.category]) (Nat.le_of_ble_eq_true rfl) ?_
  intro h z hp p__ e__ s__ m__ args__ below__ meth__ c__ X hr hlk hname
  obtain ⟨hK, hse, hen, h140⟩ := hp
  refine v_iconst (pc := 0) X (v := nI 0) (hd := dX3_valueOfToken_0) (kk := ?_)
  refine v_istore_n (pc := 1) X (hd := dX3_valueOfToken_1) (kk := ?_)
  refine v_aload_n (pc := 2) X (hd := dX3_valueOfToken_2) (kk := ?_)
  refine g_X3_19 (pc := 3) X (hd := dX3_valueOfToken_3) (hh := hK.1) (kk := ?_)
  refine v_istore_n (pc := 6) X (hd := dX3_valueOfToken_6) (kk := ?_)
  refine v_forp (pc := 7) (M := (e - s)) (Lf := fun i => [some (.ref (x + 212)), some (.int (vlE te s i)), some (.int (nI (s + i)))]) (hL := by rfl) (step := ?_) (out := ?_)
  · intro i hi kk
    refine v_iload_n (pc := 7) X (hd := dX3_valueOfToken_7) (kk := ?_)
    refine v_aload_n (pc := 8) X (hd := dX3_valueOfToken_8) (kk := ?_)
    refine g_X3_22 (pc := 9) X (hd := dX3_valueOfToken_9) (hh := hK.1) (kk := ?_)
    refine v_icmpge (pc := 12) X (tgt := 36) (hd := dX3_valueOfToken_12) (kt := fun c12 => ?_) (kf := fun c12 => ?_)
    · exact absurd c12 (nI_ge (by omega) (by omega))
    · refine v_iload_n (pc := 15) X (hd := dX3_valueOfToken_15) (kk := ?_)
      refine v_bipush (pc := 16) X (v := nI 10) (hd := dX3_valueOfToken_16) (kk := ?_)
      refine v_imul (pc := 18) X (hd := dX3_valueOfToken_18) (kk := ?_)
      refine v_aload_n (pc := 19) X (hd := dX3_valueOfToken_19) (kk := ?_)
      refine g_X3_9 (pc := 20) X (hd := dX3_valueOfToken_20) (hh := hK.1) (kk := ?_)
      refine v_iload_n (pc := 23) X (hd := dX3_valueOfToken_23) (kk := ?_)
      refine v_caldN (pc := 24) X (j := (s + i)) (hd := dX3_valueOfToken_24) (hh := hK.2.1) (hi := by first | rfl | (simp only [pk_mul, nI_add]; done)) (hj := by omega) (kk := ?_)
      refine v_bipush (pc := 25) X (v := nI 48) (hd := dX3_valueOfToken_25) (kk := ?_)
      refine v_isub (pc := 27) X (hd := dX3_valueOfToken_27) (kk := ?_)
      refine v_iadd (pc := 28) X (hd := dX3_valueOfToken_28) (kk := ?_)
      refine v_istore_n (pc := 29) X (hd := dX3_valueOfToken_29) (kk := ?_)
      refine v_iincN (pc := 30) X (hd := dX3_valueOfToken_30) (kk := ?_)
      refine v_goto (pc := 33) X (tgt := 7) (hd := dX3_valueOfToken_33) (kk := ?_)
      exact kk
  · skip
    refine v_iload_n (pc := 7) X (hd := dX3_valueOfToken_7) (kk := ?_)
    refine v_aload_n (pc := 8) X (hd := dX3_valueOfToken_8) (kk := ?_)
    refine g_X3_22 (pc := 9) X (hd := dX3_valueOfToken_9) (hh := hK.1) (kk := ?_)
    refine v_icmpge (pc := 12) X (tgt := 36) (hd := dX3_valueOfToken_12) (kt := fun c12 => ?_) (kf := fun c12 => ?_)
    · refine v_iload_n (pc := 36) X (hd := dX3_valueOfToken_36) (kk := ?_)
      exact v_endp (pc := 37) X hr hlk (hd := dX3_valueOfToken_37) (hf := rfl)
    · exact absurd (nI_le (by omega) (by omega)) c12
set_option maxRecDepth 100000 in
set_option maxHeartbeats 4000000 in
theorem c_X3_isNumber (l : Launch) (E : pE) (x tn s e : Nat) (te : Nat → Int32) (nu : Nat → Int32) : pC l E yX3_isNumber cX3_isNumber 2 (some .boolean) { frames := 1, cells := 0, slots := 0, locals := 22 } 0 0 [.ref (x + 212)] (fun h _ => KP x tn te (nI s) (nI e) nu h ∧ s ≤ e ∧ e ≤ tn ∧ tn ≤ 140) (pFp ((bI (nOk te s e)))) := by
  refine pC_of (by decide) (by simp [Value.category]) (Nat.le_of_ble_eq_true rfl) ?_
  intro h z hp p__ e__ s__ m__ args__ below__ meth__ c__ X hr hlk hname
  obtain ⟨hK, hse, hen, h140⟩ := hp
  refine v_aload_n (pc := 0) X (hd := dX3_isNumber_0) (kk := ?_)
  refine g_X3_22 (pc := 1) X (hd := dX3_isNumber_1) (hh := hK.1) (kk := ?_)
  refine v_aload_n (pc := 4) X (hd := dX3_isNumber_4) (kk := ?_)
  refine g_X3_19 (pc := 5) X (hd := dX3_isNumber_5) (hh := hK.1) (kk := ?_)
  refine v_isub (pc := 8) X (hd := dX3_isNumber_8) (kk := ?_)
  rw [pk_sub hse]
  refine v_istore_n (pc := 9) X (hd := dX3_isNumber_9) (kk := ?_)
  refine v_iload_n (pc := 10) X (hd := dX3_isNumber_10) (kk := ?_)
  refine v_iconst (pc := 11) X (v := nI 1) (hd := dX3_isNumber_11) (kk := ?_)
  refine v_iconst (pc := 12) X (v := nI 4) (hd := dX3_isNumber_12) (kk := ?_)
  refine v_callSNp (pc := 13) X (hd := dX3_isNumber_13) (w := wv_X3_29) (hC := c_X6_isWithin l E _ _ _) (hp := by first | assumption | exact trivial) (kk := ?_)
  refine v_ifeqB (pc := 16) X (tgt := 35) (hd := dX3_isNumber_16) (kt := fun c16 => ?_) (kf := fun c16 => ?_)
  · refine v_iconst (pc := 35) X (v := nI 0) (hd := dX3_isNumber_35) (kk := ?_)
    exact v_endb (pc := 36) X hr hlk (hd := dX3_isNumber_36) (hf := bI_0 (fun q => c16 ⟨nI_le q.1.1 (by omega), nI_le q.1.2 (by omega)⟩))
  · have hd1 : 1 ≤ e - s ∧ e - s ≤ 4 := ⟨(nI_leI (by omega) (by omega)).mp c16.1, (nI_leI (by omega) (by omega)).mp c16.2⟩
    refine v_aload_n (pc := 19) X (hd := dX3_isNumber_19) (kk := ?_)
    refine g_X3_9 (pc := 20) X (hd := dX3_isNumber_20) (hh := hK.1) (kk := ?_)
    refine v_aload_n (pc := 23) X (hd := dX3_isNumber_23) (kk := ?_)
    refine g_X3_19 (pc := 24) X (hd := dX3_isNumber_24) (hh := hK.1) (kk := ?_)
    refine v_caldN (pc := 27) X (j := s) (hd := dX3_isNumber_27) (hh := hK.2.1) (hi := by first | rfl | (simp only [pk_mul, nI_add]; done)) (hj := by omega) (kk := ?_)
    refine v_callSp (pc := 28) X (hd := dX3_isNumber_28) (w := wv_X3_65) (hC := c_X3_kindOf l E _) (hp := by first | assumption | exact trivial) (kk := ?_)
    refine v_iconst (pc := 31) X (v := nI 2) (hd := dX3_isNumber_31) (kk := ?_)
    refine v_icmpeq (pc := 32) X (tgt := 37) (hd := dX3_isNumber_32) (kt := fun c32 => ?_) (kf := fun c32 => ?_)
    · have k2 : kd (te s) = 2 := (nI_eq (by have := kd_c (te s); omega) (by omega)).mp c32
      refine v_iload_n (pc := 37) X (hd := dX3_isNumber_37) (kk := ?_)
      refine v_iconst (pc := 38) X (v := nI 1) (hd := dX3_isNumber_38) (kk := ?_)
      refine v_icmpeq (pc := 39) X (tgt := 56) (hd := dX3_isNumber_39) (kt := fun c39 => ?_) (kf := fun c39 => ?_)
      · have d1 : e - s = 1 := (nI_eq (by omega) (by omega)).mp c39
        refine v_iconst (pc := 56) X (v := nI 1) (hd := dX3_isNumber_56) (kk := ?_)
        refine v_goto (pc := 57) X (tgt := 61) (hd := dX3_isNumber_57) (kk := ?_)
        exact v_endb (pc := 61) X hr hlk (hd := dX3_isNumber_61) (hf := bI_1 ⟨hd1, k2, Or.inl d1⟩)
      · refine v_aload_n (pc := 42) X (hd := dX3_isNumber_42) (kk := ?_)
        refine g_X3_9 (pc := 43) X (hd := dX3_isNumber_43) (hh := hK.1) (kk := ?_)
        refine v_aload_n (pc := 46) X (hd := dX3_isNumber_46) (kk := ?_)
        refine g_X3_19 (pc := 47) X (hd := dX3_isNumber_47) (hh := hK.1) (kk := ?_)
        refine v_caldN (pc := 50) X (j := s) (hd := dX3_isNumber_50) (hh := hK.2.1) (hi := by first | rfl | (simp only [pk_mul, nI_add]; done)) (hj := by omega) (kk := ?_)
        refine v_bipush (pc := 51) X (v := nI 48) (hd := dX3_isNumber_51) (kk := ?_)
        refine v_icmpeq (pc := 53) X (tgt := 60) (hd := dX3_isNumber_53) (kt := fun c53 => ?_) (kf := fun c53 => ?_)
        · refine v_iconst (pc := 60) X (v := nI 0) (hd := dX3_isNumber_60) (kk := ?_)
          exact v_endb (pc := 61) X hr hlk (hd := dX3_isNumber_61) (hf := bI_0 (fun q => q.2.2.elim (fun w => c39 (by rw [w])) (fun w => w c53)))
        · refine v_iconst (pc := 56) X (v := nI 1) (hd := dX3_isNumber_56) (kk := ?_)
          refine v_goto (pc := 57) X (tgt := 61) (hd := dX3_isNumber_57) (kk := ?_)
          exact v_endb (pc := 61) X hr hlk (hd := dX3_isNumber_61) (hf := bI_1 ⟨hd1, k2, Or.inr c53⟩)
    · refine v_iconst (pc := 35) X (v := nI 0) (hd := dX3_isNumber_35) (kk := ?_)
      exact v_endb (pc := 36) X hr hlk (hd := dX3_isNumber_36) (hf := bI_0 (fun q => c32 (by rw [q.2.1])))
set_option maxRecDepth 100000 in
set_option maxHeartbeats 4000000 in
theorem c_X3_commandOfToken (l : Launch) (E : pE) (x tn s e : Nat) (te : Nat → Int32) (nu : Nat → Int32) : pC l E yX3_commandOfToken cX3_commandOfToken 1 (some .int) { frames := 5, cells := 0, slots := 0, locals := 107 } 0 0 [.ref (x + 212)] (fun h _ => KP x tn te (nI s) (nI e) nu h ∧ s ≤ e ∧ e ≤ tn ∧ tn ≤ 140) (pFp ((nI (cmdN te s e)))) := by
  refine pC_of (by decide) (by simp [Value.category]) (Nat.le_of_ble_eq_true rfl) ?_
  intro h z hp p__ e__ s__ m__ args__ below__ meth__ c__ X hr hlk hname
  obtain ⟨hK, hse, hen, h140⟩ := hp
  refine v_aload_n (pc := 0) X (hd := dX3_commandOfToken_0) (kk := ?_)
  refine v_ldcS (pc := 1) X 0 (by decide) (hd := dX3_commandOfToken_1) (kk := ?_)
  refine v_callVp (pc := 3) X (hd := dX3_commandOfToken_3) (w := wv_X3_57) (hC := c_X3_isToken l E x tn s e te nu 0) (hp := ⟨hK, hse, hen, h140, by decide⟩) (hb := hK.1) (kk := ?_)
  refine v_ifeqB (pc := 6) X (tgt := 11) (hd := dX3_commandOfToken_6) (kt := fun c6 => ?_) (kf := fun c6 => ?_)
  · refine v_aload_n (pc := 11) X (hd := dX3_commandOfToken_11) (kk := ?_)
    refine v_ldcS (pc := 12) X 1 (by decide) (hd := dX3_commandOfToken_12) (kk := ?_)
    refine v_callVp (pc := 14) X (hd := dX3_commandOfToken_14) (w := wv_X3_57) (hC := c_X3_isToken l E x tn s e te nu 1) (hp := ⟨hK, hse, hen, h140, by decide⟩) (hb := hK.1) (kk := ?_)
    refine v_ifeqB (pc := 17) X (tgt := 22) (hd := dX3_commandOfToken_17) (kt := fun c17 => ?_) (kf := fun c17 => ?_)
    · refine v_aload_n (pc := 22) X (hd := dX3_commandOfToken_22) (kk := ?_)
      refine v_ldcS (pc := 23) X 2 (by decide) (hd := dX3_commandOfToken_23) (kk := ?_)
      refine v_callVp (pc := 25) X (hd := dX3_commandOfToken_25) (w := wv_X3_57) (hC := c_X3_isToken l E x tn s e te nu 2) (hp := ⟨hK, hse, hen, h140, by decide⟩) (hb := hK.1) (kk := ?_)
      refine v_ifeqB (pc := 28) X (tgt := 33) (hd := dX3_commandOfToken_28) (kt := fun c28 => ?_) (kf := fun c28 => ?_)
      · refine v_aload_n (pc := 33) X (hd := dX3_commandOfToken_33) (kk := ?_)
        refine v_ldcS (pc := 34) X 3 (by decide) (hd := dX3_commandOfToken_34) (kk := ?_)
        refine v_callVp (pc := 36) X (hd := dX3_commandOfToken_36) (w := wv_X3_57) (hC := c_X3_isToken l E x tn s e te nu 3) (hp := ⟨hK, hse, hen, h140, by decide⟩) (hb := hK.1) (kk := ?_)
        refine v_ifeqB (pc := 39) X (tgt := 44) (hd := dX3_commandOfToken_39) (kt := fun c39 => ?_) (kf := fun c39 => ?_)
        · refine v_aload_n (pc := 44) X (hd := dX3_commandOfToken_44) (kk := ?_)
          refine v_ldcS (pc := 45) X 4 (by decide) (hd := dX3_commandOfToken_45) (kk := ?_)
          refine v_callVp (pc := 47) X (hd := dX3_commandOfToken_47) (w := wv_X3_57) (hC := c_X3_isToken l E x tn s e te nu 4) (hp := ⟨hK, hse, hen, h140, by decide⟩) (hb := hK.1) (kk := ?_)
          refine v_ifeqB (pc := 50) X (tgt := 55) (hd := dX3_commandOfToken_50) (kt := fun c50 => ?_) (kf := fun c50 => ?_)
          · refine v_aload_n (pc := 55) X (hd := dX3_commandOfToken_55) (kk := ?_)
            refine v_ldcS (pc := 56) X 5 (by decide) (hd := dX3_commandOfToken_56) (kk := ?_)
            refine v_callVp (pc := 58) X (hd := dX3_commandOfToken_58) (w := wv_X3_57) (hC := c_X3_isToken l E x tn s e te nu 5) (hp := ⟨hK, hse, hen, h140, by decide⟩) (hb := hK.1) (kk := ?_)
            refine v_ifeqB (pc := 61) X (tgt := 67) (hd := dX3_commandOfToken_61) (kt := fun c61 => ?_) (kf := fun c61 => ?_)
            · refine v_aload_n (pc := 67) X (hd := dX3_commandOfToken_67) (kk := ?_)
              refine v_ldcS (pc := 68) X 6 (by decide) (hd := dX3_commandOfToken_68) (kk := ?_)
              refine v_callVp (pc := 70) X (hd := dX3_commandOfToken_70) (w := wv_X3_57) (hC := c_X3_isToken l E x tn s e te nu 6) (hp := ⟨hK, hse, hen, h140, by decide⟩) (hb := hK.1) (kk := ?_)
              refine v_ifeqB (pc := 73) X (tgt := 81) (hd := dX3_commandOfToken_73) (kt := fun c73 => ?_) (kf := fun c73 => ?_)
              · refine v_iconst (pc := 81) X (v := nI 0) (hd := dX3_commandOfToken_81) (kk := ?_)
                exact v_endp (pc := 82) X hr hlk (hd := dX3_commandOfToken_82) (hf := by unfold cmdN; rw [if_neg c6, if_neg c17, if_neg c28, if_neg c39, if_neg c50, if_neg c61, if_neg c73])
              · refine v_bipush (pc := 76) X (v := nI 7) (hd := dX3_commandOfToken_76) (kk := ?_)
                refine v_goto (pc := 78) X (tgt := 82) (hd := dX3_commandOfToken_78) (kk := ?_)
                exact v_endp (pc := 82) X hr hlk (hd := dX3_commandOfToken_82) (hf := by unfold cmdN; rw [if_neg c6, if_neg c17, if_neg c28, if_neg c39, if_neg c50, if_neg c61, if_pos c73])
            · refine v_bipush (pc := 64) X (v := nI 6) (hd := dX3_commandOfToken_64) (kk := ?_)
              exact v_endp (pc := 66) X hr hlk (hd := dX3_commandOfToken_66) (hf := by unfold cmdN; rw [if_neg c6, if_neg c17, if_neg c28, if_neg c39, if_neg c50, if_pos c61])
          · refine v_iconst (pc := 53) X (v := nI 5) (hd := dX3_commandOfToken_53) (kk := ?_)
            exact v_endp (pc := 54) X hr hlk (hd := dX3_commandOfToken_54) (hf := by unfold cmdN; rw [if_neg c6, if_neg c17, if_neg c28, if_neg c39, if_pos c50])
        · refine v_iconst (pc := 42) X (v := nI 4) (hd := dX3_commandOfToken_42) (kk := ?_)
          exact v_endp (pc := 43) X hr hlk (hd := dX3_commandOfToken_43) (hf := by unfold cmdN; rw [if_neg c6, if_neg c17, if_neg c28, if_pos c39])
      · refine v_iconst (pc := 31) X (v := nI 3) (hd := dX3_commandOfToken_31) (kk := ?_)
        exact v_endp (pc := 32) X hr hlk (hd := dX3_commandOfToken_32) (hf := by unfold cmdN; rw [if_neg c6, if_neg c17, if_pos c28])
    · refine v_iconst (pc := 20) X (v := nI 2) (hd := dX3_commandOfToken_20) (kk := ?_)
      exact v_endp (pc := 21) X hr hlk (hd := dX3_commandOfToken_21) (hf := by unfold cmdN; rw [if_neg c6, if_pos c17])
  · refine v_iconst (pc := 9) X (v := nI 1) (hd := dX3_commandOfToken_9) (kk := ?_)
    exact v_endp (pc := 10) X hr hlk (hd := dX3_commandOfToken_10) (hf := by unfold cmdN; rw [if_pos c6])
set_option maxRecDepth 100000 in
set_option maxHeartbeats 4000000 in
theorem c_X3_numbersOf (l : Launch) (E : pE) (q : Nat) : pC l E yX3_numbersOf cX3_numbersOf 1 (some .int) { frames := 0, cells := 0, slots := 0, locals := 0 } 0 0 [.int (nI q)] (fun h _ => 1 ≤ q ∧ q ≤ 7) (pFp ((nI (cntN q)))) := by
  refine pC_of (by decide) (by simp [Value.category]) (Nat.le_of_ble_eq_true rfl) ?_
  intro h z hp p__ e__ s__ m__ args__ below__ meth__ c__ X hr hlk hname
  refine v_iload_n (pc := 0) X (hd := dX3_numbersOf_0) (kk := ?_)
  skip
  have hq2 : q = 1 ∨ q = 2 ∨ q = 3 ∨ q = 4 ∨ q = 5 ∨ q = 6 ∨ q = 7 := by omega
  rcases hq2 with rfl | rfl | rfl | rfl | rfl | rfl | rfl
  · refine v_tabIn (pc := 1) (tgt := 38) X (hd := dX3_numbersOf_1) 0 (by decide +kernel) (kk := ?_)
    refine v_iconst (pc := 38) X (v := nI 1) (hd := dX3_numbersOf_38) (kk := ?_)
    exact v_endp (pc := 39) X hr hlk (hd := dX3_numbersOf_39) (hf := by decide)
  · refine v_tabIn (pc := 1) (tgt := 40) X (hd := dX3_numbersOf_1) 1 (by decide +kernel) (kk := ?_)
    refine v_iconst (pc := 40) X (v := nI 2) (hd := dX3_numbersOf_40) (kk := ?_)
    exact v_endp (pc := 41) X hr hlk (hd := dX3_numbersOf_41) (hf := by decide)
  · refine v_tabIn (pc := 1) (tgt := 40) X (hd := dX3_numbersOf_1) 2 (by decide +kernel) (kk := ?_)
    refine v_iconst (pc := 40) X (v := nI 2) (hd := dX3_numbersOf_40) (kk := ?_)
    exact v_endp (pc := 41) X hr hlk (hd := dX3_numbersOf_41) (hf := by decide)
  · refine v_tabIn (pc := 1) (tgt := 36) X (hd := dX3_numbersOf_1) 3 (by decide +kernel) (kk := ?_)
    refine v_iconst (pc := 36) X (v := nI 3) (hd := dX3_numbersOf_36) (kk := ?_)
    exact v_endp (pc := 37) X hr hlk (hd := dX3_numbersOf_37) (hf := by decide)
  · refine v_tabIn (pc := 1) (tgt := 38) X (hd := dX3_numbersOf_1) 4 (by decide +kernel) (kk := ?_)
    refine v_iconst (pc := 38) X (v := nI 1) (hd := dX3_numbersOf_38) (kk := ?_)
    exact v_endp (pc := 39) X hr hlk (hd := dX3_numbersOf_39) (hf := by decide)
  · refine v_tabOut (pc := 1) (tgt := 40) X (hd := dX3_numbersOf_1) (by decide +kernel) (kk := ?_)
    refine v_iconst (pc := 40) X (v := nI 2) (hd := dX3_numbersOf_40) (kk := ?_)
    exact v_endp (pc := 41) X hr hlk (hd := dX3_numbersOf_41) (hf := by decide)
  · refine v_tabOut (pc := 1) (tgt := 40) X (hd := dX3_numbersOf_1) (by decide +kernel) (kk := ?_)
    refine v_iconst (pc := 40) X (v := nI 2) (hd := dX3_numbersOf_40) (kk := ?_)
    exact v_endp (pc := 41) X hr hlk (hd := dX3_numbersOf_41) (hf := by decide)
set_option maxRecDepth 100000 in
set_option maxHeartbeats 4000000 in
theorem c_X7_isWord (l : Launch) (E : pE) (m : Nat) (w pa he te re : Nat → Int32) (ps rn : Int32) (tn s e : Nat) (ki co : Int32) (c0 c1 c2 c3 c4 : Int32) : pC l E yX7_isWord cX7_isWord 9 (some .boolean) { frames := 0, cells := 0, slots := 0, locals := 0 } 0 0 [.ref m, .int c0, .int c1, .int c2, .int c3, .int c4] (fun h _ => MD m w pa he te re ps rn (nI tn) (nI e) (nI s) ki co h ∧ s ≤ e ∧ e ≤ tn ∧ tn ≤ 140) (pFp ((bI (okB ki te s e (CFW c0 c1 c2 c3 c4) 5 = true ∧ e - s < 6)))) := by
  refine pC_of (by decide) (by simp [Value.category]) (Nat.le_of_ble_eq_true rfl) ?_
  intro h z hp p__ e__ s__ m__ args__ below__ meth__ c__ X hr hlk hname
  obtain ⟨hM, hse, hen, h140⟩ := hp
  refine v_aload_n (pc := 0) X (hd := dX7_isWord_0) (kk := ?_)
  refine g_X7_114 (pc := 1) X (hd := dX7_isWord_1) (hh := hM.1) (kk := ?_)
  refine v_sipush (pc := 4) X (v := nI 1000) (hd := dX7_isWord_4) (kk := ?_)
  refine v_icmpne (pc := 7) X (tgt := 14) (hd := dX7_isWord_7) (kt := fun c7 => ?_) (kf := fun c7 => ?_)
  · refine v_iconst (pc := 14) X (v := nI 0) (hd := dX7_isWord_14) (kk := ?_)
    refine v_istore (pc := 15) X (hd := dX7_isWord_15) (kk := ?_)
    refine v_iconst (pc := 17) X (v := nI 0) (hd := dX7_isWord_17) (kk := ?_)
    refine v_istore (pc := 18) X (hd := dX7_isWord_18) (kk := ?_)
    refine v_forp (pc := 20) (M := 5) (Lf := fun i => [some (.ref m), some (.int c0), some (.int c1), some (.int c2), some (.int c3), some (.int c4), some (.int (bI (okB ki te s e (CFW c0 c1 c2 c3 c4) i = true))), some (.int (nI i)), none]) (hL := by rw [show bI (okB ki te s e (CFW c0 c1 c2 c3 c4) 0 = true) = nI 0 from (bI_0 (fun q => c7 (okB_0.mp q))).symm]; rfl) (step := ?_) (out := ?_)
    · intro i hi kk
      refine v_iload (pc := 20) X (hd := dX7_isWord_20) (kk := ?_)
      refine v_iconst (pc := 22) X (v := nI 5) (hd := dX7_isWord_22) (kk := ?_)
      refine v_icmpge (pc := 23) X (tgt := 141) (hd := dX7_isWord_23) (kt := fun c23 => ?_) (kf := fun c23 => ?_)
      · exact absurd c23 (nI_ge hi (by omega))
      · refine v_iload (pc := 26) X (hd := dX7_isWord_26) (kk := ?_)
        refine v_ifne (pc := 28) X (tgt := 35) (hd := dX7_isWord_28) (kt := fun c28 => ?_) (kf := fun c28 => ?_)
        · have i0 : ¬ i = 0 := fun q => c28 (by rw [q]; exact nI_z)
          refine v_iload (pc := 35) X (hd := dX7_isWord_35) (kk := ?_)
          refine v_iconst (pc := 37) X (v := nI 1) (hd := dX7_isWord_37) (kk := ?_)
          refine v_icmpne (pc := 38) X (tgt := 45) (hd := dX7_isWord_38) (kt := fun c38 => ?_) (kf := fun c38 => ?_)
          · have i1 : ¬ i = 1 := fun q => c38 (by rw [q])
            refine v_iload (pc := 45) X (hd := dX7_isWord_45) (kk := ?_)
            refine v_iconst (pc := 47) X (v := nI 2) (hd := dX7_isWord_47) (kk := ?_)
            refine v_icmpne (pc := 48) X (tgt := 55) (hd := dX7_isWord_48) (kt := fun c48 => ?_) (kf := fun c48 => ?_)
            · have i2 : ¬ i = 2 := fun q => c48 (by rw [q])
              refine v_iload (pc := 55) X (hd := dX7_isWord_55) (kk := ?_)
              refine v_iconst (pc := 57) X (v := nI 3) (hd := dX7_isWord_57) (kk := ?_)
              refine v_icmpne (pc := 58) X (tgt := 66) (hd := dX7_isWord_58) (kt := fun c58 => ?_) (kf := fun c58 => ?_)
              · have i3 : ¬ i = 3 := fun q => c58 (by rw [q])
                have i4 : i = 4 := by omega
                subst i4
                refine v_iload (pc := 66) X (hd := dX7_isWord_66) (kk := ?_)
                refine v_istore (pc := 68) X (hd := dX7_isWord_68) (kk := ?_)
                refine v_iload (pc := 70) X (hd := dX7_isWord_70) (kk := ?_)
                refine v_ifeqB (pc := 72) X (tgt := 132) (hd := dX7_isWord_72) (kt := fun c72 => ?_) (kf := fun c72 => ?_)
                · refine v_iconst (pc := 132) X (v := nI 0) (hd := dX7_isWord_132) (kk := ?_)
                  refine v_topi (fun y133 e133 => ?_)
                  obtain rfl : y133 = bI (okB ki te s e (CFW c0 c1 c2 c3 c4) (4 + 1) = true) := e133.trans (bI_0 (fun q => c72 (okB_s.mp q).1))
                  refine v_istore (pc := 133) X (hd := dX7_isWord_133) (kk := ?_)
                  refine v_iincN (pc := 135) X (hd := dX7_isWord_135) (kk := ?_)
                  refine v_goto (pc := 138) X (tgt := 20) (hd := dX7_isWord_138) (kk := ?_)
                  exact v_sub [some (.ref m), some (.int c0), some (.int c1), some (.int c2), some (.int c3), some (.int c4), some (.int (bI (okB ki te s e (CFW c0 c1 c2 c3 c4) (4 + 1) = true))), some (.int (nI (4 + 1))), none] (by intro i v hv; match i, hv with | 0, hv => exact hv | 1, hv => exact hv | 2, hv => exact hv | 3, hv => exact hv | 4, hv => exact hv | 5, hv => exact hv | 6, hv => exact hv | 7, hv => exact hv | 8, hv => simp at hv) kk
                · refine v_iload (pc := 75) X (hd := dX7_isWord_75) (kk := ?_)
                  refine v_ifne (pc := 77) X (tgt := 97) (hd := dX7_isWord_77) (kt := fun c77 => ?_) (kf := fun c77 => ?_)
                  · refine v_aload_n (pc := 97) X (hd := dX7_isWord_97) (kk := ?_)
                    refine g_X7_108 (pc := 98) X (hd := dX7_isWord_98) (hh := hM.1) (kk := ?_)
                    refine v_iload (pc := 101) X (hd := dX7_isWord_101) (kk := ?_)
                    refine v_iadd (pc := 103) X (hd := dX7_isWord_103) (kk := ?_)
                    rw [nI_add]
                    refine v_aload_n (pc := 104) X (hd := dX7_isWord_104) (kk := ?_)
                    refine g_X7_105 (pc := 105) X (hd := dX7_isWord_105) (hh := hM.1) (kk := ?_)
                    refine v_icmpge (pc := 108) X (tgt := 132) (hd := dX7_isWord_108) (kt := fun c108 => ?_) (kf := fun c108 => ?_)
                    · refine v_iconst (pc := 132) X (v := nI 0) (hd := dX7_isWord_132) (kk := ?_)
                      refine v_topi (fun y133 e133 => ?_)
                      obtain rfl : y133 = bI (okB ki te s e (CFW c0 c1 c2 c3 c4) (4 + 1) = true) := e133.trans (bI_0 (fun q => (okB_s.mp q).2.elim (fun w => c77 w.1) (fun w => absurd c108 (nI_ge w.2.1 (by omega)))))
                      refine v_istore (pc := 133) X (hd := dX7_isWord_133) (kk := ?_)
                      refine v_iincN (pc := 135) X (hd := dX7_isWord_135) (kk := ?_)
                      refine v_goto (pc := 138) X (tgt := 20) (hd := dX7_isWord_138) (kk := ?_)
                      exact v_sub [some (.ref m), some (.int c0), some (.int c1), some (.int c2), some (.int c3), some (.int c4), some (.int (bI (okB ki te s e (CFW c0 c1 c2 c3 c4) (4 + 1) = true))), some (.int (nI (4 + 1))), none] (by intro i v hv; match i, hv with | 0, hv => exact hv | 1, hv => exact hv | 2, hv => exact hv | 3, hv => exact hv | 4, hv => exact hv | 5, hv => exact hv | 6, hv => exact hv | 7, hv => exact hv | 8, hv => simp at hv) kk
                    · have h108 : s + 4 < e := by
                        rcases Nat.lt_or_ge (s + 4) e with v1 | v1
                        · exact v1
                        · exact absurd (nI_le v1 (by omega)) c108
                      refine v_aload_n (pc := 111) X (hd := dX7_isWord_111) (kk := ?_)
                      refine g_X7_19 (pc := 112) X (hd := dX7_isWord_112) (hh := hM.1) (kk := ?_)
                      refine v_aload_n (pc := 115) X (hd := dX7_isWord_115) (kk := ?_)
                      refine g_X7_108 (pc := 116) X (hd := dX7_isWord_116) (hh := hM.1) (kk := ?_)
                      refine v_iload (pc := 119) X (hd := dX7_isWord_119) (kk := ?_)
                      refine v_iadd (pc := 121) X (hd := dX7_isWord_121) (kk := ?_)
                      rw [nI_add]
                      refine v_ialdN (pc := 122) X (j := (s + 4)) (hd := dX7_isWord_122) (hh := hM.2.2.2.2.1) (hi := by first | rfl | (simp only [pk_mul, nI_add]; done)) (hj := by omega) (kk := ?_)
                      refine v_iload (pc := 123) X (hd := dX7_isWord_123) (kk := ?_)
                      refine v_icmpne (pc := 125) X (tgt := 132) (hd := dX7_isWord_125) (kt := fun c125 => ?_) (kf := fun c125 => ?_)
                      · refine v_iconst (pc := 132) X (v := nI 0) (hd := dX7_isWord_132) (kk := ?_)
                        refine v_topi (fun y133 e133 => ?_)
                        obtain rfl : y133 = bI (okB ki te s e (CFW c0 c1 c2 c3 c4) (4 + 1) = true) := e133.trans (bI_0 (fun q => (okB_s.mp q).2.elim (fun w => c77 w.1) (fun w => c125 w.2.2)))
                        refine v_istore (pc := 133) X (hd := dX7_isWord_133) (kk := ?_)
                        refine v_iincN (pc := 135) X (hd := dX7_isWord_135) (kk := ?_)
                        refine v_goto (pc := 138) X (tgt := 20) (hd := dX7_isWord_138) (kk := ?_)
                        exact v_sub [some (.ref m), some (.int c0), some (.int c1), some (.int c2), some (.int c3), some (.int c4), some (.int (bI (okB ki te s e (CFW c0 c1 c2 c3 c4) (4 + 1) = true))), some (.int (nI (4 + 1))), none] (by intro i v hv; match i, hv with | 0, hv => exact hv | 1, hv => exact hv | 2, hv => exact hv | 3, hv => exact hv | 4, hv => exact hv | 5, hv => exact hv | 6, hv => exact hv | 7, hv => exact hv | 8, hv => simp at hv) kk
                      · refine v_iconst (pc := 128) X (v := nI 1) (hd := dX7_isWord_128) (kk := ?_)
                        refine v_goto (pc := 129) X (tgt := 133) (hd := dX7_isWord_129) (kk := ?_)
                        refine v_topi (fun y133 e133 => ?_)
                        obtain rfl : y133 = bI (okB ki te s e (CFW c0 c1 c2 c3 c4) (4 + 1) = true) := e133.trans (bI_1 (okB_s.mpr ⟨c72, Or.inr ⟨c77, h108, Classical.not_not.mp c125⟩⟩))
                        refine v_istore (pc := 133) X (hd := dX7_isWord_133) (kk := ?_)
                        refine v_iincN (pc := 135) X (hd := dX7_isWord_135) (kk := ?_)
                        refine v_goto (pc := 138) X (tgt := 20) (hd := dX7_isWord_138) (kk := ?_)
                        exact v_sub [some (.ref m), some (.int c0), some (.int c1), some (.int c2), some (.int c3), some (.int c4), some (.int (bI (okB ki te s e (CFW c0 c1 c2 c3 c4) (4 + 1) = true))), some (.int (nI (4 + 1))), none] (by intro i v hv; match i, hv with | 0, hv => exact hv | 1, hv => exact hv | 2, hv => exact hv | 3, hv => exact hv | 4, hv => exact hv | 5, hv => exact hv | 6, hv => exact hv | 7, hv => exact hv | 8, hv => simp at hv) kk
                  · have z77 := Classical.not_not.mp c77
                    refine v_aload_n (pc := 80) X (hd := dX7_isWord_80) (kk := ?_)
                    refine g_X7_108 (pc := 81) X (hd := dX7_isWord_81) (hh := hM.1) (kk := ?_)
                    refine v_iload (pc := 84) X (hd := dX7_isWord_84) (kk := ?_)
                    refine v_iadd (pc := 86) X (hd := dX7_isWord_86) (kk := ?_)
                    rw [nI_add]
                    refine v_aload_n (pc := 87) X (hd := dX7_isWord_87) (kk := ?_)
                    refine g_X7_105 (pc := 88) X (hd := dX7_isWord_88) (hh := hM.1) (kk := ?_)
                    refine v_icmplt (pc := 91) X (tgt := 132) (hd := dX7_isWord_91) (kt := fun c91 => ?_) (kf := fun c91 => ?_)
                    · refine v_iconst (pc := 132) X (v := nI 0) (hd := dX7_isWord_132) (kk := ?_)
                      refine v_topi (fun y133 e133 => ?_)
                      obtain rfl : y133 = bI (okB ki te s e (CFW c0 c1 c2 c3 c4) (4 + 1) = true) := e133.trans (bI_0 (fun q => (okB_s.mp q).2.elim (fun w => absurd ((nI_ltI (by omega) (by omega)).mp c91) (by have := w.2; omega)) (fun w => w.1 z77)))
                      refine v_istore (pc := 133) X (hd := dX7_isWord_133) (kk := ?_)
                      refine v_iincN (pc := 135) X (hd := dX7_isWord_135) (kk := ?_)
                      refine v_goto (pc := 138) X (tgt := 20) (hd := dX7_isWord_138) (kk := ?_)
                      exact v_sub [some (.ref m), some (.int c0), some (.int c1), some (.int c2), some (.int c3), some (.int c4), some (.int (bI (okB ki te s e (CFW c0 c1 c2 c3 c4) (4 + 1) = true))), some (.int (nI (4 + 1))), none] (by intro i v hv; match i, hv with | 0, hv => exact hv | 1, hv => exact hv | 2, hv => exact hv | 3, hv => exact hv | 4, hv => exact hv | 5, hv => exact hv | 6, hv => exact hv | 7, hv => exact hv | 8, hv => simp at hv) kk
                    · refine v_goto (pc := 94) X (tgt := 128) (hd := dX7_isWord_94) (kk := ?_)
                      refine v_iconst (pc := 128) X (v := nI 1) (hd := dX7_isWord_128) (kk := ?_)
                      refine v_goto (pc := 129) X (tgt := 133) (hd := dX7_isWord_129) (kk := ?_)
                      refine v_topi (fun y133 e133 => ?_)
                      obtain rfl : y133 = bI (okB ki te s e (CFW c0 c1 c2 c3 c4) (4 + 1) = true) := e133.trans (bI_1 (okB_s.mpr ⟨c72, Or.inl ⟨z77, by rcases Nat.lt_or_ge (s + 4) e with v1 | v1; exact absurd (nI_lt v1 (by omega)) c91; exact v1⟩⟩))
                      refine v_istore (pc := 133) X (hd := dX7_isWord_133) (kk := ?_)
                      refine v_iincN (pc := 135) X (hd := dX7_isWord_135) (kk := ?_)
                      refine v_goto (pc := 138) X (tgt := 20) (hd := dX7_isWord_138) (kk := ?_)
                      exact v_sub [some (.ref m), some (.int c0), some (.int c1), some (.int c2), some (.int c3), some (.int c4), some (.int (bI (okB ki te s e (CFW c0 c1 c2 c3 c4) (4 + 1) = true))), some (.int (nI (4 + 1))), none] (by intro i v hv; match i, hv with | 0, hv => exact hv | 1, hv => exact hv | 2, hv => exact hv | 3, hv => exact hv | 4, hv => exact hv | 5, hv => exact hv | 6, hv => exact hv | 7, hv => exact hv | 8, hv => simp at hv) kk
              · have i3 : i = 3 := (nI_eq (by omega) (by omega)).mp (Classical.not_not.mp c58)
                subst i3
                refine v_iload (pc := 61) X (hd := dX7_isWord_61) (kk := ?_)
                refine v_goto (pc := 63) X (tgt := 68) (hd := dX7_isWord_63) (kk := ?_)
                refine v_istore (pc := 68) X (hd := dX7_isWord_68) (kk := ?_)
                refine v_iload (pc := 70) X (hd := dX7_isWord_70) (kk := ?_)
                refine v_ifeqB (pc := 72) X (tgt := 132) (hd := dX7_isWord_72) (kt := fun c72 => ?_) (kf := fun c72 => ?_)
                · refine v_iconst (pc := 132) X (v := nI 0) (hd := dX7_isWord_132) (kk := ?_)
                  refine v_topi (fun y133 e133 => ?_)
                  obtain rfl : y133 = bI (okB ki te s e (CFW c0 c1 c2 c3 c4) (3 + 1) = true) := e133.trans (bI_0 (fun q => c72 (okB_s.mp q).1))
                  refine v_istore (pc := 133) X (hd := dX7_isWord_133) (kk := ?_)
                  refine v_iincN (pc := 135) X (hd := dX7_isWord_135) (kk := ?_)
                  refine v_goto (pc := 138) X (tgt := 20) (hd := dX7_isWord_138) (kk := ?_)
                  exact v_sub [some (.ref m), some (.int c0), some (.int c1), some (.int c2), some (.int c3), some (.int c4), some (.int (bI (okB ki te s e (CFW c0 c1 c2 c3 c4) (3 + 1) = true))), some (.int (nI (3 + 1))), none] (by intro i v hv; match i, hv with | 0, hv => exact hv | 1, hv => exact hv | 2, hv => exact hv | 3, hv => exact hv | 4, hv => exact hv | 5, hv => exact hv | 6, hv => exact hv | 7, hv => exact hv | 8, hv => simp at hv) kk
                · refine v_iload (pc := 75) X (hd := dX7_isWord_75) (kk := ?_)
                  refine v_ifne (pc := 77) X (tgt := 97) (hd := dX7_isWord_77) (kt := fun c77 => ?_) (kf := fun c77 => ?_)
                  · refine v_aload_n (pc := 97) X (hd := dX7_isWord_97) (kk := ?_)
                    refine g_X7_108 (pc := 98) X (hd := dX7_isWord_98) (hh := hM.1) (kk := ?_)
                    refine v_iload (pc := 101) X (hd := dX7_isWord_101) (kk := ?_)
                    refine v_iadd (pc := 103) X (hd := dX7_isWord_103) (kk := ?_)
                    rw [nI_add]
                    refine v_aload_n (pc := 104) X (hd := dX7_isWord_104) (kk := ?_)
                    refine g_X7_105 (pc := 105) X (hd := dX7_isWord_105) (hh := hM.1) (kk := ?_)
                    refine v_icmpge (pc := 108) X (tgt := 132) (hd := dX7_isWord_108) (kt := fun c108 => ?_) (kf := fun c108 => ?_)
                    · refine v_iconst (pc := 132) X (v := nI 0) (hd := dX7_isWord_132) (kk := ?_)
                      refine v_topi (fun y133 e133 => ?_)
                      obtain rfl : y133 = bI (okB ki te s e (CFW c0 c1 c2 c3 c4) (3 + 1) = true) := e133.trans (bI_0 (fun q => (okB_s.mp q).2.elim (fun w => c77 w.1) (fun w => absurd c108 (nI_ge w.2.1 (by omega)))))
                      refine v_istore (pc := 133) X (hd := dX7_isWord_133) (kk := ?_)
                      refine v_iincN (pc := 135) X (hd := dX7_isWord_135) (kk := ?_)
                      refine v_goto (pc := 138) X (tgt := 20) (hd := dX7_isWord_138) (kk := ?_)
                      exact v_sub [some (.ref m), some (.int c0), some (.int c1), some (.int c2), some (.int c3), some (.int c4), some (.int (bI (okB ki te s e (CFW c0 c1 c2 c3 c4) (3 + 1) = true))), some (.int (nI (3 + 1))), none] (by intro i v hv; match i, hv with | 0, hv => exact hv | 1, hv => exact hv | 2, hv => exact hv | 3, hv => exact hv | 4, hv => exact hv | 5, hv => exact hv | 6, hv => exact hv | 7, hv => exact hv | 8, hv => simp at hv) kk
                    · have h108 : s + 3 < e := by
                        rcases Nat.lt_or_ge (s + 3) e with v1 | v1
                        · exact v1
                        · exact absurd (nI_le v1 (by omega)) c108
                      refine v_aload_n (pc := 111) X (hd := dX7_isWord_111) (kk := ?_)
                      refine g_X7_19 (pc := 112) X (hd := dX7_isWord_112) (hh := hM.1) (kk := ?_)
                      refine v_aload_n (pc := 115) X (hd := dX7_isWord_115) (kk := ?_)
                      refine g_X7_108 (pc := 116) X (hd := dX7_isWord_116) (hh := hM.1) (kk := ?_)
                      refine v_iload (pc := 119) X (hd := dX7_isWord_119) (kk := ?_)
                      refine v_iadd (pc := 121) X (hd := dX7_isWord_121) (kk := ?_)
                      rw [nI_add]
                      refine v_ialdN (pc := 122) X (j := (s + 3)) (hd := dX7_isWord_122) (hh := hM.2.2.2.2.1) (hi := by first | rfl | (simp only [pk_mul, nI_add]; done)) (hj := by omega) (kk := ?_)
                      refine v_iload (pc := 123) X (hd := dX7_isWord_123) (kk := ?_)
                      refine v_icmpne (pc := 125) X (tgt := 132) (hd := dX7_isWord_125) (kt := fun c125 => ?_) (kf := fun c125 => ?_)
                      · refine v_iconst (pc := 132) X (v := nI 0) (hd := dX7_isWord_132) (kk := ?_)
                        refine v_topi (fun y133 e133 => ?_)
                        obtain rfl : y133 = bI (okB ki te s e (CFW c0 c1 c2 c3 c4) (3 + 1) = true) := e133.trans (bI_0 (fun q => (okB_s.mp q).2.elim (fun w => c77 w.1) (fun w => c125 w.2.2)))
                        refine v_istore (pc := 133) X (hd := dX7_isWord_133) (kk := ?_)
                        refine v_iincN (pc := 135) X (hd := dX7_isWord_135) (kk := ?_)
                        refine v_goto (pc := 138) X (tgt := 20) (hd := dX7_isWord_138) (kk := ?_)
                        exact v_sub [some (.ref m), some (.int c0), some (.int c1), some (.int c2), some (.int c3), some (.int c4), some (.int (bI (okB ki te s e (CFW c0 c1 c2 c3 c4) (3 + 1) = true))), some (.int (nI (3 + 1))), none] (by intro i v hv; match i, hv with | 0, hv => exact hv | 1, hv => exact hv | 2, hv => exact hv | 3, hv => exact hv | 4, hv => exact hv | 5, hv => exact hv | 6, hv => exact hv | 7, hv => exact hv | 8, hv => simp at hv) kk
                      · refine v_iconst (pc := 128) X (v := nI 1) (hd := dX7_isWord_128) (kk := ?_)
                        refine v_goto (pc := 129) X (tgt := 133) (hd := dX7_isWord_129) (kk := ?_)
                        refine v_topi (fun y133 e133 => ?_)
                        obtain rfl : y133 = bI (okB ki te s e (CFW c0 c1 c2 c3 c4) (3 + 1) = true) := e133.trans (bI_1 (okB_s.mpr ⟨c72, Or.inr ⟨c77, h108, Classical.not_not.mp c125⟩⟩))
                        refine v_istore (pc := 133) X (hd := dX7_isWord_133) (kk := ?_)
                        refine v_iincN (pc := 135) X (hd := dX7_isWord_135) (kk := ?_)
                        refine v_goto (pc := 138) X (tgt := 20) (hd := dX7_isWord_138) (kk := ?_)
                        exact v_sub [some (.ref m), some (.int c0), some (.int c1), some (.int c2), some (.int c3), some (.int c4), some (.int (bI (okB ki te s e (CFW c0 c1 c2 c3 c4) (3 + 1) = true))), some (.int (nI (3 + 1))), none] (by intro i v hv; match i, hv with | 0, hv => exact hv | 1, hv => exact hv | 2, hv => exact hv | 3, hv => exact hv | 4, hv => exact hv | 5, hv => exact hv | 6, hv => exact hv | 7, hv => exact hv | 8, hv => simp at hv) kk
                  · have z77 := Classical.not_not.mp c77
                    refine v_aload_n (pc := 80) X (hd := dX7_isWord_80) (kk := ?_)
                    refine g_X7_108 (pc := 81) X (hd := dX7_isWord_81) (hh := hM.1) (kk := ?_)
                    refine v_iload (pc := 84) X (hd := dX7_isWord_84) (kk := ?_)
                    refine v_iadd (pc := 86) X (hd := dX7_isWord_86) (kk := ?_)
                    rw [nI_add]
                    refine v_aload_n (pc := 87) X (hd := dX7_isWord_87) (kk := ?_)
                    refine g_X7_105 (pc := 88) X (hd := dX7_isWord_88) (hh := hM.1) (kk := ?_)
                    refine v_icmplt (pc := 91) X (tgt := 132) (hd := dX7_isWord_91) (kt := fun c91 => ?_) (kf := fun c91 => ?_)
                    · refine v_iconst (pc := 132) X (v := nI 0) (hd := dX7_isWord_132) (kk := ?_)
                      refine v_topi (fun y133 e133 => ?_)
                      obtain rfl : y133 = bI (okB ki te s e (CFW c0 c1 c2 c3 c4) (3 + 1) = true) := e133.trans (bI_0 (fun q => (okB_s.mp q).2.elim (fun w => absurd ((nI_ltI (by omega) (by omega)).mp c91) (by have := w.2; omega)) (fun w => w.1 z77)))
                      refine v_istore (pc := 133) X (hd := dX7_isWord_133) (kk := ?_)
                      refine v_iincN (pc := 135) X (hd := dX7_isWord_135) (kk := ?_)
                      refine v_goto (pc := 138) X (tgt := 20) (hd := dX7_isWord_138) (kk := ?_)
                      exact v_sub [some (.ref m), some (.int c0), some (.int c1), some (.int c2), some (.int c3), some (.int c4), some (.int (bI (okB ki te s e (CFW c0 c1 c2 c3 c4) (3 + 1) = true))), some (.int (nI (3 + 1))), none] (by intro i v hv; match i, hv with | 0, hv => exact hv | 1, hv => exact hv | 2, hv => exact hv | 3, hv => exact hv | 4, hv => exact hv | 5, hv => exact hv | 6, hv => exact hv | 7, hv => exact hv | 8, hv => simp at hv) kk
                    · refine v_goto (pc := 94) X (tgt := 128) (hd := dX7_isWord_94) (kk := ?_)
                      refine v_iconst (pc := 128) X (v := nI 1) (hd := dX7_isWord_128) (kk := ?_)
                      refine v_goto (pc := 129) X (tgt := 133) (hd := dX7_isWord_129) (kk := ?_)
                      refine v_topi (fun y133 e133 => ?_)
                      obtain rfl : y133 = bI (okB ki te s e (CFW c0 c1 c2 c3 c4) (3 + 1) = true) := e133.trans (bI_1 (okB_s.mpr ⟨c72, Or.inl ⟨z77, by rcases Nat.lt_or_ge (s + 3) e with v1 | v1; exact absurd (nI_lt v1 (by omega)) c91; exact v1⟩⟩))
                      refine v_istore (pc := 133) X (hd := dX7_isWord_133) (kk := ?_)
                      refine v_iincN (pc := 135) X (hd := dX7_isWord_135) (kk := ?_)
                      refine v_goto (pc := 138) X (tgt := 20) (hd := dX7_isWord_138) (kk := ?_)
                      exact v_sub [some (.ref m), some (.int c0), some (.int c1), some (.int c2), some (.int c3), some (.int c4), some (.int (bI (okB ki te s e (CFW c0 c1 c2 c3 c4) (3 + 1) = true))), some (.int (nI (3 + 1))), none] (by intro i v hv; match i, hv with | 0, hv => exact hv | 1, hv => exact hv | 2, hv => exact hv | 3, hv => exact hv | 4, hv => exact hv | 5, hv => exact hv | 6, hv => exact hv | 7, hv => exact hv | 8, hv => simp at hv) kk
            · have i2 : i = 2 := (nI_eq (by omega) (by omega)).mp (Classical.not_not.mp c48)
              subst i2
              refine v_iload_n (pc := 51) X (hd := dX7_isWord_51) (kk := ?_)
              refine v_goto (pc := 52) X (tgt := 68) (hd := dX7_isWord_52) (kk := ?_)
              refine v_istore (pc := 68) X (hd := dX7_isWord_68) (kk := ?_)
              refine v_iload (pc := 70) X (hd := dX7_isWord_70) (kk := ?_)
              refine v_ifeqB (pc := 72) X (tgt := 132) (hd := dX7_isWord_72) (kt := fun c72 => ?_) (kf := fun c72 => ?_)
              · refine v_iconst (pc := 132) X (v := nI 0) (hd := dX7_isWord_132) (kk := ?_)
                refine v_topi (fun y133 e133 => ?_)
                obtain rfl : y133 = bI (okB ki te s e (CFW c0 c1 c2 c3 c4) (2 + 1) = true) := e133.trans (bI_0 (fun q => c72 (okB_s.mp q).1))
                refine v_istore (pc := 133) X (hd := dX7_isWord_133) (kk := ?_)
                refine v_iincN (pc := 135) X (hd := dX7_isWord_135) (kk := ?_)
                refine v_goto (pc := 138) X (tgt := 20) (hd := dX7_isWord_138) (kk := ?_)
                exact v_sub [some (.ref m), some (.int c0), some (.int c1), some (.int c2), some (.int c3), some (.int c4), some (.int (bI (okB ki te s e (CFW c0 c1 c2 c3 c4) (2 + 1) = true))), some (.int (nI (2 + 1))), none] (by intro i v hv; match i, hv with | 0, hv => exact hv | 1, hv => exact hv | 2, hv => exact hv | 3, hv => exact hv | 4, hv => exact hv | 5, hv => exact hv | 6, hv => exact hv | 7, hv => exact hv | 8, hv => simp at hv) kk
              · refine v_iload (pc := 75) X (hd := dX7_isWord_75) (kk := ?_)
                refine v_ifne (pc := 77) X (tgt := 97) (hd := dX7_isWord_77) (kt := fun c77 => ?_) (kf := fun c77 => ?_)
                · refine v_aload_n (pc := 97) X (hd := dX7_isWord_97) (kk := ?_)
                  refine g_X7_108 (pc := 98) X (hd := dX7_isWord_98) (hh := hM.1) (kk := ?_)
                  refine v_iload (pc := 101) X (hd := dX7_isWord_101) (kk := ?_)
                  refine v_iadd (pc := 103) X (hd := dX7_isWord_103) (kk := ?_)
                  rw [nI_add]
                  refine v_aload_n (pc := 104) X (hd := dX7_isWord_104) (kk := ?_)
                  refine g_X7_105 (pc := 105) X (hd := dX7_isWord_105) (hh := hM.1) (kk := ?_)
                  refine v_icmpge (pc := 108) X (tgt := 132) (hd := dX7_isWord_108) (kt := fun c108 => ?_) (kf := fun c108 => ?_)
                  · refine v_iconst (pc := 132) X (v := nI 0) (hd := dX7_isWord_132) (kk := ?_)
                    refine v_topi (fun y133 e133 => ?_)
                    obtain rfl : y133 = bI (okB ki te s e (CFW c0 c1 c2 c3 c4) (2 + 1) = true) := e133.trans (bI_0 (fun q => (okB_s.mp q).2.elim (fun w => c77 w.1) (fun w => absurd c108 (nI_ge w.2.1 (by omega)))))
                    refine v_istore (pc := 133) X (hd := dX7_isWord_133) (kk := ?_)
                    refine v_iincN (pc := 135) X (hd := dX7_isWord_135) (kk := ?_)
                    refine v_goto (pc := 138) X (tgt := 20) (hd := dX7_isWord_138) (kk := ?_)
                    exact v_sub [some (.ref m), some (.int c0), some (.int c1), some (.int c2), some (.int c3), some (.int c4), some (.int (bI (okB ki te s e (CFW c0 c1 c2 c3 c4) (2 + 1) = true))), some (.int (nI (2 + 1))), none] (by intro i v hv; match i, hv with | 0, hv => exact hv | 1, hv => exact hv | 2, hv => exact hv | 3, hv => exact hv | 4, hv => exact hv | 5, hv => exact hv | 6, hv => exact hv | 7, hv => exact hv | 8, hv => simp at hv) kk
                  · have h108 : s + 2 < e := by
                      rcases Nat.lt_or_ge (s + 2) e with v1 | v1
                      · exact v1
                      · exact absurd (nI_le v1 (by omega)) c108
                    refine v_aload_n (pc := 111) X (hd := dX7_isWord_111) (kk := ?_)
                    refine g_X7_19 (pc := 112) X (hd := dX7_isWord_112) (hh := hM.1) (kk := ?_)
                    refine v_aload_n (pc := 115) X (hd := dX7_isWord_115) (kk := ?_)
                    refine g_X7_108 (pc := 116) X (hd := dX7_isWord_116) (hh := hM.1) (kk := ?_)
                    refine v_iload (pc := 119) X (hd := dX7_isWord_119) (kk := ?_)
                    refine v_iadd (pc := 121) X (hd := dX7_isWord_121) (kk := ?_)
                    rw [nI_add]
                    refine v_ialdN (pc := 122) X (j := (s + 2)) (hd := dX7_isWord_122) (hh := hM.2.2.2.2.1) (hi := by first | rfl | (simp only [pk_mul, nI_add]; done)) (hj := by omega) (kk := ?_)
                    refine v_iload (pc := 123) X (hd := dX7_isWord_123) (kk := ?_)
                    refine v_icmpne (pc := 125) X (tgt := 132) (hd := dX7_isWord_125) (kt := fun c125 => ?_) (kf := fun c125 => ?_)
                    · refine v_iconst (pc := 132) X (v := nI 0) (hd := dX7_isWord_132) (kk := ?_)
                      refine v_topi (fun y133 e133 => ?_)
                      obtain rfl : y133 = bI (okB ki te s e (CFW c0 c1 c2 c3 c4) (2 + 1) = true) := e133.trans (bI_0 (fun q => (okB_s.mp q).2.elim (fun w => c77 w.1) (fun w => c125 w.2.2)))
                      refine v_istore (pc := 133) X (hd := dX7_isWord_133) (kk := ?_)
                      refine v_iincN (pc := 135) X (hd := dX7_isWord_135) (kk := ?_)
                      refine v_goto (pc := 138) X (tgt := 20) (hd := dX7_isWord_138) (kk := ?_)
                      exact v_sub [some (.ref m), some (.int c0), some (.int c1), some (.int c2), some (.int c3), some (.int c4), some (.int (bI (okB ki te s e (CFW c0 c1 c2 c3 c4) (2 + 1) = true))), some (.int (nI (2 + 1))), none] (by intro i v hv; match i, hv with | 0, hv => exact hv | 1, hv => exact hv | 2, hv => exact hv | 3, hv => exact hv | 4, hv => exact hv | 5, hv => exact hv | 6, hv => exact hv | 7, hv => exact hv | 8, hv => simp at hv) kk
                    · refine v_iconst (pc := 128) X (v := nI 1) (hd := dX7_isWord_128) (kk := ?_)
                      refine v_goto (pc := 129) X (tgt := 133) (hd := dX7_isWord_129) (kk := ?_)
                      refine v_topi (fun y133 e133 => ?_)
                      obtain rfl : y133 = bI (okB ki te s e (CFW c0 c1 c2 c3 c4) (2 + 1) = true) := e133.trans (bI_1 (okB_s.mpr ⟨c72, Or.inr ⟨c77, h108, Classical.not_not.mp c125⟩⟩))
                      refine v_istore (pc := 133) X (hd := dX7_isWord_133) (kk := ?_)
                      refine v_iincN (pc := 135) X (hd := dX7_isWord_135) (kk := ?_)
                      refine v_goto (pc := 138) X (tgt := 20) (hd := dX7_isWord_138) (kk := ?_)
                      exact v_sub [some (.ref m), some (.int c0), some (.int c1), some (.int c2), some (.int c3), some (.int c4), some (.int (bI (okB ki te s e (CFW c0 c1 c2 c3 c4) (2 + 1) = true))), some (.int (nI (2 + 1))), none] (by intro i v hv; match i, hv with | 0, hv => exact hv | 1, hv => exact hv | 2, hv => exact hv | 3, hv => exact hv | 4, hv => exact hv | 5, hv => exact hv | 6, hv => exact hv | 7, hv => exact hv | 8, hv => simp at hv) kk
                · have z77 := Classical.not_not.mp c77
                  refine v_aload_n (pc := 80) X (hd := dX7_isWord_80) (kk := ?_)
                  refine g_X7_108 (pc := 81) X (hd := dX7_isWord_81) (hh := hM.1) (kk := ?_)
                  refine v_iload (pc := 84) X (hd := dX7_isWord_84) (kk := ?_)
                  refine v_iadd (pc := 86) X (hd := dX7_isWord_86) (kk := ?_)
                  rw [nI_add]
                  refine v_aload_n (pc := 87) X (hd := dX7_isWord_87) (kk := ?_)
                  refine g_X7_105 (pc := 88) X (hd := dX7_isWord_88) (hh := hM.1) (kk := ?_)
                  refine v_icmplt (pc := 91) X (tgt := 132) (hd := dX7_isWord_91) (kt := fun c91 => ?_) (kf := fun c91 => ?_)
                  · refine v_iconst (pc := 132) X (v := nI 0) (hd := dX7_isWord_132) (kk := ?_)
                    refine v_topi (fun y133 e133 => ?_)
                    obtain rfl : y133 = bI (okB ki te s e (CFW c0 c1 c2 c3 c4) (2 + 1) = true) := e133.trans (bI_0 (fun q => (okB_s.mp q).2.elim (fun w => absurd ((nI_ltI (by omega) (by omega)).mp c91) (by have := w.2; omega)) (fun w => w.1 z77)))
                    refine v_istore (pc := 133) X (hd := dX7_isWord_133) (kk := ?_)
                    refine v_iincN (pc := 135) X (hd := dX7_isWord_135) (kk := ?_)
                    refine v_goto (pc := 138) X (tgt := 20) (hd := dX7_isWord_138) (kk := ?_)
                    exact v_sub [some (.ref m), some (.int c0), some (.int c1), some (.int c2), some (.int c3), some (.int c4), some (.int (bI (okB ki te s e (CFW c0 c1 c2 c3 c4) (2 + 1) = true))), some (.int (nI (2 + 1))), none] (by intro i v hv; match i, hv with | 0, hv => exact hv | 1, hv => exact hv | 2, hv => exact hv | 3, hv => exact hv | 4, hv => exact hv | 5, hv => exact hv | 6, hv => exact hv | 7, hv => exact hv | 8, hv => simp at hv) kk
                  · refine v_goto (pc := 94) X (tgt := 128) (hd := dX7_isWord_94) (kk := ?_)
                    refine v_iconst (pc := 128) X (v := nI 1) (hd := dX7_isWord_128) (kk := ?_)
                    refine v_goto (pc := 129) X (tgt := 133) (hd := dX7_isWord_129) (kk := ?_)
                    refine v_topi (fun y133 e133 => ?_)
                    obtain rfl : y133 = bI (okB ki te s e (CFW c0 c1 c2 c3 c4) (2 + 1) = true) := e133.trans (bI_1 (okB_s.mpr ⟨c72, Or.inl ⟨z77, by rcases Nat.lt_or_ge (s + 2) e with v1 | v1; exact absurd (nI_lt v1 (by omega)) c91; exact v1⟩⟩))
                    refine v_istore (pc := 133) X (hd := dX7_isWord_133) (kk := ?_)
                    refine v_iincN (pc := 135) X (hd := dX7_isWord_135) (kk := ?_)
                    refine v_goto (pc := 138) X (tgt := 20) (hd := dX7_isWord_138) (kk := ?_)
                    exact v_sub [some (.ref m), some (.int c0), some (.int c1), some (.int c2), some (.int c3), some (.int c4), some (.int (bI (okB ki te s e (CFW c0 c1 c2 c3 c4) (2 + 1) = true))), some (.int (nI (2 + 1))), none] (by intro i v hv; match i, hv with | 0, hv => exact hv | 1, hv => exact hv | 2, hv => exact hv | 3, hv => exact hv | 4, hv => exact hv | 5, hv => exact hv | 6, hv => exact hv | 7, hv => exact hv | 8, hv => simp at hv) kk
          · have i1 : i = 1 := (nI_eq (by omega) (by omega)).mp (Classical.not_not.mp c38)
            subst i1
            refine v_iload_n (pc := 41) X (hd := dX7_isWord_41) (kk := ?_)
            refine v_goto (pc := 42) X (tgt := 68) (hd := dX7_isWord_42) (kk := ?_)
            refine v_istore (pc := 68) X (hd := dX7_isWord_68) (kk := ?_)
            refine v_iload (pc := 70) X (hd := dX7_isWord_70) (kk := ?_)
            refine v_ifeqB (pc := 72) X (tgt := 132) (hd := dX7_isWord_72) (kt := fun c72 => ?_) (kf := fun c72 => ?_)
            · refine v_iconst (pc := 132) X (v := nI 0) (hd := dX7_isWord_132) (kk := ?_)
              refine v_topi (fun y133 e133 => ?_)
              obtain rfl : y133 = bI (okB ki te s e (CFW c0 c1 c2 c3 c4) (1 + 1) = true) := e133.trans (bI_0 (fun q => c72 (okB_s.mp q).1))
              refine v_istore (pc := 133) X (hd := dX7_isWord_133) (kk := ?_)
              refine v_iincN (pc := 135) X (hd := dX7_isWord_135) (kk := ?_)
              refine v_goto (pc := 138) X (tgt := 20) (hd := dX7_isWord_138) (kk := ?_)
              exact v_sub [some (.ref m), some (.int c0), some (.int c1), some (.int c2), some (.int c3), some (.int c4), some (.int (bI (okB ki te s e (CFW c0 c1 c2 c3 c4) (1 + 1) = true))), some (.int (nI (1 + 1))), none] (by intro i v hv; match i, hv with | 0, hv => exact hv | 1, hv => exact hv | 2, hv => exact hv | 3, hv => exact hv | 4, hv => exact hv | 5, hv => exact hv | 6, hv => exact hv | 7, hv => exact hv | 8, hv => simp at hv) kk
            · refine v_iload (pc := 75) X (hd := dX7_isWord_75) (kk := ?_)
              refine v_ifne (pc := 77) X (tgt := 97) (hd := dX7_isWord_77) (kt := fun c77 => ?_) (kf := fun c77 => ?_)
              · refine v_aload_n (pc := 97) X (hd := dX7_isWord_97) (kk := ?_)
                refine g_X7_108 (pc := 98) X (hd := dX7_isWord_98) (hh := hM.1) (kk := ?_)
                refine v_iload (pc := 101) X (hd := dX7_isWord_101) (kk := ?_)
                refine v_iadd (pc := 103) X (hd := dX7_isWord_103) (kk := ?_)
                rw [nI_add]
                refine v_aload_n (pc := 104) X (hd := dX7_isWord_104) (kk := ?_)
                refine g_X7_105 (pc := 105) X (hd := dX7_isWord_105) (hh := hM.1) (kk := ?_)
                refine v_icmpge (pc := 108) X (tgt := 132) (hd := dX7_isWord_108) (kt := fun c108 => ?_) (kf := fun c108 => ?_)
                · refine v_iconst (pc := 132) X (v := nI 0) (hd := dX7_isWord_132) (kk := ?_)
                  refine v_topi (fun y133 e133 => ?_)
                  obtain rfl : y133 = bI (okB ki te s e (CFW c0 c1 c2 c3 c4) (1 + 1) = true) := e133.trans (bI_0 (fun q => (okB_s.mp q).2.elim (fun w => c77 w.1) (fun w => absurd c108 (nI_ge w.2.1 (by omega)))))
                  refine v_istore (pc := 133) X (hd := dX7_isWord_133) (kk := ?_)
                  refine v_iincN (pc := 135) X (hd := dX7_isWord_135) (kk := ?_)
                  refine v_goto (pc := 138) X (tgt := 20) (hd := dX7_isWord_138) (kk := ?_)
                  exact v_sub [some (.ref m), some (.int c0), some (.int c1), some (.int c2), some (.int c3), some (.int c4), some (.int (bI (okB ki te s e (CFW c0 c1 c2 c3 c4) (1 + 1) = true))), some (.int (nI (1 + 1))), none] (by intro i v hv; match i, hv with | 0, hv => exact hv | 1, hv => exact hv | 2, hv => exact hv | 3, hv => exact hv | 4, hv => exact hv | 5, hv => exact hv | 6, hv => exact hv | 7, hv => exact hv | 8, hv => simp at hv) kk
                · have h108 : s + 1 < e := by
                    rcases Nat.lt_or_ge (s + 1) e with v1 | v1
                    · exact v1
                    · exact absurd (nI_le v1 (by omega)) c108
                  refine v_aload_n (pc := 111) X (hd := dX7_isWord_111) (kk := ?_)
                  refine g_X7_19 (pc := 112) X (hd := dX7_isWord_112) (hh := hM.1) (kk := ?_)
                  refine v_aload_n (pc := 115) X (hd := dX7_isWord_115) (kk := ?_)
                  refine g_X7_108 (pc := 116) X (hd := dX7_isWord_116) (hh := hM.1) (kk := ?_)
                  refine v_iload (pc := 119) X (hd := dX7_isWord_119) (kk := ?_)
                  refine v_iadd (pc := 121) X (hd := dX7_isWord_121) (kk := ?_)
                  rw [nI_add]
                  refine v_ialdN (pc := 122) X (j := (s + 1)) (hd := dX7_isWord_122) (hh := hM.2.2.2.2.1) (hi := by first | rfl | (simp only [pk_mul, nI_add]; done)) (hj := by omega) (kk := ?_)
                  refine v_iload (pc := 123) X (hd := dX7_isWord_123) (kk := ?_)
                  refine v_icmpne (pc := 125) X (tgt := 132) (hd := dX7_isWord_125) (kt := fun c125 => ?_) (kf := fun c125 => ?_)
                  · refine v_iconst (pc := 132) X (v := nI 0) (hd := dX7_isWord_132) (kk := ?_)
                    refine v_topi (fun y133 e133 => ?_)
                    obtain rfl : y133 = bI (okB ki te s e (CFW c0 c1 c2 c3 c4) (1 + 1) = true) := e133.trans (bI_0 (fun q => (okB_s.mp q).2.elim (fun w => c77 w.1) (fun w => c125 w.2.2)))
                    refine v_istore (pc := 133) X (hd := dX7_isWord_133) (kk := ?_)
                    refine v_iincN (pc := 135) X (hd := dX7_isWord_135) (kk := ?_)
                    refine v_goto (pc := 138) X (tgt := 20) (hd := dX7_isWord_138) (kk := ?_)
                    exact v_sub [some (.ref m), some (.int c0), some (.int c1), some (.int c2), some (.int c3), some (.int c4), some (.int (bI (okB ki te s e (CFW c0 c1 c2 c3 c4) (1 + 1) = true))), some (.int (nI (1 + 1))), none] (by intro i v hv; match i, hv with | 0, hv => exact hv | 1, hv => exact hv | 2, hv => exact hv | 3, hv => exact hv | 4, hv => exact hv | 5, hv => exact hv | 6, hv => exact hv | 7, hv => exact hv | 8, hv => simp at hv) kk
                  · refine v_iconst (pc := 128) X (v := nI 1) (hd := dX7_isWord_128) (kk := ?_)
                    refine v_goto (pc := 129) X (tgt := 133) (hd := dX7_isWord_129) (kk := ?_)
                    refine v_topi (fun y133 e133 => ?_)
                    obtain rfl : y133 = bI (okB ki te s e (CFW c0 c1 c2 c3 c4) (1 + 1) = true) := e133.trans (bI_1 (okB_s.mpr ⟨c72, Or.inr ⟨c77, h108, Classical.not_not.mp c125⟩⟩))
                    refine v_istore (pc := 133) X (hd := dX7_isWord_133) (kk := ?_)
                    refine v_iincN (pc := 135) X (hd := dX7_isWord_135) (kk := ?_)
                    refine v_goto (pc := 138) X (tgt := 20) (hd := dX7_isWord_138) (kk := ?_)
                    exact v_sub [some (.ref m), some (.int c0), some (.int c1), some (.int c2), some (.int c3), some (.int c4), some (.int (bI (okB ki te s e (CFW c0 c1 c2 c3 c4) (1 + 1) = true))), some (.int (nI (1 + 1))), none] (by intro i v hv; match i, hv with | 0, hv => exact hv | 1, hv => exact hv | 2, hv => exact hv | 3, hv => exact hv | 4, hv => exact hv | 5, hv => exact hv | 6, hv => exact hv | 7, hv => exact hv | 8, hv => simp at hv) kk
              · have z77 := Classical.not_not.mp c77
                refine v_aload_n (pc := 80) X (hd := dX7_isWord_80) (kk := ?_)
                refine g_X7_108 (pc := 81) X (hd := dX7_isWord_81) (hh := hM.1) (kk := ?_)
                refine v_iload (pc := 84) X (hd := dX7_isWord_84) (kk := ?_)
                refine v_iadd (pc := 86) X (hd := dX7_isWord_86) (kk := ?_)
                rw [nI_add]
                refine v_aload_n (pc := 87) X (hd := dX7_isWord_87) (kk := ?_)
                refine g_X7_105 (pc := 88) X (hd := dX7_isWord_88) (hh := hM.1) (kk := ?_)
                refine v_icmplt (pc := 91) X (tgt := 132) (hd := dX7_isWord_91) (kt := fun c91 => ?_) (kf := fun c91 => ?_)
                · refine v_iconst (pc := 132) X (v := nI 0) (hd := dX7_isWord_132) (kk := ?_)
                  refine v_topi (fun y133 e133 => ?_)
                  obtain rfl : y133 = bI (okB ki te s e (CFW c0 c1 c2 c3 c4) (1 + 1) = true) := e133.trans (bI_0 (fun q => (okB_s.mp q).2.elim (fun w => absurd ((nI_ltI (by omega) (by omega)).mp c91) (by have := w.2; omega)) (fun w => w.1 z77)))
                  refine v_istore (pc := 133) X (hd := dX7_isWord_133) (kk := ?_)
                  refine v_iincN (pc := 135) X (hd := dX7_isWord_135) (kk := ?_)
                  refine v_goto (pc := 138) X (tgt := 20) (hd := dX7_isWord_138) (kk := ?_)
                  exact v_sub [some (.ref m), some (.int c0), some (.int c1), some (.int c2), some (.int c3), some (.int c4), some (.int (bI (okB ki te s e (CFW c0 c1 c2 c3 c4) (1 + 1) = true))), some (.int (nI (1 + 1))), none] (by intro i v hv; match i, hv with | 0, hv => exact hv | 1, hv => exact hv | 2, hv => exact hv | 3, hv => exact hv | 4, hv => exact hv | 5, hv => exact hv | 6, hv => exact hv | 7, hv => exact hv | 8, hv => simp at hv) kk
                · refine v_goto (pc := 94) X (tgt := 128) (hd := dX7_isWord_94) (kk := ?_)
                  refine v_iconst (pc := 128) X (v := nI 1) (hd := dX7_isWord_128) (kk := ?_)
                  refine v_goto (pc := 129) X (tgt := 133) (hd := dX7_isWord_129) (kk := ?_)
                  refine v_topi (fun y133 e133 => ?_)
                  obtain rfl : y133 = bI (okB ki te s e (CFW c0 c1 c2 c3 c4) (1 + 1) = true) := e133.trans (bI_1 (okB_s.mpr ⟨c72, Or.inl ⟨z77, by rcases Nat.lt_or_ge (s + 1) e with v1 | v1; exact absurd (nI_lt v1 (by omega)) c91; exact v1⟩⟩))
                  refine v_istore (pc := 133) X (hd := dX7_isWord_133) (kk := ?_)
                  refine v_iincN (pc := 135) X (hd := dX7_isWord_135) (kk := ?_)
                  refine v_goto (pc := 138) X (tgt := 20) (hd := dX7_isWord_138) (kk := ?_)
                  exact v_sub [some (.ref m), some (.int c0), some (.int c1), some (.int c2), some (.int c3), some (.int c4), some (.int (bI (okB ki te s e (CFW c0 c1 c2 c3 c4) (1 + 1) = true))), some (.int (nI (1 + 1))), none] (by intro i v hv; match i, hv with | 0, hv => exact hv | 1, hv => exact hv | 2, hv => exact hv | 3, hv => exact hv | 4, hv => exact hv | 5, hv => exact hv | 6, hv => exact hv | 7, hv => exact hv | 8, hv => simp at hv) kk
        · have i0 : i = 0 := (nI_eq (by omega) (by omega)).mp ((Classical.not_not.mp c28).trans nI_z.symm)
          subst i0
          refine v_iload_n (pc := 31) X (hd := dX7_isWord_31) (kk := ?_)
          refine v_goto (pc := 32) X (tgt := 68) (hd := dX7_isWord_32) (kk := ?_)
          refine v_istore (pc := 68) X (hd := dX7_isWord_68) (kk := ?_)
          refine v_iload (pc := 70) X (hd := dX7_isWord_70) (kk := ?_)
          refine v_ifeqB (pc := 72) X (tgt := 132) (hd := dX7_isWord_72) (kt := fun c72 => ?_) (kf := fun c72 => ?_)
          · refine v_iconst (pc := 132) X (v := nI 0) (hd := dX7_isWord_132) (kk := ?_)
            refine v_topi (fun y133 e133 => ?_)
            obtain rfl : y133 = bI (okB ki te s e (CFW c0 c1 c2 c3 c4) (0 + 1) = true) := e133.trans (bI_0 (fun q => c72 (okB_s.mp q).1))
            refine v_istore (pc := 133) X (hd := dX7_isWord_133) (kk := ?_)
            refine v_iincN (pc := 135) X (hd := dX7_isWord_135) (kk := ?_)
            refine v_goto (pc := 138) X (tgt := 20) (hd := dX7_isWord_138) (kk := ?_)
            exact v_sub [some (.ref m), some (.int c0), some (.int c1), some (.int c2), some (.int c3), some (.int c4), some (.int (bI (okB ki te s e (CFW c0 c1 c2 c3 c4) (0 + 1) = true))), some (.int (nI (0 + 1))), none] (by intro i v hv; match i, hv with | 0, hv => exact hv | 1, hv => exact hv | 2, hv => exact hv | 3, hv => exact hv | 4, hv => exact hv | 5, hv => exact hv | 6, hv => exact hv | 7, hv => exact hv | 8, hv => simp at hv) kk
          · refine v_iload (pc := 75) X (hd := dX7_isWord_75) (kk := ?_)
            refine v_ifne (pc := 77) X (tgt := 97) (hd := dX7_isWord_77) (kt := fun c77 => ?_) (kf := fun c77 => ?_)
            · refine v_aload_n (pc := 97) X (hd := dX7_isWord_97) (kk := ?_)
              refine g_X7_108 (pc := 98) X (hd := dX7_isWord_98) (hh := hM.1) (kk := ?_)
              refine v_iload (pc := 101) X (hd := dX7_isWord_101) (kk := ?_)
              refine v_iadd (pc := 103) X (hd := dX7_isWord_103) (kk := ?_)
              rw [nI_add]
              refine v_aload_n (pc := 104) X (hd := dX7_isWord_104) (kk := ?_)
              refine g_X7_105 (pc := 105) X (hd := dX7_isWord_105) (hh := hM.1) (kk := ?_)
              refine v_icmpge (pc := 108) X (tgt := 132) (hd := dX7_isWord_108) (kt := fun c108 => ?_) (kf := fun c108 => ?_)
              · refine v_iconst (pc := 132) X (v := nI 0) (hd := dX7_isWord_132) (kk := ?_)
                refine v_topi (fun y133 e133 => ?_)
                obtain rfl : y133 = bI (okB ki te s e (CFW c0 c1 c2 c3 c4) (0 + 1) = true) := e133.trans (bI_0 (fun q => (okB_s.mp q).2.elim (fun w => c77 w.1) (fun w => absurd c108 (nI_ge w.2.1 (by omega)))))
                refine v_istore (pc := 133) X (hd := dX7_isWord_133) (kk := ?_)
                refine v_iincN (pc := 135) X (hd := dX7_isWord_135) (kk := ?_)
                refine v_goto (pc := 138) X (tgt := 20) (hd := dX7_isWord_138) (kk := ?_)
                exact v_sub [some (.ref m), some (.int c0), some (.int c1), some (.int c2), some (.int c3), some (.int c4), some (.int (bI (okB ki te s e (CFW c0 c1 c2 c3 c4) (0 + 1) = true))), some (.int (nI (0 + 1))), none] (by intro i v hv; match i, hv with | 0, hv => exact hv | 1, hv => exact hv | 2, hv => exact hv | 3, hv => exact hv | 4, hv => exact hv | 5, hv => exact hv | 6, hv => exact hv | 7, hv => exact hv | 8, hv => simp at hv) kk
              · have h108 : s + 0 < e := by
                  rcases Nat.lt_or_ge (s + 0) e with v1 | v1
                  · exact v1
                  · exact absurd (nI_le v1 (by omega)) c108
                refine v_aload_n (pc := 111) X (hd := dX7_isWord_111) (kk := ?_)
                refine g_X7_19 (pc := 112) X (hd := dX7_isWord_112) (hh := hM.1) (kk := ?_)
                refine v_aload_n (pc := 115) X (hd := dX7_isWord_115) (kk := ?_)
                refine g_X7_108 (pc := 116) X (hd := dX7_isWord_116) (hh := hM.1) (kk := ?_)
                refine v_iload (pc := 119) X (hd := dX7_isWord_119) (kk := ?_)
                refine v_iadd (pc := 121) X (hd := dX7_isWord_121) (kk := ?_)
                rw [nI_add]
                refine v_ialdN (pc := 122) X (j := (s + 0)) (hd := dX7_isWord_122) (hh := hM.2.2.2.2.1) (hi := by first | rfl | (simp only [pk_mul, nI_add]; done)) (hj := by omega) (kk := ?_)
                refine v_iload (pc := 123) X (hd := dX7_isWord_123) (kk := ?_)
                refine v_icmpne (pc := 125) X (tgt := 132) (hd := dX7_isWord_125) (kt := fun c125 => ?_) (kf := fun c125 => ?_)
                · refine v_iconst (pc := 132) X (v := nI 0) (hd := dX7_isWord_132) (kk := ?_)
                  refine v_topi (fun y133 e133 => ?_)
                  obtain rfl : y133 = bI (okB ki te s e (CFW c0 c1 c2 c3 c4) (0 + 1) = true) := e133.trans (bI_0 (fun q => (okB_s.mp q).2.elim (fun w => c77 w.1) (fun w => c125 w.2.2)))
                  refine v_istore (pc := 133) X (hd := dX7_isWord_133) (kk := ?_)
                  refine v_iincN (pc := 135) X (hd := dX7_isWord_135) (kk := ?_)
                  refine v_goto (pc := 138) X (tgt := 20) (hd := dX7_isWord_138) (kk := ?_)
                  exact v_sub [some (.ref m), some (.int c0), some (.int c1), some (.int c2), some (.int c3), some (.int c4), some (.int (bI (okB ki te s e (CFW c0 c1 c2 c3 c4) (0 + 1) = true))), some (.int (nI (0 + 1))), none] (by intro i v hv; match i, hv with | 0, hv => exact hv | 1, hv => exact hv | 2, hv => exact hv | 3, hv => exact hv | 4, hv => exact hv | 5, hv => exact hv | 6, hv => exact hv | 7, hv => exact hv | 8, hv => simp at hv) kk
                · refine v_iconst (pc := 128) X (v := nI 1) (hd := dX7_isWord_128) (kk := ?_)
                  refine v_goto (pc := 129) X (tgt := 133) (hd := dX7_isWord_129) (kk := ?_)
                  refine v_topi (fun y133 e133 => ?_)
                  obtain rfl : y133 = bI (okB ki te s e (CFW c0 c1 c2 c3 c4) (0 + 1) = true) := e133.trans (bI_1 (okB_s.mpr ⟨c72, Or.inr ⟨c77, h108, Classical.not_not.mp c125⟩⟩))
                  refine v_istore (pc := 133) X (hd := dX7_isWord_133) (kk := ?_)
                  refine v_iincN (pc := 135) X (hd := dX7_isWord_135) (kk := ?_)
                  refine v_goto (pc := 138) X (tgt := 20) (hd := dX7_isWord_138) (kk := ?_)
                  exact v_sub [some (.ref m), some (.int c0), some (.int c1), some (.int c2), some (.int c3), some (.int c4), some (.int (bI (okB ki te s e (CFW c0 c1 c2 c3 c4) (0 + 1) = true))), some (.int (nI (0 + 1))), none] (by intro i v hv; match i, hv with | 0, hv => exact hv | 1, hv => exact hv | 2, hv => exact hv | 3, hv => exact hv | 4, hv => exact hv | 5, hv => exact hv | 6, hv => exact hv | 7, hv => exact hv | 8, hv => simp at hv) kk
            · have z77 := Classical.not_not.mp c77
              refine v_aload_n (pc := 80) X (hd := dX7_isWord_80) (kk := ?_)
              refine g_X7_108 (pc := 81) X (hd := dX7_isWord_81) (hh := hM.1) (kk := ?_)
              refine v_iload (pc := 84) X (hd := dX7_isWord_84) (kk := ?_)
              refine v_iadd (pc := 86) X (hd := dX7_isWord_86) (kk := ?_)
              rw [nI_add]
              refine v_aload_n (pc := 87) X (hd := dX7_isWord_87) (kk := ?_)
              refine g_X7_105 (pc := 88) X (hd := dX7_isWord_88) (hh := hM.1) (kk := ?_)
              refine v_icmplt (pc := 91) X (tgt := 132) (hd := dX7_isWord_91) (kt := fun c91 => ?_) (kf := fun c91 => ?_)
              · refine v_iconst (pc := 132) X (v := nI 0) (hd := dX7_isWord_132) (kk := ?_)
                refine v_topi (fun y133 e133 => ?_)
                obtain rfl : y133 = bI (okB ki te s e (CFW c0 c1 c2 c3 c4) (0 + 1) = true) := e133.trans (bI_0 (fun q => (okB_s.mp q).2.elim (fun w => absurd ((nI_ltI (by omega) (by omega)).mp c91) (by have := w.2; omega)) (fun w => w.1 z77)))
                refine v_istore (pc := 133) X (hd := dX7_isWord_133) (kk := ?_)
                refine v_iincN (pc := 135) X (hd := dX7_isWord_135) (kk := ?_)
                refine v_goto (pc := 138) X (tgt := 20) (hd := dX7_isWord_138) (kk := ?_)
                exact v_sub [some (.ref m), some (.int c0), some (.int c1), some (.int c2), some (.int c3), some (.int c4), some (.int (bI (okB ki te s e (CFW c0 c1 c2 c3 c4) (0 + 1) = true))), some (.int (nI (0 + 1))), none] (by intro i v hv; match i, hv with | 0, hv => exact hv | 1, hv => exact hv | 2, hv => exact hv | 3, hv => exact hv | 4, hv => exact hv | 5, hv => exact hv | 6, hv => exact hv | 7, hv => exact hv | 8, hv => simp at hv) kk
              · refine v_goto (pc := 94) X (tgt := 128) (hd := dX7_isWord_94) (kk := ?_)
                refine v_iconst (pc := 128) X (v := nI 1) (hd := dX7_isWord_128) (kk := ?_)
                refine v_goto (pc := 129) X (tgt := 133) (hd := dX7_isWord_129) (kk := ?_)
                refine v_topi (fun y133 e133 => ?_)
                obtain rfl : y133 = bI (okB ki te s e (CFW c0 c1 c2 c3 c4) (0 + 1) = true) := e133.trans (bI_1 (okB_s.mpr ⟨c72, Or.inl ⟨z77, by rcases Nat.lt_or_ge (s + 0) e with v1 | v1; exact absurd (nI_lt v1 (by omega)) c91; exact v1⟩⟩))
                refine v_istore (pc := 133) X (hd := dX7_isWord_133) (kk := ?_)
                refine v_iincN (pc := 135) X (hd := dX7_isWord_135) (kk := ?_)
                refine v_goto (pc := 138) X (tgt := 20) (hd := dX7_isWord_138) (kk := ?_)
                exact v_sub [some (.ref m), some (.int c0), some (.int c1), some (.int c2), some (.int c3), some (.int c4), some (.int (bI (okB ki te s e (CFW c0 c1 c2 c3 c4) (0 + 1) = true))), some (.int (nI (0 + 1))), none] (by intro i v hv; match i, hv with | 0, hv => exact hv | 1, hv => exact hv | 2, hv => exact hv | 3, hv => exact hv | 4, hv => exact hv | 5, hv => exact hv | 6, hv => exact hv | 7, hv => exact hv | 8, hv => simp at hv) kk
    · skip
      refine v_iload (pc := 20) X (hd := dX7_isWord_20) (kk := ?_)
      refine v_iconst (pc := 22) X (v := nI 5) (hd := dX7_isWord_22) (kk := ?_)
      refine v_icmpge (pc := 23) X (tgt := 141) (hd := dX7_isWord_23) (kt := fun c23 => ?_) (kf := fun c23 => ?_)
      · refine v_iload (pc := 141) X (hd := dX7_isWord_141) (kk := ?_)
        refine v_ifeqB (pc := 143) X (tgt := 164) (hd := dX7_isWord_143) (kt := fun c143 => ?_) (kf := fun c143 => ?_)
        · refine v_iconst (pc := 164) X (v := nI 0) (hd := dX7_isWord_164) (kk := ?_)
          exact v_endb (pc := 165) X hr hlk (hd := dX7_isWord_165) (hf := bI_0 (fun q => c143 q.1))
        · refine v_aload_n (pc := 146) X (hd := dX7_isWord_146) (kk := ?_)
          refine g_X7_105 (pc := 147) X (hd := dX7_isWord_147) (hh := hM.1) (kk := ?_)
          refine v_aload_n (pc := 150) X (hd := dX7_isWord_150) (kk := ?_)
          refine g_X7_108 (pc := 151) X (hd := dX7_isWord_151) (hh := hM.1) (kk := ?_)
          refine v_isub (pc := 154) X (hd := dX7_isWord_154) (kk := ?_)
          rw [pk_sub hse]
          refine v_bipush (pc := 155) X (v := nI 6) (hd := dX7_isWord_155) (kk := ?_)
          refine v_icmpge (pc := 157) X (tgt := 164) (hd := dX7_isWord_157) (kt := fun c157 => ?_) (kf := fun c157 => ?_)
          · refine v_iconst (pc := 164) X (v := nI 0) (hd := dX7_isWord_164) (kk := ?_)
            exact v_endb (pc := 165) X hr hlk (hd := dX7_isWord_165) (hf := bI_0 (fun q => absurd c157 (nI_ge q.2 (by omega))))
          · refine v_iconst (pc := 160) X (v := nI 1) (hd := dX7_isWord_160) (kk := ?_)
            refine v_goto (pc := 161) X (tgt := 165) (hd := dX7_isWord_161) (kk := ?_)
            exact v_endb (pc := 165) X hr hlk (hd := dX7_isWord_165) (hf := bI_1 ⟨c143, by rcases Nat.lt_or_ge (e - s) 6 with v1 | v1; exact v1; exact absurd (nI_le v1 (by omega)) c157⟩)
      · exact absurd (Int32.le_refl _) c23
  · refine v_iconst (pc := 10) X (v := nI 1) (hd := dX7_isWord_10) (kk := ?_)
    refine v_goto (pc := 11) X (tgt := 15) (hd := dX7_isWord_11) (kk := ?_)
    refine v_istore (pc := 15) X (hd := dX7_isWord_15) (kk := ?_)
    refine v_iconst (pc := 17) X (v := nI 0) (hd := dX7_isWord_17) (kk := ?_)
    refine v_istore (pc := 18) X (hd := dX7_isWord_18) (kk := ?_)
    refine v_forp (pc := 20) (M := 5) (Lf := fun i => [some (.ref m), some (.int c0), some (.int c1), some (.int c2), some (.int c3), some (.int c4), some (.int (bI (okB ki te s e (CFW c0 c1 c2 c3 c4) i = true))), some (.int (nI i)), none]) (hL := by rw [show bI (okB ki te s e (CFW c0 c1 c2 c3 c4) 0 = true) = nI 1 from (bI_1 (okB_0.mpr (Classical.not_not.mp c7))).symm]; rfl) (step := ?_) (out := ?_)
    · intro i hi kk
      refine v_iload (pc := 20) X (hd := dX7_isWord_20) (kk := ?_)
      refine v_iconst (pc := 22) X (v := nI 5) (hd := dX7_isWord_22) (kk := ?_)
      refine v_icmpge (pc := 23) X (tgt := 141) (hd := dX7_isWord_23) (kt := fun c23 => ?_) (kf := fun c23 => ?_)
      · exact absurd c23 (nI_ge hi (by omega))
      · refine v_iload (pc := 26) X (hd := dX7_isWord_26) (kk := ?_)
        refine v_ifne (pc := 28) X (tgt := 35) (hd := dX7_isWord_28) (kt := fun c28 => ?_) (kf := fun c28 => ?_)
        · have i0 : ¬ i = 0 := fun q => c28 (by rw [q]; exact nI_z)
          refine v_iload (pc := 35) X (hd := dX7_isWord_35) (kk := ?_)
          refine v_iconst (pc := 37) X (v := nI 1) (hd := dX7_isWord_37) (kk := ?_)
          refine v_icmpne (pc := 38) X (tgt := 45) (hd := dX7_isWord_38) (kt := fun c38 => ?_) (kf := fun c38 => ?_)
          · have i1 : ¬ i = 1 := fun q => c38 (by rw [q])
            refine v_iload (pc := 45) X (hd := dX7_isWord_45) (kk := ?_)
            refine v_iconst (pc := 47) X (v := nI 2) (hd := dX7_isWord_47) (kk := ?_)
            refine v_icmpne (pc := 48) X (tgt := 55) (hd := dX7_isWord_48) (kt := fun c48 => ?_) (kf := fun c48 => ?_)
            · have i2 : ¬ i = 2 := fun q => c48 (by rw [q])
              refine v_iload (pc := 55) X (hd := dX7_isWord_55) (kk := ?_)
              refine v_iconst (pc := 57) X (v := nI 3) (hd := dX7_isWord_57) (kk := ?_)
              refine v_icmpne (pc := 58) X (tgt := 66) (hd := dX7_isWord_58) (kt := fun c58 => ?_) (kf := fun c58 => ?_)
              · have i3 : ¬ i = 3 := fun q => c58 (by rw [q])
                have i4 : i = 4 := by omega
                subst i4
                refine v_iload (pc := 66) X (hd := dX7_isWord_66) (kk := ?_)
                refine v_istore (pc := 68) X (hd := dX7_isWord_68) (kk := ?_)
                refine v_iload (pc := 70) X (hd := dX7_isWord_70) (kk := ?_)
                refine v_ifeqB (pc := 72) X (tgt := 132) (hd := dX7_isWord_72) (kt := fun c72 => ?_) (kf := fun c72 => ?_)
                · refine v_iconst (pc := 132) X (v := nI 0) (hd := dX7_isWord_132) (kk := ?_)
                  refine v_topi (fun y133 e133 => ?_)
                  obtain rfl : y133 = bI (okB ki te s e (CFW c0 c1 c2 c3 c4) (4 + 1) = true) := e133.trans (bI_0 (fun q => c72 (okB_s.mp q).1))
                  refine v_istore (pc := 133) X (hd := dX7_isWord_133) (kk := ?_)
                  refine v_iincN (pc := 135) X (hd := dX7_isWord_135) (kk := ?_)
                  refine v_goto (pc := 138) X (tgt := 20) (hd := dX7_isWord_138) (kk := ?_)
                  exact v_sub [some (.ref m), some (.int c0), some (.int c1), some (.int c2), some (.int c3), some (.int c4), some (.int (bI (okB ki te s e (CFW c0 c1 c2 c3 c4) (4 + 1) = true))), some (.int (nI (4 + 1))), none] (by intro i v hv; match i, hv with | 0, hv => exact hv | 1, hv => exact hv | 2, hv => exact hv | 3, hv => exact hv | 4, hv => exact hv | 5, hv => exact hv | 6, hv => exact hv | 7, hv => exact hv | 8, hv => simp at hv) kk
                · refine v_iload (pc := 75) X (hd := dX7_isWord_75) (kk := ?_)
                  refine v_ifne (pc := 77) X (tgt := 97) (hd := dX7_isWord_77) (kt := fun c77 => ?_) (kf := fun c77 => ?_)
                  · refine v_aload_n (pc := 97) X (hd := dX7_isWord_97) (kk := ?_)
                    refine g_X7_108 (pc := 98) X (hd := dX7_isWord_98) (hh := hM.1) (kk := ?_)
                    refine v_iload (pc := 101) X (hd := dX7_isWord_101) (kk := ?_)
                    refine v_iadd (pc := 103) X (hd := dX7_isWord_103) (kk := ?_)
                    rw [nI_add]
                    refine v_aload_n (pc := 104) X (hd := dX7_isWord_104) (kk := ?_)
                    refine g_X7_105 (pc := 105) X (hd := dX7_isWord_105) (hh := hM.1) (kk := ?_)
                    refine v_icmpge (pc := 108) X (tgt := 132) (hd := dX7_isWord_108) (kt := fun c108 => ?_) (kf := fun c108 => ?_)
                    · refine v_iconst (pc := 132) X (v := nI 0) (hd := dX7_isWord_132) (kk := ?_)
                      refine v_topi (fun y133 e133 => ?_)
                      obtain rfl : y133 = bI (okB ki te s e (CFW c0 c1 c2 c3 c4) (4 + 1) = true) := e133.trans (bI_0 (fun q => (okB_s.mp q).2.elim (fun w => c77 w.1) (fun w => absurd c108 (nI_ge w.2.1 (by omega)))))
                      refine v_istore (pc := 133) X (hd := dX7_isWord_133) (kk := ?_)
                      refine v_iincN (pc := 135) X (hd := dX7_isWord_135) (kk := ?_)
                      refine v_goto (pc := 138) X (tgt := 20) (hd := dX7_isWord_138) (kk := ?_)
                      exact v_sub [some (.ref m), some (.int c0), some (.int c1), some (.int c2), some (.int c3), some (.int c4), some (.int (bI (okB ki te s e (CFW c0 c1 c2 c3 c4) (4 + 1) = true))), some (.int (nI (4 + 1))), none] (by intro i v hv; match i, hv with | 0, hv => exact hv | 1, hv => exact hv | 2, hv => exact hv | 3, hv => exact hv | 4, hv => exact hv | 5, hv => exact hv | 6, hv => exact hv | 7, hv => exact hv | 8, hv => simp at hv) kk
                    · have h108 : s + 4 < e := by
                        rcases Nat.lt_or_ge (s + 4) e with v1 | v1
                        · exact v1
                        · exact absurd (nI_le v1 (by omega)) c108
                      refine v_aload_n (pc := 111) X (hd := dX7_isWord_111) (kk := ?_)
                      refine g_X7_19 (pc := 112) X (hd := dX7_isWord_112) (hh := hM.1) (kk := ?_)
                      refine v_aload_n (pc := 115) X (hd := dX7_isWord_115) (kk := ?_)
                      refine g_X7_108 (pc := 116) X (hd := dX7_isWord_116) (hh := hM.1) (kk := ?_)
                      refine v_iload (pc := 119) X (hd := dX7_isWord_119) (kk := ?_)
                      refine v_iadd (pc := 121) X (hd := dX7_isWord_121) (kk := ?_)
                      rw [nI_add]
                      refine v_ialdN (pc := 122) X (j := (s + 4)) (hd := dX7_isWord_122) (hh := hM.2.2.2.2.1) (hi := by first | rfl | (simp only [pk_mul, nI_add]; done)) (hj := by omega) (kk := ?_)
                      refine v_iload (pc := 123) X (hd := dX7_isWord_123) (kk := ?_)
                      refine v_icmpne (pc := 125) X (tgt := 132) (hd := dX7_isWord_125) (kt := fun c125 => ?_) (kf := fun c125 => ?_)
                      · refine v_iconst (pc := 132) X (v := nI 0) (hd := dX7_isWord_132) (kk := ?_)
                        refine v_topi (fun y133 e133 => ?_)
                        obtain rfl : y133 = bI (okB ki te s e (CFW c0 c1 c2 c3 c4) (4 + 1) = true) := e133.trans (bI_0 (fun q => (okB_s.mp q).2.elim (fun w => c77 w.1) (fun w => c125 w.2.2)))
                        refine v_istore (pc := 133) X (hd := dX7_isWord_133) (kk := ?_)
                        refine v_iincN (pc := 135) X (hd := dX7_isWord_135) (kk := ?_)
                        refine v_goto (pc := 138) X (tgt := 20) (hd := dX7_isWord_138) (kk := ?_)
                        exact v_sub [some (.ref m), some (.int c0), some (.int c1), some (.int c2), some (.int c3), some (.int c4), some (.int (bI (okB ki te s e (CFW c0 c1 c2 c3 c4) (4 + 1) = true))), some (.int (nI (4 + 1))), none] (by intro i v hv; match i, hv with | 0, hv => exact hv | 1, hv => exact hv | 2, hv => exact hv | 3, hv => exact hv | 4, hv => exact hv | 5, hv => exact hv | 6, hv => exact hv | 7, hv => exact hv | 8, hv => simp at hv) kk
                      · refine v_iconst (pc := 128) X (v := nI 1) (hd := dX7_isWord_128) (kk := ?_)
                        refine v_goto (pc := 129) X (tgt := 133) (hd := dX7_isWord_129) (kk := ?_)
                        refine v_topi (fun y133 e133 => ?_)
                        obtain rfl : y133 = bI (okB ki te s e (CFW c0 c1 c2 c3 c4) (4 + 1) = true) := e133.trans (bI_1 (okB_s.mpr ⟨c72, Or.inr ⟨c77, h108, Classical.not_not.mp c125⟩⟩))
                        refine v_istore (pc := 133) X (hd := dX7_isWord_133) (kk := ?_)
                        refine v_iincN (pc := 135) X (hd := dX7_isWord_135) (kk := ?_)
                        refine v_goto (pc := 138) X (tgt := 20) (hd := dX7_isWord_138) (kk := ?_)
                        exact v_sub [some (.ref m), some (.int c0), some (.int c1), some (.int c2), some (.int c3), some (.int c4), some (.int (bI (okB ki te s e (CFW c0 c1 c2 c3 c4) (4 + 1) = true))), some (.int (nI (4 + 1))), none] (by intro i v hv; match i, hv with | 0, hv => exact hv | 1, hv => exact hv | 2, hv => exact hv | 3, hv => exact hv | 4, hv => exact hv | 5, hv => exact hv | 6, hv => exact hv | 7, hv => exact hv | 8, hv => simp at hv) kk
                  · have z77 := Classical.not_not.mp c77
                    refine v_aload_n (pc := 80) X (hd := dX7_isWord_80) (kk := ?_)
                    refine g_X7_108 (pc := 81) X (hd := dX7_isWord_81) (hh := hM.1) (kk := ?_)
                    refine v_iload (pc := 84) X (hd := dX7_isWord_84) (kk := ?_)
                    refine v_iadd (pc := 86) X (hd := dX7_isWord_86) (kk := ?_)
                    rw [nI_add]
                    refine v_aload_n (pc := 87) X (hd := dX7_isWord_87) (kk := ?_)
                    refine g_X7_105 (pc := 88) X (hd := dX7_isWord_88) (hh := hM.1) (kk := ?_)
                    refine v_icmplt (pc := 91) X (tgt := 132) (hd := dX7_isWord_91) (kt := fun c91 => ?_) (kf := fun c91 => ?_)
                    · refine v_iconst (pc := 132) X (v := nI 0) (hd := dX7_isWord_132) (kk := ?_)
                      refine v_topi (fun y133 e133 => ?_)
                      obtain rfl : y133 = bI (okB ki te s e (CFW c0 c1 c2 c3 c4) (4 + 1) = true) := e133.trans (bI_0 (fun q => (okB_s.mp q).2.elim (fun w => absurd ((nI_ltI (by omega) (by omega)).mp c91) (by have := w.2; omega)) (fun w => w.1 z77)))
                      refine v_istore (pc := 133) X (hd := dX7_isWord_133) (kk := ?_)
                      refine v_iincN (pc := 135) X (hd := dX7_isWord_135) (kk := ?_)
                      refine v_goto (pc := 138) X (tgt := 20) (hd := dX7_isWord_138) (kk := ?_)
                      exact v_sub [some (.ref m), some (.int c0), some (.int c1), some (.int c2), some (.int c3), some (.int c4), some (.int (bI (okB ki te s e (CFW c0 c1 c2 c3 c4) (4 + 1) = true))), some (.int (nI (4 + 1))), none] (by intro i v hv; match i, hv with | 0, hv => exact hv | 1, hv => exact hv | 2, hv => exact hv | 3, hv => exact hv | 4, hv => exact hv | 5, hv => exact hv | 6, hv => exact hv | 7, hv => exact hv | 8, hv => simp at hv) kk
                    · refine v_goto (pc := 94) X (tgt := 128) (hd := dX7_isWord_94) (kk := ?_)
                      refine v_iconst (pc := 128) X (v := nI 1) (hd := dX7_isWord_128) (kk := ?_)
                      refine v_goto (pc := 129) X (tgt := 133) (hd := dX7_isWord_129) (kk := ?_)
                      refine v_topi (fun y133 e133 => ?_)
                      obtain rfl : y133 = bI (okB ki te s e (CFW c0 c1 c2 c3 c4) (4 + 1) = true) := e133.trans (bI_1 (okB_s.mpr ⟨c72, Or.inl ⟨z77, by rcases Nat.lt_or_ge (s + 4) e with v1 | v1; exact absurd (nI_lt v1 (by omega)) c91; exact v1⟩⟩))
                      refine v_istore (pc := 133) X (hd := dX7_isWord_133) (kk := ?_)
                      refine v_iincN (pc := 135) X (hd := dX7_isWord_135) (kk := ?_)
                      refine v_goto (pc := 138) X (tgt := 20) (hd := dX7_isWord_138) (kk := ?_)
                      exact v_sub [some (.ref m), some (.int c0), some (.int c1), some (.int c2), some (.int c3), some (.int c4), some (.int (bI (okB ki te s e (CFW c0 c1 c2 c3 c4) (4 + 1) = true))), some (.int (nI (4 + 1))), none] (by intro i v hv; match i, hv with | 0, hv => exact hv | 1, hv => exact hv | 2, hv => exact hv | 3, hv => exact hv | 4, hv => exact hv | 5, hv => exact hv | 6, hv => exact hv | 7, hv => exact hv | 8, hv => simp at hv) kk
              · have i3 : i = 3 := (nI_eq (by omega) (by omega)).mp (Classical.not_not.mp c58)
                subst i3
                refine v_iload (pc := 61) X (hd := dX7_isWord_61) (kk := ?_)
                refine v_goto (pc := 63) X (tgt := 68) (hd := dX7_isWord_63) (kk := ?_)
                refine v_istore (pc := 68) X (hd := dX7_isWord_68) (kk := ?_)
                refine v_iload (pc := 70) X (hd := dX7_isWord_70) (kk := ?_)
                refine v_ifeqB (pc := 72) X (tgt := 132) (hd := dX7_isWord_72) (kt := fun c72 => ?_) (kf := fun c72 => ?_)
                · refine v_iconst (pc := 132) X (v := nI 0) (hd := dX7_isWord_132) (kk := ?_)
                  refine v_topi (fun y133 e133 => ?_)
                  obtain rfl : y133 = bI (okB ki te s e (CFW c0 c1 c2 c3 c4) (3 + 1) = true) := e133.trans (bI_0 (fun q => c72 (okB_s.mp q).1))
                  refine v_istore (pc := 133) X (hd := dX7_isWord_133) (kk := ?_)
                  refine v_iincN (pc := 135) X (hd := dX7_isWord_135) (kk := ?_)
                  refine v_goto (pc := 138) X (tgt := 20) (hd := dX7_isWord_138) (kk := ?_)
                  exact v_sub [some (.ref m), some (.int c0), some (.int c1), some (.int c2), some (.int c3), some (.int c4), some (.int (bI (okB ki te s e (CFW c0 c1 c2 c3 c4) (3 + 1) = true))), some (.int (nI (3 + 1))), none] (by intro i v hv; match i, hv with | 0, hv => exact hv | 1, hv => exact hv | 2, hv => exact hv | 3, hv => exact hv | 4, hv => exact hv | 5, hv => exact hv | 6, hv => exact hv | 7, hv => exact hv | 8, hv => simp at hv) kk
                · refine v_iload (pc := 75) X (hd := dX7_isWord_75) (kk := ?_)
                  refine v_ifne (pc := 77) X (tgt := 97) (hd := dX7_isWord_77) (kt := fun c77 => ?_) (kf := fun c77 => ?_)
                  · refine v_aload_n (pc := 97) X (hd := dX7_isWord_97) (kk := ?_)
                    refine g_X7_108 (pc := 98) X (hd := dX7_isWord_98) (hh := hM.1) (kk := ?_)
                    refine v_iload (pc := 101) X (hd := dX7_isWord_101) (kk := ?_)
                    refine v_iadd (pc := 103) X (hd := dX7_isWord_103) (kk := ?_)
                    rw [nI_add]
                    refine v_aload_n (pc := 104) X (hd := dX7_isWord_104) (kk := ?_)
                    refine g_X7_105 (pc := 105) X (hd := dX7_isWord_105) (hh := hM.1) (kk := ?_)
                    refine v_icmpge (pc := 108) X (tgt := 132) (hd := dX7_isWord_108) (kt := fun c108 => ?_) (kf := fun c108 => ?_)
                    · refine v_iconst (pc := 132) X (v := nI 0) (hd := dX7_isWord_132) (kk := ?_)
                      refine v_topi (fun y133 e133 => ?_)
                      obtain rfl : y133 = bI (okB ki te s e (CFW c0 c1 c2 c3 c4) (3 + 1) = true) := e133.trans (bI_0 (fun q => (okB_s.mp q).2.elim (fun w => c77 w.1) (fun w => absurd c108 (nI_ge w.2.1 (by omega)))))
                      refine v_istore (pc := 133) X (hd := dX7_isWord_133) (kk := ?_)
                      refine v_iincN (pc := 135) X (hd := dX7_isWord_135) (kk := ?_)
                      refine v_goto (pc := 138) X (tgt := 20) (hd := dX7_isWord_138) (kk := ?_)
                      exact v_sub [some (.ref m), some (.int c0), some (.int c1), some (.int c2), some (.int c3), some (.int c4), some (.int (bI (okB ki te s e (CFW c0 c1 c2 c3 c4) (3 + 1) = true))), some (.int (nI (3 + 1))), none] (by intro i v hv; match i, hv with | 0, hv => exact hv | 1, hv => exact hv | 2, hv => exact hv | 3, hv => exact hv | 4, hv => exact hv | 5, hv => exact hv | 6, hv => exact hv | 7, hv => exact hv | 8, hv => simp at hv) kk
                    · have h108 : s + 3 < e := by
                        rcases Nat.lt_or_ge (s + 3) e with v1 | v1
                        · exact v1
                        · exact absurd (nI_le v1 (by omega)) c108
                      refine v_aload_n (pc := 111) X (hd := dX7_isWord_111) (kk := ?_)
                      refine g_X7_19 (pc := 112) X (hd := dX7_isWord_112) (hh := hM.1) (kk := ?_)
                      refine v_aload_n (pc := 115) X (hd := dX7_isWord_115) (kk := ?_)
                      refine g_X7_108 (pc := 116) X (hd := dX7_isWord_116) (hh := hM.1) (kk := ?_)
                      refine v_iload (pc := 119) X (hd := dX7_isWord_119) (kk := ?_)
                      refine v_iadd (pc := 121) X (hd := dX7_isWord_121) (kk := ?_)
                      rw [nI_add]
                      refine v_ialdN (pc := 122) X (j := (s + 3)) (hd := dX7_isWord_122) (hh := hM.2.2.2.2.1) (hi := by first | rfl | (simp only [pk_mul, nI_add]; done)) (hj := by omega) (kk := ?_)
                      refine v_iload (pc := 123) X (hd := dX7_isWord_123) (kk := ?_)
                      refine v_icmpne (pc := 125) X (tgt := 132) (hd := dX7_isWord_125) (kt := fun c125 => ?_) (kf := fun c125 => ?_)
                      · refine v_iconst (pc := 132) X (v := nI 0) (hd := dX7_isWord_132) (kk := ?_)
                        refine v_topi (fun y133 e133 => ?_)
                        obtain rfl : y133 = bI (okB ki te s e (CFW c0 c1 c2 c3 c4) (3 + 1) = true) := e133.trans (bI_0 (fun q => (okB_s.mp q).2.elim (fun w => c77 w.1) (fun w => c125 w.2.2)))
                        refine v_istore (pc := 133) X (hd := dX7_isWord_133) (kk := ?_)
                        refine v_iincN (pc := 135) X (hd := dX7_isWord_135) (kk := ?_)
                        refine v_goto (pc := 138) X (tgt := 20) (hd := dX7_isWord_138) (kk := ?_)
                        exact v_sub [some (.ref m), some (.int c0), some (.int c1), some (.int c2), some (.int c3), some (.int c4), some (.int (bI (okB ki te s e (CFW c0 c1 c2 c3 c4) (3 + 1) = true))), some (.int (nI (3 + 1))), none] (by intro i v hv; match i, hv with | 0, hv => exact hv | 1, hv => exact hv | 2, hv => exact hv | 3, hv => exact hv | 4, hv => exact hv | 5, hv => exact hv | 6, hv => exact hv | 7, hv => exact hv | 8, hv => simp at hv) kk
                      · refine v_iconst (pc := 128) X (v := nI 1) (hd := dX7_isWord_128) (kk := ?_)
                        refine v_goto (pc := 129) X (tgt := 133) (hd := dX7_isWord_129) (kk := ?_)
                        refine v_topi (fun y133 e133 => ?_)
                        obtain rfl : y133 = bI (okB ki te s e (CFW c0 c1 c2 c3 c4) (3 + 1) = true) := e133.trans (bI_1 (okB_s.mpr ⟨c72, Or.inr ⟨c77, h108, Classical.not_not.mp c125⟩⟩))
                        refine v_istore (pc := 133) X (hd := dX7_isWord_133) (kk := ?_)
                        refine v_iincN (pc := 135) X (hd := dX7_isWord_135) (kk := ?_)
                        refine v_goto (pc := 138) X (tgt := 20) (hd := dX7_isWord_138) (kk := ?_)
                        exact v_sub [some (.ref m), some (.int c0), some (.int c1), some (.int c2), some (.int c3), some (.int c4), some (.int (bI (okB ki te s e (CFW c0 c1 c2 c3 c4) (3 + 1) = true))), some (.int (nI (3 + 1))), none] (by intro i v hv; match i, hv with | 0, hv => exact hv | 1, hv => exact hv | 2, hv => exact hv | 3, hv => exact hv | 4, hv => exact hv | 5, hv => exact hv | 6, hv => exact hv | 7, hv => exact hv | 8, hv => simp at hv) kk
                  · have z77 := Classical.not_not.mp c77
                    refine v_aload_n (pc := 80) X (hd := dX7_isWord_80) (kk := ?_)
                    refine g_X7_108 (pc := 81) X (hd := dX7_isWord_81) (hh := hM.1) (kk := ?_)
                    refine v_iload (pc := 84) X (hd := dX7_isWord_84) (kk := ?_)
                    refine v_iadd (pc := 86) X (hd := dX7_isWord_86) (kk := ?_)
                    rw [nI_add]
                    refine v_aload_n (pc := 87) X (hd := dX7_isWord_87) (kk := ?_)
                    refine g_X7_105 (pc := 88) X (hd := dX7_isWord_88) (hh := hM.1) (kk := ?_)
                    refine v_icmplt (pc := 91) X (tgt := 132) (hd := dX7_isWord_91) (kt := fun c91 => ?_) (kf := fun c91 => ?_)
                    · refine v_iconst (pc := 132) X (v := nI 0) (hd := dX7_isWord_132) (kk := ?_)
                      refine v_topi (fun y133 e133 => ?_)
                      obtain rfl : y133 = bI (okB ki te s e (CFW c0 c1 c2 c3 c4) (3 + 1) = true) := e133.trans (bI_0 (fun q => (okB_s.mp q).2.elim (fun w => absurd ((nI_ltI (by omega) (by omega)).mp c91) (by have := w.2; omega)) (fun w => w.1 z77)))
                      refine v_istore (pc := 133) X (hd := dX7_isWord_133) (kk := ?_)
                      refine v_iincN (pc := 135) X (hd := dX7_isWord_135) (kk := ?_)
                      refine v_goto (pc := 138) X (tgt := 20) (hd := dX7_isWord_138) (kk := ?_)
                      exact v_sub [some (.ref m), some (.int c0), some (.int c1), some (.int c2), some (.int c3), some (.int c4), some (.int (bI (okB ki te s e (CFW c0 c1 c2 c3 c4) (3 + 1) = true))), some (.int (nI (3 + 1))), none] (by intro i v hv; match i, hv with | 0, hv => exact hv | 1, hv => exact hv | 2, hv => exact hv | 3, hv => exact hv | 4, hv => exact hv | 5, hv => exact hv | 6, hv => exact hv | 7, hv => exact hv | 8, hv => simp at hv) kk
                    · refine v_goto (pc := 94) X (tgt := 128) (hd := dX7_isWord_94) (kk := ?_)
                      refine v_iconst (pc := 128) X (v := nI 1) (hd := dX7_isWord_128) (kk := ?_)
                      refine v_goto (pc := 129) X (tgt := 133) (hd := dX7_isWord_129) (kk := ?_)
                      refine v_topi (fun y133 e133 => ?_)
                      obtain rfl : y133 = bI (okB ki te s e (CFW c0 c1 c2 c3 c4) (3 + 1) = true) := e133.trans (bI_1 (okB_s.mpr ⟨c72, Or.inl ⟨z77, by rcases Nat.lt_or_ge (s + 3) e with v1 | v1; exact absurd (nI_lt v1 (by omega)) c91; exact v1⟩⟩))
                      refine v_istore (pc := 133) X (hd := dX7_isWord_133) (kk := ?_)
                      refine v_iincN (pc := 135) X (hd := dX7_isWord_135) (kk := ?_)
                      refine v_goto (pc := 138) X (tgt := 20) (hd := dX7_isWord_138) (kk := ?_)
                      exact v_sub [some (.ref m), some (.int c0), some (.int c1), some (.int c2), some (.int c3), some (.int c4), some (.int (bI (okB ki te s e (CFW c0 c1 c2 c3 c4) (3 + 1) = true))), some (.int (nI (3 + 1))), none] (by intro i v hv; match i, hv with | 0, hv => exact hv | 1, hv => exact hv | 2, hv => exact hv | 3, hv => exact hv | 4, hv => exact hv | 5, hv => exact hv | 6, hv => exact hv | 7, hv => exact hv | 8, hv => simp at hv) kk
            · have i2 : i = 2 := (nI_eq (by omega) (by omega)).mp (Classical.not_not.mp c48)
              subst i2
              refine v_iload_n (pc := 51) X (hd := dX7_isWord_51) (kk := ?_)
              refine v_goto (pc := 52) X (tgt := 68) (hd := dX7_isWord_52) (kk := ?_)
              refine v_istore (pc := 68) X (hd := dX7_isWord_68) (kk := ?_)
              refine v_iload (pc := 70) X (hd := dX7_isWord_70) (kk := ?_)
              refine v_ifeqB (pc := 72) X (tgt := 132) (hd := dX7_isWord_72) (kt := fun c72 => ?_) (kf := fun c72 => ?_)
              · refine v_iconst (pc := 132) X (v := nI 0) (hd := dX7_isWord_132) (kk := ?_)
                refine v_topi (fun y133 e133 => ?_)
                obtain rfl : y133 = bI (okB ki te s e (CFW c0 c1 c2 c3 c4) (2 + 1) = true) := e133.trans (bI_0 (fun q => c72 (okB_s.mp q).1))
                refine v_istore (pc := 133) X (hd := dX7_isWord_133) (kk := ?_)
                refine v_iincN (pc := 135) X (hd := dX7_isWord_135) (kk := ?_)
                refine v_goto (pc := 138) X (tgt := 20) (hd := dX7_isWord_138) (kk := ?_)
                exact v_sub [some (.ref m), some (.int c0), some (.int c1), some (.int c2), some (.int c3), some (.int c4), some (.int (bI (okB ki te s e (CFW c0 c1 c2 c3 c4) (2 + 1) = true))), some (.int (nI (2 + 1))), none] (by intro i v hv; match i, hv with | 0, hv => exact hv | 1, hv => exact hv | 2, hv => exact hv | 3, hv => exact hv | 4, hv => exact hv | 5, hv => exact hv | 6, hv => exact hv | 7, hv => exact hv | 8, hv => simp at hv) kk
              · refine v_iload (pc := 75) X (hd := dX7_isWord_75) (kk := ?_)
                refine v_ifne (pc := 77) X (tgt := 97) (hd := dX7_isWord_77) (kt := fun c77 => ?_) (kf := fun c77 => ?_)
                · refine v_aload_n (pc := 97) X (hd := dX7_isWord_97) (kk := ?_)
                  refine g_X7_108 (pc := 98) X (hd := dX7_isWord_98) (hh := hM.1) (kk := ?_)
                  refine v_iload (pc := 101) X (hd := dX7_isWord_101) (kk := ?_)
                  refine v_iadd (pc := 103) X (hd := dX7_isWord_103) (kk := ?_)
                  rw [nI_add]
                  refine v_aload_n (pc := 104) X (hd := dX7_isWord_104) (kk := ?_)
                  refine g_X7_105 (pc := 105) X (hd := dX7_isWord_105) (hh := hM.1) (kk := ?_)
                  refine v_icmpge (pc := 108) X (tgt := 132) (hd := dX7_isWord_108) (kt := fun c108 => ?_) (kf := fun c108 => ?_)
                  · refine v_iconst (pc := 132) X (v := nI 0) (hd := dX7_isWord_132) (kk := ?_)
                    refine v_topi (fun y133 e133 => ?_)
                    obtain rfl : y133 = bI (okB ki te s e (CFW c0 c1 c2 c3 c4) (2 + 1) = true) := e133.trans (bI_0 (fun q => (okB_s.mp q).2.elim (fun w => c77 w.1) (fun w => absurd c108 (nI_ge w.2.1 (by omega)))))
                    refine v_istore (pc := 133) X (hd := dX7_isWord_133) (kk := ?_)
                    refine v_iincN (pc := 135) X (hd := dX7_isWord_135) (kk := ?_)
                    refine v_goto (pc := 138) X (tgt := 20) (hd := dX7_isWord_138) (kk := ?_)
                    exact v_sub [some (.ref m), some (.int c0), some (.int c1), some (.int c2), some (.int c3), some (.int c4), some (.int (bI (okB ki te s e (CFW c0 c1 c2 c3 c4) (2 + 1) = true))), some (.int (nI (2 + 1))), none] (by intro i v hv; match i, hv with | 0, hv => exact hv | 1, hv => exact hv | 2, hv => exact hv | 3, hv => exact hv | 4, hv => exact hv | 5, hv => exact hv | 6, hv => exact hv | 7, hv => exact hv | 8, hv => simp at hv) kk
                  · have h108 : s + 2 < e := by
                      rcases Nat.lt_or_ge (s + 2) e with v1 | v1
                      · exact v1
                      · exact absurd (nI_le v1 (by omega)) c108
                    refine v_aload_n (pc := 111) X (hd := dX7_isWord_111) (kk := ?_)
                    refine g_X7_19 (pc := 112) X (hd := dX7_isWord_112) (hh := hM.1) (kk := ?_)
                    refine v_aload_n (pc := 115) X (hd := dX7_isWord_115) (kk := ?_)
                    refine g_X7_108 (pc := 116) X (hd := dX7_isWord_116) (hh := hM.1) (kk := ?_)
                    refine v_iload (pc := 119) X (hd := dX7_isWord_119) (kk := ?_)
                    refine v_iadd (pc := 121) X (hd := dX7_isWord_121) (kk := ?_)
                    rw [nI_add]
                    refine v_ialdN (pc := 122) X (j := (s + 2)) (hd := dX7_isWord_122) (hh := hM.2.2.2.2.1) (hi := by first | rfl | (simp only [pk_mul, nI_add]; done)) (hj := by omega) (kk := ?_)
                    refine v_iload (pc := 123) X (hd := dX7_isWord_123) (kk := ?_)
                    refine v_icmpne (pc := 125) X (tgt := 132) (hd := dX7_isWord_125) (kt := fun c125 => ?_) (kf := fun c125 => ?_)
                    · refine v_iconst (pc := 132) X (v := nI 0) (hd := dX7_isWord_132) (kk := ?_)
                      refine v_topi (fun y133 e133 => ?_)
                      obtain rfl : y133 = bI (okB ki te s e (CFW c0 c1 c2 c3 c4) (2 + 1) = true) := e133.trans (bI_0 (fun q => (okB_s.mp q).2.elim (fun w => c77 w.1) (fun w => c125 w.2.2)))
                      refine v_istore (pc := 133) X (hd := dX7_isWord_133) (kk := ?_)
                      refine v_iincN (pc := 135) X (hd := dX7_isWord_135) (kk := ?_)
                      refine v_goto (pc := 138) X (tgt := 20) (hd := dX7_isWord_138) (kk := ?_)
                      exact v_sub [some (.ref m), some (.int c0), some (.int c1), some (.int c2), some (.int c3), some (.int c4), some (.int (bI (okB ki te s e (CFW c0 c1 c2 c3 c4) (2 + 1) = true))), some (.int (nI (2 + 1))), none] (by intro i v hv; match i, hv with | 0, hv => exact hv | 1, hv => exact hv | 2, hv => exact hv | 3, hv => exact hv | 4, hv => exact hv | 5, hv => exact hv | 6, hv => exact hv | 7, hv => exact hv | 8, hv => simp at hv) kk
                    · refine v_iconst (pc := 128) X (v := nI 1) (hd := dX7_isWord_128) (kk := ?_)
                      refine v_goto (pc := 129) X (tgt := 133) (hd := dX7_isWord_129) (kk := ?_)
                      refine v_topi (fun y133 e133 => ?_)
                      obtain rfl : y133 = bI (okB ki te s e (CFW c0 c1 c2 c3 c4) (2 + 1) = true) := e133.trans (bI_1 (okB_s.mpr ⟨c72, Or.inr ⟨c77, h108, Classical.not_not.mp c125⟩⟩))
                      refine v_istore (pc := 133) X (hd := dX7_isWord_133) (kk := ?_)
                      refine v_iincN (pc := 135) X (hd := dX7_isWord_135) (kk := ?_)
                      refine v_goto (pc := 138) X (tgt := 20) (hd := dX7_isWord_138) (kk := ?_)
                      exact v_sub [some (.ref m), some (.int c0), some (.int c1), some (.int c2), some (.int c3), some (.int c4), some (.int (bI (okB ki te s e (CFW c0 c1 c2 c3 c4) (2 + 1) = true))), some (.int (nI (2 + 1))), none] (by intro i v hv; match i, hv with | 0, hv => exact hv | 1, hv => exact hv | 2, hv => exact hv | 3, hv => exact hv | 4, hv => exact hv | 5, hv => exact hv | 6, hv => exact hv | 7, hv => exact hv | 8, hv => simp at hv) kk
                · have z77 := Classical.not_not.mp c77
                  refine v_aload_n (pc := 80) X (hd := dX7_isWord_80) (kk := ?_)
                  refine g_X7_108 (pc := 81) X (hd := dX7_isWord_81) (hh := hM.1) (kk := ?_)
                  refine v_iload (pc := 84) X (hd := dX7_isWord_84) (kk := ?_)
                  refine v_iadd (pc := 86) X (hd := dX7_isWord_86) (kk := ?_)
                  rw [nI_add]
                  refine v_aload_n (pc := 87) X (hd := dX7_isWord_87) (kk := ?_)
                  refine g_X7_105 (pc := 88) X (hd := dX7_isWord_88) (hh := hM.1) (kk := ?_)
                  refine v_icmplt (pc := 91) X (tgt := 132) (hd := dX7_isWord_91) (kt := fun c91 => ?_) (kf := fun c91 => ?_)
                  · refine v_iconst (pc := 132) X (v := nI 0) (hd := dX7_isWord_132) (kk := ?_)
                    refine v_topi (fun y133 e133 => ?_)
                    obtain rfl : y133 = bI (okB ki te s e (CFW c0 c1 c2 c3 c4) (2 + 1) = true) := e133.trans (bI_0 (fun q => (okB_s.mp q).2.elim (fun w => absurd ((nI_ltI (by omega) (by omega)).mp c91) (by have := w.2; omega)) (fun w => w.1 z77)))
                    refine v_istore (pc := 133) X (hd := dX7_isWord_133) (kk := ?_)
                    refine v_iincN (pc := 135) X (hd := dX7_isWord_135) (kk := ?_)
                    refine v_goto (pc := 138) X (tgt := 20) (hd := dX7_isWord_138) (kk := ?_)
                    exact v_sub [some (.ref m), some (.int c0), some (.int c1), some (.int c2), some (.int c3), some (.int c4), some (.int (bI (okB ki te s e (CFW c0 c1 c2 c3 c4) (2 + 1) = true))), some (.int (nI (2 + 1))), none] (by intro i v hv; match i, hv with | 0, hv => exact hv | 1, hv => exact hv | 2, hv => exact hv | 3, hv => exact hv | 4, hv => exact hv | 5, hv => exact hv | 6, hv => exact hv | 7, hv => exact hv | 8, hv => simp at hv) kk
                  · refine v_goto (pc := 94) X (tgt := 128) (hd := dX7_isWord_94) (kk := ?_)
                    refine v_iconst (pc := 128) X (v := nI 1) (hd := dX7_isWord_128) (kk := ?_)
                    refine v_goto (pc := 129) X (tgt := 133) (hd := dX7_isWord_129) (kk := ?_)
                    refine v_topi (fun y133 e133 => ?_)
                    obtain rfl : y133 = bI (okB ki te s e (CFW c0 c1 c2 c3 c4) (2 + 1) = true) := e133.trans (bI_1 (okB_s.mpr ⟨c72, Or.inl ⟨z77, by rcases Nat.lt_or_ge (s + 2) e with v1 | v1; exact absurd (nI_lt v1 (by omega)) c91; exact v1⟩⟩))
                    refine v_istore (pc := 133) X (hd := dX7_isWord_133) (kk := ?_)
                    refine v_iincN (pc := 135) X (hd := dX7_isWord_135) (kk := ?_)
                    refine v_goto (pc := 138) X (tgt := 20) (hd := dX7_isWord_138) (kk := ?_)
                    exact v_sub [some (.ref m), some (.int c0), some (.int c1), some (.int c2), some (.int c3), some (.int c4), some (.int (bI (okB ki te s e (CFW c0 c1 c2 c3 c4) (2 + 1) = true))), some (.int (nI (2 + 1))), none] (by intro i v hv; match i, hv with | 0, hv => exact hv | 1, hv => exact hv | 2, hv => exact hv | 3, hv => exact hv | 4, hv => exact hv | 5, hv => exact hv | 6, hv => exact hv | 7, hv => exact hv | 8, hv => simp at hv) kk
          · have i1 : i = 1 := (nI_eq (by omega) (by omega)).mp (Classical.not_not.mp c38)
            subst i1
            refine v_iload_n (pc := 41) X (hd := dX7_isWord_41) (kk := ?_)
            refine v_goto (pc := 42) X (tgt := 68) (hd := dX7_isWord_42) (kk := ?_)
            refine v_istore (pc := 68) X (hd := dX7_isWord_68) (kk := ?_)
            refine v_iload (pc := 70) X (hd := dX7_isWord_70) (kk := ?_)
            refine v_ifeqB (pc := 72) X (tgt := 132) (hd := dX7_isWord_72) (kt := fun c72 => ?_) (kf := fun c72 => ?_)
            · refine v_iconst (pc := 132) X (v := nI 0) (hd := dX7_isWord_132) (kk := ?_)
              refine v_topi (fun y133 e133 => ?_)
              obtain rfl : y133 = bI (okB ki te s e (CFW c0 c1 c2 c3 c4) (1 + 1) = true) := e133.trans (bI_0 (fun q => c72 (okB_s.mp q).1))
              refine v_istore (pc := 133) X (hd := dX7_isWord_133) (kk := ?_)
              refine v_iincN (pc := 135) X (hd := dX7_isWord_135) (kk := ?_)
              refine v_goto (pc := 138) X (tgt := 20) (hd := dX7_isWord_138) (kk := ?_)
              exact v_sub [some (.ref m), some (.int c0), some (.int c1), some (.int c2), some (.int c3), some (.int c4), some (.int (bI (okB ki te s e (CFW c0 c1 c2 c3 c4) (1 + 1) = true))), some (.int (nI (1 + 1))), none] (by intro i v hv; match i, hv with | 0, hv => exact hv | 1, hv => exact hv | 2, hv => exact hv | 3, hv => exact hv | 4, hv => exact hv | 5, hv => exact hv | 6, hv => exact hv | 7, hv => exact hv | 8, hv => simp at hv) kk
            · refine v_iload (pc := 75) X (hd := dX7_isWord_75) (kk := ?_)
              refine v_ifne (pc := 77) X (tgt := 97) (hd := dX7_isWord_77) (kt := fun c77 => ?_) (kf := fun c77 => ?_)
              · refine v_aload_n (pc := 97) X (hd := dX7_isWord_97) (kk := ?_)
                refine g_X7_108 (pc := 98) X (hd := dX7_isWord_98) (hh := hM.1) (kk := ?_)
                refine v_iload (pc := 101) X (hd := dX7_isWord_101) (kk := ?_)
                refine v_iadd (pc := 103) X (hd := dX7_isWord_103) (kk := ?_)
                rw [nI_add]
                refine v_aload_n (pc := 104) X (hd := dX7_isWord_104) (kk := ?_)
                refine g_X7_105 (pc := 105) X (hd := dX7_isWord_105) (hh := hM.1) (kk := ?_)
                refine v_icmpge (pc := 108) X (tgt := 132) (hd := dX7_isWord_108) (kt := fun c108 => ?_) (kf := fun c108 => ?_)
                · refine v_iconst (pc := 132) X (v := nI 0) (hd := dX7_isWord_132) (kk := ?_)
                  refine v_topi (fun y133 e133 => ?_)
                  obtain rfl : y133 = bI (okB ki te s e (CFW c0 c1 c2 c3 c4) (1 + 1) = true) := e133.trans (bI_0 (fun q => (okB_s.mp q).2.elim (fun w => c77 w.1) (fun w => absurd c108 (nI_ge w.2.1 (by omega)))))
                  refine v_istore (pc := 133) X (hd := dX7_isWord_133) (kk := ?_)
                  refine v_iincN (pc := 135) X (hd := dX7_isWord_135) (kk := ?_)
                  refine v_goto (pc := 138) X (tgt := 20) (hd := dX7_isWord_138) (kk := ?_)
                  exact v_sub [some (.ref m), some (.int c0), some (.int c1), some (.int c2), some (.int c3), some (.int c4), some (.int (bI (okB ki te s e (CFW c0 c1 c2 c3 c4) (1 + 1) = true))), some (.int (nI (1 + 1))), none] (by intro i v hv; match i, hv with | 0, hv => exact hv | 1, hv => exact hv | 2, hv => exact hv | 3, hv => exact hv | 4, hv => exact hv | 5, hv => exact hv | 6, hv => exact hv | 7, hv => exact hv | 8, hv => simp at hv) kk
                · have h108 : s + 1 < e := by
                    rcases Nat.lt_or_ge (s + 1) e with v1 | v1
                    · exact v1
                    · exact absurd (nI_le v1 (by omega)) c108
                  refine v_aload_n (pc := 111) X (hd := dX7_isWord_111) (kk := ?_)
                  refine g_X7_19 (pc := 112) X (hd := dX7_isWord_112) (hh := hM.1) (kk := ?_)
                  refine v_aload_n (pc := 115) X (hd := dX7_isWord_115) (kk := ?_)
                  refine g_X7_108 (pc := 116) X (hd := dX7_isWord_116) (hh := hM.1) (kk := ?_)
                  refine v_iload (pc := 119) X (hd := dX7_isWord_119) (kk := ?_)
                  refine v_iadd (pc := 121) X (hd := dX7_isWord_121) (kk := ?_)
                  rw [nI_add]
                  refine v_ialdN (pc := 122) X (j := (s + 1)) (hd := dX7_isWord_122) (hh := hM.2.2.2.2.1) (hi := by first | rfl | (simp only [pk_mul, nI_add]; done)) (hj := by omega) (kk := ?_)
                  refine v_iload (pc := 123) X (hd := dX7_isWord_123) (kk := ?_)
                  refine v_icmpne (pc := 125) X (tgt := 132) (hd := dX7_isWord_125) (kt := fun c125 => ?_) (kf := fun c125 => ?_)
                  · refine v_iconst (pc := 132) X (v := nI 0) (hd := dX7_isWord_132) (kk := ?_)
                    refine v_topi (fun y133 e133 => ?_)
                    obtain rfl : y133 = bI (okB ki te s e (CFW c0 c1 c2 c3 c4) (1 + 1) = true) := e133.trans (bI_0 (fun q => (okB_s.mp q).2.elim (fun w => c77 w.1) (fun w => c125 w.2.2)))
                    refine v_istore (pc := 133) X (hd := dX7_isWord_133) (kk := ?_)
                    refine v_iincN (pc := 135) X (hd := dX7_isWord_135) (kk := ?_)
                    refine v_goto (pc := 138) X (tgt := 20) (hd := dX7_isWord_138) (kk := ?_)
                    exact v_sub [some (.ref m), some (.int c0), some (.int c1), some (.int c2), some (.int c3), some (.int c4), some (.int (bI (okB ki te s e (CFW c0 c1 c2 c3 c4) (1 + 1) = true))), some (.int (nI (1 + 1))), none] (by intro i v hv; match i, hv with | 0, hv => exact hv | 1, hv => exact hv | 2, hv => exact hv | 3, hv => exact hv | 4, hv => exact hv | 5, hv => exact hv | 6, hv => exact hv | 7, hv => exact hv | 8, hv => simp at hv) kk
                  · refine v_iconst (pc := 128) X (v := nI 1) (hd := dX7_isWord_128) (kk := ?_)
                    refine v_goto (pc := 129) X (tgt := 133) (hd := dX7_isWord_129) (kk := ?_)
                    refine v_topi (fun y133 e133 => ?_)
                    obtain rfl : y133 = bI (okB ki te s e (CFW c0 c1 c2 c3 c4) (1 + 1) = true) := e133.trans (bI_1 (okB_s.mpr ⟨c72, Or.inr ⟨c77, h108, Classical.not_not.mp c125⟩⟩))
                    refine v_istore (pc := 133) X (hd := dX7_isWord_133) (kk := ?_)
                    refine v_iincN (pc := 135) X (hd := dX7_isWord_135) (kk := ?_)
                    refine v_goto (pc := 138) X (tgt := 20) (hd := dX7_isWord_138) (kk := ?_)
                    exact v_sub [some (.ref m), some (.int c0), some (.int c1), some (.int c2), some (.int c3), some (.int c4), some (.int (bI (okB ki te s e (CFW c0 c1 c2 c3 c4) (1 + 1) = true))), some (.int (nI (1 + 1))), none] (by intro i v hv; match i, hv with | 0, hv => exact hv | 1, hv => exact hv | 2, hv => exact hv | 3, hv => exact hv | 4, hv => exact hv | 5, hv => exact hv | 6, hv => exact hv | 7, hv => exact hv | 8, hv => simp at hv) kk
              · have z77 := Classical.not_not.mp c77
                refine v_aload_n (pc := 80) X (hd := dX7_isWord_80) (kk := ?_)
                refine g_X7_108 (pc := 81) X (hd := dX7_isWord_81) (hh := hM.1) (kk := ?_)
                refine v_iload (pc := 84) X (hd := dX7_isWord_84) (kk := ?_)
                refine v_iadd (pc := 86) X (hd := dX7_isWord_86) (kk := ?_)
                rw [nI_add]
                refine v_aload_n (pc := 87) X (hd := dX7_isWord_87) (kk := ?_)
                refine g_X7_105 (pc := 88) X (hd := dX7_isWord_88) (hh := hM.1) (kk := ?_)
                refine v_icmplt (pc := 91) X (tgt := 132) (hd := dX7_isWord_91) (kt := fun c91 => ?_) (kf := fun c91 => ?_)
                · refine v_iconst (pc := 132) X (v := nI 0) (hd := dX7_isWord_132) (kk := ?_)
                  refine v_topi (fun y133 e133 => ?_)
                  obtain rfl : y133 = bI (okB ki te s e (CFW c0 c1 c2 c3 c4) (1 + 1) = true) := e133.trans (bI_0 (fun q => (okB_s.mp q).2.elim (fun w => absurd ((nI_ltI (by omega) (by omega)).mp c91) (by have := w.2; omega)) (fun w => w.1 z77)))
                  refine v_istore (pc := 133) X (hd := dX7_isWord_133) (kk := ?_)
                  refine v_iincN (pc := 135) X (hd := dX7_isWord_135) (kk := ?_)
                  refine v_goto (pc := 138) X (tgt := 20) (hd := dX7_isWord_138) (kk := ?_)
                  exact v_sub [some (.ref m), some (.int c0), some (.int c1), some (.int c2), some (.int c3), some (.int c4), some (.int (bI (okB ki te s e (CFW c0 c1 c2 c3 c4) (1 + 1) = true))), some (.int (nI (1 + 1))), none] (by intro i v hv; match i, hv with | 0, hv => exact hv | 1, hv => exact hv | 2, hv => exact hv | 3, hv => exact hv | 4, hv => exact hv | 5, hv => exact hv | 6, hv => exact hv | 7, hv => exact hv | 8, hv => simp at hv) kk
                · refine v_goto (pc := 94) X (tgt := 128) (hd := dX7_isWord_94) (kk := ?_)
                  refine v_iconst (pc := 128) X (v := nI 1) (hd := dX7_isWord_128) (kk := ?_)
                  refine v_goto (pc := 129) X (tgt := 133) (hd := dX7_isWord_129) (kk := ?_)
                  refine v_topi (fun y133 e133 => ?_)
                  obtain rfl : y133 = bI (okB ki te s e (CFW c0 c1 c2 c3 c4) (1 + 1) = true) := e133.trans (bI_1 (okB_s.mpr ⟨c72, Or.inl ⟨z77, by rcases Nat.lt_or_ge (s + 1) e with v1 | v1; exact absurd (nI_lt v1 (by omega)) c91; exact v1⟩⟩))
                  refine v_istore (pc := 133) X (hd := dX7_isWord_133) (kk := ?_)
                  refine v_iincN (pc := 135) X (hd := dX7_isWord_135) (kk := ?_)
                  refine v_goto (pc := 138) X (tgt := 20) (hd := dX7_isWord_138) (kk := ?_)
                  exact v_sub [some (.ref m), some (.int c0), some (.int c1), some (.int c2), some (.int c3), some (.int c4), some (.int (bI (okB ki te s e (CFW c0 c1 c2 c3 c4) (1 + 1) = true))), some (.int (nI (1 + 1))), none] (by intro i v hv; match i, hv with | 0, hv => exact hv | 1, hv => exact hv | 2, hv => exact hv | 3, hv => exact hv | 4, hv => exact hv | 5, hv => exact hv | 6, hv => exact hv | 7, hv => exact hv | 8, hv => simp at hv) kk
        · have i0 : i = 0 := (nI_eq (by omega) (by omega)).mp ((Classical.not_not.mp c28).trans nI_z.symm)
          subst i0
          refine v_iload_n (pc := 31) X (hd := dX7_isWord_31) (kk := ?_)
          refine v_goto (pc := 32) X (tgt := 68) (hd := dX7_isWord_32) (kk := ?_)
          refine v_istore (pc := 68) X (hd := dX7_isWord_68) (kk := ?_)
          refine v_iload (pc := 70) X (hd := dX7_isWord_70) (kk := ?_)
          refine v_ifeqB (pc := 72) X (tgt := 132) (hd := dX7_isWord_72) (kt := fun c72 => ?_) (kf := fun c72 => ?_)
          · refine v_iconst (pc := 132) X (v := nI 0) (hd := dX7_isWord_132) (kk := ?_)
            refine v_topi (fun y133 e133 => ?_)
            obtain rfl : y133 = bI (okB ki te s e (CFW c0 c1 c2 c3 c4) (0 + 1) = true) := e133.trans (bI_0 (fun q => c72 (okB_s.mp q).1))
            refine v_istore (pc := 133) X (hd := dX7_isWord_133) (kk := ?_)
            refine v_iincN (pc := 135) X (hd := dX7_isWord_135) (kk := ?_)
            refine v_goto (pc := 138) X (tgt := 20) (hd := dX7_isWord_138) (kk := ?_)
            exact v_sub [some (.ref m), some (.int c0), some (.int c1), some (.int c2), some (.int c3), some (.int c4), some (.int (bI (okB ki te s e (CFW c0 c1 c2 c3 c4) (0 + 1) = true))), some (.int (nI (0 + 1))), none] (by intro i v hv; match i, hv with | 0, hv => exact hv | 1, hv => exact hv | 2, hv => exact hv | 3, hv => exact hv | 4, hv => exact hv | 5, hv => exact hv | 6, hv => exact hv | 7, hv => exact hv | 8, hv => simp at hv) kk
          · refine v_iload (pc := 75) X (hd := dX7_isWord_75) (kk := ?_)
            refine v_ifne (pc := 77) X (tgt := 97) (hd := dX7_isWord_77) (kt := fun c77 => ?_) (kf := fun c77 => ?_)
            · refine v_aload_n (pc := 97) X (hd := dX7_isWord_97) (kk := ?_)
              refine g_X7_108 (pc := 98) X (hd := dX7_isWord_98) (hh := hM.1) (kk := ?_)
              refine v_iload (pc := 101) X (hd := dX7_isWord_101) (kk := ?_)
              refine v_iadd (pc := 103) X (hd := dX7_isWord_103) (kk := ?_)
              rw [nI_add]
              refine v_aload_n (pc := 104) X (hd := dX7_isWord_104) (kk := ?_)
              refine g_X7_105 (pc := 105) X (hd := dX7_isWord_105) (hh := hM.1) (kk := ?_)
              refine v_icmpge (pc := 108) X (tgt := 132) (hd := dX7_isWord_108) (kt := fun c108 => ?_) (kf := fun c108 => ?_)
              · refine v_iconst (pc := 132) X (v := nI 0) (hd := dX7_isWord_132) (kk := ?_)
                refine v_topi (fun y133 e133 => ?_)
                obtain rfl : y133 = bI (okB ki te s e (CFW c0 c1 c2 c3 c4) (0 + 1) = true) := e133.trans (bI_0 (fun q => (okB_s.mp q).2.elim (fun w => c77 w.1) (fun w => absurd c108 (nI_ge w.2.1 (by omega)))))
                refine v_istore (pc := 133) X (hd := dX7_isWord_133) (kk := ?_)
                refine v_iincN (pc := 135) X (hd := dX7_isWord_135) (kk := ?_)
                refine v_goto (pc := 138) X (tgt := 20) (hd := dX7_isWord_138) (kk := ?_)
                exact v_sub [some (.ref m), some (.int c0), some (.int c1), some (.int c2), some (.int c3), some (.int c4), some (.int (bI (okB ki te s e (CFW c0 c1 c2 c3 c4) (0 + 1) = true))), some (.int (nI (0 + 1))), none] (by intro i v hv; match i, hv with | 0, hv => exact hv | 1, hv => exact hv | 2, hv => exact hv | 3, hv => exact hv | 4, hv => exact hv | 5, hv => exact hv | 6, hv => exact hv | 7, hv => exact hv | 8, hv => simp at hv) kk
              · have h108 : s + 0 < e := by
                  rcases Nat.lt_or_ge (s + 0) e with v1 | v1
                  · exact v1
                  · exact absurd (nI_le v1 (by omega)) c108
                refine v_aload_n (pc := 111) X (hd := dX7_isWord_111) (kk := ?_)
                refine g_X7_19 (pc := 112) X (hd := dX7_isWord_112) (hh := hM.1) (kk := ?_)
                refine v_aload_n (pc := 115) X (hd := dX7_isWord_115) (kk := ?_)
                refine g_X7_108 (pc := 116) X (hd := dX7_isWord_116) (hh := hM.1) (kk := ?_)
                refine v_iload (pc := 119) X (hd := dX7_isWord_119) (kk := ?_)
                refine v_iadd (pc := 121) X (hd := dX7_isWord_121) (kk := ?_)
                rw [nI_add]
                refine v_ialdN (pc := 122) X (j := (s + 0)) (hd := dX7_isWord_122) (hh := hM.2.2.2.2.1) (hi := by first | rfl | (simp only [pk_mul, nI_add]; done)) (hj := by omega) (kk := ?_)
                refine v_iload (pc := 123) X (hd := dX7_isWord_123) (kk := ?_)
                refine v_icmpne (pc := 125) X (tgt := 132) (hd := dX7_isWord_125) (kt := fun c125 => ?_) (kf := fun c125 => ?_)
                · refine v_iconst (pc := 132) X (v := nI 0) (hd := dX7_isWord_132) (kk := ?_)
                  refine v_topi (fun y133 e133 => ?_)
                  obtain rfl : y133 = bI (okB ki te s e (CFW c0 c1 c2 c3 c4) (0 + 1) = true) := e133.trans (bI_0 (fun q => (okB_s.mp q).2.elim (fun w => c77 w.1) (fun w => c125 w.2.2)))
                  refine v_istore (pc := 133) X (hd := dX7_isWord_133) (kk := ?_)
                  refine v_iincN (pc := 135) X (hd := dX7_isWord_135) (kk := ?_)
                  refine v_goto (pc := 138) X (tgt := 20) (hd := dX7_isWord_138) (kk := ?_)
                  exact v_sub [some (.ref m), some (.int c0), some (.int c1), some (.int c2), some (.int c3), some (.int c4), some (.int (bI (okB ki te s e (CFW c0 c1 c2 c3 c4) (0 + 1) = true))), some (.int (nI (0 + 1))), none] (by intro i v hv; match i, hv with | 0, hv => exact hv | 1, hv => exact hv | 2, hv => exact hv | 3, hv => exact hv | 4, hv => exact hv | 5, hv => exact hv | 6, hv => exact hv | 7, hv => exact hv | 8, hv => simp at hv) kk
                · refine v_iconst (pc := 128) X (v := nI 1) (hd := dX7_isWord_128) (kk := ?_)
                  refine v_goto (pc := 129) X (tgt := 133) (hd := dX7_isWord_129) (kk := ?_)
                  refine v_topi (fun y133 e133 => ?_)
                  obtain rfl : y133 = bI (okB ki te s e (CFW c0 c1 c2 c3 c4) (0 + 1) = true) := e133.trans (bI_1 (okB_s.mpr ⟨c72, Or.inr ⟨c77, h108, Classical.not_not.mp c125⟩⟩))
                  refine v_istore (pc := 133) X (hd := dX7_isWord_133) (kk := ?_)
                  refine v_iincN (pc := 135) X (hd := dX7_isWord_135) (kk := ?_)
                  refine v_goto (pc := 138) X (tgt := 20) (hd := dX7_isWord_138) (kk := ?_)
                  exact v_sub [some (.ref m), some (.int c0), some (.int c1), some (.int c2), some (.int c3), some (.int c4), some (.int (bI (okB ki te s e (CFW c0 c1 c2 c3 c4) (0 + 1) = true))), some (.int (nI (0 + 1))), none] (by intro i v hv; match i, hv with | 0, hv => exact hv | 1, hv => exact hv | 2, hv => exact hv | 3, hv => exact hv | 4, hv => exact hv | 5, hv => exact hv | 6, hv => exact hv | 7, hv => exact hv | 8, hv => simp at hv) kk
            · have z77 := Classical.not_not.mp c77
              refine v_aload_n (pc := 80) X (hd := dX7_isWord_80) (kk := ?_)
              refine g_X7_108 (pc := 81) X (hd := dX7_isWord_81) (hh := hM.1) (kk := ?_)
              refine v_iload (pc := 84) X (hd := dX7_isWord_84) (kk := ?_)
              refine v_iadd (pc := 86) X (hd := dX7_isWord_86) (kk := ?_)
              rw [nI_add]
              refine v_aload_n (pc := 87) X (hd := dX7_isWord_87) (kk := ?_)
              refine g_X7_105 (pc := 88) X (hd := dX7_isWord_88) (hh := hM.1) (kk := ?_)
              refine v_icmplt (pc := 91) X (tgt := 132) (hd := dX7_isWord_91) (kt := fun c91 => ?_) (kf := fun c91 => ?_)
              · refine v_iconst (pc := 132) X (v := nI 0) (hd := dX7_isWord_132) (kk := ?_)
                refine v_topi (fun y133 e133 => ?_)
                obtain rfl : y133 = bI (okB ki te s e (CFW c0 c1 c2 c3 c4) (0 + 1) = true) := e133.trans (bI_0 (fun q => (okB_s.mp q).2.elim (fun w => absurd ((nI_ltI (by omega) (by omega)).mp c91) (by have := w.2; omega)) (fun w => w.1 z77)))
                refine v_istore (pc := 133) X (hd := dX7_isWord_133) (kk := ?_)
                refine v_iincN (pc := 135) X (hd := dX7_isWord_135) (kk := ?_)
                refine v_goto (pc := 138) X (tgt := 20) (hd := dX7_isWord_138) (kk := ?_)
                exact v_sub [some (.ref m), some (.int c0), some (.int c1), some (.int c2), some (.int c3), some (.int c4), some (.int (bI (okB ki te s e (CFW c0 c1 c2 c3 c4) (0 + 1) = true))), some (.int (nI (0 + 1))), none] (by intro i v hv; match i, hv with | 0, hv => exact hv | 1, hv => exact hv | 2, hv => exact hv | 3, hv => exact hv | 4, hv => exact hv | 5, hv => exact hv | 6, hv => exact hv | 7, hv => exact hv | 8, hv => simp at hv) kk
              · refine v_goto (pc := 94) X (tgt := 128) (hd := dX7_isWord_94) (kk := ?_)
                refine v_iconst (pc := 128) X (v := nI 1) (hd := dX7_isWord_128) (kk := ?_)
                refine v_goto (pc := 129) X (tgt := 133) (hd := dX7_isWord_129) (kk := ?_)
                refine v_topi (fun y133 e133 => ?_)
                obtain rfl : y133 = bI (okB ki te s e (CFW c0 c1 c2 c3 c4) (0 + 1) = true) := e133.trans (bI_1 (okB_s.mpr ⟨c72, Or.inl ⟨z77, by rcases Nat.lt_or_ge (s + 0) e with v1 | v1; exact absurd (nI_lt v1 (by omega)) c91; exact v1⟩⟩))
                refine v_istore (pc := 133) X (hd := dX7_isWord_133) (kk := ?_)
                refine v_iincN (pc := 135) X (hd := dX7_isWord_135) (kk := ?_)
                refine v_goto (pc := 138) X (tgt := 20) (hd := dX7_isWord_138) (kk := ?_)
                exact v_sub [some (.ref m), some (.int c0), some (.int c1), some (.int c2), some (.int c3), some (.int c4), some (.int (bI (okB ki te s e (CFW c0 c1 c2 c3 c4) (0 + 1) = true))), some (.int (nI (0 + 1))), none] (by intro i v hv; match i, hv with | 0, hv => exact hv | 1, hv => exact hv | 2, hv => exact hv | 3, hv => exact hv | 4, hv => exact hv | 5, hv => exact hv | 6, hv => exact hv | 7, hv => exact hv | 8, hv => simp at hv) kk
    · skip
      refine v_iload (pc := 20) X (hd := dX7_isWord_20) (kk := ?_)
      refine v_iconst (pc := 22) X (v := nI 5) (hd := dX7_isWord_22) (kk := ?_)
      refine v_icmpge (pc := 23) X (tgt := 141) (hd := dX7_isWord_23) (kt := fun c23 => ?_) (kf := fun c23 => ?_)
      · refine v_iload (pc := 141) X (hd := dX7_isWord_141) (kk := ?_)
        refine v_ifeqB (pc := 143) X (tgt := 164) (hd := dX7_isWord_143) (kt := fun c143 => ?_) (kf := fun c143 => ?_)
        · refine v_iconst (pc := 164) X (v := nI 0) (hd := dX7_isWord_164) (kk := ?_)
          exact v_endb (pc := 165) X hr hlk (hd := dX7_isWord_165) (hf := bI_0 (fun q => c143 q.1))
        · refine v_aload_n (pc := 146) X (hd := dX7_isWord_146) (kk := ?_)
          refine g_X7_105 (pc := 147) X (hd := dX7_isWord_147) (hh := hM.1) (kk := ?_)
          refine v_aload_n (pc := 150) X (hd := dX7_isWord_150) (kk := ?_)
          refine g_X7_108 (pc := 151) X (hd := dX7_isWord_151) (hh := hM.1) (kk := ?_)
          refine v_isub (pc := 154) X (hd := dX7_isWord_154) (kk := ?_)
          rw [pk_sub hse]
          refine v_bipush (pc := 155) X (v := nI 6) (hd := dX7_isWord_155) (kk := ?_)
          refine v_icmpge (pc := 157) X (tgt := 164) (hd := dX7_isWord_157) (kt := fun c157 => ?_) (kf := fun c157 => ?_)
          · refine v_iconst (pc := 164) X (v := nI 0) (hd := dX7_isWord_164) (kk := ?_)
            exact v_endb (pc := 165) X hr hlk (hd := dX7_isWord_165) (hf := bI_0 (fun q => absurd c157 (nI_ge q.2 (by omega))))
          · refine v_iconst (pc := 160) X (v := nI 1) (hd := dX7_isWord_160) (kk := ?_)
            refine v_goto (pc := 161) X (tgt := 165) (hd := dX7_isWord_161) (kk := ?_)
            exact v_endb (pc := 165) X hr hlk (hd := dX7_isWord_165) (hf := bI_1 ⟨c143, by rcases Nat.lt_or_ge (e - s) 6 with v1 | v1; exact v1; exact absurd (nI_le v1 (by omega)) c157⟩)
      · exact absurd (Int32.le_refl _) c23
set_option maxRecDepth 100000 in
set_option maxHeartbeats 4000000 in
theorem c_X7_command (l : Launch) (E : pE) (m : Nat) (w pa he te re : Nat → Int32) (ps rn : Int32) (tn s e : Nat) (co : Int32) : pC l E yX7_command cX7_command 1 (some .int) { frames := 1, cells := 0, slots := 0, locals := 28 } 0 0 [.ref m] (fun h _ => MD m w pa he te re ps rn (nI tn) (nI e) (nI s) (kiV te tn s) co h ∧ s ≤ e ∧ e ≤ tn ∧ TX te tn) (pFp ((if cmdN te s e = 0 then -9 else nI (cmdN te s e - 1)))) := by
  refine pC_of (by decide) (by simp [Value.category]) (Nat.le_of_ble_eq_true rfl) ?_
  intro h z hp p__ e__ s__ m__ args__ below__ meth__ c__ X hr hlk hname
  obtain ⟨hM, hse, hen, hT⟩ := hp
  refine v_aload_n (pc := 0) X (hd := dX7_command_0) (kk := ?_)
  refine v_bipush (pc := 1) X (v := nI 104) (hd := dX7_command_1) (kk := ?_)
  refine v_bipush (pc := 3) X (v := nI 111) (hd := dX7_command_3) (kk := ?_)
  refine v_bipush (pc := 5) X (v := nI 117) (hd := dX7_command_5) (kk := ?_)
  refine v_bipush (pc := 7) X (v := nI 115) (hd := dX7_command_7) (kk := ?_)
  refine v_bipush (pc := 9) X (v := nI 101) (hd := dX7_command_9) (kk := ?_)
  refine v_callVp (pc := 11) X (hd := dX7_command_11) (w := wv_X7_117) (hC := c_X7_isWord l E m w pa he te re ps rn tn s e (kiV te tn s) co _ _ _ _ _) (hp := ⟨hM, hse, hen, hT.1⟩) (hb := hM.1) (kk := ?_)
  refine v_ifeqB (pc := 14) X (tgt := 21) (hd := dX7_command_14) (kt := fun c14 => ?_) (kf := fun c14 => ?_)
  · have w0 : ¬ wE te s e 0 := fun q => c14 ((ok_word hT hse hen (k := 0) (by decide) (by decide +kernel)).mpr q)
    refine v_aload_n (pc := 21) X (hd := dX7_command_21) (kk := ?_)
    refine v_bipush (pc := 22) X (v := nI 98) (hd := dX7_command_22) (kk := ?_)
    refine v_bipush (pc := 24) X (v := nI 97) (hd := dX7_command_24) (kk := ?_)
    refine v_bipush (pc := 26) X (v := nI 110) (hd := dX7_command_26) (kk := ?_)
    refine v_bipush (pc := 28) X (v := nI 107) (hd := dX7_command_28) (kk := ?_)
    refine v_iconst (pc := 30) X (v := nI 0) (hd := dX7_command_30) (kk := ?_)
    refine v_callVp (pc := 31) X (hd := dX7_command_31) (w := wv_X7_117) (hC := c_X7_isWord l E m w pa he te re ps rn tn s e (kiV te tn s) co _ _ _ _ _) (hp := ⟨hM, hse, hen, hT.1⟩) (hb := hM.1) (kk := ?_)
    refine v_ifeqB (pc := 34) X (tgt := 41) (hd := dX7_command_34) (kt := fun c34 => ?_) (kf := fun c34 => ?_)
    · have w1 : ¬ wE te s e 1 := fun q => c34 ((ok_word hT hse hen (k := 1) (by decide) (by decide +kernel)).mpr q)
      refine v_aload_n (pc := 41) X (hd := dX7_command_41) (kk := ?_)
      refine v_bipush (pc := 42) X (v := nI 114) (hd := dX7_command_42) (kk := ?_)
      refine v_bipush (pc := 44) X (v := nI 105) (hd := dX7_command_44) (kk := ?_)
      refine v_bipush (pc := 46) X (v := nI 103) (hd := dX7_command_46) (kk := ?_)
      refine v_bipush (pc := 48) X (v := nI 104) (hd := dX7_command_48) (kk := ?_)
      refine v_bipush (pc := 50) X (v := nI 116) (hd := dX7_command_50) (kk := ?_)
      refine v_callVp (pc := 52) X (hd := dX7_command_52) (w := wv_X7_117) (hC := c_X7_isWord l E m w pa he te re ps rn tn s e (kiV te tn s) co _ _ _ _ _) (hp := ⟨hM, hse, hen, hT.1⟩) (hb := hM.1) (kk := ?_)
      refine v_ifeqB (pc := 55) X (tgt := 62) (hd := dX7_command_55) (kt := fun c55 => ?_) (kf := fun c55 => ?_)
      · have w2 : ¬ wE te s e 2 := fun q => c55 ((ok_word hT hse hen (k := 2) (by decide) (by decide +kernel)).mpr q)
        refine v_aload_n (pc := 62) X (hd := dX7_command_62) (kk := ?_)
        refine v_bipush (pc := 63) X (v := nI 99) (hd := dX7_command_63) (kk := ?_)
        refine v_bipush (pc := 65) X (v := nI 117) (hd := dX7_command_65) (kk := ?_)
        refine v_bipush (pc := 67) X (v := nI 116) (hd := dX7_command_67) (kk := ?_)
        refine v_iconst (pc := 69) X (v := nI 0) (hd := dX7_command_69) (kk := ?_)
        refine v_iconst (pc := 70) X (v := nI 0) (hd := dX7_command_70) (kk := ?_)
        refine v_callVp (pc := 71) X (hd := dX7_command_71) (w := wv_X7_117) (hC := c_X7_isWord l E m w pa he te re ps rn tn s e (kiV te tn s) co _ _ _ _ _) (hp := ⟨hM, hse, hen, hT.1⟩) (hb := hM.1) (kk := ?_)
        refine v_ifeqB (pc := 74) X (tgt := 81) (hd := dX7_command_74) (kt := fun c74 => ?_) (kf := fun c74 => ?_)
        · have w3 : ¬ wE te s e 3 := fun q => c74 ((ok_word hT hse hen (k := 3) (by decide) (by decide +kernel)).mpr q)
          refine v_aload_n (pc := 81) X (hd := dX7_command_81) (kk := ?_)
          refine v_bipush (pc := 82) X (v := nI 116) (hd := dX7_command_82) (kk := ?_)
          refine v_bipush (pc := 84) X (v := nI 117) (hd := dX7_command_84) (kk := ?_)
          refine v_bipush (pc := 86) X (v := nI 114) (hd := dX7_command_86) (kk := ?_)
          refine v_bipush (pc := 88) X (v := nI 110) (hd := dX7_command_88) (kk := ?_)
          refine v_iconst (pc := 90) X (v := nI 0) (hd := dX7_command_90) (kk := ?_)
          refine v_callVp (pc := 91) X (hd := dX7_command_91) (w := wv_X7_117) (hC := c_X7_isWord l E m w pa he te re ps rn tn s e (kiV te tn s) co _ _ _ _ _) (hp := ⟨hM, hse, hen, hT.1⟩) (hb := hM.1) (kk := ?_)
          refine v_ifeqB (pc := 94) X (tgt := 101) (hd := dX7_command_94) (kt := fun c94 => ?_) (kf := fun c94 => ?_)
          · have w4 : ¬ wE te s e 4 := fun q => c94 ((ok_word hT hse hen (k := 4) (by decide) (by decide +kernel)).mpr q)
            refine v_aload_n (pc := 101) X (hd := dX7_command_101) (kk := ?_)
            refine v_bipush (pc := 102) X (v := nI 99) (hd := dX7_command_102) (kk := ?_)
            refine v_bipush (pc := 104) X (v := nI 97) (hd := dX7_command_104) (kk := ?_)
            refine v_bipush (pc := 106) X (v := nI 114) (hd := dX7_command_106) (kk := ?_)
            refine v_bipush (pc := 108) X (v := nI 116) (hd := dX7_command_108) (kk := ?_)
            refine v_iconst (pc := 110) X (v := nI 0) (hd := dX7_command_110) (kk := ?_)
            refine v_callVp (pc := 111) X (hd := dX7_command_111) (w := wv_X7_117) (hC := c_X7_isWord l E m w pa he te re ps rn tn s e (kiV te tn s) co _ _ _ _ _) (hp := ⟨hM, hse, hen, hT.1⟩) (hb := hM.1) (kk := ?_)
            refine v_ifeqB (pc := 114) X (tgt := 121) (hd := dX7_command_114) (kt := fun c114 => ?_) (kf := fun c114 => ?_)
            · have w5 : ¬ wE te s e 5 := fun q => c114 ((ok_word hT hse hen (k := 5) (by decide) (by decide +kernel)).mpr q)
              refine v_aload_n (pc := 121) X (hd := dX7_command_121) (kk := ?_)
              refine v_bipush (pc := 122) X (v := nI 100) (hd := dX7_command_122) (kk := ?_)
              refine v_bipush (pc := 124) X (v := nI 97) (hd := dX7_command_124) (kk := ?_)
              refine v_bipush (pc := 126) X (v := nI 121) (hd := dX7_command_126) (kk := ?_)
              refine v_iconst (pc := 128) X (v := nI 0) (hd := dX7_command_128) (kk := ?_)
              refine v_iconst (pc := 129) X (v := nI 0) (hd := dX7_command_129) (kk := ?_)
              refine v_callVp (pc := 130) X (hd := dX7_command_130) (w := wv_X7_117) (hC := c_X7_isWord l E m w pa he te re ps rn tn s e (kiV te tn s) co _ _ _ _ _) (hp := ⟨hM, hse, hen, hT.1⟩) (hb := hM.1) (kk := ?_)
              refine v_ifeqB (pc := 133) X (tgt := 141) (hd := dX7_command_133) (kt := fun c133 => ?_) (kf := fun c133 => ?_)
              · have w6 : ¬ wE te s e 6 := fun q => c133 ((ok_word hT hse hen (k := 6) (by decide) (by decide +kernel)).mpr q)
                refine v_bipush (pc := 141) X (v := (-9)) (hd := dX7_command_141) (kk := ?_)
                exact v_endp (pc := 143) X hr hlk (hd := dX7_command_143) (hf := by unfold cmdN; rw [if_neg w0, if_neg w1, if_neg w2, if_neg w3, if_neg w4, if_neg w5, if_neg w6]; rfl)
              · have w6 : wE te s e 6 := (ok_word hT hse hen (k := 6) (by decide) (by decide +kernel)).mp c133
                refine v_bipush (pc := 136) X (v := nI 6) (hd := dX7_command_136) (kk := ?_)
                refine v_goto (pc := 138) X (tgt := 143) (hd := dX7_command_138) (kk := ?_)
                exact v_endp (pc := 143) X hr hlk (hd := dX7_command_143) (hf := by unfold cmdN; rw [if_neg w0, if_neg w1, if_neg w2, if_neg w3, if_neg w4, if_neg w5, if_pos w6]; rfl)
            · have w5 : wE te s e 5 := (ok_word hT hse hen (k := 5) (by decide) (by decide +kernel)).mp c114
              refine v_iconst (pc := 117) X (v := nI 5) (hd := dX7_command_117) (kk := ?_)
              refine v_goto (pc := 118) X (tgt := 143) (hd := dX7_command_118) (kk := ?_)
              exact v_endp (pc := 143) X hr hlk (hd := dX7_command_143) (hf := by unfold cmdN; rw [if_neg w0, if_neg w1, if_neg w2, if_neg w3, if_neg w4, if_pos w5]; rfl)
          · have w4 : wE te s e 4 := (ok_word hT hse hen (k := 4) (by decide) (by decide +kernel)).mp c94
            refine v_iconst (pc := 97) X (v := nI 4) (hd := dX7_command_97) (kk := ?_)
            refine v_goto (pc := 98) X (tgt := 143) (hd := dX7_command_98) (kk := ?_)
            exact v_endp (pc := 143) X hr hlk (hd := dX7_command_143) (hf := by unfold cmdN; rw [if_neg w0, if_neg w1, if_neg w2, if_neg w3, if_pos w4]; rfl)
        · have w3 : wE te s e 3 := (ok_word hT hse hen (k := 3) (by decide) (by decide +kernel)).mp c74
          refine v_iconst (pc := 77) X (v := nI 3) (hd := dX7_command_77) (kk := ?_)
          refine v_goto (pc := 78) X (tgt := 143) (hd := dX7_command_78) (kk := ?_)
          exact v_endp (pc := 143) X hr hlk (hd := dX7_command_143) (hf := by unfold cmdN; rw [if_neg w0, if_neg w1, if_neg w2, if_pos w3]; rfl)
      · have w2 : wE te s e 2 := (ok_word hT hse hen (k := 2) (by decide) (by decide +kernel)).mp c55
        refine v_iconst (pc := 58) X (v := nI 2) (hd := dX7_command_58) (kk := ?_)
        refine v_goto (pc := 59) X (tgt := 143) (hd := dX7_command_59) (kk := ?_)
        exact v_endp (pc := 143) X hr hlk (hd := dX7_command_143) (hf := by unfold cmdN; rw [if_neg w0, if_neg w1, if_pos w2]; rfl)
    · have w1 : wE te s e 1 := (ok_word hT hse hen (k := 1) (by decide) (by decide +kernel)).mp c34
      refine v_iconst (pc := 37) X (v := nI 1) (hd := dX7_command_37) (kk := ?_)
      refine v_goto (pc := 38) X (tgt := 143) (hd := dX7_command_38) (kk := ?_)
      exact v_endp (pc := 143) X hr hlk (hd := dX7_command_143) (hf := by unfold cmdN; rw [if_neg w0, if_pos w1]; rfl)
  · have w0 : wE te s e 0 := (ok_word hT hse hen (k := 0) (by decide) (by decide +kernel)).mp c14
    refine v_iconst (pc := 17) X (v := nI 0) (hd := dX7_command_17) (kk := ?_)
    refine v_goto (pc := 18) X (tgt := 143) (hd := dX7_command_18) (kk := ?_)
    exact v_endp (pc := 143) X hr hlk (hd := dX7_command_143) (hf := by unfold cmdN; rw [if_pos w0]; rfl)
theorem upd_upd {f : Nat → Int32} {k : Nat} {x y : Int32} : upd (upd f k x) k y = upd f k y := by
  funext q
  unfold upd
  by_cases e : q = k
  · rw [if_pos e, if_pos e]
  · rw [if_neg e, if_neg e, if_neg e]
set_option maxRecDepth 100000 in
set_option maxHeartbeats 4000000 in
theorem c_X7_isNumber (l : Launch) (E : pE) (m : Nat) (w pa he te re : Nat → Int32) (ps rn : Int32) (tn a i0 : Nat) (st ki co : Int32) : pC l E yX7_isNumber cX7_isNumber 4 (some .boolean) { frames := 3, cells := 0, slots := 0, locals := 63 } 0 0 [.ref m, .int (nI i0)] (fun h _ => MD m w pa he te re ps rn (nI tn) (nI a) st ki co h ∧ TX te tn ∧ a ≤ tn ∧ i0 < 3) (pFi (fun h r h' => r = bI (nOk te (tokS te tn a) (tokE te tn a)) ∧ MD m w pa he te (if nOk te (tokS te tn a) (tokE te tn a) then upd re i0 (vlE te (tokS te tn a) ((tokE te tn a) - (tokS te tn a))) else re) ps rn (nI tn) (nI (tokE te tn a)) (nI (tokS te tn a)) (kiV te tn (tokS te tn a)) co h' ∧ pO m (m + 6) h h')) := by
  refine pC_of (by decide) (by simp [Value.category]) (Nat.le_of_ble_eq_true rfl) ?_
  intro h z hp p__ e__ s__ m__ args__ below__ meth__ c__ X hr hlk hname
  obtain ⟨hM, hT, ha, hi0⟩ := hp
  have h140 := hT.1
  have hB := tokE_b (te := te) ha
  refine v_aload_n (pc := 0) X (hd := dX7_isNumber_0) (kk := ?_)
  refine v_callVv (pc := 1) X (hd := dX7_isNumber_1) (w := wv_X7_121) (hC := c_X7_token l E m w pa he te re ps rn tn a st ki co) (hp := ⟨hM, hT, ha⟩) (hb := hM.1) (kk := fun h1 q1 => ?_)
  obtain ⟨hM1, hO1⟩ := q1
  obtain ⟨N0, N1, N2, N3, N4, N5⟩ := hM1
  refine v_aload_n (pc := 4) X (hd := dX7_isNumber_4) (kk := ?_)
  refine g_X7_105 (pc := 5) X (hd := dX7_isNumber_5) (hh := N0) (kk := ?_)
  refine v_aload_n (pc := 8) X (hd := dX7_isNumber_8) (kk := ?_)
  refine g_X7_108 (pc := 9) X (hd := dX7_isNumber_9) (hh := N0) (kk := ?_)
  refine v_isub (pc := 12) X (hd := dX7_isNumber_12) (kk := ?_)
  rw [pk_sub hB.1]
  refine v_istore_n (pc := 13) X (hd := dX7_isNumber_13) (kk := ?_)
  refine v_aload_n (pc := 14) X (hd := dX7_isNumber_14) (kk := ?_)
  refine g_X7_114 (pc := 15) X (hd := dX7_isNumber_15) (hh := N0) (kk := ?_)
  refine v_sipush (pc := 18) X (v := nI 1001) (hd := dX7_isNumber_18) (kk := ?_)
  refine v_icmpne (pc := 21) X (tgt := 48) (hd := dX7_isNumber_21) (kt := fun c21 => ?_) (kf := fun c21 => ?_)
  · refine v_iconst (pc := 48) X (v := nI 0) (hd := dX7_isNumber_48) (kk := ?_)
    exact v_endbi (pc := 49) X hr hlk (hd := dX7_isNumber_49) (hn := by decide +kernel) (hf := ⟨bI_0 (fun q => c21 (by unfold kiV; rw [if_pos (by have := hB.2; have := q.1.1; omega)]; exact (kR_1001 (hT.2 _ (by have := hB.2; have := q.1.1; omega))).mpr q.2.1)), by rw [if_neg (fun q => c21 (by unfold kiV; rw [if_pos (by have := hB.2; have := q.1.1; omega)]; exact (kR_1001 (hT.2 _ (by have := hB.2; have := q.1.1; omega))).mpr q.2.1))]; exact ⟨N0, N1, N2, N3, N4, N5⟩, fun q hq => hO1 q (by omega)⟩)
  · have k2 : (tokS te tn a) < tn ∧ kd (te (tokS te tn a)) = 2 := by
      have q := Classical.not_not.mp c21
      unfold kiV at q
      by_cases hs : (tokS te tn a) < tn
      · rw [if_pos hs] at q; exact ⟨hs, (kR_1001 (hT.2 _ hs)).mp q⟩
      · rw [if_neg hs] at q; exact absurd q (by decide +kernel)
    have hlt := hB.2.2 k2.1
    refine v_iload_n (pc := 24) X (hd := dX7_isNumber_24) (kk := ?_)
    refine v_iconst (pc := 25) X (v := nI 4) (hd := dX7_isNumber_25) (kk := ?_)
    refine v_icmpgt (pc := 26) X (tgt := 48) (hd := dX7_isNumber_26) (kt := fun c26 => ?_) (kf := fun c26 => ?_)
    · refine v_iconst (pc := 48) X (v := nI 0) (hd := dX7_isNumber_48) (kk := ?_)
      exact v_endbi (pc := 49) X hr hlk (hd := dX7_isNumber_49) (hn := by decide +kernel) (hf := ⟨bI_0 (fun q => absurd (nI_le q.1.2 (by omega)) (by rw [n_le]; rw [n_lt] at c26; omega)), by rw [if_neg (fun q => absurd (nI_le q.1.2 (by omega)) (by rw [n_le]; rw [n_lt] at c26; omega))]; exact ⟨N0, N1, N2, N3, N4, N5⟩, fun q hq => hO1 q (by omega)⟩)
    · have l4 : (tokE te tn a) - (tokS te tn a) ≤ 4 := by
        rcases Nat.lt_or_ge 4 ((tokE te tn a) - (tokS te tn a)) with q | q
        · exact absurd (nI_lt q (by omega)) c26
        · exact q
      refine v_iload_n (pc := 29) X (hd := dX7_isNumber_29) (kk := ?_)
      refine v_iconst (pc := 30) X (v := nI 1) (hd := dX7_isNumber_30) (kk := ?_)
      refine v_icmple (pc := 31) X (tgt := 50) (hd := dX7_isNumber_31) (kt := fun c31 => ?_) (kf := fun c31 => ?_)
      · have d1 : (tokE te tn a) - (tokS te tn a) = 1 := by
          have := (nI_leI (by omega) (by omega)).mp c31
          omega
        refine v_aload_n (pc := 50) X (hd := dX7_isNumber_50) (kk := ?_)
        refine g_X7_22 (pc := 51) X (hd := dX7_isNumber_51) (hh := N0) (kk := ?_)
        refine v_iload_n (pc := 54) X (hd := dX7_isNumber_54) (kk := ?_)
        refine v_iconst (pc := 55) X (v := nI 0) (hd := dX7_isNumber_55) (kk := ?_)
        refine v_iastN (pc := 56) X (j := i0) (hd := dX7_isNumber_56) (hh := N5) (hi := by first | rfl | (simp only [pk_mul, nI_add]; done)) (hj := by omega) (kk := ?_)
        refine v_aload_n (pc := 57) X (hd := dX7_isNumber_57) (kk := ?_)
        refine g_X7_108 (pc := 58) X (hd := dX7_isNumber_58) (hh := (pset_n (by omega)).trans N0) (kk := ?_)
        refine v_istore_n (pc := 61) X (hd := dX7_isNumber_61) (kk := ?_)
        refine v_for (pc := 62) (M := ((tokE te tn a) - (tokS te tn a))) (Lf := fun i => [some (.ref m), some (.int (nI i0)), some (.int (nI ((tokE te tn a) - (tokS te tn a)))), some (.int (nI ((tokS te tn a) + i)))]) (I := fun i h2 => h2 = pset h1 (m + 5) (ai 1 3 (upd re i0 (vlE te (tokS te tn a) i)))) (h0 := rfl) (hL := by rfl) (step := ?_) (out := ?_)
        · intro i h2 hi hI kk
          subst hI
          refine v_iload_n (pc := 62) X (hd := dX7_isNumber_62) (kk := ?_)
          refine v_aload_n (pc := 63) X (hd := dX7_isNumber_63) (kk := ?_)
          refine g_X7_105 (pc := 64) X (hd := dX7_isNumber_64) (hh := (pset_n (by omega)).trans N0) (kk := ?_)
          refine v_icmpge (pc := 67) X (tgt := 101) (hd := dX7_isNumber_67) (kt := fun c67 => ?_) (kf := fun c67 => ?_)
          · exact absurd c67 (nI_ge (by omega) (by omega))
          · refine v_aload_n (pc := 70) X (hd := dX7_isNumber_70) (kk := ?_)
            refine g_X7_22 (pc := 71) X (hd := dX7_isNumber_71) (hh := (pset_n (by omega)).trans N0) (kk := ?_)
            refine v_iload_n (pc := 74) X (hd := dX7_isNumber_74) (kk := ?_)
            refine v_bipush (pc := 75) X (v := nI 10) (hd := dX7_isNumber_75) (kk := ?_)
            refine v_aload_n (pc := 77) X (hd := dX7_isNumber_77) (kk := ?_)
            refine g_X7_22 (pc := 78) X (hd := dX7_isNumber_78) (hh := (pset_n (by omega)).trans N0) (kk := ?_)
            refine v_iload_n (pc := 81) X (hd := dX7_isNumber_81) (kk := ?_)
            refine v_ialdN (pc := 82) X (j := i0) (hd := dX7_isNumber_82) (hh := pset_s _ _ _) (hi := by first | rfl | (simp only [pk_mul, nI_add]; done)) (hj := by omega) (kk := ?_)
            rw [pk_us]
            refine v_imul (pc := 83) X (hd := dX7_isNumber_83) (kk := ?_)
            refine v_aload_n (pc := 84) X (hd := dX7_isNumber_84) (kk := ?_)
            refine g_X7_19 (pc := 85) X (hd := dX7_isNumber_85) (hh := (pset_n (by omega)).trans N0) (kk := ?_)
            refine v_iload_n (pc := 88) X (hd := dX7_isNumber_88) (kk := ?_)
            refine v_ialdN (pc := 89) X (j := ((tokS te tn a) + i)) (hd := dX7_isNumber_89) (hh := (pset_n (by omega)).trans N4) (hi := by first | rfl | (simp only [pk_mul, nI_add]; done)) (hj := by omega) (kk := ?_)
            refine v_iadd (pc := 90) X (hd := dX7_isNumber_90) (kk := ?_)
            refine v_bipush (pc := 91) X (v := nI 48) (hd := dX7_isNumber_91) (kk := ?_)
            refine v_isub (pc := 93) X (hd := dX7_isNumber_93) (kk := ?_)
            refine v_iastN (pc := 94) X (j := i0) (hd := dX7_isNumber_94) (hh := pset_s _ _ _) (hi := by first | rfl | (simp only [pk_mul, nI_add]; done)) (hj := by omega) (kk := ?_)
            rw [pset_pset]
            refine v_iincN (pc := 95) X (hd := dX7_isNumber_95) (kk := ?_)
            refine v_goto (pc := 98) X (tgt := 62) (hd := dX7_isNumber_98) (kk := ?_)
            refine kk _ ?_
            rw [show vlE te (tokS te tn a) (i + 1) = vlE te (tokS te tn a) i * nI 10 + (te ((tokS te tn a) + i) - nI 48) from rfl, ← i_lin, upd_upd]
        · intro h2 hI
          subst hI
          refine v_iload_n (pc := 62) X (hd := dX7_isNumber_62) (kk := ?_)
          refine v_aload_n (pc := 63) X (hd := dX7_isNumber_63) (kk := ?_)
          refine g_X7_105 (pc := 64) X (hd := dX7_isNumber_64) (hh := (pset_n (by omega)).trans N0) (kk := ?_)
          refine v_icmpge (pc := 67) X (tgt := 101) (hd := dX7_isNumber_67) (kt := fun c67 => ?_) (kf := fun c67 => ?_)
          · refine v_iconst (pc := 101) X (v := nI 1) (hd := dX7_isNumber_101) (kk := ?_)
            exact v_endbi (pc := 102) X hr hlk (hd := dX7_isNumber_102) (hn := by decide +kernel) (hf := ⟨bI_1 ⟨⟨by omega, l4⟩, k2.2, Or.inl d1⟩, by rw [if_pos (show nOk te (tokS te tn a) (tokE te tn a) from ⟨⟨by omega, l4⟩, k2.2, Or.inl d1⟩)]; exact MD.sre ⟨N0, N1, N2, N3, N4, N5⟩ _, fun q hq => (pset_n (by omega)).trans (hO1 q (by omega))⟩)
          · exact absurd (nI_le (by omega) (by omega)) c67
      · refine v_aload_n (pc := 34) X (hd := dX7_isNumber_34) (kk := ?_)
        refine g_X7_19 (pc := 35) X (hd := dX7_isNumber_35) (hh := N0) (kk := ?_)
        refine v_aload_n (pc := 38) X (hd := dX7_isNumber_38) (kk := ?_)
        refine g_X7_108 (pc := 39) X (hd := dX7_isNumber_39) (hh := N0) (kk := ?_)
        refine v_ialdN (pc := 42) X (j := (tokS te tn a)) (hd := dX7_isNumber_42) (hh := N4) (hi := by first | rfl | (simp only [pk_mul, nI_add]; done)) (hj := by omega) (kk := ?_)
        refine v_bipush (pc := 43) X (v := nI 48) (hd := dX7_isNumber_43) (kk := ?_)
        refine v_icmpne (pc := 45) X (tgt := 50) (hd := dX7_isNumber_45) (kt := fun c45 => ?_) (kf := fun c45 => ?_)
        · refine v_aload_n (pc := 50) X (hd := dX7_isNumber_50) (kk := ?_)
          refine g_X7_22 (pc := 51) X (hd := dX7_isNumber_51) (hh := N0) (kk := ?_)
          refine v_iload_n (pc := 54) X (hd := dX7_isNumber_54) (kk := ?_)
          refine v_iconst (pc := 55) X (v := nI 0) (hd := dX7_isNumber_55) (kk := ?_)
          refine v_iastN (pc := 56) X (j := i0) (hd := dX7_isNumber_56) (hh := N5) (hi := by first | rfl | (simp only [pk_mul, nI_add]; done)) (hj := by omega) (kk := ?_)
          refine v_aload_n (pc := 57) X (hd := dX7_isNumber_57) (kk := ?_)
          refine g_X7_108 (pc := 58) X (hd := dX7_isNumber_58) (hh := (pset_n (by omega)).trans N0) (kk := ?_)
          refine v_istore_n (pc := 61) X (hd := dX7_isNumber_61) (kk := ?_)
          refine v_for (pc := 62) (M := ((tokE te tn a) - (tokS te tn a))) (Lf := fun i => [some (.ref m), some (.int (nI i0)), some (.int (nI ((tokE te tn a) - (tokS te tn a)))), some (.int (nI ((tokS te tn a) + i)))]) (I := fun i h2 => h2 = pset h1 (m + 5) (ai 1 3 (upd re i0 (vlE te (tokS te tn a) i)))) (h0 := rfl) (hL := by rfl) (step := ?_) (out := ?_)
          · intro i h2 hi hI kk
            subst hI
            refine v_iload_n (pc := 62) X (hd := dX7_isNumber_62) (kk := ?_)
            refine v_aload_n (pc := 63) X (hd := dX7_isNumber_63) (kk := ?_)
            refine g_X7_105 (pc := 64) X (hd := dX7_isNumber_64) (hh := (pset_n (by omega)).trans N0) (kk := ?_)
            refine v_icmpge (pc := 67) X (tgt := 101) (hd := dX7_isNumber_67) (kt := fun c67 => ?_) (kf := fun c67 => ?_)
            · exact absurd c67 (nI_ge (by omega) (by omega))
            · refine v_aload_n (pc := 70) X (hd := dX7_isNumber_70) (kk := ?_)
              refine g_X7_22 (pc := 71) X (hd := dX7_isNumber_71) (hh := (pset_n (by omega)).trans N0) (kk := ?_)
              refine v_iload_n (pc := 74) X (hd := dX7_isNumber_74) (kk := ?_)
              refine v_bipush (pc := 75) X (v := nI 10) (hd := dX7_isNumber_75) (kk := ?_)
              refine v_aload_n (pc := 77) X (hd := dX7_isNumber_77) (kk := ?_)
              refine g_X7_22 (pc := 78) X (hd := dX7_isNumber_78) (hh := (pset_n (by omega)).trans N0) (kk := ?_)
              refine v_iload_n (pc := 81) X (hd := dX7_isNumber_81) (kk := ?_)
              refine v_ialdN (pc := 82) X (j := i0) (hd := dX7_isNumber_82) (hh := pset_s _ _ _) (hi := by first | rfl | (simp only [pk_mul, nI_add]; done)) (hj := by omega) (kk := ?_)
              rw [pk_us]
              refine v_imul (pc := 83) X (hd := dX7_isNumber_83) (kk := ?_)
              refine v_aload_n (pc := 84) X (hd := dX7_isNumber_84) (kk := ?_)
              refine g_X7_19 (pc := 85) X (hd := dX7_isNumber_85) (hh := (pset_n (by omega)).trans N0) (kk := ?_)
              refine v_iload_n (pc := 88) X (hd := dX7_isNumber_88) (kk := ?_)
              refine v_ialdN (pc := 89) X (j := ((tokS te tn a) + i)) (hd := dX7_isNumber_89) (hh := (pset_n (by omega)).trans N4) (hi := by first | rfl | (simp only [pk_mul, nI_add]; done)) (hj := by omega) (kk := ?_)
              refine v_iadd (pc := 90) X (hd := dX7_isNumber_90) (kk := ?_)
              refine v_bipush (pc := 91) X (v := nI 48) (hd := dX7_isNumber_91) (kk := ?_)
              refine v_isub (pc := 93) X (hd := dX7_isNumber_93) (kk := ?_)
              refine v_iastN (pc := 94) X (j := i0) (hd := dX7_isNumber_94) (hh := pset_s _ _ _) (hi := by first | rfl | (simp only [pk_mul, nI_add]; done)) (hj := by omega) (kk := ?_)
              rw [pset_pset]
              refine v_iincN (pc := 95) X (hd := dX7_isNumber_95) (kk := ?_)
              refine v_goto (pc := 98) X (tgt := 62) (hd := dX7_isNumber_98) (kk := ?_)
              refine kk _ ?_
              rw [show vlE te (tokS te tn a) (i + 1) = vlE te (tokS te tn a) i * nI 10 + (te ((tokS te tn a) + i) - nI 48) from rfl, ← i_lin, upd_upd]
          · intro h2 hI
            subst hI
            refine v_iload_n (pc := 62) X (hd := dX7_isNumber_62) (kk := ?_)
            refine v_aload_n (pc := 63) X (hd := dX7_isNumber_63) (kk := ?_)
            refine g_X7_105 (pc := 64) X (hd := dX7_isNumber_64) (hh := (pset_n (by omega)).trans N0) (kk := ?_)
            refine v_icmpge (pc := 67) X (tgt := 101) (hd := dX7_isNumber_67) (kt := fun c67 => ?_) (kf := fun c67 => ?_)
            · refine v_iconst (pc := 101) X (v := nI 1) (hd := dX7_isNumber_101) (kk := ?_)
              exact v_endbi (pc := 102) X hr hlk (hd := dX7_isNumber_102) (hn := by decide +kernel) (hf := ⟨bI_1 ⟨⟨by omega, l4⟩, k2.2, Or.inr c45⟩, by rw [if_pos (show nOk te (tokS te tn a) (tokE te tn a) from ⟨⟨by omega, l4⟩, k2.2, Or.inr c45⟩)]; exact MD.sre ⟨N0, N1, N2, N3, N4, N5⟩ _, fun q hq => (pset_n (by omega)).trans (hO1 q (by omega))⟩)
            · exact absurd (nI_le (by omega) (by omega)) c67
        · refine v_iconst (pc := 48) X (v := nI 0) (hd := dX7_isNumber_48) (kk := ?_)
          exact v_endbi (pc := 49) X hr hlk (hd := dX7_isNumber_49) (hn := by decide +kernel) (hf := ⟨bI_0 (fun q => q.2.2.elim (fun w => c31 (by rw [w]; exact Int32.le_refl _)) (fun w => w (Classical.not_not.mp c45))), by rw [if_neg (fun q => q.2.2.elim (fun w => c31 (by rw [w]; exact Int32.le_refl _)) (fun w => w (Classical.not_not.mp c45)))]; exact ⟨N0, N1, N2, N3, N4, N5⟩, fun q hq => hO1 q (by omega)⟩)
