/-! shares as numbers: their sum is the allowance -/
def hcN (v : Nat → Int32) (b : Nat) : Nat → Nat
  | 0 => 0
  | k + 1 => hcN v b k + (if hR v k b then 1 else 0)
def spN (v : Nat → Int32) (b : Nat) : Nat → Nat
  | 0 => 0
  | k + 1 => spN v b k + (if hR v k b then nx (v (6 + 3 * k + 0)) else 0)
def flN (v : Nat → Int32) (b Al S : Nat) : Nat → Nat
  | 0 => 0
  | k + 1 => flN v b Al S k + (if hR v k b then Al * nx (v (6 + 3 * k + 0)) / S else 0)
def rmN (v : Nat → Int32) (b Al S : Nat) : Nat → Nat
  | 0 => 0
  | k + 1 => rmN v b Al S k + (if hR v k b then Al * nx (v (6 + 3 * k + 0)) % S else 0)
def sSh (v : Nat → Int32) (nh b : Nat) : Nat → Int32
  | 0 => nI 0
  | k + 1 => sSh v nh b k + fShare v nh k b
section SHN
variable {v : Nat → Int32} {nh nb ns b : Nat}
theorem hcN_s {k : Nat} (h : hR v k b) : hcN v b (k + 1) = hcN v b k + 1 := by show hcN v b k + _ = _; rw [if_pos h]
theorem hcN_n {k : Nat} (h : ¬ hR v k b) : hcN v b (k + 1) = hcN v b k := by show hcN v b k + _ = _; rw [if_neg h]; rfl
theorem sh_sp (I : Iv v nh nb ns) : ∀ n, n ≤ nh → fSp v b n = nI (spN v b n) ∧ spN v b n ≤ 9 * n ∧ hcN v b n ≤ spN v b n ∧ (hcN v b n = 0 → spN v b n = 0) := by
  intro n
  induction n with
  | zero => intro _; exact ⟨rfl, Nat.le_refl _, Nat.le_refl _, fun _ => rfl⟩
  | succ n ih =>
    intro hn
    obtain ⟨h1, h2, h3, h4⟩ := ih (by omega)
    obtain ⟨j, g1, g2, g3⟩ := I.2.2.1 n (by omega)
    have g4 : nx (v (6 + 3 * n + 0)) = j := by rw [g3]; exact nx_nI (by omega)
    by_cases hr : hR v n b
    · have e1 : spN v b (n + 1) = spN v b n + j := by show spN v b n + _ = _; rw [if_pos hr, g4]
      rw [e1, hcN_s hr]
      refine ⟨?_, by omega, by omega, by omega⟩
      show fSp v b n + _ = _
      rw [if_pos hr, h1, g3, nI_add]
    · have e1 : spN v b (n + 1) = spN v b n := by show spN v b n + _ = _; rw [if_neg hr]; rfl
      rw [e1, hcN_n hr]
      refine ⟨?_, by omega, h3, h4⟩
      show fSp v b n + _ = _
      rw [if_neg hr, h1]
      exact add_n0 _
theorem sh_rm (Al S : Nat) : ∀ n, S * flN v b Al S n + rmN v b Al S n = Al * spN v b n := by
  intro n
  induction n with
  | zero => rfl
  | succ n ih =>
    by_cases hr : hR v n b
    · have e1 : spN v b (n + 1) = spN v b n + nx (v (6 + 3 * n + 0)) := by show spN v b n + _ = _; rw [if_pos hr]
      have e2 : flN v b Al S (n + 1) = flN v b Al S n + Al * nx (v (6 + 3 * n + 0)) / S := by show flN v b Al S n + _ = _; rw [if_pos hr]
      have e3 : rmN v b Al S (n + 1) = rmN v b Al S n + Al * nx (v (6 + 3 * n + 0)) % S := by show rmN v b Al S n + _ = _; rw [if_pos hr]
      have e4 := Nat.div_add_mod (Al * nx (v (6 + 3 * n + 0))) S
      rw [e1, e2, e3, Nat.mul_add, Nat.mul_add]
      omega
    · have e1 : spN v b (n + 1) = spN v b n := by show spN v b n + _ = _; rw [if_neg hr]; rfl
      have e2 : flN v b Al S (n + 1) = flN v b Al S n := by show flN v b Al S n + _ = _; rw [if_neg hr]; rfl
      have e3 : rmN v b Al S (n + 1) = rmN v b Al S n := by show rmN v b Al S n + _ = _; rw [if_neg hr]; rfl
      rw [e1, e2, e3]
      exact ih
theorem sh_rb (Al : Nat) {S : Nat} (hS : 0 < S) : ∀ n, rmN v b Al S n + hcN v b n ≤ S * hcN v b n := by
  intro n
  induction n with
  | zero => exact Nat.le_refl _
  | succ n ih =>
    by_cases hr : hR v n b
    · have e3 : rmN v b Al S (n + 1) = rmN v b Al S n + Al * nx (v (6 + 3 * n + 0)) % S := by show rmN v b Al S n + _ = _; rw [if_pos hr]
      have e4 := Nat.mod_lt (Al * nx (v (6 + 3 * n + 0))) hS
      rw [e3, hcN_s hr, Nat.mul_add]
      omega
    · have e3 : rmN v b Al S (n + 1) = rmN v b Al S n := by show rmN v b Al S n + _ = _; rw [if_neg hr]; rfl
      rw [e3, hcN_n hr]
      exact ih
theorem flN_mono (Al S : Nat) : ∀ d n, flN v b Al S n ≤ flN v b Al S (n + d) := by
  intro d
  induction d with
  | zero => intro n; exact Nat.le_refl _
  | succ d ih => intro n; exact Nat.le_trans (ih n) (Nat.le_add_right _ _)
theorem sh_le (Al : Nat) {S : Nat} (hS : 0 < S) {n : Nat} (hn : spN v b n = S) : flN v b Al S n ≤ Al ∧ Al - flN v b Al S n < hcN v b n + 1 ∧ (0 < hcN v b n → Al - flN v b Al S n < hcN v b n) := by
  have h1 := sh_rm (v := v) (b := b) Al S n
  have h2 := sh_rb (v := v) (b := b) Al hS n
  rw [hn] at h1
  generalize flN v b Al S n = F at *
  generalize rmN v b Al S n = r at *
  generalize hcN v b n = c at *
  have h3 : F ≤ Al := Nat.le_of_mul_le_mul_left (by rw [Nat.mul_comm S Al]; omega) hS
  obtain ⟨o, rfl⟩ : ∃ o, Al = F + o := ⟨Al - F, by omega⟩
  have h4 : r = S * o := by
    rw [Nat.mul_comm (F + o) S, Nat.mul_add] at h1
    omega
  have h5 : 0 < c → o < c := fun hc => by
    rcases Nat.lt_or_ge o c with q | q
    · exact q
    · have := Nat.mul_le_mul_left S q
      omega
  refine ⟨h3, ?_, fun hc => by rw [Nat.add_sub_cancel_left]; exact h5 hc⟩
  rw [Nat.add_sub_cancel_left]
  rcases Nat.eq_zero_or_pos c with q | q
  · subst q
    rcases Nat.eq_zero_or_pos o with q2 | q2
    · omega
    · have := Nat.mul_pos hS q2
      omega
  · have := h5 q
    omega
theorem sh_left (I : Iv v nh nb ns) {Al S : Nat} (hA : v (24 + 7 * b + 0) = nI Al) (hA2 : Al ≤ 5000) (hS : 0 < S) (hS2 : S < 2 ^ 31) (hF : flN v b Al S nh ≤ Al) : ∀ n, n ≤ nh → fLeft v b (nI S) n = nI (Al - flN v b Al S n) := by
  intro n
  induction n with
  | zero => intro _; exact hA
  | succ n ih =>
    intro hn
    have h1 := ih (by omega)
    have h2 := flN_mono (v := v) (b := b) Al S (nh - (n + 1)) (n + 1)
    rw [show n + 1 + (nh - (n + 1)) = nh by omega] at h2
    obtain ⟨j, g1, g2, g3⟩ := I.2.2.1 n (by omega)
    have g4 : nx (v (6 + 3 * n + 0)) = j := by rw [g3]; exact nx_nI (by omega)
    show fLeft v b (nI S) n - _ = _
    by_cases hr : hR v n b
    · have e2 : flN v b Al S (n + 1) = flN v b Al S n + Al * j / S := by show flN v b Al S n + _ = _; rw [if_pos hr, g4]
      have h3 : Al * j < 2 ^ 31 := Nat.lt_of_le_of_lt (Nat.mul_le_mul hA2 g2) (by decide)
      rw [if_pos hr, h1, hA, g3, pk_mul, pk_div h3 hS hS2, pk_sub (by omega), e2]
      exact congrArg nI (by omega)
    · have e2 : flN v b Al S (n + 1) = flN v b Al S n := by show flN v b Al S n + _ = _; rw [if_neg hr]; rfl
      rw [if_neg hr, h1, e2]
      exact sub_n0 _
theorem sh_ahead (hh : Nat) : ∀ n, fAhead v b hh n = nI (hcN v b (if n ≤ hh then n else hh)) := by
  intro n
  induction n with
  | zero => rw [if_pos (by omega)]; rfl
  | succ n ih =>
    show fAhead v b hh n + _ = _
    rw [ih]
    by_cases e : n < hh
    · rw [if_pos (show n ≤ hh by omega), if_pos (show n + 1 ≤ hh by omega)]
      by_cases hr : hR v n b
      · rw [if_pos ⟨e, hr⟩, hcN_s hr, nI_add]
      · rw [if_neg (fun q => hr q.2), hcN_n hr]
        exact add_n0 _
    · rw [if_neg (show ¬ (n < hh ∧ hR v n b) from fun q => e q.1), if_neg (show ¬ n + 1 ≤ hh by omega)]
      by_cases e2 : n = hh
      · rw [if_pos (show n ≤ hh by omega), e2]
        exact add_n0 _
      · rw [if_neg (show ¬ n ≤ hh by omega)]
        exact add_n0 _
/-- all of a bank's shares, in numbers -/
theorem sh_all (I : Iv v nh nb ns) (hb : b < nb) : ∃ Al S, v (24 + 7 * b + 0) = nI Al ∧ Al ≤ 5000 ∧ S ≤ 54 ∧ fSp v b nh = nI S ∧ spN v b nh = S ∧ (∀ k, k < nh → hR v k b → 0 < S ∧ flN v b Al S nh ≤ Al ∧ Al - flN v b Al S nh < hcN v b nh ∧ (∀ n, n ≤ nh → fLeft v b (fSp v b nh) n = nI (Al - flN v b Al S n))) := by
  obtain ⟨Al, a1, a2, a3⟩ := (I.2.2.2.2.1 b hb).1
  obtain ⟨h1, h2, h3, h4⟩ := sh_sp (b := b) I nh (Nat.le_refl _)
  have h6 := I.1.1
  refine ⟨Al, spN v b nh, a3, a2, by omega, h1, rfl, fun k hk hr => ?_⟩
  have hc : 0 < hcN v b nh := by
    have : ∀ n, k < n → 0 < hcN v b n := by
      intro n
      induction n with
      | zero => intro q; omega
      | succ n ih =>
        intro q
        by_cases e : k = n
        · rw [← e, hcN_s hr]; omega
        · have := ih (by omega)
          show 0 < hcN v b n + _
          omega
    exact this nh hk
  have hS : 0 < spN v b nh := by omega
  obtain ⟨q1, q2, q3⟩ := sh_le (v := v) (b := b) Al hS (n := nh) rfl
  refine ⟨hS, q1, q3 hc, fun n hn => ?_⟩
  rw [h1]
  exact sh_left I a3 a2 hS (by omega) q1 n hn
theorem sh_one (I : Iv v nh nb ns) (hb : b < nb) {k Al S : Nat} (hk : k < nh) (hr : hR v k b) (hA : v (24 + 7 * b + 0) = nI Al) (hA2 : Al ≤ 5000) (hS2 : S ≤ 54) (eS : fSp v b nh = nI S) (hS : 0 < S) (hF : flN v b Al S nh ≤ Al) (hL : ∀ n, n ≤ nh → fLeft v b (fSp v b nh) n = nI (Al - flN v b Al S n)) : fShare v nh k b = nI (Al * nx (v (6 + 3 * k + 0)) / S + (if hcN v b k < Al - flN v b Al S nh then 1 else 0)) := by
  obtain ⟨j, g1, g2, g3⟩ := I.2.2.1 k hk
  have g4 : nx (v (6 + 3 * k + 0)) = j := by rw [g3]; exact nx_nI (by omega)
  have h3 : Al * j < 2 ^ 31 := Nat.lt_of_le_of_lt (Nat.mul_le_mul hA2 g2) (by decide)
  have h7 : hcN v b k ≤ 54 := by
    have := sh_sp (b := b) I k (by omega)
    have := I.1.1
    omega
  unfold fShare
  rw [if_pos hr, hL nh (Nat.le_refl _), sh_ahead, if_neg (show ¬ nh ≤ k by omega), hA, g4, eS, g3, pk_mul, pk_div h3 hS (by omega)]
  by_cases q : hcN v b k < Al - flN v b Al S nh
  · rw [if_pos q, if_pos ((nI_ltI (by omega) (by omega)).mpr q), nI_add]
  · rw [if_neg q, if_neg (fun w => q ((nI_ltI (by omega) (by omega)).mp w)), nI_add]
theorem sh_sum (I : Iv v nh nb ns) (hb : b < nb) : (∃ k, k < nh ∧ hR v k b) → sSh v nh b nh = v (24 + 7 * b + 0) := by
  rintro ⟨k0, hk0, hr0⟩
  obtain ⟨Al, S, hA, hA2, hS2, eS, eS2, hall⟩ := sh_all I hb
  obtain ⟨hS, hF, ho, hL⟩ := hall k0 hk0 hr0
  have K : ∀ n, n ≤ nh → sSh v nh b n = nI (flN v b Al S n + (if hcN v b n < Al - flN v b Al S nh then hcN v b n else Al - flN v b Al S nh)) := by
    intro n
    induction n with
    | zero =>
      intro _
      show nI 0 = _
      refine congrArg nI ?_
      show 0 = 0 + (if 0 < Al - flN v b Al S nh then 0 else Al - flN v b Al S nh)
      split <;> omega
    | succ n ih =>
      intro hn
      show sSh v nh b n + fShare v nh n b = _
      rw [ih (by omega)]
      by_cases hr : hR v n b
      · have e2 : flN v b Al S (n + 1) = flN v b Al S n + Al * nx (v (6 + 3 * n + 0)) / S := by show flN v b Al S n + _ = _; rw [if_pos hr]
        rw [sh_one I hb (by omega) hr hA hA2 hS2 eS hS hF hL, nI_add, e2, hcN_s hr]
        refine congrArg nI ?_
        split <;> (try split) <;> omega
      · have e2 : flN v b Al S (n + 1) = flN v b Al S n := by show flN v b Al S n + _ = _; rw [if_neg hr]; rfl
        have e3 : fShare v nh n b = nI 0 := by unfold fShare; rw [if_neg hr]
        rw [e3, e2, hcN_n hr]
        exact add_n0 _
  rw [K nh (Nat.le_refl _), if_neg (by omega), hA]
  exact congrArg nI (by omega)
theorem sh_none (h : ∀ k, k < nh → ¬ hR v k b) : ∀ n, n ≤ nh → sSh v nh b n = nI 0 := by
  intro n
  induction n with
  | zero => intro _; rfl
  | succ n ih =>
    intro hn
    show sSh v nh b n + fShare v nh n b = _
    rw [ih (by omega), show fShare v nh n b = nI 0 from if_neg (h n (by omega))]
    exact add_n0 _
theorem bt_ex : ∀ X, X < 64 → X ≠ 0 → ∃ i, i < 6 ∧ bt (nI X) i = nI 1 := by decide +kernel
theorem bt_z0 : ∀ i, i < 6 → ¬ bt (nI 0) i = nI 1 := by decide +kernel
/-- the law's own 'shared' -/
theorem sh_law (I : Iv v nh nb ns) (hb : b < nb) (hz : ∀ k, nh ≤ k → k < 6 → bt (v (24 + 7 * b + 3)) k = 0) : sSh v nh b nh = if v (24 + 7 * b + 3) = 0 then 0 else v (24 + 7 * b + 0) := by
  obtain ⟨X, x1, x2, x3⟩ := I.2.2.2.2.2.1 b (by have := I.1.2.1; omega)
  by_cases e : v (24 + 7 * b + 3) = 0
  · rw [if_pos e, sh_none (fun k hk hr => ?_) nh (Nat.le_refl _)]
    · exact nI_z
    · have h1 : bt (v (24 + 7 * b + 3)) k = nI 1 := hr
      rw [e, ← nI_z] at h1
      exact bt_z0 k (by have := I.1.1; omega) h1
  · rw [if_neg e]
    refine sh_sum I hb ?_
    obtain ⟨i, i1, i2⟩ := bt_ex X (by omega) (fun q => e (by rw [x3, q]; exact nI_z))
    rw [← x3] at i2
    rcases Nat.lt_or_ge i nh with q | q
    · exact ⟨i, q, i2⟩
    · have := hz i q i1
      rw [this] at i2
      exact absurd i2 (by decide +kernel)
end SHN
