/-! the invariant of a row of numbers stays -/
section JVS
variable {v v1 : Nat → Int32} {nh nb ns : Nat}
def Jv (v : Nat → Int32) (nh nb ns : Nat) : Prop :=
  (nh ≤ 6 ∧ nb ≤ 4 ∧ ns ≤ 12 ∧ v 1 = nI nh ∧ v 2 = nI nb ∧ v 3 = nI ns) ∧ (isN (v 0) 0 999 ∧ isN (v 4) 0 9) ∧
  (∀ j, j < nh → isN (v (6 + 3 * j + 0)) 1 9) ∧ (∀ j, nh ≤ j → j < 6 → v (6 + 3 * j + 0) = nI 0 ∧ v (6 + 3 * j + 1) = nI 0 ∧ v (6 + 3 * j + 2) = nI 0) ∧
  (∀ b, b < nb → isN (v (24 + 7 * b + 0)) 0 5000 ∧ isN (v (24 + 7 * b + 1)) 100 3000 ∧ isN (v (24 + 7 * b + 2)) 0 3000) ∧ (∀ b, b < 4 → isN (v (24 + 7 * b + 3)) 0 63) ∧ (∀ b, nb ≤ b → b < 4 → ∀ q, q < 7 → v (24 + 7 * b + q) = nI 0) ∧
  (∀ j b, j < 6 → b < 4 → isN (v (52 + 4 * j + b)) 0 45001 ∧ (nh ≤ j ∨ nb ≤ b → v (52 + 4 * j + b) = nI 0)) ∧
  (∀ k, k < ns → isSt v nh nb k)
theorem Iv.J (I : Iv v nh nb ns) : Jv v nh nb ns := ⟨I.1, I.2.1, I.2.2.1, I.2.2.2.1, I.2.2.2.2.1, I.2.2.2.2.2.1, I.2.2.2.2.2.2.1, I.2.2.2.2.2.2.2.1, I.2.2.2.2.2.2.2.2.1⟩
theorem Jv.I (J : Jv v nh nb ns) (hs : sT v ns ≤ sC v 24) : Iv v nh nb ns := ⟨J.1, J.2.1, J.2.2.1, J.2.2.2.1, J.2.2.2.2.1, J.2.2.2.2.2.1, J.2.2.2.2.2.2.1, J.2.2.2.2.2.2.2.1, J.2.2.2.2.2.2.2.2, hs⟩
theorem isSt.cg {k k1 nh1 nb1 : Nat} (hS : isSt v nh nb k) (h1 : nh ≤ nh1) (h2 : nb ≤ nb1) (hv : ∀ r, r < 5 → v1 (76 + 5 * k1 + r) = v (76 + 5 * k + r)) : isSt v1 nh1 nb1 k1 := by
  obtain ⟨o, b, t, we, tn, s1, s2, s3, s4, s5, s6, e0, e1, e2, e3, e4⟩ := hS
  exact ⟨o, b, t, we, tn, by omega, by omega, s3, s4, s5, s6, (hv 0 (by omega)).trans e0, (hv 1 (by omega)).trans e1, (hv 2 (by omega)).trans e2, (hv 3 (by omega)).trans e3, (hv 4 (by omega)).trans e4⟩
theorem sT_cg : ∀ n, (∀ k, k < n → v1 (76 + 5 * k + 2) = v (76 + 5 * k + 2)) → sT v1 n = sT v n := by
  intro n
  induction n with
  | zero => intro _; rfl
  | succ n ih => intro h; show sT v1 n + _ = sT v n + _; rw [ih (fun k hk => h k (by omega)), h n (by omega)]
theorem sC_cg : ∀ n, (∀ k, k < n → v1 (52 + k) = v (52 + k)) → sC v1 n = sC v n := by
  intro n
  induction n with
  | zero => intro _; rfl
  | succ n ih => intro h; show sC v1 n + _ = sC v n + _; rw [ih (fun k hk => h k (by omega)), h n (by omega)]
theorem sT_up {j : Nat} : ∀ n, j < n → (∀ k, k < n → k ≠ j → v1 (76 + 5 * k + 2) = v (76 + 5 * k + 2)) → sT v1 n + nx (v (76 + 5 * j + 2)) = sT v n + nx (v1 (76 + 5 * j + 2)) := by
  intro n
  induction n with
  | zero => intro h; omega
  | succ n ih =>
    intro hj h
    show sT v1 n + nx _ + _ = sT v n + nx _ + _
    by_cases e : j = n
    · subst e
      rw [sT_cg j (fun k hk => h k (by omega) (by omega))]
      omega
    · have := ih (by omega) (fun k hk => h k (by omega))
      rw [h n (by omega) (by omega)]
      omega
theorem sC_up {j : Nat} : ∀ n, j < n → (∀ k, k < n → k ≠ j → v1 (52 + k) = v (52 + k)) → sC v1 n + nx (v (52 + j)) = sC v n + nx (v1 (52 + j)) := by
  intro n
  induction n with
  | zero => intro h; omega
  | succ n ih =>
    intro hj h
    show sC v1 n + nx _ + _ = sC v n + nx _ + _
    by_cases e : j = n
    · subst e
      rw [sC_cg j (fun k hk => h k (by omega) (by omega))]
      omega
    · have := ih (by omega) (fun k hk => h k (by omega))
      rw [h n (by omega) (by omega)]
      omega
theorem sT_rm {j : Nat} : ∀ n, (∀ k, k < n → v1 (76 + 5 * k + 2) = if k < j then v (76 + 5 * k + 2) else v (76 + 5 * (k + 1) + 2)) → (j ≤ n → sT v1 n + nx (v (76 + 5 * j + 2)) = sT v (n + 1)) := by
  intro n
  induction n with
  | zero => intro _ hj; obtain rfl : j = 0 := by omega
            rfl
  | succ n ih =>
    intro h hj
    show sT v1 n + nx _ + _ = sT v (n + 1) + nx (v (76 + 5 * (n + 1) + 2))
    by_cases e : j = n + 1
    · subst e
      have h1 : sT v1 n = sT v n := sT_cg n (fun k hk => by rw [h k (by omega), if_pos (by omega)])
      rw [h n (by omega), if_pos (by omega), h1]
      rfl
    · have h2 := ih (fun k hk => h k (by omega)) (by omega)
      rw [h n (by omega), if_neg (by omega)]
      omega
theorem goF_at (w : Nat → Int32) (j : Nat) : ∀ i q, goF w j i q = if 76 + 5 * j ≤ q ∧ q < 76 + 5 * j + i then w (q + 5) else w q := by
  intro i
  induction i with
  | zero => intro q; rw [if_neg (by omega)]; rfl
  | succ i ih =>
    intro q
    show upd (goF w j i) (76 + 5 * j + i) (goF w j i (76 + 5 * j + i + 5)) q = _
    rw [upd_at, ih q, ih (76 + 5 * j + i + 5), if_neg (show ¬ (76 + 5 * j ≤ 76 + 5 * j + i + 5 ∧ 76 + 5 * j + i + 5 < 76 + 5 * j + i) by omega)]
    by_cases e : q = 76 + 5 * j + i
    · rw [if_pos e, if_pos (show 76 + 5 * j ≤ q ∧ q < 76 + 5 * j + (i + 1) by omega), e]
    · rw [if_neg e]
      by_cases e2 : 76 + 5 * j ≤ q ∧ q < 76 + 5 * j + i
      · rw [if_pos e2, if_pos (show 76 + 5 * j ≤ q ∧ q < 76 + 5 * j + (i + 1) by omega)]
      · rw [if_neg e2, if_neg (show ¬ (76 + 5 * j ≤ q ∧ q < 76 + 5 * j + (i + 1)) by omega)]
theorem gGo_n {j q : Nat} (h3 : q ≠ 3) (h : ¬ (76 + 5 * j ≤ q ∧ q < 76 + 5 * (ns - 1))) (hj : j < ns) : gGo v j ns q = v q := by
  unfold gGo
  rw [goF_at, if_neg (by omega), pk_un h3]
theorem gGo_s {j q : Nat} (h : 76 + 5 * j ≤ q ∧ q < 76 + 5 * (ns - 1)) : gGo v j ns q = v (q + 5) := by
  unfold gGo
  rw [goF_at, if_pos (by omega), pk_un (by omega)]
theorem gGo_3 {j : Nat} (h3 : v 3 = nI ns) (hj : j < ns) : gGo v j ns 3 = nI (ns - 1) := by
  unfold gGo
  rw [goF_at, if_neg (by omega), pk_us, h3, pk_sub (by omega)]
theorem Jv.top (J : Jv v nh nb ns) (hv : ∀ q, q ≠ 0 → q ≠ 4 → q ≠ 5 → v1 q = v q) (h0 : isN (v1 0) 0 999) (h4 : isN (v1 4) 0 9) : Jv v1 nh nb ns := by
  obtain ⟨hn6, hb4, hs12, e1, e2, e3⟩ := J.1
  refine ⟨?_, ?_, ?_, ?_, ?_, ?_, ?_, ?_, ?_⟩
  · exact ⟨hn6, hb4, hs12, (hv 1 (by omega) (by omega) (by omega)).trans e1, (hv 2 (by omega) (by omega) (by omega)).trans e2, (hv 3 (by omega) (by omega) (by omega)).trans e3⟩
  · exact ⟨h0, h4⟩
  · exact fun i hi => by rw [hv _ (by omega) (by omega) (by omega)]; exact J.2.2.1 i hi
  · exact fun i hi hi2 => by rw [hv _ (by omega) (by omega) (by omega), hv _ (by omega) (by omega) (by omega), hv _ (by omega) (by omega) (by omega)]; exact J.2.2.2.1 i hi hi2
  · exact fun i hi => by rw [hv _ (by omega) (by omega) (by omega), hv _ (by omega) (by omega) (by omega), hv _ (by omega) (by omega) (by omega)]; exact J.2.2.2.2.1 i hi
  · exact fun i hi => by rw [hv _ (by omega) (by omega) (by omega)]; exact J.2.2.2.2.2.1 i hi
  · exact fun i hi hi2 q hq => by rw [hv _ (by omega) (by omega) (by omega)]; exact J.2.2.2.2.2.2.1 i hi hi2 q hq
  · exact fun i b9 hi hb9 => by rw [hv _ (by omega) (by omega) (by omega)]; exact J.2.2.2.2.2.2.2.1 i b9 hi hb9
  · exact fun i hi => (J.2.2.2.2.2.2.2.2 i hi).cg (Nat.le_refl _) (Nat.le_refl _) (fun r hr => hv _ (by omega) (by omega) (by omega))
theorem Jv.cg (J : Jv v nh nb ns) (hv : ∀ q, q < 136 → v1 q = v q) : Jv v1 nh nb ns := by
  obtain ⟨hn6, hb4, hs12, e1, e2, e3⟩ := J.1
  refine ⟨?_, ?_, ?_, ?_, ?_, ?_, ?_, ?_, ?_⟩
  · exact ⟨hn6, hb4, hs12, (hv 1 (by omega)).trans e1, (hv 2 (by omega)).trans e2, (hv 3 (by omega)).trans e3⟩
  · exact ⟨by rw [hv 0 (by omega)]; exact J.2.1.1, by rw [hv 4 (by omega)]; exact J.2.1.2⟩
  · exact fun i hi => by rw [hv _ (by omega)]; exact J.2.2.1 i hi
  · exact fun i hi hi2 => by rw [hv _ (by omega), hv _ (by omega), hv _ (by omega)]; exact J.2.2.2.1 i hi hi2
  · exact fun i hi => by rw [hv _ (by omega), hv _ (by omega), hv _ (by omega)]; exact J.2.2.2.2.1 i hi
  · exact fun i hi => by rw [hv _ (by omega)]; exact J.2.2.2.2.2.1 i hi
  · exact fun i hi hi2 q hq => by rw [hv _ (by omega)]; exact J.2.2.2.2.2.2.1 i hi hi2 q hq
  · exact fun i b9 hi hb9 => by rw [hv _ (by omega)]; exact J.2.2.2.2.2.2.2.1 i b9 hi hb9
  · exact fun i hi => (J.2.2.2.2.2.2.2.2 i hi).cg (Nat.le_refl _) (Nat.le_refl _) (fun r hr => hv _ (by omega))
theorem Jv.house (J : Jv v nh nb ns) {j : Nat} (hj : j < nh) (hv : ∀ q, q < 6 + 3 * j ∨ 9 + 3 * j ≤ q → v1 q = v q) (h0 : isN (v1 (6 + 3 * j + 0)) 1 9) : Jv v1 nh nb ns := by
  obtain ⟨hn6, hb4, hs12, e1, e2, e3⟩ := J.1
  refine ⟨?_, ?_, ?_, ?_, ?_, ?_, ?_, ?_, ?_⟩
  · exact ⟨hn6, hb4, hs12, (hv 1 (by omega)).trans e1, (hv 2 (by omega)).trans e2, (hv 3 (by omega)).trans e3⟩
  · exact ⟨by rw [hv 0 (by omega)]; exact J.2.1.1, by rw [hv 4 (by omega)]; exact J.2.1.2⟩
  · intro i hi
    by_cases e : i = j
    · rw [e]; exact h0
    · rw [hv _ (by omega)]; exact J.2.2.1 i hi
  · exact fun i hi hi2 => by rw [hv _ (by omega), hv _ (by omega), hv _ (by omega)]; exact J.2.2.2.1 i hi hi2
  · exact fun i hi => by rw [hv _ (by omega), hv _ (by omega), hv _ (by omega)]; exact J.2.2.2.2.1 i hi
  · exact fun i hi => by rw [hv _ (by omega)]; exact J.2.2.2.2.2.1 i hi
  · exact fun i hi hi2 q hq => by rw [hv _ (by omega)]; exact J.2.2.2.2.2.2.1 i hi hi2 q hq
  · exact fun i b9 hi hb9 => by rw [hv _ (by omega)]; exact J.2.2.2.2.2.2.2.1 i b9 hi hb9
  · exact fun i hi => (J.2.2.2.2.2.2.2.2 i hi).cg (Nat.le_refl _) (Nat.le_refl _) (fun r hr => hv _ (by omega))
theorem Jv.bank (J : Jv v nh nb ns) {b : Nat} (hb : b < nb) (hv : ∀ q, q < 24 + 7 * b ∨ 31 + 7 * b ≤ q → v1 q = v q) (h0 : isN (v1 (24 + 7 * b + 0)) 0 5000) (h1 : isN (v1 (24 + 7 * b + 1)) 100 3000) (h2 : isN (v1 (24 + 7 * b + 2)) 0 3000) (h3 : isN (v1 (24 + 7 * b + 3)) 0 63) : Jv v1 nh nb ns := by
  obtain ⟨hn6, hb4, hs12, e1, e2, e3⟩ := J.1
  refine ⟨?_, ?_, ?_, ?_, ?_, ?_, ?_, ?_, ?_⟩
  · exact ⟨hn6, hb4, hs12, (hv 1 (by omega)).trans e1, (hv 2 (by omega)).trans e2, (hv 3 (by omega)).trans e3⟩
  · exact ⟨by rw [hv 0 (by omega)]; exact J.2.1.1, by rw [hv 4 (by omega)]; exact J.2.1.2⟩
  · exact fun i hi => by rw [hv _ (by omega)]; exact J.2.2.1 i hi
  · exact fun i hi hi2 => by rw [hv _ (by omega), hv _ (by omega), hv _ (by omega)]; exact J.2.2.2.1 i hi hi2
  · intro i hi
    by_cases e : i = b
    · rw [e]; exact ⟨h0, h1, h2⟩
    · rw [hv _ (by omega), hv _ (by omega), hv _ (by omega)]; exact J.2.2.2.2.1 i hi
  · intro i hi
    by_cases e : i = b
    · rw [e]; exact h3
    · rw [hv _ (by omega)]; exact J.2.2.2.2.2.1 i hi
  · exact fun i hi hi2 q hq => by rw [hv _ (by omega)]; exact J.2.2.2.2.2.2.1 i hi hi2 q hq
  · exact fun i b9 hi hb9 => by rw [hv _ (by omega)]; exact J.2.2.2.2.2.2.2.1 i b9 hi hb9
  · exact fun i hi => (J.2.2.2.2.2.2.2.2 i hi).cg (Nat.le_refl _) (Nat.le_refl _) (fun r hr => hv _ (by omega))
theorem Jv.stk (J : Jv v nh nb ns) {k : Nat} (hk : k < ns) (hv : ∀ q, q < 76 + 5 * k ∨ 81 + 5 * k ≤ q → v1 q = v q) (h0 : isSt v1 nh nb k) : Jv v1 nh nb ns := by
  obtain ⟨hn6, hb4, hs12, e1, e2, e3⟩ := J.1
  refine ⟨?_, ?_, ?_, ?_, ?_, ?_, ?_, ?_, ?_⟩
  · exact ⟨hn6, hb4, hs12, (hv 1 (by omega)).trans e1, (hv 2 (by omega)).trans e2, (hv 3 (by omega)).trans e3⟩
  · exact ⟨by rw [hv 0 (by omega)]; exact J.2.1.1, by rw [hv 4 (by omega)]; exact J.2.1.2⟩
  · exact fun i hi => by rw [hv _ (by omega)]; exact J.2.2.1 i hi
  · exact fun i hi hi2 => by rw [hv _ (by omega), hv _ (by omega), hv _ (by omega)]; exact J.2.2.2.1 i hi hi2
  · exact fun i hi => by rw [hv _ (by omega), hv _ (by omega), hv _ (by omega)]; exact J.2.2.2.2.1 i hi
  · exact fun i hi => by rw [hv _ (by omega)]; exact J.2.2.2.2.2.1 i hi
  · exact fun i hi hi2 q hq => by rw [hv _ (by omega)]; exact J.2.2.2.2.2.2.1 i hi hi2 q hq
  · exact fun i b9 hi hb9 => by rw [hv _ (by omega)]; exact J.2.2.2.2.2.2.2.1 i b9 hi hb9
  · intro i hi
    by_cases e : i = k
    · rw [e]; exact h0
    · exact (J.2.2.2.2.2.2.2.2 i hi).cg (Nat.le_refl _) (Nat.le_refl _) (fun r hr => hv _ (by omega))
theorem Jv.stks (J : Jv v nh nb ns) (hv : ∀ q, q < 76 → v1 q = v q) (h0 : ∀ k, k < ns → isSt v1 nh nb k) : Jv v1 nh nb ns := by
  obtain ⟨hn6, hb4, hs12, e1, e2, e3⟩ := J.1
  refine ⟨?_, ?_, ?_, ?_, ?_, ?_, ?_, ?_, ?_⟩
  · exact ⟨hn6, hb4, hs12, (hv 1 (by omega)).trans e1, (hv 2 (by omega)).trans e2, (hv 3 (by omega)).trans e3⟩
  · exact ⟨by rw [hv 0 (by omega)]; exact J.2.1.1, by rw [hv 4 (by omega)]; exact J.2.1.2⟩
  · exact fun i hi => by rw [hv _ (by omega)]; exact J.2.2.1 i hi
  · exact fun i hi hi2 => by rw [hv _ (by omega), hv _ (by omega), hv _ (by omega)]; exact J.2.2.2.1 i hi hi2
  · exact fun i hi => by rw [hv _ (by omega), hv _ (by omega), hv _ (by omega)]; exact J.2.2.2.2.1 i hi
  · exact fun i hi => by rw [hv _ (by omega)]; exact J.2.2.2.2.2.1 i hi
  · exact fun i hi hi2 q hq => by rw [hv _ (by omega)]; exact J.2.2.2.2.2.2.1 i hi hi2 q hq
  · exact fun i b9 hi hb9 => by rw [hv _ (by omega)]; exact J.2.2.2.2.2.2.2.1 i b9 hi hb9
  · exact h0
theorem Jv.cuts (J : Jv v nh nb ns) (hv : ∀ q, q < 52 ∨ 76 ≤ q → v1 q = v q) (h0 : ∀ j b, j < 6 → b < 4 → isN (v1 (52 + 4 * j + b)) 0 45001 ∧ (nh ≤ j ∨ nb ≤ b → v1 (52 + 4 * j + b) = nI 0)) : Jv v1 nh nb ns := by
  obtain ⟨hn6, hb4, hs12, e1, e2, e3⟩ := J.1
  refine ⟨?_, ?_, ?_, ?_, ?_, ?_, ?_, ?_, ?_⟩
  · exact ⟨hn6, hb4, hs12, (hv 1 (by omega)).trans e1, (hv 2 (by omega)).trans e2, (hv 3 (by omega)).trans e3⟩
  · exact ⟨by rw [hv 0 (by omega)]; exact J.2.1.1, by rw [hv 4 (by omega)]; exact J.2.1.2⟩
  · exact fun i hi => by rw [hv _ (by omega)]; exact J.2.2.1 i hi
  · exact fun i hi hi2 => by rw [hv _ (by omega), hv _ (by omega), hv _ (by omega)]; exact J.2.2.2.1 i hi hi2
  · exact fun i hi => by rw [hv _ (by omega), hv _ (by omega), hv _ (by omega)]; exact J.2.2.2.2.1 i hi
  · exact fun i hi => by rw [hv _ (by omega)]; exact J.2.2.2.2.2.1 i hi
  · exact fun i hi hi2 q hq => by rw [hv _ (by omega)]; exact J.2.2.2.2.2.2.1 i hi hi2 q hq
  · exact h0
  · exact fun i hi => (J.2.2.2.2.2.2.2.2 i hi).cg (Nat.le_refl _) (Nat.le_refl _) (fun r hr => hv _ (by omega))
theorem Jv.newst (J : Jv v nh nb ns) (hn : ns < 12) (hv : ∀ q, q ≠ 3 → q < 76 + 5 * ns ∨ 81 + 5 * ns ≤ q → v1 q = v q) (h3 : v1 3 = nI (ns + 1)) (h0 : isSt v1 nh nb ns) : Jv v1 nh nb (ns + 1) := by
  obtain ⟨hn6, hb4, hs12, e1, e2, e3⟩ := J.1
  refine ⟨?_, ?_, ?_, ?_, ?_, ?_, ?_, ?_, ?_⟩
  · exact ⟨hn6, hb4, by omega, (hv 1 (by omega) (by omega)).trans e1, (hv 2 (by omega) (by omega)).trans e2, h3⟩
  · exact ⟨by rw [hv 0 (by omega) (by omega)]; exact J.2.1.1, by rw [hv 4 (by omega) (by omega)]; exact J.2.1.2⟩
  · exact fun i hi => by rw [hv _ (by omega) (by omega)]; exact J.2.2.1 i hi
  · exact fun i hi hi2 => by rw [hv _ (by omega) (by omega), hv _ (by omega) (by omega), hv _ (by omega) (by omega)]; exact J.2.2.2.1 i hi hi2
  · exact fun i hi => by rw [hv _ (by omega) (by omega), hv _ (by omega) (by omega), hv _ (by omega) (by omega)]; exact J.2.2.2.2.1 i hi
  · exact fun i hi => by rw [hv _ (by omega) (by omega)]; exact J.2.2.2.2.2.1 i hi
  · exact fun i hi hi2 q hq => by rw [hv _ (by omega) (by omega)]; exact J.2.2.2.2.2.2.1 i hi hi2 q hq
  · exact fun i b9 hi hb9 => by rw [hv _ (by omega) (by omega)]; exact J.2.2.2.2.2.2.2.1 i b9 hi hb9
  · intro i hi
    by_cases e : i = ns
    · rw [e]; exact h0
    · exact (J.2.2.2.2.2.2.2.2 i (by omega)).cg (Nat.le_refl _) (Nat.le_refl _) (fun r hr => hv _ (by omega) (by omega))
theorem Jv.go (J : Jv v nh nb ns) {v0 : Nat → Int32} {j : Nat} (hj : j < ns) (hv0 : ∀ q, q < 76 + 5 * j ∨ 81 + 5 * j ≤ q → v0 q = v q) (hv1 : v1 = gGo v0 j ns) : Jv v1 nh nb (ns - 1) := by
  obtain ⟨hn6, hb4, hs12, e1, e2, e3⟩ := J.1
  have hv : ∀ q, q ≠ 3 → q < 76 → v1 q = v q := fun q h1 h2 => by rw [hv1, gGo_n h1 (by omega) hj]; exact hv0 q (by omega)
  refine ⟨?_, ?_, ?_, ?_, ?_, ?_, ?_, ?_, ?_⟩
  · exact ⟨hn6, hb4, by omega, (hv 1 (by omega) (by omega)).trans e1, (hv 2 (by omega) (by omega)).trans e2, by rw [hv1]; exact gGo_3 ((hv0 3 (by omega)).trans e3) hj⟩
  · exact ⟨by rw [hv 0 (by omega) (by omega)]; exact J.2.1.1, by rw [hv 4 (by omega) (by omega)]; exact J.2.1.2⟩
  · exact fun i hi => by rw [hv _ (by omega) (by omega)]; exact J.2.2.1 i hi
  · exact fun i hi hi2 => by rw [hv _ (by omega) (by omega), hv _ (by omega) (by omega), hv _ (by omega) (by omega)]; exact J.2.2.2.1 i hi hi2
  · exact fun i hi => by rw [hv _ (by omega) (by omega), hv _ (by omega) (by omega), hv _ (by omega) (by omega)]; exact J.2.2.2.2.1 i hi
  · exact fun i hi => by rw [hv _ (by omega) (by omega)]; exact J.2.2.2.2.2.1 i hi
  · exact fun i hi hi2 q hq => by rw [hv _ (by omega) (by omega)]; exact J.2.2.2.2.2.2.1 i hi hi2 q hq
  · exact fun i b9 hi hb9 => by rw [hv _ (by omega) (by omega)]; exact J.2.2.2.2.2.2.2.1 i b9 hi hb9
  · intro i hi
    by_cases e : i < j
    · exact (J.2.2.2.2.2.2.2.2 i (by omega)).cg (Nat.le_refl _) (Nat.le_refl _) (fun r hr => by rw [hv1, gGo_n (by omega) (by omega) hj]; exact hv0 _ (by omega))
    · exact (J.2.2.2.2.2.2.2.2 (i + 1) (by omega)).cg (Nat.le_refl _) (Nat.le_refl _) (fun r hr => by rw [hv1, gGo_s (by omega), hv0 _ (by omega)]; congr 1; omega)
theorem Jv.newh (J : Jv v nh nb ns) (hn : nh < 6) (hv : ∀ q, q ≠ 1 → q ≠ 6 + 3 * nh + 0 → v1 q = v q) (h1 : v1 1 = nI (nh + 1)) (h0 : isN (v1 (6 + 3 * nh + 0)) 1 9) : Jv v1 (nh + 1) nb ns := by
  obtain ⟨hn6, hb4, hs12, e1, e2, e3⟩ := J.1
  refine ⟨?_, ?_, ?_, ?_, ?_, ?_, ?_, ?_, ?_⟩
  · exact ⟨by omega, hb4, hs12, h1, (hv 2 (by omega) (by omega)).trans e2, (hv 3 (by omega) (by omega)).trans e3⟩
  · exact ⟨by rw [hv 0 (by omega) (by omega)]; exact J.2.1.1, by rw [hv 4 (by omega) (by omega)]; exact J.2.1.2⟩
  · intro i hi
    by_cases e : i = nh
    · rw [e]; exact h0
    · rw [hv _ (by omega) (by omega)]; exact J.2.2.1 i (by omega)
  · exact fun i hi hi2 => by rw [hv _ (by omega) (by omega), hv _ (by omega) (by omega), hv _ (by omega) (by omega)]; exact J.2.2.2.1 i (by omega) hi2
  · exact fun i hi => by rw [hv _ (by omega) (by omega), hv _ (by omega) (by omega), hv _ (by omega) (by omega)]; exact J.2.2.2.2.1 i hi
  · exact fun i hi => by rw [hv _ (by omega) (by omega)]; exact J.2.2.2.2.2.1 i hi
  · exact fun i hi hi2 q hq => by rw [hv _ (by omega) (by omega)]; exact J.2.2.2.2.2.2.1 i hi hi2 q hq
  · exact fun i b9 hi hb9 => by rw [hv _ (by omega) (by omega)]; exact ⟨(J.2.2.2.2.2.2.2.1 i b9 hi hb9).1, fun q => (J.2.2.2.2.2.2.2.1 i b9 hi hb9).2 (by omega)⟩
  · exact fun i hi => (J.2.2.2.2.2.2.2.2 i hi).cg (by omega) (Nat.le_refl _) (fun r hr => hv _ (by omega) (by omega))
theorem Jv.newb (J : Jv v nh nb ns) (hn : nb < 4) (hv : ∀ q, q ≠ 2 → q ≠ 24 + 7 * nb + 0 → q ≠ 24 + 7 * nb + 1 → v1 q = v q) (h2 : v1 2 = nI (nb + 1)) (h0 : isN (v1 (24 + 7 * nb + 0)) 0 5000) (h1 : isN (v1 (24 + 7 * nb + 1)) 100 3000) : Jv v1 nh (nb + 1) ns := by
  obtain ⟨hn6, hb4, hs12, e1, e2, e3⟩ := J.1
  refine ⟨?_, ?_, ?_, ?_, ?_, ?_, ?_, ?_, ?_⟩
  · exact ⟨hn6, by omega, hs12, (hv 1 (by omega) (by omega) (by omega)).trans e1, h2, (hv 3 (by omega) (by omega) (by omega)).trans e3⟩
  · exact ⟨by rw [hv 0 (by omega) (by omega) (by omega)]; exact J.2.1.1, by rw [hv 4 (by omega) (by omega) (by omega)]; exact J.2.1.2⟩
  · exact fun i hi => by rw [hv _ (by omega) (by omega) (by omega)]; exact J.2.2.1 i hi
  · exact fun i hi hi2 => by rw [hv _ (by omega) (by omega) (by omega), hv _ (by omega) (by omega) (by omega), hv _ (by omega) (by omega) (by omega)]; exact J.2.2.2.1 i hi hi2
  · intro i hi
    by_cases e : i = nb
    · rw [e]; exact ⟨h0, h1, by rw [hv _ (by omega) (by omega) (by omega), J.2.2.2.2.2.2.1 nb (Nat.le_refl _) hn 2 (by omega)]; exact ⟨0, Nat.le_refl _, by omega, rfl⟩⟩
    · rw [hv _ (by omega) (by omega) (by omega), hv _ (by omega) (by omega) (by omega), hv _ (by omega) (by omega) (by omega)]; exact J.2.2.2.2.1 i (by omega)
  · exact fun i hi => by rw [hv _ (by omega) (by omega) (by omega)]; exact J.2.2.2.2.2.1 i hi
  · exact fun i hi hi2 q hq => by rw [hv _ (by omega) (by omega) (by omega)]; exact J.2.2.2.2.2.2.1 i (by omega) hi2 q hq
  · exact fun i b9 hi hb9 => by rw [hv _ (by omega) (by omega) (by omega)]; exact ⟨(J.2.2.2.2.2.2.2.1 i b9 hi hb9).1, fun q => (J.2.2.2.2.2.2.2.1 i b9 hi hb9).2 (by omega)⟩
  · exact fun i hi => (J.2.2.2.2.2.2.2.2 i hi).cg (Nat.le_refl _) (by omega) (fun r hr => hv _ (by omega) (by omega) (by omega))
theorem Iv.cg (I : Iv v nh nb ns) (hv : ∀ q, q < 136 → v1 q = v q) : Iv v1 nh nb ns := by
  have hs12 := I.1.2.2.1
  refine (I.J.cg hv).I ?_
  rw [sT_cg ns (fun k hk => hv _ (by omega)), sC_cg 24 (fun k hk => hv _ (by omega))]
  exact I.2.2.2.2.2.2.2.2.2
theorem Iv.sm (I : Iv v nh nb ns) (J : Jv v1 nh nb ns) (h1 : ∀ k, k < ns → v1 (76 + 5 * k + 2) = v (76 + 5 * k + 2)) (h2 : ∀ k, k < 24 → v1 (52 + k) = v (52 + k)) : Iv v1 nh nb ns := by
  refine J.I ?_
  rw [sT_cg ns h1, sC_cg 24 h2]
  exact I.2.2.2.2.2.2.2.2.2
end JVS
theorem n_nn {j : Nat} (h : j < 2 ^ 31) : ¬ nI j < 0 := by
  have := nI_nlt (a := j) (b := 0) (Nat.zero_le _) h
  rw [nI_z] at this
  exact this
theorem isN.nn {x : Int32} {lo hi : Nat} (h : isN x lo hi) (hh : hi < 2 ^ 31) : ¬ x < 0 := by
  obtain ⟨j, -, j2, rfl⟩ := h
  exact n_nn (by omega)
theorem isN.up {x : Int32} {lo hi : Nat} (h : isN x lo hi) (hh : hi < 2 ^ 31) (hne : ¬ x = nI hi) : isN (x + nI 1) lo hi := by
  obtain ⟨j, j1, j2, rfl⟩ := h
  have : j ≠ hi := fun q => hne (by rw [q])
  exact ⟨j + 1, by omega, by omega, by rw [nI_add]⟩
def IE (v : Nat → Int32) : Prop := ∃ nh nb ns, Iv v nh nb ns
section IVS
variable {v : Nat → Int32} {nh nb ns : Nat}
theorem iCome {sp : Int32} (I : Iv v nh nb ns) (k : kCome v sp) : Iv (gCome v sp nh) (nh + 1) nb ns := by
  obtain ⟨hn6, hb4, hs12, e1, e2, e3⟩ := I.1
  obtain ⟨j, j1, j2, rfl, -⟩ := gI_j (by omega) (by omega) k.1
  have hn : nh < 6 := by
    rcases Nat.lt_or_ge nh 6 with q | q
    · exact q
    · exact absurd (by rw [e1, show nh = 6 by omega]) k.2
  have hg := gCome_eq I (nI j) hn
  have hv : ∀ q, q ≠ 1 → q ≠ 6 + 3 * nh + 0 → gCome v (nI j) nh q = v q := fun q h1 h2 => by rw [hg, pk_un h1, pk_un h2]
  refine (I.J.newh hn hv (by rw [hg, pk_us, nI_add]) (by rw [hg, pk_un (by omega), pk_us]; exact ⟨j, j1, j2, rfl⟩)).I ?_
  rw [sT_cg ns (fun k hk => hv _ (by omega) (by omega)), sC_cg 24 (fun k hk => hv _ (by omega) (by omega))]
  exact I.2.2.2.2.2.2.2.2.2
theorem iSet {x sp : Int32} (I : Iv v nh nb ns) (k : kSet v x sp) : Iv (gSet v x sp) nh nb ns := by
  obtain ⟨hn6, hb4, hs12, e1, e2, e3⟩ := I.1
  obtain ⟨j, j1, j2, rfl, -⟩ := gI_j (by omega) (by omega) k.2
  obtain ⟨i, hi, rfl, ei⟩ := gH_j e1 (by omega) k.1
  unfold gSet
  rw [ei]
  exact I.sm (I.J.house hi (fun q hq => pk_un (by omega)) (by rw [show 6 + 3 * i + 0 = 6 + 3 * i from rfl, pk_us]; exact ⟨j, j1, j2, rfl⟩)) (fun k hk => pk_un (by omega)) (fun k hk => pk_un (by omega))
theorem iAdd {al st : Int32} (I : Iv v nh nb ns) (k : kAdd v al st) : Iv (gAdd v al st nb) nh (nb + 1) ns := by
  obtain ⟨hn6, hb4, hs12, e1, e2, e3⟩ := I.1
  obtain ⟨j, j1, j2, rfl, -⟩ := gI_j (by omega) (by omega) k.1.1
  obtain ⟨i, i1, i2, rfl, -⟩ := gI_j (by omega) (by omega) k.1.2
  have hn : nb < 4 := by
    rcases Nat.lt_or_ge nb 4 with q | q
    · exact q
    · exact absurd (by rw [e2, show nb = 4 by omega]) k.2
  have hg := gAdd_eq I (nI j) (nI i) hn
  have hv : ∀ q, q ≠ 2 → q ≠ 24 + 7 * nb + 0 → q ≠ 24 + 7 * nb + 1 → gAdd v (nI j) (nI i) nb q = v q := fun q h1 h2 h3 => by rw [hg, pk_un h1, pk_un h3, pk_un h2]
  refine (I.J.newb hn hv (by rw [hg, pk_us, nI_add]) (by rw [hg, pk_un (by omega), pk_un (by omega), pk_us]; exact ⟨j, j1, j2, rfl⟩) (by rw [hg, pk_un (by omega), pk_us]; exact ⟨i, i1, i2, rfl⟩)).I ?_
  rw [sT_cg ns (fun k hk => hv _ (by omega) (by omega) (by omega)), sC_cg 24 (fun k hk => hv _ (by omega) (by omega) (by omega))]
  exact I.2.2.2.2.2.2.2.2.2
theorem iAllow {x al : Int32} (I : Iv v nh nb ns) (k : kAllow v x al) : Iv (gAllow v x al) nh nb ns := by
  obtain ⟨hn6, hb4, hs12, e1, e2, e3⟩ := I.1
  obtain ⟨j, j1, j2, rfl, -⟩ := gI_j (by omega) (by omega) k.2
  obtain ⟨b, hb, rfl, eb⟩ := gH_j e2 (by omega) k.1
  have h5 := I.2.2.2.2.1 b hb
  unfold gAllow
  rw [eb]
  exact I.sm (I.J.bank hb (fun q hq => pk_un (by omega)) (by rw [show 24 + 7 * b + 0 = 24 + 7 * b from rfl, pk_us]; exact ⟨j, j1, j2, rfl⟩) (by rw [pk_un (by omega)]; exact h5.2.1) (by rw [pk_un (by omega)]; exact h5.2.2) (by rw [pk_un (by omega)]; exact I.2.2.2.2.2.1 b (by omega))) (fun k hk => pk_un (by omega)) (fun k hk => pk_un (by omega))
theorem sGrant_n : ∀ X, X < 64 → ∀ j, j < 6 → ∀ i, i < 2 → ∃ k, k ≤ 63 ∧ sGrant (nI X) j (nI i) = nI k := by
  intro X hX j hj i hi
  have h := sGrant_b X hX j hj i hi
  exact ⟨nx (sGrant (nI X) j (nI i)), h.1, h.2⟩
theorem iGrant {x y is : Int32} (I : Iv v nh nb ns) (k : kGrant v x y is) : Iv (gGrant v x y is) nh nb ns := by
  obtain ⟨hn6, hb4, hs12, e1, e2, e3⟩ := I.1
  obtain ⟨j, j1, j2, rfl, -⟩ := gI_j (by omega) (by omega) k.2.2
  obtain ⟨i, hi, rfl, ei⟩ := gH_j e1 (by omega) k.1
  obtain ⟨b, hb, rfl, eb⟩ := gH_j e2 (by omega) k.2.1
  have h5 := I.2.2.2.2.1 b hb
  obtain ⟨rx, -, rx2, rx3⟩ := I.2.2.2.2.2.1 b (by omega)
  obtain ⟨s, s1, s2⟩ := sGrant_n rx (by omega) i (by omega) j (by omega)
  unfold gGrant
  rw [eb, ei, rx3, s2]
  exact I.sm (I.J.bank hb (fun q hq => pk_un (by omega)) (by rw [pk_un (by omega)]; exact h5.1) (by rw [pk_un (by omega)]; exact h5.2.1) (by rw [pk_un (by omega)]; exact h5.2.2) (by rw [pk_us]; exact ⟨s, by omega, s1, rfl⟩)) (fun k hk => pk_un (by omega)) (fun k hk => pk_un (by omega))
theorem iRep {x : Int32} (I : Iv v nh nb ns) (k : kRep v x) : Iv (gRep v x) nh nb ns := by
  obtain ⟨hn6, hb4, hs12, e1, e2, e3⟩ := I.1
  obtain ⟨b, hb, rfl, eb⟩ := gH_j e2 (by omega) k
  have h5 := I.2.2.2.2.1 b hb
  unfold gRep
  rw [eb]
  exact I.sm (I.J.bank hb (fun q hq => pk_un (by omega)) (by rw [pk_un (by omega)]; exact h5.1) (by rw [pk_un (by omega)]; exact h5.2.1) (by rw [pk_us]; exact ⟨0, by omega, by omega, rfl⟩) (by rw [pk_un (by omega)]; exact I.2.2.2.2.2.1 b (by omega))) (fun k hk => pk_un (by omega)) (fun k hk => pk_un (by omega))
theorem iTurn {x : Int32} (I : Iv v nh nb ns) (k : kTurn v x) : Iv (gTurn v x) nh nb ns := by
  obtain ⟨hn6, hb4, hs12, e1, e2, e3⟩ := I.1
  obtain ⟨j, hj, rfl, ej⟩ := gH_j e3 (by omega) k.1
  obtain ⟨o, b, t, we, tn, s1, s2, s3, s4, s5, s6, u0, u1, u2, u3, u4⟩ := I.2.2.2.2.2.2.2.2.1 j hj
  have hk := k.2
  rw [ej, u4] at hk
  have hne : tn ≠ 3 := fun q => hk (by rw [q])
  unfold gTurn
  rw [ej]
  exact I.sm (I.J.stk hj (fun q hq => pk_un (by omega)) ⟨o, b, t, we, tn + 1, s1, s2, s3, s4, s5, by omega, by rw [pk_un (by omega)]; exact u0, by rw [pk_un (by omega)]; exact u1, by rw [pk_un (by omega)]; exact u2, by rw [pk_un (by omega)]; exact u3, by rw [pk_us, u4, nI_add]⟩) (fun k hk => pk_un (by omega)) (fun k hk => pk_un (by omega))
theorem Iv.share {hh b : Nat} (I : Iv v nh nb ns) (hj : hh < nh) (hb : b < nb) : ∃ S, S ≤ 45001 ∧ fShare v nh hh b = nI S := by
  obtain ⟨hn6, hb4, hs12, e1, e2, e3⟩ := I.1
  unfold fShare
  by_cases hr : hR v hh b
  · rw [if_pos hr]
    obtain ⟨s, s1, s2, s3⟩ := I.sp (b := b) nh (Nat.le_refl _)
    have s4 := s3 hh hj hr
    obtain ⟨⟨al, -, a2, a3⟩, -⟩ := I.2.2.2.2.1 b hb
    obtain ⟨sp, p1, p2, p3⟩ := I.2.2.1 hh hj
    have hm : al * sp ≤ 5000 * 9 := Nat.mul_le_mul a2 p2
    have hd : al * sp / s ≤ al * sp := Nat.div_le_self _ _
    have e : v (24 + 7 * b + 0) * v (6 + 3 * hh + 0) / fSp v b nh = nI (al * sp / s) := by rw [a3, p3, s2, pk_mul, pk_div (by omega) (by omega) (by omega)]
    rw [e]
    by_cases hc : fAhead v b hh nh < fLeft v b (fSp v b nh) nh
    · rw [if_pos hc, nI_add]
      exact ⟨_, by omega, rfl⟩
    · rw [if_neg hc, nI_add]
      exact ⟨_, by omega, rfl⟩
  · rw [if_neg hr]
    exact ⟨0, by omega, rfl⟩
theorem cut_iff {c t S : Nat} (h1 : c ≤ 45001) (h2 : 1 ≤ t) (h3 : t ≤ 1000) (h4 : S ≤ 45001) : nI c + nI t ≤ nI S ↔ nI t ≤ (if nI S - nI c < 0 then nI 0 else nI S - nI c) := by
  rw [nI_add]
  rcases Nat.lt_or_ge S c with h | h
  · have t1 : (nI S - nI c).toInt = (S : Int) - c := by
      rw [Int32.toInt_sub, nI_toInt (by omega), nI_toInt (by omega)]
      simp only [Int.bmod_def]
      omega
    rw [if_pos (by rw [n_lt, t1, Int32.toInt_zero]; omega)]
    rw [nI_leI (by omega) (by omega), nI_leI (by omega) (by omega)]
    omega
  · rw [pk_sub h, if_neg (n_nn (by omega)), nI_leI (by omega) (by omega), nI_leI (by omega) (by omega)]
    omega
theorem iCut {x y t : Int32} (I : Iv v nh nb ns) (k : kCut v nh x y t) : Iv (gCut v ns x y t) nh nb (ns + 1) := by
  obtain ⟨hn6, hb4, hs12, e1, e2, e3⟩ := I.1
  obtain ⟨tt, t1, t2, rfl, -⟩ := gI_j (by omega) (by omega) k.1.2.2
  obtain ⟨j, hj, rfl, ej⟩ := gH_j e1 (by omega) k.1.1
  obtain ⟨b, hb, rfl, eb⟩ := gH_j e2 (by omega) k.1.2.1
  have hn : ns < 12 := by
    rcases Nat.lt_or_ge ns 12 with q | q
    · exact q
    · exact absurd (by rw [e3, show ns = 12 by omega]) k.2.2
  obtain ⟨S, S1, S2⟩ := I.share hj hb
  have hk := k.2.1
  rw [ej, eb] at hk
  unfold fMay at hk
  obtain ⟨⟨c, -, c2, c3⟩, -⟩ := I.2.2.2.2.2.2.2.1 j b (by omega) (by omega)
  rw [S2, c3] at hk
  have hct := (cut_iff c2 t1 t2 S1).mpr hk
  rw [nI_add, nI_leI (by omega) (by omega)] at hct
  have h5 := I.2.2.2.2.1 b hb
  unfold gCut cuB cuA
  rw [ej, eb, c3, nI_add]
  have J1 : Jv (upd v (52 + 4 * j + b) (nI (c + tt))) nh nb ns := I.J.cuts (fun q hq => pk_un (by omega)) (fun i b9 hi hb9 => by
    by_cases e : i = j ∧ b9 = b
    · obtain ⟨rfl, rfl⟩ := e
      rw [pk_us]
      exact ⟨⟨c + tt, by omega, by omega, rfl⟩, fun q => by omega⟩
    · rw [pk_un (by omega)]
      exact I.2.2.2.2.2.2.2.1 i b9 hi hb9)
  generalize hv1 : upd v (52 + 4 * j + b) (nI (c + tt)) = v1 at J1 ⊢
  have g1 : ∀ q, q ≠ 52 + 4 * j + b → v1 q = v q := fun q hq => by rw [← hv1, pk_un hq]
  have J2 : Jv (upd v1 (24 + 7 * b + 4) (v1 (24 + 7 * b + 4) + nI tt)) nh nb ns := J1.bank hb (fun q hq => pk_un (by omega)) (by rw [pk_un (by omega), g1 _ (by omega)]; exact h5.1) (by rw [pk_un (by omega), g1 _ (by omega)]; exact h5.2.1) (by rw [pk_un (by omega), g1 _ (by omega)]; exact h5.2.2) (by rw [pk_un (by omega), g1 _ (by omega)]; exact I.2.2.2.2.2.1 b (by omega))
  generalize hv2 : upd v1 (24 + 7 * b + 4) (v1 (24 + 7 * b + 4) + nI tt) = v2 at J2 ⊢
  have g2 : ∀ q, q ≠ 24 + 7 * b + 4 → v2 q = v1 q := fun q hq => by rw [← hv2, pk_un hq]
  refine (J2.newst hn (v1 := upd (upd (upd (upd (upd (upd v2 (76 + 5 * ns + 0) (nI j)) (76 + 5 * ns + 1) (nI b)) (76 + 5 * ns + 2) (nI tt)) (76 + 5 * ns + 3) (nI 100000)) (76 + 5 * ns + 4) (nI 0)) 3 _) (fun q h3 hq => ?_) ?_ ⟨j, b, tt, 100000, 0, hj, hb, t1, by omega, by omega, by omega, ?_, ?_, ?_, ?_, ?_⟩).I ?_
  · rw [pk_un h3, pk_un (by omega), pk_un (by omega), pk_un (by omega), pk_un (by omega), pk_un (by omega)]
  · rw [pk_us, pk_un (by omega), pk_un (by omega), pk_un (by omega), pk_un (by omega), pk_un (by omega), g2 _ (by omega), g1 _ (by omega), e3, nI_add]
  · rw [pk_un (by omega), pk_un (by omega), pk_un (by omega), pk_un (by omega), pk_un (by omega), pk_us]
  · rw [pk_un (by omega), pk_un (by omega), pk_un (by omega), pk_un (by omega), pk_us]
  · rw [pk_un (by omega), pk_un (by omega), pk_un (by omega), pk_us]
  · rw [pk_un (by omega), pk_un (by omega), pk_us]
  · rw [pk_un (by omega), pk_us]
  · have q1 := I.2.2.2.2.2.2.2.2.2
    rw [sC_cg (v := v1) 24 (fun k hk => by rw [pk_un (by omega), pk_un (by omega), pk_un (by omega), pk_un (by omega), pk_un (by omega), pk_un (by omega), g2 _ (by omega)])]
    have q2 := sC_up (v := v) (v1 := v1) (j := 4 * j + b) 24 (by omega) (fun k hk hne => g1 _ (by omega))
    rw [show 52 + (4 * j + b) = 52 + 4 * j + b by omega, c3, ← hv1, pk_us, nx_nI (by omega), nx_nI (by omega)] at q2
    rw [← hv1]
    show sT _ ns + nx _ ≤ _
    rw [sT_cg (v := v) ns (fun k hk => by rw [pk_un (by omega), pk_un (by omega), pk_un (by omega), pk_un (by omega), pk_un (by omega), pk_un (by omega), g2 _ (by omega), g1 _ (by omega)])]
    rw [pk_un (by omega), pk_un (by omega), pk_un (by omega), pk_us, nx_nI (by omega)]
    omega
end IVS
