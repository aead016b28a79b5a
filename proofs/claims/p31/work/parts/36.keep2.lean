/-! the invariant stays, second part; the answers' signs -/
section IVT
variable {v : Nat → Int32} {nh nb ns : Nat}
theorem jo_w {t1 t2 w1 w2 : Nat} (h1 : 1 ≤ t1) (h2 : t1 + t2 ≤ 1080024) (h3 : w1 ≤ 100000) (h4 : w2 ≤ 100000) : ∃ k, k ≤ 100000 ∧ (((nI w1).toInt64 * (nI t1).toInt64 + (nI w2).toInt64 * (nI t2).toInt64 + (nI t1 + nI t2).toInt64 - lN 1) / (nI t1 + nI t2).toInt64).toInt32 = nI k := by
  have q1 : w1 * t1 ≤ 100000 * t1 := Nat.mul_le_mul_right _ h3
  have q2 : w2 * t2 ≤ 100000 * t2 := Nat.mul_le_mul_right _ h4
  refine ⟨(w1 * t1 + w2 * t2 + (t1 + t2) - 1) / (t1 + t2), ?_, ?_⟩
  · have : (w1 * t1 + w2 * t2 + (t1 + t2) - 1) / (t1 + t2) < 100001 := (Nat.div_lt_iff_lt_mul (by omega)).mpr (by omega)
    omega
  · rw [nI_add, nI_l (by omega), nI_l (by omega), nI_l (by omega), nI_l (by omega), nI_l (by omega), lN_mul, lN_mul, lN_add, lN_add, lN_sub (by omega), pk_lDiv (by omega) (by omega) (by omega), lN_i]
theorem iJoin {x y : Int32} (I : Iv v nh nb ns) (k : kJoin v x y) : Iv (gJoin v x y ns) nh nb (ns - 1) := by
  obtain ⟨hn6, hb4, hs12, e1, e2, e3⟩ := I.1
  obtain ⟨j, hj, rfl, ej⟩ := gH_j e3 (by omega) k.1.1
  obtain ⟨o, ho, rfl, eo⟩ := gH_j e3 (by omega) k.1.2.1
  have hne : j ≠ o := fun q => k.1.2.2 (by rw [q])
  obtain ⟨o1, b1, t1, we1, tn1, s1, s2, s3, s4, s5, s6, u0, u1, u2, u3, u4⟩ := I.2.2.2.2.2.2.2.2.1 j hj
  obtain ⟨o2, b2, t2, we2, tn2, z1, z2, z3, z4, z5, z6, y0, y1, y2, y3, y4⟩ := I.2.2.2.2.2.2.2.2.1 o ho
  have hTT := I.tot hj ho hne
  rw [u2, y2, nx_nI s4, nx_nI z4] at hTT
  obtain ⟨we, w1, w2⟩ := jo_w (t1 := t1) (t2 := t2) s3 hTT s5 z5
  unfold gJoin
  rw [ej, eo]
  have hB : ∀ q, q ≠ 76 + 5 * o + 2 → q ≠ 76 + 5 * o + 3 → joB v j o q = v q := fun q h1 h2 => by unfold joB; rw [pk_un h2, pk_un h1]
  have hB2 : joB v j o (76 + 5 * o + 2) = nI (t1 + t2) := by unfold joB; rw [pk_un (by omega), pk_us, u2, y2, nI_add]
  have hB3 : joB v j o (76 + 5 * o + 3) = nI we := by unfold joB; rw [pk_us, u2, u3, y2, y3, w2]
  have hC : ∀ q, q ≠ 76 + 5 * o + 2 → q ≠ 76 + 5 * o + 3 → q ≠ 76 + 5 * o + 4 → joC v j o q = v q := fun q h1 h2 h3 => by unfold joC; rw [pk_un h3, hB q h1 h2]
  have hC2 : joC v j o (76 + 5 * o + 2) = nI (t1 + t2) := by unfold joC; rw [pk_un (by omega), hB2]
  have hC3 : joC v j o (76 + 5 * o + 3) = nI we := by unfold joC; rw [pk_un (by omega), hB3]
  have hC4 : ∃ tn, tn ≤ 3 ∧ joC v j o (76 + 5 * o + 4) = nI tn := by
    unfold joC
    rw [pk_us, hB _ (by omega) (by omega), hB _ (by omega) (by omega), u4, y4]
    by_cases h : nI tn1 < nI tn2
    · rw [if_pos h]; exact ⟨tn1, s6, rfl⟩
    · rw [if_neg h]; exact ⟨tn2, z6, rfl⟩
  obtain ⟨tn, tn1', tn2'⟩ := hC4
  have J1 : Jv (joC v j o) nh nb ns := I.J.stk ho (fun q hq => hC q (by omega) (by omega) (by omega)) ⟨o2, b2, t1 + t2, we, tn, z1, z2, by omega, by omega, w1, tn1', (hC _ (by omega) (by omega) (by omega)).trans y0, (hC _ (by omega) (by omega) (by omega)).trans y1, hC2, hC3, tn2'⟩
  refine (J1.go hj (fun q _ => rfl) rfl).I ?_
  have q1 := sT_rm (v := joC v j o) (v1 := gGo (joC v j o) j ns) (j := j) (ns - 1) (fun k hk => by
    by_cases e : k < j
    · rw [if_pos e, gGo_n (by omega) (by omega) hj]
    · rw [if_neg e, gGo_s (by omega)]; congr 1) (by omega)
  rw [show ns - 1 + 1 = ns by omega, hC _ (by omega) (by omega) (by omega), u2, nx_nI s4] at q1
  have q2 := sT_up (v := v) (v1 := joC v j o) (j := o) ns ho (fun k hk hne => hC _ (by omega) (by omega) (by omega))
  rw [hC2, y2, nx_nI z4, nx_nI (by omega)] at q2
  rw [sC_cg (v := v) 24 (fun k hk => by rw [gGo_n (by omega) (by omega) hj, hC _ (by omega) (by omega) (by omega)])]
  have q3 := I.2.2.2.2.2.2.2.2.2
  omega
theorem ld_of {t we : Nat} (h1 : 1 ≤ t) (h2 : t ≤ 1000) (h3 : we ≤ 100000) : ∃ L, 1 ≤ L ∧ L ≤ 2001 ∧ fLoad (nI we) (nI t) = nI L := by
  refine ⟨(t * (1000 + we / 100) + 999) / 1000, ?_, ?_, ?_⟩
  · have := Nat.mul_le_mul h1 (show 1000 ≤ 1000 + we / 100 by omega)
    omega
  · have := Nat.mul_le_mul h2 (show 1000 + we / 100 ≤ 2000 by omega)
    omega
  · have h4 : t * (1000 + we / 100) ≤ 1000 * 2000 := Nat.mul_le_mul h2 (by omega)
    unfold fLoad
    rw [fW_of h3, pk_mul, nI_add, pk_div (by omega) (by omega) (by omega)]
theorem iCart {x t : Int32} (I : Iv v nh nb ns) (k : kCart v x t) : ∃ n1, Iv (hCart v x t ns) nh nb n1 := by
  obtain ⟨hn6, hb4, hs12, e1, e2, e3⟩ := I.1
  obtain ⟨j, hj, rfl, ej⟩ := gH_j e3 (by omega) k.1.1
  obtain ⟨tt, t1, t2, rfl, -⟩ := gI_j (by omega) (by omega) k.1.2
  obtain ⟨o, b, ts, we, tn, s1, s2, s3, s4, s5, s6, u0, u1, u2, u3, u4⟩ := I.2.2.2.2.2.2.2.2.1 j hj
  have hT1 := I.tot1 hj
  rw [u2, nx_nI s4] at hT1
  have hk := k.2
  rw [ej, u1, nx_nI (show b < 2 ^ 31 by omega), u2, u3] at hk
  obtain ⟨hk1, hk2⟩ := hk
  have hle : tt ≤ ts := by
    rcases Nat.lt_or_ge ts tt with q | q
    · exact absurd (nI_lt q (by omega)) hk1
    · exact q
  obtain ⟨L, L1, L2, L3⟩ := ld_of t1 t2 s5
  obtain ⟨-, ⟨S0, -, hS2, hS3⟩, ⟨wr0, -, hw2, hw3⟩⟩ := I.2.2.2.2.1 b s2
  obtain ⟨ra, -, hr2, hr3⟩ := I.2.1.2
  rw [L3, hS3, hr3, hw3, fBear_of hS2 hr2 (by omega), nI_leI (by omega) (by omega)] at hk2
  have hw : fWear (nI L) = nI ((L + 49) / 50) := by unfold fWear; rw [nI_add, pk_div (by omega) (by omega) (by omega)]
  unfold hCart
  rw [ej, u1, u0, nx_nI (show b < 2 ^ 31 by omega), nx_nI (show o < 2 ^ 31 by omega)]
  unfold gCart
  rw [u3, L3]
  generalize hd : (if caB v b (nI L) (nI tt) (76 + 5 * j + 3) ≤ nI 30000 then 1 else 2) = d
  have hd2 : d = 1 ∨ d = 2 := by rw [← hd]; split <;> omega
  have h5 := I.2.2.2.2.1 b s2
  have J1 : Jv (caB v b (nI L) (nI tt)) nh nb ns := by
    unfold caB
    refine I.J.bank s2 (fun q hq => by rw [pk_un (by omega), pk_un (by omega)]) ?_ ?_ ?_ ?_
    · rw [pk_un (by omega), pk_un (by omega)]; exact h5.1
    · rw [pk_un (by omega), pk_un (by omega)]; exact h5.2.1
    · rw [pk_un (by omega), pk_us, hw3, hw, nI_add]; exact ⟨_, by omega, by omega, rfl⟩
    · rw [pk_un (by omega), pk_un (by omega)]; exact I.2.2.2.2.2.1 b (by omega)
  have g1 : ∀ q, q ≠ 24 + 7 * b + 2 → q ≠ 24 + 7 * b + 5 → caB v b (nI L) (nI tt) q = v q := fun q h1 h2 => by unfold caB; rw [pk_un h2, pk_un h1]
  unfold caD
  generalize caB v b (nI L) (nI tt) = v1 at J1 g1 ⊢
  have J2 : Jv (upd v1 (6 + 3 * o + d) (v1 (6 + 3 * o + d) + nI tt)) nh nb ns := J1.house s1 (fun q hq => pk_un (by omega)) (by rw [pk_un (by omega)]; exact J1.2.2.1 o s1)
  have g2 : ∀ q, q ≠ 6 + 3 * o + d → upd v1 (6 + 3 * o + d) (v1 (6 + 3 * o + d) + nI tt) q = v1 q := fun q h1 => pk_un h1
  generalize upd v1 (6 + 3 * o + d) (v1 (6 + 3 * o + d) + nI tt) = v2 at J2 g2 ⊢
  have et : v2 (76 + 5 * j + 2) = nI ts := by rw [g2 _ (by omega), g1 _ (by omega) (by omega), u2]
  have h21 : ∀ q, 52 ≤ q → v2 q = v q := fun q hq => by rw [g2 _ (by omega), g1 _ (by omega) (by omega)]
  rw [et, pk_sub hle, pk_us]
  have q3 := I.2.2.2.2.2.2.2.2.2
  have q2 := sT_up (v := v) (v1 := upd v2 (76 + 5 * j + 2) (nI (ts - tt))) (j := j) ns hj (fun k hk hne => by rw [pk_un (by omega), h21 _ (by omega)])
  rw [u2, nx_nI s4, pk_us, nx_nI (by omega)] at q2
  by_cases hz : nI (ts - tt) = 0
  · rw [if_pos hz]
    have hz2 : ts - tt = 0 := by rw [← nI_z] at hz; exact (nI_eq (by omega) (by omega)).mp hz
    refine ⟨ns - 1, (J2.go hj (v0 := upd v2 (76 + 5 * j + 2) (nI (ts - tt))) (fun q hq => pk_un (by omega)) rfl).I ?_⟩
    have q1 := sT_rm (v := upd v2 (76 + 5 * j + 2) (nI (ts - tt))) (v1 := gGo (upd v2 (76 + 5 * j + 2) (nI (ts - tt))) j ns) (j := j) (ns - 1) (fun k hk => by
      by_cases e : k < j
      · rw [if_pos e, gGo_n (by omega) (by omega) hj]
      · rw [if_neg e, gGo_s (by omega)]; congr 1) (by omega)
    rw [show ns - 1 + 1 = ns by omega] at q1
    rw [sC_cg (v := v) 24 (fun k hk => by rw [gGo_n (by omega) (by omega) hj, pk_un (by omega), h21 _ (by omega)])]
    omega
  · rw [if_neg hz]
    have hz2 : ts - tt ≠ 0 := fun q => hz (by rw [q]; exact nI_z)
    refine ⟨ns, (J2.stk (v1 := upd v2 (76 + 5 * j + 2) (nI (ts - tt))) hj (fun q hq => pk_un (by omega)) ⟨o, b, ts - tt, we, tn, s1, s2, by omega, by omega, s5, s6, ?_, ?_, by rw [pk_us], ?_, ?_⟩).I ?_⟩
    · rw [pk_un (by omega), h21 _ (by omega), u0]
    · rw [pk_un (by omega), h21 _ (by omega), u1]
    · rw [pk_un (by omega), h21 _ (by omega), u3]
    · rw [pk_un (by omega), h21 _ (by omega), u4]
    · rw [sC_cg (v := v) 24 (fun k hk => by rw [pk_un (by omega), h21 _ (by omega)])]
      omega
theorem dyF_at (v : Nat → Int32) (wi ra : Int32) : ∀ i k, dyF v wi ra i (76 + 5 * k + 3) = if k < i then fDried (v (76 + 5 * k + 3)) (v (76 + 5 * k + 4)) wi ra else v (76 + 5 * k + 3) := by
  intro i
  induction i with
  | zero => intro k; rw [if_neg (by omega)]; rfl
  | succ i ih =>
    intro k
    show upd (dyF v wi ra i) (76 + 5 * i + 3) (fDried (dyF v wi ra i (76 + 5 * i + 3)) (dyF v wi ra i (76 + 5 * i + 4)) wi ra) (76 + 5 * k + 3) = _
    by_cases e : k = i
    · subst e
      rw [pk_us, ih, if_neg (by omega), if_pos (by omega), dyF_o _ _ _ _ _ (fun k => by omega)]
    · rw [pk_un (by omega), ih]
      by_cases e2 : k < i
      · rw [if_pos e2, if_pos (by omega)]
      · rw [if_neg e2, if_neg (by omega)]
theorem iDay {wi ra : Int32} (I : Iv v nh nb ns) (k : kDay wi ra) : Iv (gDay v wi ra ns) nh nb ns := by
  obtain ⟨hn6, hb4, hs12, e1, e2, e3⟩ := I.1
  obtain ⟨wn, -, hwn, rfl, -⟩ := gI_j (by omega) (by omega) k.1
  obtain ⟨rn, -, hrn, rfl, -⟩ := gI_j (by omega) (by omega) k.2
  have g1 : ∀ q, (∀ k, q ≠ 76 + 5 * k + 3) → dyF v (nI wn) (nI rn) ns q = v q := fun q h => dyF_o _ _ _ _ _ h
  have J1 : Jv (dyF v (nI wn) (nI rn) ns) nh nb ns := I.J.stks (fun q hq => g1 q (fun k => by omega)) (fun k hk => by
    obtain ⟨o, b, ts, we, tn, s1, s2, s3, s4, s5, s6, u0, u1, u2, u3, u4⟩ := I.2.2.2.2.2.2.2.2.1 k hk
    obtain ⟨w9, w1, w2⟩ := fDried_le s5 s6 hwn hrn
    exact ⟨o, b, ts, w9, tn, s1, s2, s3, s4, w1, s6, (g1 _ (fun k => by omega)).trans u0, (g1 _ (fun k => by omega)).trans u1, (g1 _ (fun k => by omega)).trans u2, by rw [dyF_at, if_pos hk, u3, u4, w2], (g1 _ (fun k => by omega)).trans u4⟩)
  unfold gDay
  refine I.sm (J1.top (fun q h0 h4 h5 => by rw [pk_un h5, pk_un h4]) (by rw [pk_un (by omega), pk_un (by omega)]; exact J1.2.1.1) (by rw [pk_un (by omega), pk_us]; exact ⟨rn, by omega, hrn, rfl⟩)) (fun k hk => by rw [pk_un (by omega), pk_un (by omega), g1 _ (fun k => by omega)]) (fun k hk => by rw [pk_un (by omega), pk_un (by omega), g1 _ (fun k => by omega)])
theorem eyF_p (I : Iv v nh nb ns) : ∀ i, i ≤ ns → ∀ q, (∀ b, b < nb → q ≠ 24 + 7 * b + 6) → eyF v i q = v q := by
  intro i
  induction i with
  | zero => intro _ q _; rfl
  | succ i ih =>
    intro hi q hq
    obtain ⟨o, b, t, we, tn, h1, h2, h3, h4, h5, h6, e0, e1, e2, e3, e4⟩ := I.2.2.2.2.2.2.2.2.1 i (by omega)
    have hb4 := I.1.2.1
    have e5 : nx (eyF v i (76 + 5 * i + 1)) = b := by rw [eyF_o I i (by omega) _ (by omega), e1]; exact nx_nI (by omega)
    show upd _ _ _ q = _
    rw [e5, pk_un (hq b h2)]
    exact ih (by omega) q hq
theorem zrF_at (w : Nat → Int32) : ∀ i q, zrF w i q = if 52 ≤ q ∧ q < 52 + i then nI 0 else w q := by
  intro i
  induction i with
  | zero => intro q; rw [if_neg (by omega)]; rfl
  | succ i ih =>
    intro q
    show upd _ _ _ q = _
    rw [upd_at, ih]
    by_cases e : q = 52 + i
    · rw [if_pos e, if_pos (show 52 ≤ q ∧ q < 52 + (i + 1) by omega)]
    · rw [if_neg e]
      by_cases e2 : 52 ≤ q ∧ q < 52 + i
      · rw [if_pos e2, if_pos (show 52 ≤ q ∧ q < 52 + (i + 1) by omega)]
      · rw [if_neg e2, if_neg (show ¬ (52 ≤ q ∧ q < 52 + (i + 1)) by omega)]
theorem gEnd_at (I : Iv v nh nb ns) (q : Nat) : gEnd v ns q = if q = 0 then v 0 + nI 1 else if q = 4 then nI 0 else if 52 ≤ q ∧ q < 76 then nI 0 else if q = 3 then nI 0 else eyF v ns q := by
  unfold gEnd
  rw [upd_at, upd_at, upd_at]
  by_cases h0 : q = 0
  · rw [if_pos h0, if_pos h0, if_neg (by omega), zrF_at, if_neg (by omega), pk_un (by omega), eyF_p I ns (Nat.le_refl _) 0 (fun b _ => by omega)]
  · rw [if_neg h0, if_neg h0]
    by_cases h4 : q = 4
    · rw [if_pos h4, if_pos h4]
    · rw [if_neg h4, if_neg h4, zrF_at]
      by_cases h5 : 52 ≤ q ∧ q < 76
      · rw [if_pos h5, if_pos (show 52 ≤ q ∧ q < 52 + 24 by omega)]
      · rw [if_neg h5, if_neg (show ¬ (52 ≤ q ∧ q < 52 + 24) by omega), upd_at]
theorem iEnd (I : Iv v nh nb ns) (k : kEnd v) : Iv (gEnd v ns) nh nb 0 := by
  obtain ⟨hn6, hb4, hs12, e1, e2, e3⟩ := I.1
  have hg := gEnd_at I
  have hv : ∀ q, q ≠ 0 → q ≠ 4 → ¬ (52 ≤ q ∧ q < 76) → q ≠ 3 → (∀ b, b < nb → q ≠ 24 + 7 * b + 6) → gEnd v ns q = v q := fun q h0 h4 h5 h3 h6 => by rw [hg, if_neg h0, if_neg h4, if_neg h5, if_neg h3, eyF_p I ns (Nat.le_refl _) q h6]
  refine ⟨⟨hn6, hb4, Nat.zero_le _, ?_, ?_, ?_⟩, ⟨?_, ?_⟩, ?_, ?_, ?_, ?_, ?_, ?_, ?_, ?_⟩
  · rw [hv 1 (by omega) (by omega) (by omega) (by omega) (fun b _ => by omega)]; exact e1
  · rw [hv 2 (by omega) (by omega) (by omega) (by omega) (fun b _ => by omega)]; exact e2
  · rw [hg, if_neg (by omega), if_neg (by omega), if_neg (by omega), if_pos rfl]
  · rw [hg, if_pos rfl]; exact I.2.1.1.up (by omega) k
  · rw [hg, if_neg (by omega), if_pos rfl]; exact ⟨0, by omega, by omega, rfl⟩
  · intro j hj; rw [hv _ (by omega) (by omega) (by omega) (by omega) (fun b _ => by omega)]; exact I.2.2.1 j hj
  · intro j hj hj2; rw [hv _ (by omega) (by omega) (by omega) (by omega) (fun b _ => by omega), hv _ (by omega) (by omega) (by omega) (by omega) (fun b _ => by omega), hv _ (by omega) (by omega) (by omega) (by omega) (fun b _ => by omega)]; exact I.2.2.2.1 j hj hj2
  · intro b hb; rw [hv _ (by omega) (by omega) (by omega) (by omega) (fun b _ => by omega), hv _ (by omega) (by omega) (by omega) (by omega) (fun b _ => by omega), hv _ (by omega) (by omega) (by omega) (by omega) (fun b _ => by omega)]; exact I.2.2.2.2.1 b hb
  · intro b hb; rw [hv _ (by omega) (by omega) (by omega) (by omega) (fun b _ => by omega)]; exact I.2.2.2.2.2.1 b hb
  · intro b hb hb2 q hq; rw [hv _ (by omega) (by omega) (by omega) (by omega) (fun b _ => by omega)]; exact I.2.2.2.2.2.2.1 b hb hb2 q hq
  · intro j b hj hb; rw [hg, if_neg (by omega), if_neg (by omega), if_pos (by omega)]; exact ⟨⟨0, by omega, by omega, rfl⟩, fun _ => rfl⟩
  · intro k hk; omega
  · exact Nat.zero_le _
/-! signs -/
abbrev Sg (k : Prop) (r : Int32) : Prop := (k → ¬ r < 0) ∧ (¬ k → r < 0)
theorem sgCome {sp : Int32} (I : Iv v nh nb ns) : Sg (kCome v sp) (rCome v sp) := by
  obtain ⟨hn6, hb4, hs12, e1, e2, e3⟩ := I.1
  unfold rCome
  refine ⟨fun k => ?_, fun k => ?_⟩
  · rw [if_pos k.1, if_neg k.2, e1]; exact n_nn (by omega)
  · by_cases h : gI sp (nI 1) (nI 9)
    · by_cases h2 : v 1 = nI 6
      · rw [if_pos h, if_pos h2]; decide
      · exact absurd ⟨h, h2⟩ k
    · rw [if_neg h]; decide
theorem sgSet {x sp : Int32} (I : Iv v nh nb ns) : Sg (kSet v x sp) (rSet v x sp) := by
  obtain ⟨hn6, hb4, hs12, e1, e2, e3⟩ := I.1
  unfold rSet
  refine ⟨fun k => ?_, fun k => ?_⟩
  · obtain ⟨i, hi, rfl, ei⟩ := gH_j e1 (by omega) k.1
    rw [if_pos k, ei]; exact (I.2.2.1 i hi).nn (by omega)
  · rw [if_neg k]; decide
theorem sgAdd {al st : Int32} (I : Iv v nh nb ns) : Sg (kAdd v al st) (rAdd v al st) := by
  obtain ⟨hn6, hb4, hs12, e1, e2, e3⟩ := I.1
  unfold rAdd
  refine ⟨fun k => ?_, fun k => ?_⟩
  · rw [if_pos k.1, if_neg k.2, e2]; exact n_nn (by omega)
  · by_cases h : gI al (nI 0) (nI 5000) ∧ gI st (nI 100) (nI 3000)
    · by_cases h2 : v 2 = nI 4
      · rw [if_pos h, if_pos h2]; decide
      · exact absurd ⟨h, h2⟩ k
    · rw [if_neg h]; decide
theorem sgAllow {x al : Int32} (I : Iv v nh nb ns) : Sg (kAllow v x al) (rAllow v x al) := by
  obtain ⟨hn6, hb4, hs12, e1, e2, e3⟩ := I.1
  unfold rAllow
  refine ⟨fun k => ?_, fun k => ?_⟩
  · obtain ⟨b, hb, rfl, eb⟩ := gH_j e2 (by omega) k.1
    rw [if_pos k, eb]; exact (I.2.2.2.2.1 b hb).1.nn (by omega)
  · rw [if_neg k]; decide
theorem fOnes_n (x : Int32) : ∀ n, ∃ k, k ≤ n ∧ fOnes x n = nI k := by
  intro n
  induction n with
  | zero => exact ⟨0, Nat.le_refl _, rfl⟩
  | succ n ih =>
    obtain ⟨k, k1, k2⟩ := ih
    show ∃ k, k ≤ n + 1 ∧ fOnes x n + bt x n = nI k
    rw [k2]
    rcases bt_b x n with e | e
    · rw [e, ← nI_z, nI_add]; exact ⟨k + 0, by omega, rfl⟩
    · rw [e, ← nI_t, nI_add]; exact ⟨k + 1, by omega, rfl⟩
theorem sgGrant {x y is : Int32} (I : Iv v nh nb ns) : Sg (kGrant v x y is) (rGrant v x y is) := by
  unfold rGrant
  refine ⟨fun k => ?_, fun k => ?_⟩
  · obtain ⟨q, q1, q2⟩ := fOnes_n (sGrant (v (24 + 7 * nx y + 3)) (nx x) is) 6
    rw [if_pos k, q2]; exact n_nn (by omega)
  · rw [if_neg k]; decide
theorem sgCut {x y t : Int32} (I : Iv v nh nb ns) : Sg (kCut v nh x y t) (rCut v nh x y t) := by
  obtain ⟨hn6, hb4, hs12, e1, e2, e3⟩ := I.1
  unfold rCut
  refine ⟨fun k => ?_, fun k => ?_⟩
  · rw [if_pos k.1, if_pos k.2.1, if_neg k.2.2, e3]; exact n_nn (by omega)
  · by_cases h : gH (v 1) x ∧ gH (v 2) y ∧ gI t (nI 1) (nI 1000)
    · by_cases h2 : t ≤ fMay v nh (nx x) (nx y)
      · by_cases h3 : v 3 = nI 12
        · rw [if_pos h, if_pos h2, if_pos h3]; decide
        · exact absurd ⟨h, h2, h3⟩ k
      · rw [if_pos h, if_neg h2]; decide
    · rw [if_neg h]; decide
theorem sgTurn {x : Int32} (I : Iv v nh nb ns) : Sg (kTurn v x) (rTurn v x) := by
  obtain ⟨hn6, hb4, hs12, e1, e2, e3⟩ := I.1
  unfold rTurn
  refine ⟨fun k => ?_, fun k => ?_⟩
  · obtain ⟨j, hj, rfl, ej⟩ := gH_j e3 (by omega) k.1
    obtain ⟨o, b, ts, we, tn, s1, s2, s3, s4, s5, s6, u0, u1, u2, u3, u4⟩ := I.2.2.2.2.2.2.2.2.1 j hj
    rw [if_pos k.1, if_neg k.2, ej, u4, nI_add]; exact n_nn (by omega)
  · by_cases h : gH (v 3) x
    · by_cases h2 : v (76 + 5 * nx x + 4) = nI 3
      · rw [if_pos h, if_pos h2]; decide
      · exact absurd ⟨h, h2⟩ k
    · rw [if_neg h]; decide
theorem sgJoin {x y : Int32} (I : Iv v nh nb ns) : Sg (kJoin v x y) (rJoin v x y) := by
  obtain ⟨hn6, hb4, hs12, e1, e2, e3⟩ := I.1
  unfold rJoin
  refine ⟨fun k => ?_, fun k => ?_⟩
  · obtain ⟨j, hj, rfl, ej⟩ := gH_j e3 (by omega) k.1.1
    obtain ⟨o, ho, rfl, eo⟩ := gH_j e3 (by omega) k.1.2.1
    have hne : j ≠ o := fun q => k.1.2.2 (by rw [q])
    have hTT := I.tot hj ho hne
    obtain ⟨o1, b1, t1, we1, tn1, s1, s2, s3, s4, s5, s6, u0, u1, u2, u3, u4⟩ := I.2.2.2.2.2.2.2.2.1 j hj
    obtain ⟨o2, b2, t2, we2, tn2, z1, z2, z3, z4, z5, z6, y0, y1, y2, y3, y4⟩ := I.2.2.2.2.2.2.2.2.1 o ho
    rw [u2, y2, nx_nI s4, nx_nI z4] at hTT
    rw [if_pos k.1, if_pos k.2, ej, eo, u2, y2, nI_add]; exact n_nn (by omega)
  · by_cases h : gH (v 3) x ∧ gH (v 3) y ∧ ¬ x = y
    · by_cases h2 : v (76 + 5 * nx x + 0) = v (76 + 5 * nx y + 0) ∧ v (76 + 5 * nx x + 1) = v (76 + 5 * nx y + 1)
      · exact absurd ⟨h, h2⟩ k
      · rw [if_pos h, if_neg h2]; decide
    · rw [if_neg h]; decide
theorem sgCart {x t : Int32} (I : Iv v nh nb ns) : Sg (kCart v x t) (rCart v x t) := by
  obtain ⟨hn6, hb4, hs12, e1, e2, e3⟩ := I.1
  unfold rCart
  refine ⟨fun k => ?_, fun k => ?_⟩
  · rw [if_pos k.1, if_pos k.2]
    obtain ⟨j, hj, rfl, ej⟩ := gH_j e3 (by omega) k.1.1
    obtain ⟨tt, t1, t2, rfl, -⟩ := gI_j (by omega) (by omega) k.1.2
    obtain ⟨o, b, ts, we, tn, s1, s2, s3, s4, s5, s6, u0, u1, u2, u3, u4⟩ := I.2.2.2.2.2.2.2.2.1 j hj
    obtain ⟨L, L1, L2, L3⟩ := ld_of t1 t2 s5
    rw [ej, u3, L3]; exact n_nn (by omega)
  · by_cases h : gH (v 3) x ∧ gI t (nI 1) (nI 1000)
    · rw [if_pos h, if_neg (fun h2 => k ⟨h, h2⟩)]; decide
    · rw [if_neg h]; decide
theorem sgRep {x : Int32} (I : Iv v nh nb ns) : Sg (kRep v x) (rRep v x) := by
  obtain ⟨hn6, hb4, hs12, e1, e2, e3⟩ := I.1
  unfold rRep
  refine ⟨fun k => ?_, fun k => ?_⟩
  · obtain ⟨b, hb, rfl, eb⟩ := gH_j e2 (by omega) k
    rw [if_pos k, eb]; exact (I.2.2.2.2.1 b hb).2.2.nn (by omega)
  · rw [if_neg k]; decide
theorem fDryN_n (v : Nat → Int32) : ∀ n, ∃ k, k ≤ n ∧ fDryN v n = nI k := by
  intro n
  induction n with
  | zero => exact ⟨0, Nat.le_refl _, rfl⟩
  | succ n ih =>
    obtain ⟨k, k1, k2⟩ := ih
    show ∃ k, k ≤ n + 1 ∧ fDryN v n + _ = nI k
    rw [k2]
    by_cases e : v (76 + 5 * n + 3) ≤ nI 30000
    · rw [if_pos e, nI_add]; exact ⟨k + 1, by omega, rfl⟩
    · rw [if_neg e, nI_add]; exact ⟨k + 0, by omega, rfl⟩
theorem sgDay {wi ra : Int32} (I : Iv v nh nb ns) : Sg (kDay wi ra) (rDay v wi ra ns) := by
  obtain ⟨hn6, hb4, hs12, e1, e2, e3⟩ := I.1
  unfold rDay
  refine ⟨fun k => ?_, fun k => ?_⟩
  · obtain ⟨q, q1, q2⟩ := fDryN_n (gDay v wi ra ns) ns
    rw [if_pos k, q2]; exact n_nn (by omega)
  · rw [if_neg k]; decide
theorem eyS_n (I : Iv v nh nb ns) : ∀ i, i ≤ ns → eyS v i = nI (sT v i) := by
  intro i
  induction i with
  | zero => intro _; rfl
  | succ i ih =>
    intro hi
    obtain ⟨o, b, ts, we, tn, s1, s2, s3, s4, s5, s6, u0, u1, u2, u3, u4⟩ := I.2.2.2.2.2.2.2.2.1 i (by omega)
    show eyS v i + eyF v i (76 + 5 * i + 2) = nI (sT v i + nx (v (76 + 5 * i + 2)))
    rw [ih (by omega), eyF_o I i (by omega) _ (by omega), u2, nx_nI s4, nI_add]
theorem sgEnd (I : Iv v nh nb ns) : Sg (kEnd v) (rEnd v ns) := by
  unfold rEnd
  refine ⟨fun k => ?_, fun k => ?_⟩
  · rw [if_pos k, eyS_n I ns (Nat.le_refl _)]
    have h1 := I.2.2.2.2.2.2.2.2.2
    have h2 := I.cB
    exact n_nn (by omega)
  · rw [if_neg k]; decide
end IVT
