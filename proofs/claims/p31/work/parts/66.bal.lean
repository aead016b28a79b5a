/-! what was cut at a bank is in stacks, carted or left: the law's 'whole', kept by every action -/
theorem a3 (a b c : Int32) : a + b + c = a + c + b := by rw [Int32.add_assoc, Int32.add_comm b, ← Int32.add_assoc]
section BAL
variable {v v1 : Nat → Int32} {nh nb ns nh1 j : Nat} {b d : Int32}
theorem fT_cg : ∀ n, (∀ k, k < n → v1 (76 + 5 * k + 1) = v (76 + 5 * k + 1) ∧ v1 (76 + 5 * k + 2) = v (76 + 5 * k + 2)) → fTurfsAt v1 b n = fTurfsAt v b n := by
  intro n
  induction n with
  | zero => intro _; rfl
  | succ n ih =>
    intro h
    show fTurfsAt v1 b n + _ = fTurfsAt v b n + _
    rw [ih (fun k hk => h k (by omega)), (h n (by omega)).1, (h n (by omega)).2]
theorem fT_s (v : Nat → Int32) (b : Int32) (n : Nat) : fTurfsAt v b (n + 1) = fTurfsAt v b n + (if v (76 + 5 * n + 1) = b then v (76 + 5 * n + 2) else nI 0) := rfl
theorem fT_up : ∀ n, j < n → (∀ k, k < n → v1 (76 + 5 * k + 1) = v (76 + 5 * k + 1)) → (∀ k, k < n → k ≠ j → v1 (76 + 5 * k + 2) = v (76 + 5 * k + 2)) → v1 (76 + 5 * j + 2) = v (76 + 5 * j + 2) + d → fTurfsAt v1 b n = fTurfsAt v b n + (if v (76 + 5 * j + 1) = b then d else nI 0) := by
  intro n
  induction n with
  | zero => intro h; omega
  | succ n ih =>
    intro hj h1 h2 h3
    rw [fT_s, fT_s]
    by_cases e : j = n
    · subst e
      rw [fT_cg j (fun k hk => ⟨h1 k (by omega), h2 k (by omega) (by omega)⟩), h1 j (by omega), h3]
      by_cases c : v (76 + 5 * j + 1) = b
      · rw [if_pos c, if_pos c, if_pos c, Int32.add_assoc]
      · rw [if_neg c, if_neg c, if_neg c, add_n0, add_n0]
    · rw [ih (by omega) (fun k hk => h1 k (by omega)) (fun k hk => h2 k (by omega)) h3, h1 n (by omega), h2 n (by omega) (by omega)]
      exact a3 _ _ _
theorem fT_rm : ∀ n, j ≤ n → (∀ k, k < n → v1 (76 + 5 * k + 1) = if k < j then v (76 + 5 * k + 1) else v (76 + 5 * (k + 1) + 1)) → (∀ k, k < n → v1 (76 + 5 * k + 2) = if k < j then v (76 + 5 * k + 2) else v (76 + 5 * (k + 1) + 2)) → fTurfsAt v1 b n + (if v (76 + 5 * j + 1) = b then v (76 + 5 * j + 2) else nI 0) = fTurfsAt v b (n + 1) := by
  intro n
  induction n with
  | zero => intro h _ _; obtain rfl : j = 0 := by omega
            rfl
  | succ n ih =>
    intro hj h1 h2
    by_cases e : j = n + 1
    · rw [fT_s v b (n + 1), e, fT_cg (n + 1) (fun k hk => ⟨by rw [h1 k hk, if_pos (by omega)], by rw [h2 k hk, if_pos (by omega)]⟩)]
    · rw [fT_s v b (n + 1), ← ih (by omega) (fun k hk => h1 k (by omega)) (fun k hk => h2 k (by omega)), fT_s v1 b n, h1 n (by omega), h2 n (by omega), if_neg (show ¬ n < j by omega), if_neg (show ¬ n < j by omega)]
      exact a3 _ _ _
theorem W2.cg (W : W2 v nh ns) (h3 : ∀ q, 24 ≤ q → q < 52 → 3 ≤ (q - 24) % 7 → v1 q = v q) (hs : ∀ k, k < ns → v1 (76 + 5 * k + 1) = v (76 + 5 * k + 1) ∧ v1 (76 + 5 * k + 2) = v (76 + 5 * k + 2)) (hn : nh ≤ nh1) : W2 v1 nh1 ns := by
  refine ⟨fun j hj => ?_, fun b hb k h1 h2 => ?_⟩
  · rw [h3 (24 + 7 * j + 4) (by omega) (by omega) (by omega), h3 (24 + 7 * j + 5) (by omega) (by omega) (by omega), h3 (24 + 7 * j + 6) (by omega) (by omega) (by omega), fT_cg ns hs]
    exact W.1 j hj
  · rw [h3 (24 + 7 * b + 3) (by omega) (by omega) (by omega)]
    exact W.2 b hb k (by omega) h2
theorem isN.mono {x : Int32} {lo hi hi1 : Nat} (h : isN x lo hi) (hh : hi ≤ hi1) : isN x lo hi1 := by
  obtain ⟨j, h1, h2, h3⟩ := h
  exact ⟨j, h1, by omega, h3⟩
theorem w2Come {sp : Int32} (I : Iv v nh nb ns) (W : W2 v nh ns) (hn : nh < 6) : W2 (gCome v sp nh) (nh + 1) ns :=
  W.cg (fun q h1 h2 h3 => by rw [gCome_eq I sp hn, upd_at, upd_at, if_neg (by omega), if_neg (by omega)]) (fun k hk => ⟨by rw [gCome_eq I sp hn, upd_at, upd_at, if_neg (by omega), if_neg (by omega)], by rw [gCome_eq I sp hn, upd_at, upd_at, if_neg (by omega), if_neg (by omega)]⟩) (by omega)
theorem w2Add {al st : Int32} (I : Iv v nh nb ns) (W : W2 v nh ns) (hn : nb < 4) : W2 (gAdd v al st nb) nh ns :=
  W.cg (fun q h1 h2 h3 => by rw [gAdd_eq I al st hn, upd_at, upd_at, upd_at, if_neg (by omega), if_neg (by omega), if_neg (by omega)]) (fun k hk => ⟨by rw [gAdd_eq I al st hn, upd_at, upd_at, upd_at, if_neg (by omega), if_neg (by omega), if_neg (by omega)], by rw [gAdd_eq I al st hn, upd_at, upd_at, upd_at, if_neg (by omega), if_neg (by omega), if_neg (by omega)]⟩) (Nat.le_refl _)
theorem w2Upd {i : Nat} {c : Int32} (W : W2 v nh ns) (h1 : i < 24 ∨ 76 ≤ i ∨ (i - 24) % 7 < 3) (h2 : i < 76 ∨ 2 < (i - 76) % 5) : W2 (upd v i c) nh ns :=
  W.cg (fun q a1 a2 a3 => by rw [upd_at, if_neg (by omega)]) (fun k hk => ⟨by rw [upd_at, if_neg (by omega)], by rw [upd_at, if_neg (by omega)]⟩) (Nat.le_refl _)
theorem w2Grant {x y is : Int32} (I : Iv v nh nb ns) (W : W2 v nh ns) (k : kGrant v x y is) : W2 (gGrant v x y is) nh ns := by
  obtain ⟨hn6, hb4, hs12, e1, e2, e3⟩ := I.1
  obtain ⟨j, hj, rfl, ej⟩ := gH_j e1 (by omega) k.1
  obtain ⟨bb, hb, rfl, eb⟩ := gH_j e2 (by omega) k.2.1
  obtain ⟨i, i1, i2, rfl, ei⟩ := gI_j (by omega) (by omega) k.2.2
  obtain ⟨Z, z1, z2, z3⟩ := I.2.2.2.2.2.1 bb (by omega)
  unfold gGrant
  rw [ej, eb]
  refine ⟨fun r hr => ?_, fun r hr q h1 h2 => ?_⟩
  · rw [upd_at, upd_at, upd_at, if_neg (by omega), if_neg (by omega), if_neg (by omega), fT_cg ns (fun k hk => ⟨by rw [upd_at, if_neg (by omega)], by rw [upd_at, if_neg (by omega)]⟩)]
    exact W.1 r hr
  · rw [upd_at]
    by_cases e : r = bb
    · subst e
      rw [if_pos rfl, z3, sGrant_bt Z (by omega) j (by omega) i (by omega) q h2, if_neg (by omega), ← z3]
      exact W.2 r hr q h1 h2
    · rw [if_neg (by omega)]
      exact W.2 r hr q h1 h2
theorem w2Day {wi ra : Int32} (W : W2 v nh ns) : W2 (gDay v wi ra ns) nh ns :=
  W.cg (fun q h1 h2 h3 => by unfold gDay; rw [pk_un (by omega), pk_un (by omega), dyF_o _ _ _ _ _ (fun k => by omega)]) (fun k hk => ⟨by unfold gDay; rw [pk_un (by omega), pk_un (by omega), dyF_o _ _ _ _ _ (fun k => by omega)], by unfold gDay; rw [pk_un (by omega), pk_un (by omega), dyF_o _ _ _ _ _ (fun k => by omega)]⟩) (Nat.le_refl _)
theorem eyF_6 (I : Iv v nh nb ns) {r : Nat} (hr : r < 4) : ∀ i, i ≤ ns → eyF v i (24 + 7 * r + 6) = v (24 + 7 * r + 6) + fTurfsAt v (nI r) i := by
  intro i
  induction i with
  | zero => intro _; exact (add_n0 _).symm
  | succ i ih =>
    intro hi
    obtain ⟨o, bb, t, we, tn, h1, h2, h3, h4, h5, h6, e0, e1, e2, e3, e4⟩ := I.2.2.2.2.2.2.2.2.1 i (by omega)
    have hb4 := I.1.2.1
    have e5 : eyF v i (76 + 5 * i + 1) = nI bb := by rw [eyF_o I i (by omega) _ (by omega), e1]
    show upd _ _ _ (24 + 7 * r + 6) = _
    rw [e5, nx_nI (show bb < 2 ^ 31 by omega), eyF_o I i (by omega) (76 + 5 * i + 2) (by omega), upd_at, fT_s, e1]
    by_cases e : r = bb
    · subst e
      rw [if_pos rfl, if_pos rfl, ih (by omega), Int32.add_assoc]
    · rw [if_neg (by omega), if_neg (fun q => e ((nI_eq (by omega) (by omega)).mp q).symm), ih (by omega), add_n0]
theorem w2End (I : Iv v nh nb ns) (W : W2 v nh ns) : W2 (gEnd v ns) nh 0 := by
  refine ⟨fun r hr => ?_, fun r hr q h1 h2 => ?_⟩
  · rw [gEnd_at I, gEnd_at I, gEnd_at I, if_neg (by omega), if_neg (by omega), if_neg (by omega), if_neg (by omega), if_neg (by omega), if_neg (by omega), if_neg (by omega), if_neg (by omega), if_neg (by omega), if_neg (by omega), if_neg (by omega), if_neg (by omega), eyF_6 I hr ns (Nat.le_refl _), eyF_p I ns (Nat.le_refl _) (24 + 7 * r + 4) (fun b hb => by omega), eyF_p I ns (Nat.le_refl _) (24 + 7 * r + 5) (fun b hb => by omega), W.1 r hr]
    show _ = nI 0 + _ + _
    rw [nI_z, Int32.zero_add, Int32.add_assoc, Int32.add_comm]
    rw [Int32.add_assoc]
  · rw [gEnd_at I, if_neg (by omega), if_neg (by omega), if_neg (by omega), if_neg (by omega), eyF_p I ns (Nat.le_refl _) (24 + 7 * r + 3) (fun b hb => by omega)]
    exact W.2 r hr q h1 h2
theorem gCut_at {j bb : Nat} {t : Int32} (hj : j < 6) (hb : bb < 4) (hs : ns < 12) (q : Nat) : gCut v ns (nI j) (nI bb) t q = if q = 3 then v 3 + nI 1 else if q = 76 + 5 * ns + 4 then nI 0 else if q = 76 + 5 * ns + 3 then nI 100000 else if q = 76 + 5 * ns + 2 then t else if q = 76 + 5 * ns + 1 then nI bb else if q = 76 + 5 * ns then nI j else if q = 24 + 7 * bb + 4 then v (24 + 7 * bb + 4) + t else if q = 52 + 4 * j + bb then v (52 + 4 * j + bb) + t else v q := by
  have e1 : nx (nI j) = j := nx_nI (by omega)
  have e2 : nx (nI bb) = bb := nx_nI (by omega)
  unfold gCut
  rw [e1, e2]
  have h3 : cuB (cuA v j bb t) ns j bb t 3 = v 3 := by
    unfold cuB cuA
    simp only [upd_at]
    rw [if_neg (by omega), if_neg (by omega), if_neg (by omega), if_neg (by omega), if_neg (by omega), if_neg (by omega), if_neg (by omega)]
  have h4 : upd v (52 + 4 * j + bb) (v (52 + 4 * j + bb) + t) (24 + 7 * bb + 4) = v (24 + 7 * bb + 4) := pk_un (by omega)
  rw [h3]
  unfold cuB cuA
  rw [h4]
  simp only [upd_at]
  rfl
theorem w2Cut {x y t : Int32} (I : Iv v nh nb ns) (W : W2 v nh ns) (k : kCut v nh x y t) : W2 (gCut v ns x y t) nh (ns + 1) := by
  obtain ⟨hn6, hb4, hs12, e1, e2, e3⟩ := I.1
  obtain ⟨j, hj, rfl, ej⟩ := gH_j e1 (by omega) k.1.1
  obtain ⟨bb, hb, rfl, eb⟩ := gH_j e2 (by omega) k.1.2.1
  have hs : ns < 12 := by
    rcases Nat.lt_or_ge ns 12 with q | q
    · exact q
    · exact absurd (by rw [e3]; exact congrArg nI (by omega)) k.2.2
  have G := gCut_at (v := v) (ns := ns) (j := j) (bb := bb) (t := t) (by omega) (by omega) hs
  refine ⟨fun r hr => ?_, fun r hr q h1 h2 => ?_⟩
  · have f1 : fTurfsAt (gCut v ns (nI j) (nI bb) t) (nI r) ns = fTurfsAt v (nI r) ns := fT_cg ns (fun k hk => ⟨by rw [G, if_neg (by omega), if_neg (by omega), if_neg (by omega), if_neg (by omega), if_neg (by omega), if_neg (by omega), if_neg (by omega), if_neg (by omega)], by rw [G, if_neg (by omega), if_neg (by omega), if_neg (by omega), if_neg (by omega), if_neg (by omega), if_neg (by omega), if_neg (by omega), if_neg (by omega)]⟩)
    have f2 : gCut v ns (nI j) (nI bb) t (76 + 5 * ns + 1) = nI bb := by rw [G, if_neg (by omega), if_neg (by omega), if_neg (by omega), if_neg (by omega), if_pos rfl]
    have f3 : gCut v ns (nI j) (nI bb) t (76 + 5 * ns + 2) = t := by rw [G, if_neg (by omega), if_neg (by omega), if_neg (by omega), if_pos rfl]
    have f5 : gCut v ns (nI j) (nI bb) t (24 + 7 * r + 5) = v (24 + 7 * r + 5) := by rw [G, if_neg (by omega), if_neg (by omega), if_neg (by omega), if_neg (by omega), if_neg (by omega), if_neg (by omega), if_neg (by omega), if_neg (by omega)]
    have f6 : gCut v ns (nI j) (nI bb) t (24 + 7 * r + 6) = v (24 + 7 * r + 6) := by rw [G, if_neg (by omega), if_neg (by omega), if_neg (by omega), if_neg (by omega), if_neg (by omega), if_neg (by omega), if_neg (by omega), if_neg (by omega)]
    rw [fT_s, f1, f2, f3, f5, f6]
    by_cases e : r = bb
    · subst e
      have f4 : gCut v ns (nI j) (nI r) t (24 + 7 * r + 4) = v (24 + 7 * r + 4) + t := by rw [G, if_neg (by omega), if_neg (by omega), if_neg (by omega), if_neg (by omega), if_neg (by omega), if_neg (by omega), if_pos rfl]
      rw [f4, if_pos rfl, W.1 r hr, a3 _ _ t, a3 _ _ t]
    · have f4 : gCut v ns (nI j) (nI bb) t (24 + 7 * r + 4) = v (24 + 7 * r + 4) := by rw [G, if_neg (by omega), if_neg (by omega), if_neg (by omega), if_neg (by omega), if_neg (by omega), if_neg (by omega), if_neg (by omega), if_neg (by omega)]
      rw [f4, if_neg (fun q => e ((nI_eq (by omega) (by omega)).mp q).symm), add_n0]
      exact W.1 r hr
  · rw [G, if_neg (by omega), if_neg (by omega), if_neg (by omega), if_neg (by omega), if_neg (by omega), if_neg (by omega), if_neg (by omega), if_neg (by omega)]
    exact W.2 r hr q h1 h2
/-- a stack goes -/
theorem fT_go {j : Nat} (hj : j < ns) : fTurfsAt (gGo v j ns) b (ns - 1) + (if v (76 + 5 * j + 1) = b then v (76 + 5 * j + 2) else nI 0) = fTurfsAt v b ns := by
  have q := fT_rm (v := v) (v1 := gGo v j ns) (b := b) (j := j) (ns - 1) (by omega) (fun k hk => by
    by_cases e : k < j
    · rw [if_pos e, gGo_n (by omega) (by omega) hj]
    · rw [if_neg e, gGo_s (by omega)]; congr 1) (fun k hk => by
    by_cases e : k < j
    · rw [if_pos e, gGo_n (by omega) (by omega) hj]
    · rw [if_neg e, gGo_s (by omega)]; congr 1)
  rw [show ns - 1 + 1 = ns by omega] at q
  exact q
theorem joC_n {j o q : Nat} (h1 : q ≠ 76 + 5 * o + 2) (h2 : q ≠ 76 + 5 * o + 3) (h3 : q ≠ 76 + 5 * o + 4) : joC v j o q = v q := by unfold joC joB; rw [pk_un h3, pk_un h2, pk_un h1]
theorem joC_2 {j o : Nat} : joC v j o (76 + 5 * o + 2) = v (76 + 5 * o + 2) + v (76 + 5 * j + 2) := by unfold joC joB; rw [pk_un (by omega), pk_un (by omega), pk_us, Int32.add_comm]
theorem add_can {a c x : Int32} (h : a + x = c + x) : a = c := by
  have := congrArg (fun q => q - x) h
  simpa [Int32.add_sub_cancel] using this
theorem w2Join {x y : Int32} (I : Iv v nh nb ns) (W : W2 v nh ns) (k : kJoin v x y) : W2 (gJoin v x y ns) nh (ns - 1) := by
  obtain ⟨hn6, hb4, hs12, e1, e2, e3⟩ := I.1
  obtain ⟨j, hj, rfl, ej⟩ := gH_j e3 (by omega) k.1.1
  obtain ⟨o, ho, rfl, eo⟩ := gH_j e3 (by omega) k.1.2.1
  have hne : j ≠ o := fun q => k.1.2.2 (by rw [q])
  have hb := k.2.2
  rw [ej, eo] at hb
  unfold gJoin
  rw [ej, eo]
  have G : ∀ q, q < 76 → q ≠ 3 → gGo (joC v j o) j ns q = v q := fun q h1 h2 => by rw [gGo_n h2 (by omega) hj, joC_n (by omega) (by omega) (by omega)]
  refine ⟨fun r hr => ?_, fun r hr q h1 h2 => ?_⟩
  · rw [G _ (by omega) (by omega), G _ (by omega) (by omega), G _ (by omega) (by omega)]
    have q1 := fT_go (v := joC v j o) (b := nI r) hj
    rw [joC_n (by omega) (by omega) (by omega), joC_n (by omega) (by omega) (by omega)] at q1
    have q2 := fT_up (v := v) (v1 := joC v j o) (j := o) (b := nI r) (d := v (76 + 5 * j + 2)) ns ho (fun k hk => joC_n (by omega) (by omega) (by omega)) (fun k hk hne => joC_n (by omega) (by omega) (by omega)) joC_2
    rw [q2, ← hb] at q1
    rw [add_can q1]
    exact W.1 r hr
  · rw [G _ (by omega) (by omega)]
    exact W.2 r hr q h1 h2
theorem caD_e {j bb o d : Nat} {L t : Int32} (hb : bb < 4) (ho : o < 6) (hd : d = 1 ∨ d = 2) (q : Nat) : caD v j bb o L t d q = if q = 76 + 5 * j + 2 then v (76 + 5 * j + 2) - t else if q = 6 + 3 * o + d then v (6 + 3 * o + d) + t else if q = 24 + 7 * bb + 5 then v (24 + 7 * bb + 5) + t else if q = 24 + 7 * bb + 2 then v (24 + 7 * bb + 2) + fWear L else v q := by
  have h1 : ∀ q, (q < 24 ∨ 52 ≤ q) → caB v bb L t q = v q := fun q hq => by unfold caB; rw [pk_un (by omega), pk_un (by omega)]
  have h2 : caB v bb L t (76 + 5 * j + 2) = v (76 + 5 * j + 2) := h1 _ (by omega)
  have h3 : caB v bb L t (6 + 3 * o + d) = v (6 + 3 * o + d) := h1 _ (by omega)
  unfold caD
  rw [pk_un (show 76 + 5 * j + 2 ≠ 6 + 3 * o + d by omega), h2, h3]
  unfold caB
  rw [pk_un (show 24 + 7 * bb + 5 ≠ 24 + 7 * bb + 2 by omega)]
  simp only [upd_at]
/-- a cart, in numbers: what the row is then -/
theorem w2Cart {x t : Int32} {n1 : Nat} (I : Iv v nh nb ns) (W : W2 v nh ns) (k : kCart v x t) (I1 : Iv (hCart v x t ns) nh nb n1) : W2 (hCart v x t ns) nh n1 := by
  obtain ⟨hn6, hb4, hs12, e1, e2, e3⟩ := I.1
  obtain ⟨j, hj, rfl, ej⟩ := gH_j e3 (by omega) k.1.1
  obtain ⟨o, bb, ts, we, tn, s1, s2, s3, s4, s5, s6, u0, u1, u2, u3, u4⟩ := I.2.2.2.2.2.2.2.2.1 j hj
  unfold hCart at I1 ⊢
  rw [ej, u1, u0, nx_nI (show bb < 2 ^ 31 by omega), nx_nI (show o < 2 ^ 31 by omega)] at I1 ⊢
  unfold gCart at I1 ⊢
  generalize hd : (if caB v bb (fLoad (v (76 + 5 * j + 3)) t) t (76 + 5 * j + 3) ≤ nI 30000 then 1 else 2) = d at I1 ⊢
  have hd2 : d = 1 ∨ d = 2 := by rw [← hd]; split <;> omega
  generalize fLoad (v (76 + 5 * j + 3)) t = L at I1 ⊢
  have C := caD_e (v := v) (j := j) (bb := bb) (o := o) (d := d) (L := L) (t := t) (by omega) (by omega) hd2
  have c1 : ∀ k, caD v j bb o L t d (76 + 5 * k + 1) = v (76 + 5 * k + 1) := fun k => by rw [C, if_neg (by omega), if_neg (by omega), if_neg (by omega), if_neg (by omega)]
  have c2 : ∀ k, k ≠ j → caD v j bb o L t d (76 + 5 * k + 2) = v (76 + 5 * k + 2) := fun k hk => by rw [C, if_neg (by omega), if_neg (by omega), if_neg (by omega), if_neg (by omega)]
  have c3 : caD v j bb o L t d (76 + 5 * j + 2) = v (76 + 5 * j + 2) + -t := by rw [C, if_pos rfl, Int32.sub_eq_add_neg]
  have c4 : ∀ r, r < 4 → caD v j bb o L t d (24 + 7 * r + 4) = v (24 + 7 * r + 4) := fun r hr => by rw [C, if_neg (by omega), if_neg (by omega), if_neg (by omega), if_neg (by omega)]
  have c6 : ∀ r, r < 4 → caD v j bb o L t d (24 + 7 * r + 6) = v (24 + 7 * r + 6) := fun r hr => by rw [C, if_neg (by omega), if_neg (by omega), if_neg (by omega), if_neg (by omega)]
  have c7 : ∀ r, r < 4 → caD v j bb o L t d (24 + 7 * r + 3) = v (24 + 7 * r + 3) := fun r hr => by rw [C, if_neg (by omega), if_neg (by omega), if_neg (by omega), if_neg (by omega)]
  have c5 : ∀ r, r < 4 → caD v j bb o L t d (24 + 7 * r + 5) = v (24 + 7 * r + 5) + (if nI bb = nI r then t else nI 0) := fun r hr => by
    rw [C, if_neg (by omega), if_neg (by omega)]
    by_cases e : r = bb
    · subst e; rw [if_pos rfl, if_pos rfl]
    · rw [if_neg (by omega), if_neg (by omega), if_neg (fun q => e ((nI_eq (by omega) (by omega)).mp q).symm), add_n0]
  have F : ∀ r, fTurfsAt (caD v j bb o L t d) (nI r) ns = fTurfsAt v (nI r) ns + (if nI bb = nI r then -t else nI 0) := fun r => by
    have q := fT_up (v := v) (v1 := caD v j bb o L t d) (j := j) (b := nI r) (d := -t) ns hj (fun k hk => c1 k) (fun k hk hne => c2 k hne) c3
    rw [u1] at q
    exact q
  have key : ∀ r, r < 4 → ∀ T : Int32, T = fTurfsAt (caD v j bb o L t d) (nI r) ns → v (24 + 7 * r + 4) = T + (v (24 + 7 * r + 5) + (if nI bb = nI r then t else nI 0)) + v (24 + 7 * r + 6) := fun r hr T hT => by
    rw [hT, F, W.1 r hr]
    by_cases e : nI bb = nI r
    · rw [if_pos e, if_pos e]
      congr 1
      rw [Int32.add_assoc, ← Int32.add_assoc (-t), Int32.add_comm (-t), Int32.add_assoc, Int32.add_comm (-t), Int32.add_right_neg, Int32.add_zero]
    · rw [if_neg e, if_neg e, add_n0, add_n0]
  by_cases hz : caD v j bb o L t d (76 + 5 * j + 2) = 0
  · rw [if_pos hz] at I1 ⊢
    have h3 : caD v j bb o L t d 3 = nI ns := by rw [C, if_neg (by omega), if_neg (by omega), if_neg (by omega), if_neg (by omega), e3]
    have hn1 : n1 = ns - 1 := by
      have := I1.1.2.2.2.2.2
      rw [gGo_3 h3 hj] at this
      have := I1.1.2.2.1
      exact ((nI_eq (by omega) (by omega)).mp ‹nI (ns - 1) = nI n1›).symm
    subst hn1
    have G : ∀ q, q < 76 → q ≠ 3 → gGo (caD v j bb o L t d) j ns q = caD v j bb o L t d q := fun q h1 h2 => gGo_n h2 (by omega) hj
    refine ⟨fun r hr => ?_, fun r hr q h1 h2 => ?_⟩
    · rw [G _ (by omega) (by omega), G _ (by omega) (by omega), G _ (by omega) (by omega), c4 r hr, c5 r hr, c6 r hr]
      refine key r hr _ ?_
      have q1 := fT_go (v := caD v j bb o L t d) (b := nI r) hj
      rw [hz, ← nI_z] at q1
      rw [← q1]
      split <;> exact (add_n0 _).symm
    · rw [G _ (by omega) (by omega), c7 r hr]
      exact W.2 r hr q h1 h2
  · rw [if_neg hz] at I1 ⊢
    have hn1 : n1 = ns := by
      have h9 := I1.1.2.2.2.2.2
      rw [C, if_neg (by omega), if_neg (by omega), if_neg (by omega), if_neg (by omega), e3] at h9
      have := I1.1.2.2.1
      exact ((nI_eq (by omega) (by omega)).mp h9).symm
    subst hn1
    refine ⟨fun r hr => ?_, fun r hr q h1 h2 => ?_⟩
    · rw [c4 r hr, c5 r hr, c6 r hr]
      exact key r hr _ rfl
    · rw [c7 r hr]
      exact W.2 r hr q h1 h2
end BAL
