/-! both sides together: the law's invariant -/
section PVW
variable {x m np tn : Nat} {w w1 pa he te nu re : Nat → Int32} {ps rn ty at_ st ki co st1 en1 : Int32} {h h1 h2 : pH}
theorem MD.off (M : MD m w pa he te re ps rn ty at_ st ki co h) (hq : ∀ q, m ≤ q → q < m + 6 → h1 q = h q) : MD m w pa he te re ps rn ty at_ st ki co h1 :=
  ⟨(hq _ (by omega) (by omega)).trans M.1, (hq _ (by omega) (by omega)).trans M.2.1, (hq _ (by omega) (by omega)).trans M.2.2.1, (hq _ (by omega) (by omega)).trans M.2.2.2.1, (hq _ (by omega) (by omega)).trans M.2.2.2.2.1, (hq _ (by omega) (by omega)).trans M.2.2.2.2.2⟩
theorem KY.off (K : KY x w pa np tn te st1 en1 nu h) (h5 : np ≤ 5) (hq : ∀ q, x ≤ q → q < x + 740 → h1 q = h q) : KY x w pa np tn te st1 en1 nu h1 := by
  obtain ⟨A, hf, G, N, R⟩ := K
  have hS : ∀ r, r < 7 → ∀ u, SA (A r) u h → SA (A r) u h1 := fun r hr u hu => hu.off (fun p h2 h3 => by have := G.2.2.2.1.rng hr; exact hq p (by omega) (by omega))
  exact ⟨A, hf, ⟨(hq _ (by omega) (by omega)).trans G.1, (hq _ (by omega) (by omega)).trans G.2.1, G.2.2.1, G.2.2.2.1, ⟨(hq _ (by omega) (by omega)).trans G.2.2.2.2.1.1, (hq _ (by omega) (by omega)).trans G.2.2.2.2.1.2.1, (hq _ (by omega) (by omega)).trans G.2.2.2.2.1.2.2⟩, fun r hr => (G.2.2.2.2.2 r hr).elim fun u hu => ⟨u, hS r hr u hu⟩⟩, hS 0 (by omega) w N, fun k hk => hS (2 + k) (by omega) _ (R k hk)⟩
theorem KY.cg (K : KY x w pa np tn te st1 en1 nu h) (S : SI w) (hv : ∀ q, q < 410 → w1 q = w q) : KY x w1 pa np tn te st1 en1 nu h := by
  obtain ⟨A, hf, G, N, R⟩ := K
  exact ⟨A, hf, G, N.cg S hv, R⟩
theorem KI.push (I : KI w pa np) (S : SI w1) : KI w1 (aPa false np w pa) (aNp false np) := by
  obtain ⟨h5, Sw, R⟩ := I
  by_cases e : np = 5
  · have e1 : aNp false np = 5 := by unfold aNp; rw [if_neg (by decide), if_pos e]
    have e2 : aPa false np w pa = cpP (shP pa 1640) w 4 410 := by unfold aPa; rw [if_neg (by decide), if_pos e]
    rw [e1, e2]
    refine ⟨by omega, S, fun k hk => ?_⟩
    by_cases e3 : k = 4
    · exact Sw.cg (fun p hp => by rw [row_cp hp, if_pos e3])
    · exact (R (k + 1) (by omega)).cg (fun p hp => by rw [row_cp hp, if_neg e3, row_sh hp (by omega)])
  · have e1 : aNp false np = np + 1 := by unfold aNp; rw [if_neg (by decide), if_neg e]
    have e2 : aPa false np w pa = cpP pa w np 410 := by unfold aPa; rw [if_neg (by decide), if_neg e]
    rw [e1, e2]
    refine ⟨by omega, S, fun k hk => ?_⟩
    by_cases e3 : k = np
    · exact Sw.cg (fun p hp => by rw [row_cp hp, if_pos e3])
    · exact (R k (by omega)).cg (fun p hp => by rw [row_cp hp, if_neg e3])
theorem KY.tb (K : KY x w pa np tn te st1 en1 nu h) : ∀ i, i < 2 → (w (136 + i) = 0 ∨ w (136 + i) = 1) := by
  obtain ⟨A, hf, G, N, R⟩ := K
  exact N.tb
theorem KY.ob (K : KY x w pa np tn te st1 en1 nu h) : ∃ a0 a1 : Nat, h x = some (ob 6 [.ref a0, .ref a1, .ref (x + 211), .int (nI np), .ref (x + 212)]) := by
  obtain ⟨A, hf, G, N, R⟩ := K
  exact ⟨A 0, A 1, G.1⟩
theorem unF_at (w pa : Nat → Int32) (n0 : Nat) : ∀ i q, unF w pa n0 i q = if q < i then pa (410 * n0 + q) else w q := by
  intro i
  induction i with
  | zero => intro q; rw [if_neg (by omega)]; rfl
  | succ i ih =>
    intro q
    show upd (unF w pa n0 i) i (pa (410 * n0 + i)) q = _
    rw [upd_at]
    by_cases e : q = i
    · rw [if_pos e, if_pos (by omega), e]
    · rw [if_neg e, ih]
      by_cases e2 : q < i
      · rw [if_pos e2, if_pos (by omega)]
      · rw [if_neg e2, if_neg (by omega)]
def LI (x : Nat) (h : pH) : Prop := ∃ (w pa he te nu : Nat → Int32) (np tn : Nat) (at_ st ki co st1 en1 : Int32), KY x w pa np tn te st1 en1 nu h ∧ MD (x + 740) w pa he te nu (nI np) (bI (false = true)) (nI tn) at_ st ki co h ∧ KI w pa np ∧ TX te tn
theorem LI.act {ok : Prop} {r0 r r2 : Int32} (hK : cK x w pa np tn te st1 en1 nu ok r0 w1 h r h1) (M : MD (x + 740) w pa he te nu (nI np) (bI (false = true)) (nI tn) at_ st ki co h1) (hM : mP (x + 740) w pa he te nu np false (nI tn) at_ st ki co ok r0 w1 h1 r2 h2) (I : KI w pa np) (T : TX te tn) (S : ok → SI w1) : r = r2 ∧ LI x h2 := by
  obtain ⟨e1, D, O⟩ := hK
  obtain ⟨e2, D2⟩ := hM
  refine ⟨e1.trans e2.symm, ?_⟩
  rcases D2 with ⟨k0, rfl⟩ | ⟨k1, M2, O2⟩
  · rcases D with ⟨_, K⟩ | ⟨k1, _⟩
    · exact ⟨w, pa, he, te, nu, np, tn, at_, st, ki, co, st1, en1, K, M, I, T⟩
    · exact absurd k1 k0
  · rcases D with ⟨k0, _⟩ | ⟨_, K⟩
    · exact absurd k1 k0
    · exact ⟨w1, aPa false np w pa, he, te, nu, aNp false np, tn, at_, st, ki, co, st1, en1, K.off (I.push (S k1)).1 (fun q h3 h4 => O2 q (by omega)), M2, I.push (S k1), T⟩
theorem LI.undo {r r2 : Int32} (hK : (np = 0 ∧ r = -2 ∧ h1 = h) ∨ (0 < np ∧ r = nI (np - 1) ∧ KY x (row pa (np - 1)) pa (np - 1) tn te st1 en1 nu h1 ∧ pO x (x + 740) h h1)) (K0 : KY x w pa np tn te st1 en1 nu h) (M : MD (x + 740) w pa he te nu (nI np) (bI (false = true)) (nI tn) at_ st ki co h1) (hM : (np = 0 ∧ r2 = -2 ∧ h2 = h1) ∨ (0 < np ∧ r2 = nI (np - 1) ∧ MD (x + 740) (unF w pa (np - 1) 410) pa he te nu (nI (np - 1)) (bI (false = true)) (nI tn) at_ st ki co h2 ∧ pO (x + 740) (x + 740 + 6) h1 h2)) (I : KI w pa np) (T : TX te tn) : r = r2 ∧ LI x h2 := by
  rcases hK with ⟨z1, e1, rfl⟩ | ⟨z1, e1, K, O⟩
  · rcases hM with ⟨z2, e2, rfl⟩ | ⟨z2, _⟩
    · exact ⟨e1.trans e2.symm, w, pa, he, te, nu, np, tn, at_, st, ki, co, st1, en1, K0, M, I, T⟩
    · omega
  · rcases hM with ⟨z2, _⟩ | ⟨z2, e2, M2, O2⟩
    · omega
    · have h5 := I.1
      have S := I.2.2 (np - 1) (by omega)
      have hv : ∀ q, q < 410 → unF w pa (np - 1) 410 q = row pa (np - 1) q := fun q hq => by rw [unF_at, if_pos hq]; rfl
      exact ⟨e1.trans e2.symm, unF w pa (np - 1) 410, pa, he, te, nu, np - 1, tn, at_, st, ki, co, st1, en1, (K.cg S hv).off (by omega) (fun q h3 h4 => O2 q (by omega)), M2, ⟨by omega, S.cg hv, fun k hk => I.2.2 k (by omega)⟩, T⟩
theorem TX.app {y : Int32} (T : TX te tn) (k : kApp (nI tn) y) : TX (upd te tn y) (tn + 1) := by
  obtain ⟨h1, h2⟩ := T
  have hne : tn ≠ 140 := fun q => k.2 (by rw [q])
  refine ⟨by omega, fun i hi => ?_⟩
  rw [upd_at]
  by_cases e : i = tn
  · rw [if_pos e]
    obtain ⟨j, g1, g2, g3, -⟩ := gI_j (by omega) (by omega) k.1
    exact ⟨j, g1, g2, g3⟩
  · rw [if_neg e]; exact h2 i (by omega)
theorem LI.app {y r r2 : Int32} (hK : r = rApp (nI tn) y ∧ ((¬ kApp (nI tn) y ∧ KY x w pa np tn te st1 en1 nu h1) ∨ (kApp (nI tn) y ∧ KY x w pa np (tn + 1) (upd te tn y) st1 en1 nu h1)) ∧ pO x (x + 740) h h1) (M : MD (x + 740) w pa he te nu (nI np) (bI (false = true)) (nI tn) at_ st ki co h1) (hM : r2 = rApp (nI tn) y ∧ ((¬ kApp (nI tn) y ∧ h2 = h1) ∨ (kApp (nI tn) y ∧ MD (x + 740) w pa he (upd te tn y) nu (nI np) (bI (false = true)) (nI tn + nI 1) at_ st ki co h2 ∧ pO (x + 740) (x + 740 + 6) h1 h2))) (I : KI w pa np) (T : TX te tn) : r = r2 ∧ LI x h2 := by
  obtain ⟨e1, D, O⟩ := hK
  obtain ⟨e2, D2⟩ := hM
  refine ⟨e1.trans e2.symm, ?_⟩
  rcases D2 with ⟨k0, rfl⟩ | ⟨k1, M2, O2⟩
  · rcases D with ⟨_, K⟩ | ⟨k1, _⟩
    · exact ⟨w, pa, he, te, nu, np, tn, at_, st, ki, co, st1, en1, K, M, I, T⟩
    · exact absurd k1 k0
  · rcases D with ⟨k0, _⟩ | ⟨_, K⟩
    · exact absurd k1 k0
    · rw [nI_add] at M2
      exact ⟨w, pa, he, upd te tn y, nu, np, tn + 1, at_, st, ki, co, st1, en1, K.off I.1 (fun q h3 h4 => O2 q (by omega)), M2, I, T.app k1⟩
theorem LI.clr {r r2 : Int32} (hK : r = nI tn ∧ KY x w pa np 0 te st1 en1 nu h1 ∧ pO x (x + 740) h h1) (hM : r2 = nI tn ∧ MD (x + 740) w pa he te nu (nI np) (bI (false = true)) (nI 0) at_ st ki co h2 ∧ pO (x + 740) (x + 740 + 6) h1 h2) (I : KI w pa np) : r = r2 ∧ LI x h2 := by
  obtain ⟨e1, K, O⟩ := hK
  obtain ⟨e2, M2, O2⟩ := hM
  exact ⟨e1.trans e2.symm, w, pa, he, te, nu, np, 0, at_, st, ki, co, st1, en1, K.off I.1 (fun q h3 h4 => O2 q (by omega)), M2, I, ⟨by omega, fun i hi => by omega⟩⟩
theorem LI.run {r r2 : Int32} (hK : pO x (x + 740) h h1 ∧ ∃ st1 en1, (((aT te tn w nu).1 = none ∧ r = nI (aT te tn w nu).2.1 ∧ KY x (aT te tn w nu).2.2.1 (aPa false np w pa) (aNp false np) 0 te st1 en1 (aT te tn w nu).2.2.2 h1) ∨ (∃ p, (aT te tn w nu).1 = some p ∧ r = -1000 - nI p ∧ KY x w pa np tn te st1 en1 (aT te tn w nu).2.2.2 h1))) (hM : pO (x + 740) (x + 740 + 6) h1 h2 ∧ ∃ w1 he1 at1 st1 ki1 co1, (((aT te tn w nu).1 = none ∧ r2 = nI (aT te tn w nu).2.1 ∧ (∀ q, q < 410 → w1 q = (aT te tn w nu).2.2.1 q) ∧ MD (x + 740) w1 (aPa false np w pa) he1 te (aT te tn w nu).2.2.2 (nI (aNp false np)) (bI (false = true)) (nI 0) at1 st1 ki1 co1 h2) ∨ (∃ p, (aT te tn w nu).1 = some p ∧ r2 = -1000 - nI p ∧ (∀ q, q < 410 → w1 q = w q) ∧ MD (x + 740) w1 pa he1 te (aT te tn w nu).2.2.2 (nI np) (bI (false = true)) (nI tn) at1 st1 ki1 co1 h2))) (I : KI w pa np) (T : TX te tn) : r = r2 ∧ LI x h2 := by
  obtain ⟨O, s1, n1, D⟩ := hK
  obtain ⟨O2, w1, he1, at1, s2, ki1, co1, D2⟩ := hM
  rcases D with ⟨z, e1, K⟩ | ⟨p, z, e1, K⟩
  · rcases D2 with ⟨_, e2, hv, M2⟩ | ⟨p, z2, _⟩
    · obtain ⟨ie9, hi9⟩ := allF_keep (te := te) (tn := tn) tn 0 0 w nu I.2.1.1
      have S9 : SI (aT te tn w nu).2.2.1 := I.2.1.lo ie9 hi9
      have S1 : SI w1 := S9.cg hv
      exact ⟨e1.trans e2.symm, w1, aPa false np w pa, he1, te, (aT te tn w nu).2.2.2, aNp false np, 0, at1, s2, ki1, co1, s1, n1, (K.cg S9 hv).off (I.push S1).1 (fun q h3 h4 => O2 q (by omega)), M2, I.push S1, ⟨by omega, fun i hi => by omega⟩⟩
    · rw [z] at z2; cases z2
  · rcases D2 with ⟨z2, _⟩ | ⟨p2, z2, e2, hv, M2⟩
    · rw [z] at z2; cases z2
    · rw [z] at z2
      cases z2
      exact ⟨e1.trans e2.symm, w1, pa, he1, te, (aT te tn w nu).2.2.2, np, tn, at1, s2, ki1, co1, s1, n1, (K.cg I.2.1 hv).off I.1 (fun q h3 h4 => O2 q (by omega)), M2, ⟨I.1, I.2.1.cg hv, I.2.2⟩, T⟩
end PVW
