/-! the law's arrays, told by the class's row; rows over them; the class's calls over both -/
section LAS
variable {x m np tn y : Nat} {w w1 v v1 pa te nu : Nat → Int32} {st1 en1 : Int32} {h h1 h2 : pH}
theorem KY.off (K : KY x w pa np tn te st1 en1 nu h) (h5 : np ≤ 5) (hq : ∀ q, x ≤ q → q < x + 740 → h1 q = h q) : KY x w pa np tn te st1 en1 nu h1 := by
  obtain ⟨A, hf, G, N, R⟩ := K
  have hS : ∀ r, r < 7 → ∀ u, SA (A r) u h → SA (A r) u h1 := fun r hr u hu => hu.off (fun p h2 h3 => by have := G.2.2.2.1.rng hr; exact hq p (by omega) (by omega))
  exact ⟨A, hf, ⟨(hq _ (by omega) (by omega)).trans G.1, (hq _ (by omega) (by omega)).trans G.2.1, G.2.2.1, G.2.2.2.1, ⟨(hq _ (by omega) (by omega)).trans G.2.2.2.2.1.1, (hq _ (by omega) (by omega)).trans G.2.2.2.2.1.2.1, (hq _ (by omega) (by omega)).trans G.2.2.2.2.1.2.2⟩, fun r hr => (G.2.2.2.2.2 r hr).elim fun u hu => ⟨u, hS r hr u hu⟩⟩, hS 0 (by omega) w N, fun k hk => hS (2 + k) (by omega) _ (R k hk)⟩
theorem KY.cg (K : KY x w pa np tn te st1 en1 nu h) (S : SI w) (hv : ∀ q, q < 410 → w1 q = w q) : KY x w1 pa np tn te st1 en1 nu h := by
  obtain ⟨A, hf, G, N, R⟩ := K
  exact ⟨A, hf, G, N.cg S hv, R⟩
theorem KI.push (I : KI w pa np) (S : SI w1) : KI w1 (aPa false np w pa) (aNp false np) := by
  obtain ⟨h5, Sw, R⟩ := I
  by_cases e : np = 5
  · have e1 : aNp false np = 5 := by unfold aNp; rw [if_neg (by decide), if_pos e]
    have e2 : aPa false np w pa = cpP (shP pa 1640) w 4 410 := by unfold aPa; rw [if_neg (by decide), if_pos e]
    rw [e1, e2]
    refine ⟨by omega, S, fun k hk => ?_⟩
    by_cases e3 : k = 4
    · exact Sw.cg (fun p hp => by rw [row_cp hp, if_pos e3])
    · exact (R (k + 1) (by omega)).cg (fun p hp => by rw [row_cp hp, if_neg e3, row_sh hp (by omega)])
  · have e1 : aNp false np = np + 1 := by unfold aNp; rw [if_neg (by decide), if_neg e]
    have e2 : aPa false np w pa = cpP pa w np 410 := by unfold aPa; rw [if_neg (by decide), if_neg e]
    rw [e1, e2]
    refine ⟨by omega, S, fun k hk => ?_⟩
    by_cases e3 : k = np
    · exact Sw.cg (fun p hp => by rw [row_cp hp, if_pos e3])
    · exact (R k (by omega)).cg (fun p hp => by rw [row_cp hp, if_neg e3])
def LR (n b : Nat) (v : Nat → Int32) (c : Option va_E) : Prop := ∃ f, c = some (ai 1 n f) ∧ ∀ i, i < n → f i = v (b + i)
theorem LR.cg {n b : Nat} {c : Option va_E} (R : LR n b v c) (hv : ∀ i, i < n → v1 (b + i) = v (b + i)) : LR n b v1 c := by
  obtain ⟨f, h1, h2⟩ := R
  exact ⟨f, h1, fun i hi => (h2 i hi).trans (hv i hi).symm⟩
theorem upd_lr {f : Nat → Int32} {n b j : Nat} {x1 : Int32} (e2 : ∀ i, i < n → f i = v (b + i)) (hv : ∀ q, v1 q = if q = b + j then x1 else v q) : ∀ i, i < n → upd f j x1 i = v1 (b + i) := by
  intro i hi
  show (if i = j then x1 else f i) = _
  rw [hv]
  by_cases q : i = j
  · rw [if_pos q, if_pos (by omega)]
  · rw [if_neg q, if_neg (by omega)]
    exact e2 i hi
def LA (y : Nat) (v : Nat → Int32) (h : pH) : Prop := LR 6 0 v (h y) ∧ LR 18 6 v (h (y + 1)) ∧ LR 28 24 v (h (y + 2)) ∧ LR 24 52 v (h (y + 3)) ∧ LR 60 76 v (h (y + 4))
theorem LA.off (B : LA y v h) (hq : ∀ q, y ≤ q → q < y + 5 → h1 q = h q) : LA y v h1 := by
  unfold LA
  rw [hq y (by omega) (by omega), hq (y + 1) (by omega) (by omega), hq (y + 2) (by omega) (by omega), hq (y + 3) (by omega) (by omega), hq (y + 4) (by omega) (by omega)]
  exact B
theorem LA.cg (B : LA y v h) (hv : ∀ q, q < 136 → v1 q = v q) : LA y v1 h := ⟨B.1.cg (fun i hi => hv _ (by omega)), B.2.1.cg (fun i hi => hv _ (by omega)), B.2.2.1.cg (fun i hi => hv _ (by omega)), B.2.2.2.1.cg (fun i hi => hv _ (by omega)), B.2.2.2.2.cg (fun i hi => hv _ (by omega))⟩
theorem LA.stG {j : Nat} {x1 : Int32} (B : LA y v h) (hj : j < 6) (hv : ∀ q, v1 q = if q = 0 + j then x1 else v q) : ∃ f, h y = some (ai 1 6 f) ∧ LA y v1 (pset h y (ai 1 6 (upd f j x1))) := by
  obtain ⟨f, e1, e2⟩ := B.1
  exact ⟨f, e1, ⟨upd f j x1, pset_s _ _ _, upd_lr e2 hv⟩, (show LR 18 6 v1 (pset h y _ (y + 1)) from (pset_n (h := h) (a := y) (q := (y + 1)) (x := ai 1 6 (upd f j x1)) (by omega)) ▸ (B.2.1.cg (fun i hi => by rw [hv, if_neg (by omega)]))), (show LR 28 24 v1 (pset h y _ (y + 2)) from (pset_n (h := h) (a := y) (q := (y + 2)) (x := ai 1 6 (upd f j x1)) (by omega)) ▸ (B.2.2.1.cg (fun i hi => by rw [hv, if_neg (by omega)]))), (show LR 24 52 v1 (pset h y _ (y + 3)) from (pset_n (h := h) (a := y) (q := (y + 3)) (x := ai 1 6 (upd f j x1)) (by omega)) ▸ (B.2.2.2.1.cg (fun i hi => by rw [hv, if_neg (by omega)]))), (show LR 60 76 v1 (pset h y _ (y + 4)) from (pset_n (h := h) (a := y) (q := (y + 4)) (x := ai 1 6 (upd f j x1)) (by omega)) ▸ (B.2.2.2.2.cg (fun i hi => by rw [hv, if_neg (by omega)])))⟩
theorem LA.stH {j : Nat} {x1 : Int32} (B : LA y v h) (hj : j < 18) (hv : ∀ q, v1 q = if q = 6 + j then x1 else v q) : ∃ f, h (y + 1) = some (ai 1 18 f) ∧ LA y v1 (pset h (y + 1) (ai 1 18 (upd f j x1))) := by
  obtain ⟨f, e1, e2⟩ := B.2.1
  exact ⟨f, e1, (show LR 6 0 v1 (pset h (y + 1) _ y) from (pset_n (h := h) (a := (y + 1)) (q := y) (x := ai 1 18 (upd f j x1)) (by omega)) ▸ (B.1.cg (fun i hi => by rw [hv, if_neg (by omega)]))), ⟨upd f j x1, pset_s _ _ _, upd_lr e2 hv⟩, (show LR 28 24 v1 (pset h (y + 1) _ (y + 2)) from (pset_n (h := h) (a := (y + 1)) (q := (y + 2)) (x := ai 1 18 (upd f j x1)) (by omega)) ▸ (B.2.2.1.cg (fun i hi => by rw [hv, if_neg (by omega)]))), (show LR 24 52 v1 (pset h (y + 1) _ (y + 3)) from (pset_n (h := h) (a := (y + 1)) (q := (y + 3)) (x := ai 1 18 (upd f j x1)) (by omega)) ▸ (B.2.2.2.1.cg (fun i hi => by rw [hv, if_neg (by omega)]))), (show LR 60 76 v1 (pset h (y + 1) _ (y + 4)) from (pset_n (h := h) (a := (y + 1)) (q := (y + 4)) (x := ai 1 18 (upd f j x1)) (by omega)) ▸ (B.2.2.2.2.cg (fun i hi => by rw [hv, if_neg (by omega)])))⟩
theorem LA.stB {j : Nat} {x1 : Int32} (B : LA y v h) (hj : j < 28) (hv : ∀ q, v1 q = if q = 24 + j then x1 else v q) : ∃ f, h (y + 2) = some (ai 1 28 f) ∧ LA y v1 (pset h (y + 2) (ai 1 28 (upd f j x1))) := by
  obtain ⟨f, e1, e2⟩ := B.2.2.1
  exact ⟨f, e1, (show LR 6 0 v1 (pset h (y + 2) _ y) from (pset_n (h := h) (a := (y + 2)) (q := y) (x := ai 1 28 (upd f j x1)) (by omega)) ▸ (B.1.cg (fun i hi => by rw [hv, if_neg (by omega)]))), (show LR 18 6 v1 (pset h (y + 2) _ (y + 1)) from (pset_n (h := h) (a := (y + 2)) (q := (y + 1)) (x := ai 1 28 (upd f j x1)) (by omega)) ▸ (B.2.1.cg (fun i hi => by rw [hv, if_neg (by omega)]))), ⟨upd f j x1, pset_s _ _ _, upd_lr e2 hv⟩, (show LR 24 52 v1 (pset h (y + 2) _ (y + 3)) from (pset_n (h := h) (a := (y + 2)) (q := (y + 3)) (x := ai 1 28 (upd f j x1)) (by omega)) ▸ (B.2.2.2.1.cg (fun i hi => by rw [hv, if_neg (by omega)]))), (show LR 60 76 v1 (pset h (y + 2) _ (y + 4)) from (pset_n (h := h) (a := (y + 2)) (q := (y + 4)) (x := ai 1 28 (upd f j x1)) (by omega)) ▸ (B.2.2.2.2.cg (fun i hi => by rw [hv, if_neg (by omega)])))⟩
theorem LA.stC {j : Nat} {x1 : Int32} (B : LA y v h) (hj : j < 24) (hv : ∀ q, v1 q = if q = 52 + j then x1 else v q) : ∃ f, h (y + 3) = some (ai 1 24 f) ∧ LA y v1 (pset h (y + 3) (ai 1 24 (upd f j x1))) := by
  obtain ⟨f, e1, e2⟩ := B.2.2.2.1
  exact ⟨f, e1, (show LR 6 0 v1 (pset h (y + 3) _ y) from (pset_n (h := h) (a := (y + 3)) (q := y) (x := ai 1 24 (upd f j x1)) (by omega)) ▸ (B.1.cg (fun i hi => by rw [hv, if_neg (by omega)]))), (show LR 18 6 v1 (pset h (y + 3) _ (y + 1)) from (pset_n (h := h) (a := (y + 3)) (q := (y + 1)) (x := ai 1 24 (upd f j x1)) (by omega)) ▸ (B.2.1.cg (fun i hi => by rw [hv, if_neg (by omega)]))), (show LR 28 24 v1 (pset h (y + 3) _ (y + 2)) from (pset_n (h := h) (a := (y + 3)) (q := (y + 2)) (x := ai 1 24 (upd f j x1)) (by omega)) ▸ (B.2.2.1.cg (fun i hi => by rw [hv, if_neg (by omega)]))), ⟨upd f j x1, pset_s _ _ _, upd_lr e2 hv⟩, (show LR 60 76 v1 (pset h (y + 3) _ (y + 4)) from (pset_n (h := h) (a := (y + 3)) (q := (y + 4)) (x := ai 1 24 (upd f j x1)) (by omega)) ▸ (B.2.2.2.2.cg (fun i hi => by rw [hv, if_neg (by omega)])))⟩
theorem LA.stT {j : Nat} {x1 : Int32} (B : LA y v h) (hj : j < 60) (hv : ∀ q, v1 q = if q = 76 + j then x1 else v q) : ∃ f, h (y + 4) = some (ai 1 60 f) ∧ LA y v1 (pset h (y + 4) (ai 1 60 (upd f j x1))) := by
  obtain ⟨f, e1, e2⟩ := B.2.2.2.2
  exact ⟨f, e1, (show LR 6 0 v1 (pset h (y + 4) _ y) from (pset_n (h := h) (a := (y + 4)) (q := y) (x := ai 1 60 (upd f j x1)) (by omega)) ▸ (B.1.cg (fun i hi => by rw [hv, if_neg (by omega)]))), (show LR 18 6 v1 (pset h (y + 4) _ (y + 1)) from (pset_n (h := h) (a := (y + 4)) (q := (y + 1)) (x := ai 1 60 (upd f j x1)) (by omega)) ▸ (B.2.1.cg (fun i hi => by rw [hv, if_neg (by omega)]))), (show LR 28 24 v1 (pset h (y + 4) _ (y + 2)) from (pset_n (h := h) (a := (y + 4)) (q := (y + 2)) (x := ai 1 60 (upd f j x1)) (by omega)) ▸ (B.2.2.1.cg (fun i hi => by rw [hv, if_neg (by omega)]))), (show LR 24 52 v1 (pset h (y + 4) _ (y + 3)) from (pset_n (h := h) (a := (y + 4)) (q := (y + 3)) (x := ai 1 60 (upd f j x1)) (by omega)) ▸ (B.2.2.2.1.cg (fun i hi => by rw [hv, if_neg (by omega)]))), ⟨upd f j x1, pset_s _ _ _, upd_lr e2 hv⟩⟩
def KYs (x : Nat) (w : Nat → Int32) (h : pH) : Prop := ∃ (pa te nu : Nat → Int32) (np : Nat) (st en : Int32), KY x w pa np 0 te st en nu h ∧ KI w pa np
theorem KYs.off (K : KYs x w h) (hq : ∀ q, x ≤ q → q < x + 740 → h1 q = h q) : KYs x w h1 := by
  obtain ⟨pa, te, nu, np, st, en, K, I⟩ := K
  exact ⟨pa, te, nu, np, st, en, K.off I.1 hq, I⟩
def LB (x y : Nat) (w v : Nat → Int32) (h : pH) : Prop := KYs x w h ∧ LA y v h ∧ x + 740 ≤ y
end LAS
section LAR
variable {p : Program} {l : Launch} {e : Env} {R : Room} {s : State} {m : MethodId} {args : Array Value} {below : List Frame} {meth : Method} {c : Code} {cc : ByteArray} {nL : Nat} {own : String} {E : pE} {A : Nat → Prop} {Q : State → Prop} {z : Nat} {h : pH} {k n : Nat} {pc : Nat} {L : List (Option Value)} {st st0 : List Value}
theorem v_irem (X : pCx p s m args c cc nL own E A) {x y : Int32} (hne : ¬ y = 0) (hd : decode cc pc = .ok (.irem, 1)) (kk : pV p l e R s m args below meth c nL E A Q z h k n (pc + 1) L (.int (x - x / y * y) :: st)) : pV p l e R s m args below meth c nL E A Q z h k n pc L (.int y :: .int x :: st) := fun H locs ls a b c0 d => lv_irem X.1.1 X.1.2.1 hd hne (kk H locs ls a b c0 d)
theorem v_iremN (X : pCx p s m args c cc nL own E A) {a d : Nat} {x y : Int32} (hd : decode cc pc = .ok (.irem, 1)) (hx : x = nI a) (hy : y = nI d) (ha : a < 2 ^ 31) (h0 : 0 < d) (hd2 : d < 2 ^ 31) (kk : pV p l e R s m args below meth c nL E A Q z h k n (pc + 1) L (.int (nI (a % d)) :: st)) : pV p l e R s m args below meth c nL E A Q z h k n pc L (.int y :: .int x :: st) := by
  subst hx; subst hy
  refine v_irem X (nI_ne0 h0 hd2) hd ?_
  rw [pk_rem ha h0 hd2]
  exact kk
theorem v_idivN (X : pCx p s m args c cc nL own E A) {a d : Nat} {x y : Int32} (hd : decode cc pc = .ok (.idiv, 1)) (hx : x = nI a) (hy : y = nI d) (ha : a < 2 ^ 31) (h0 : 0 < d) (hd2 : d < 2 ^ 31) (kk : pV p l e R s m args below meth c nL E A Q z h k n (pc + 1) L (.int (nI (a / d)) :: st)) : pV p l e R s m args below meth c nL E A Q z h k n pc L (.int y :: .int x :: st) := by
  subst hx; subst hy
  refine v_idiv X (nI_ne0 h0 hd2) hd ?_
  rw [pk_div ha h0 hd2]
  exact kk
theorem v_topv {x y : Int32} (hx : x = y) (kk : pV p l e R s m args below meth c nL E A Q z h k n pc L (.int y :: st)) : pV p l e R s m args below meth c nL E A Q z h k n pc L (.int x :: st) := by subst hx; exact kk
theorem v_lrem (X : pCx p s m args c cc nL own E A) {x y : Int64} (hne : ¬ y = 0) (hd : decode cc pc = .ok (.lrem, 1)) (kk : pV p l e R s m args below meth c nL E A Q z h k n (pc + 1) L (.long (x - x / y * y) :: st)) : pV p l e R s m args below meth c nL E A Q z h k n pc L (.long y :: .long x :: st) := fun H locs ls a b c0 d => lv_lrem X.1.1 X.1.2.1 hd hne (kk H locs ls a b c0 d)
theorem v_ldG (X : pCx p s m args c cc nL own E A) {y : Nat} {v : Nat → Int32} {i x : Int32} (j : Nat) (B : LA y v h) (hd : decode cc pc = .ok (.iaload, 1)) (hi : i = nI j) (hj : j < 6) (hx : v (0 + j) = x) (kk : pV p l e R s m args below meth c nL E A Q z h k n (pc + 1) L (.int x :: st)) : pV p l e R s m args below meth c nL E A Q z h k n pc L (.int i :: .ref y :: st) := by
  obtain ⟨f, e1, e2⟩ := B.1
  refine v_ialdN X j hd e1 hi hj ?_
  rw [e2 j hj, hx]
  exact kk
theorem v_staG (X : pCx p s m args c cc nL own E A) {y : Nat} {v : Nat → Int32} {i x1 : Int32} (j : Nat) (B : LA y v h) (hd : decode cc pc = .ok (.iastore, 1)) (hi : i = nI j) (hj : j < 6) (kk : ∀ (h1 : pH) (v1 : Nat → Int32), (∀ q, v1 q = if q = 0 + j then x1 else v q) → LA y v1 h1 → pO y (y + 5) h h1 → pV p l e R s m args below meth c nL E A Q z h1 k n (pc + 1) L st) : pV p l e R s m args below meth c nL E A Q z h k n pc L (.int x1 :: .int i :: .ref y :: st) := by
  obtain ⟨f, e1, B1⟩ := B.stG (x1 := x1) (v1 := fun q => if q = 0 + j then x1 else v q) hj (fun q => rfl)
  exact v_iastN X j hd e1 hi hj (kk _ _ (fun q => rfl) B1 (pO.rf.set (by omega) (by omega)))
theorem v_stG (X : pCx p s m args c cc nL own E A) {x y : Nat} {w v : Nat → Int32} {i x1 : Int32} (j : Nat) (B : LB x y w v h) (hd : decode cc pc = .ok (.iastore, 1)) (hi : i = nI j) (hj : j < 6) (kk : ∀ (h1 : pH) (v1 : Nat → Int32), (∀ q, v1 q = if q = 0 + j then x1 else v q) → LB x y w v1 h1 → pV p l e R s m args below meth c nL E A Q z h1 k n (pc + 1) L st) : pV p l e R s m args below meth c nL E A Q z h k n pc L (.int x1 :: .int i :: .ref y :: st) :=
  v_staG X j B.2.1 hd hi hj (fun h1 v1 e1 B1 O => kk h1 v1 e1 ⟨B.1.off (fun q g1 g2 => O q (by have := B.2.2; omega)), B1, B.2.2⟩)
theorem v_ldH (X : pCx p s m args c cc nL own E A) {y : Nat} {v : Nat → Int32} {i x : Int32} (j : Nat) (B : LA y v h) (hd : decode cc pc = .ok (.iaload, 1)) (hi : i = nI j) (hj : j < 18) (hx : v (6 + j) = x) (kk : pV p l e R s m args below meth c nL E A Q z h k n (pc + 1) L (.int x :: st)) : pV p l e R s m args below meth c nL E A Q z h k n pc L (.int i :: .ref (y + 1) :: st) := by
  obtain ⟨f, e1, e2⟩ := B.2.1
  refine v_ialdN X j hd e1 hi hj ?_
  rw [e2 j hj, hx]
  exact kk
theorem v_staH (X : pCx p s m args c cc nL own E A) {y : Nat} {v : Nat → Int32} {i x1 : Int32} (j : Nat) (B : LA y v h) (hd : decode cc pc = .ok (.iastore, 1)) (hi : i = nI j) (hj : j < 18) (kk : ∀ (h1 : pH) (v1 : Nat → Int32), (∀ q, v1 q = if q = 6 + j then x1 else v q) → LA y v1 h1 → pO y (y + 5) h h1 → pV p l e R s m args below meth c nL E A Q z h1 k n (pc + 1) L st) : pV p l e R s m args below meth c nL E A Q z h k n pc L (.int x1 :: .int i :: .ref (y + 1) :: st) := by
  obtain ⟨f, e1, B1⟩ := B.stH (x1 := x1) (v1 := fun q => if q = 6 + j then x1 else v q) hj (fun q => rfl)
  exact v_iastN X j hd e1 hi hj (kk _ _ (fun q => rfl) B1 (pO.rf.set (by omega) (by omega)))
theorem v_stH (X : pCx p s m args c cc nL own E A) {x y : Nat} {w v : Nat → Int32} {i x1 : Int32} (j : Nat) (B : LB x y w v h) (hd : decode cc pc = .ok (.iastore, 1)) (hi : i = nI j) (hj : j < 18) (kk : ∀ (h1 : pH) (v1 : Nat → Int32), (∀ q, v1 q = if q = 6 + j then x1 else v q) → LB x y w v1 h1 → pV p l e R s m args below meth c nL E A Q z h1 k n (pc + 1) L st) : pV p l e R s m args below meth c nL E A Q z h k n pc L (.int x1 :: .int i :: .ref (y + 1) :: st) :=
  v_staH X j B.2.1 hd hi hj (fun h1 v1 e1 B1 O => kk h1 v1 e1 ⟨B.1.off (fun q g1 g2 => O q (by have := B.2.2; omega)), B1, B.2.2⟩)
theorem v_ldB (X : pCx p s m args c cc nL own E A) {y : Nat} {v : Nat → Int32} {i x : Int32} (j : Nat) (B : LA y v h) (hd : decode cc pc = .ok (.iaload, 1)) (hi : i = nI j) (hj : j < 28) (hx : v (24 + j) = x) (kk : pV p l e R s m args below meth c nL E A Q z h k n (pc + 1) L (.int x :: st)) : pV p l e R s m args below meth c nL E A Q z h k n pc L (.int i :: .ref (y + 2) :: st) := by
  obtain ⟨f, e1, e2⟩ := B.2.2.1
  refine v_ialdN X j hd e1 hi hj ?_
  rw [e2 j hj, hx]
  exact kk
theorem v_staB (X : pCx p s m args c cc nL own E A) {y : Nat} {v : Nat → Int32} {i x1 : Int32} (j : Nat) (B : LA y v h) (hd : decode cc pc = .ok (.iastore, 1)) (hi : i = nI j) (hj : j < 28) (kk : ∀ (h1 : pH) (v1 : Nat → Int32), (∀ q, v1 q = if q = 24 + j then x1 else v q) → LA y v1 h1 → pO y (y + 5) h h1 → pV p l e R s m args below meth c nL E A Q z h1 k n (pc + 1) L st) : pV p l e R s m args below meth c nL E A Q z h k n pc L (.int x1 :: .int i :: .ref (y + 2) :: st) := by
  obtain ⟨f, e1, B1⟩ := B.stB (x1 := x1) (v1 := fun q => if q = 24 + j then x1 else v q) hj (fun q => rfl)
  exact v_iastN X j hd e1 hi hj (kk _ _ (fun q => rfl) B1 (pO.rf.set (by omega) (by omega)))
theorem v_stB (X : pCx p s m args c cc nL own E A) {x y : Nat} {w v : Nat → Int32} {i x1 : Int32} (j : Nat) (B : LB x y w v h) (hd : decode cc pc = .ok (.iastore, 1)) (hi : i = nI j) (hj : j < 28) (kk : ∀ (h1 : pH) (v1 : Nat → Int32), (∀ q, v1 q = if q = 24 + j then x1 else v q) → LB x y w v1 h1 → pV p l e R s m args below meth c nL E A Q z h1 k n (pc + 1) L st) : pV p l e R s m args below meth c nL E A Q z h k n pc L (.int x1 :: .int i :: .ref (y + 2) :: st) :=
  v_staB X j B.2.1 hd hi hj (fun h1 v1 e1 B1 O => kk h1 v1 e1 ⟨B.1.off (fun q g1 g2 => O q (by have := B.2.2; omega)), B1, B.2.2⟩)
theorem v_ldC (X : pCx p s m args c cc nL own E A) {y : Nat} {v : Nat → Int32} {i x : Int32} (j : Nat) (B : LA y v h) (hd : decode cc pc = .ok (.iaload, 1)) (hi : i = nI j) (hj : j < 24) (hx : v (52 + j) = x) (kk : pV p l e R s m args below meth c nL E A Q z h k n (pc + 1) L (.int x :: st)) : pV p l e R s m args below meth c nL E A Q z h k n pc L (.int i :: .ref (y + 3) :: st) := by
  obtain ⟨f, e1, e2⟩ := B.2.2.2.1
  refine v_ialdN X j hd e1 hi hj ?_
  rw [e2 j hj, hx]
  exact kk
theorem v_staC (X : pCx p s m args c cc nL own E A) {y : Nat} {v : Nat → Int32} {i x1 : Int32} (j : Nat) (B : LA y v h) (hd : decode cc pc = .ok (.iastore, 1)) (hi : i = nI j) (hj : j < 24) (kk : ∀ (h1 : pH) (v1 : Nat → Int32), (∀ q, v1 q = if q = 52 + j then x1 else v q) → LA y v1 h1 → pO y (y + 5) h h1 → pV p l e R s m args below meth c nL E A Q z h1 k n (pc + 1) L st) : pV p l e R s m args below meth c nL E A Q z h k n pc L (.int x1 :: .int i :: .ref (y + 3) :: st) := by
  obtain ⟨f, e1, B1⟩ := B.stC (x1 := x1) (v1 := fun q => if q = 52 + j then x1 else v q) hj (fun q => rfl)
  exact v_iastN X j hd e1 hi hj (kk _ _ (fun q => rfl) B1 (pO.rf.set (by omega) (by omega)))
theorem v_stC (X : pCx p s m args c cc nL own E A) {x y : Nat} {w v : Nat → Int32} {i x1 : Int32} (j : Nat) (B : LB x y w v h) (hd : decode cc pc = .ok (.iastore, 1)) (hi : i = nI j) (hj : j < 24) (kk : ∀ (h1 : pH) (v1 : Nat → Int32), (∀ q, v1 q = if q = 52 + j then x1 else v q) → LB x y w v1 h1 → pV p l e R s m args below meth c nL E A Q z h1 k n (pc + 1) L st) : pV p l e R s m args below meth c nL E A Q z h k n pc L (.int x1 :: .int i :: .ref (y + 3) :: st) :=
  v_staC X j B.2.1 hd hi hj (fun h1 v1 e1 B1 O => kk h1 v1 e1 ⟨B.1.off (fun q g1 g2 => O q (by have := B.2.2; omega)), B1, B.2.2⟩)
theorem v_ldT (X : pCx p s m args c cc nL own E A) {y : Nat} {v : Nat → Int32} {i x : Int32} (j : Nat) (B : LA y v h) (hd : decode cc pc = .ok (.iaload, 1)) (hi : i = nI j) (hj : j < 60) (hx : v (76 + j) = x) (kk : pV p l e R s m args below meth c nL E A Q z h k n (pc + 1) L (.int x :: st)) : pV p l e R s m args below meth c nL E A Q z h k n pc L (.int i :: .ref (y + 4) :: st) := by
  obtain ⟨f, e1, e2⟩ := B.2.2.2.2
  refine v_ialdN X j hd e1 hi hj ?_
  rw [e2 j hj, hx]
  exact kk
theorem v_staT (X : pCx p s m args c cc nL own E A) {y : Nat} {v : Nat → Int32} {i x1 : Int32} (j : Nat) (B : LA y v h) (hd : decode cc pc = .ok (.iastore, 1)) (hi : i = nI j) (hj : j < 60) (kk : ∀ (h1 : pH) (v1 : Nat → Int32), (∀ q, v1 q = if q = 76 + j then x1 else v q) → LA y v1 h1 → pO y (y + 5) h h1 → pV p l e R s m args below meth c nL E A Q z h1 k n (pc + 1) L st) : pV p l e R s m args below meth c nL E A Q z h k n pc L (.int x1 :: .int i :: .ref (y + 4) :: st) := by
  obtain ⟨f, e1, B1⟩ := B.stT (x1 := x1) (v1 := fun q => if q = 76 + j then x1 else v q) hj (fun q => rfl)
  exact v_iastN X j hd e1 hi hj (kk _ _ (fun q => rfl) B1 (pO.rf.set (by omega) (by omega)))
theorem v_stT (X : pCx p s m args c cc nL own E A) {x y : Nat} {w v : Nat → Int32} {i x1 : Int32} (j : Nat) (B : LB x y w v h) (hd : decode cc pc = .ok (.iastore, 1)) (hi : i = nI j) (hj : j < 60) (kk : ∀ (h1 : pH) (v1 : Nat → Int32), (∀ q, v1 q = if q = 76 + j then x1 else v q) → LB x y w v1 h1 → pV p l e R s m args below meth c nL E A Q z h1 k n (pc + 1) L st) : pV p l e R s m args below meth c nL E A Q z h k n pc L (.int x1 :: .int i :: .ref (y + 4) :: st) :=
  v_staT X j B.2.1 hd hi hj (fun h1 v1 e1 B1 O => kk h1 v1 e1 ⟨B.1.off (fun q g1 g2 => O q (by have := B.2.2; omega)), B1, B.2.2⟩)
theorem KYs.ob {x : Nat} {w : Nat → Int32} (K : KYs x w h) : ∃ fs, h x = some (ob 6 fs) := by
  obtain ⟨pa, te, nu, np, st, en, ⟨A, hf, G, N, R⟩, I⟩ := K
  exact ⟨_, G.1⟩
theorem v_act (X : pCx p s m args c cc nL own E A) {x y nh nb ns : Nat} {w v w1 : Nat → Int32} {ok : Prop} {r0 : Int32} {yy : MethodName} {cy : ByteArray} {ny N idx : Nat} {rm : Room} {As : List Value} (B : LB x y w v h) (I : Iv w nh nb ns) (hd : decode cc pc = .ok (.invokevirtual idx, 3)) (wv : pWV own idx yy cy ny (some .int) N)
    (hC : ∀ (pa te nu : Nat → Int32) (np : Nat) (st en : Int32), pC l E yy cy ny (some .int) rm 0 0 (.ref x :: As) (fun h _ => KY x w pa np 0 te st en nu h ∧ KI w pa np ∧ Iv w nh nb ns) (pFi (cK x w pa np 0 te st en nu ok r0 w1)))
    (S : ok → IE w1) (hhi : ok → ∀ q, 136 ≤ q → w1 q = w q)
    (kk : ∀ h' : pH, (¬ ok → LB x y w v h') → (ok → LB x y w1 v h') → pV p l e R s m args below meth c nL E A Q z h' k n (pc + 3) L (.int r0 :: st)) (hR : rm.frames + 1 ≤ R.frames ∧ 8 + (ny + 11) + rm.locals ≤ R.locals := by decide) (hN : As.length = N := by rfl) (hcls : yy.cls = RX6 := by rfl) (hst : st0 = As.reverse ++ .ref x :: st := by rfl) (hrm : rm.cells = 0 ∧ rm.slots = 0 := by exact ⟨rfl, rfl⟩) (hf : k + 0 ≤ R.cells ∧ n + 0 ≤ R.slots := by decide) (hW : (st.map fun v => v.category).sum ≤ 8 := by exact Nat.le_of_ble_eq_true rfl) : pV p l e R s m args below meth c nL E A Q z h k n pc L st0 := by
  obtain ⟨⟨pa, te, nu, np, st1, en1, K, KI0⟩, LA0, hxy⟩ := B
  obtain ⟨fs, hob⟩ := KYs.ob ⟨pa, te, nu, np, st1, en1, K, KI0⟩
  refine v_callVi X (hd := hd) (w := wv) (hC := hC pa te nu np st1 en1) (hp := ⟨K, KI0, I⟩) (hb := hob) (hr := hcls.symm) (hN := hN) (hst := hst) (hrm := hrm) (hR := hR) (hf := hf) (hW := hW) (kk := fun r h' q => ?_)
  obtain ⟨e1, D, O⟩ := q
  subst e1
  have LA1 : LA y v h' := LA0.off (fun q g1 g2 => O q (by omega))
  refine kk h' (fun k0 => ?_) (fun k1 => ?_)
  · rcases D with ⟨_, K1⟩ | ⟨k1, _⟩
    · exact ⟨⟨pa, te, nu, np, st1, en1, K1, KI0⟩, LA1, hxy⟩
    · exact absurd k1 k0
  · rcases D with ⟨k0, _⟩ | ⟨_, K1⟩
    · exact absurd k1 k0
    · exact ⟨⟨_, te, nu, _, st1, en1, K1, KI0.push (KI0.2.1.lo (S k1) (hhi k1))⟩, LA1, hxy⟩
theorem v_look (X : pCx p s m args c cc nL own E A) {x y nh nb ns : Nat} {w v : Nat → Int32} {f : Nat → Int32} {f0 : Int32} {yy : MethodName} {cy : ByteArray} {ny N idx : Nat} {rm : Room} {As : List Value} (B : LB x y w v h) (I : Iv w nh nb ns) (hd : decode cc pc = .ok (.invokevirtual idx, 3)) (wv : pWV own idx yy cy ny (some .int) N)
    (hC : ∀ (pa te nu : Nat → Int32) (np : Nat) (st en : Int32), pC l E yy cy ny (some .int) rm 0 0 (.ref x :: As) (fun h _ => KY x w pa np 0 te st en nu h ∧ Iv w nh nb ns) (pFp (f np))) (hf0 : ∀ np, f np = f0)
    (kk : pV p l e R s m args below meth c nL E A Q z h k n (pc + 3) L (.int f0 :: st)) (hR : rm.frames + 1 ≤ R.frames ∧ 8 + (ny + 11) + rm.locals ≤ R.locals := by decide) (hN : As.length = N := by rfl) (hcls : yy.cls = RX6 := by rfl) (hst : st0 = As.reverse ++ .ref x :: st := by rfl) (hrm : rm.cells = 0 ∧ rm.slots = 0 := by exact ⟨rfl, rfl⟩) (hf : k + 0 ≤ R.cells ∧ n + 0 ≤ R.slots := by decide) (hW : (st.map fun v => v.category).sum ≤ 8 := by exact Nat.le_of_ble_eq_true rfl) : pV p l e R s m args below meth c nL E A Q z h k n pc L st0 := by
  obtain ⟨⟨pa, te, nu, np, st1, en1, K, KI0⟩, LA0, hxy⟩ := B
  obtain ⟨fs, hob⟩ := KYs.ob ⟨pa, te, nu, np, st1, en1, K, KI0⟩
  refine v_callVp X (hd := hd) (w := wv) (hC := hC pa te nu np st1 en1) (hp := ⟨K, I⟩) (hb := hob) (hr := hcls.symm) (hN := hN) (hst := hst) (hrm := hrm) (hR := hR) (hf := hf) (hW := hW) (kk := ?_)
  rw [hf0 np]
  exact kk
end LAR
