/-! further rows: truth values, indices that are numbers, loops, calls that change nothing -/
def bI (P : Prop) [Decidable P] : Int32 := if P then 1 else 0
theorem bI_t {P : Prop} [Decidable P] (hp : P) : bI P = 1 := if_pos hp
theorem bI_f {P : Prop} [Decidable P] (hp : ¬ P) : bI P = 0 := if_neg hp
theorem bI_n (P : Prop) [Decidable P] : narrow .boolean (.int (bI P)) = .int (bI P) := by
  by_cases hp : P
  · rw [bI_t hp]; rfl
  · rw [bI_f hp]; rfl
theorem bI_v (P : Prop) [Decidable P] : vp_nar .boolean (bI P) = bI P := by
  by_cases hp : P
  · rw [bI_t hp]; rfl
  · rw [bI_f hp]; rfl
theorem bI_iff {P P2 : Prop} [Decidable P] [Decidable P2] (hp : P ↔ P2) : bI P = bI P2 := by
  by_cases q : P
  · rw [bI_t q, bI_t (hp.mp q)]
  · rw [bI_f q, bI_f (fun w => q (hp.mpr w))]
/-- h and h1 are alike but between lo and hi -/
def pO (lo hi : Nat) (h h1 : pH) : Prop := ∀ q : Nat, q < lo ∨ hi ≤ q → h1 q = h q
theorem pO.rf {lo hi : Nat} {h : pH} : pO lo hi h h := fun _ _ => rfl
theorem pO.tr {lo hi : Nat} {h h1 h2 : pH} (a : pO lo hi h h1) (b : pO lo hi h1 h2) : pO lo hi h h2 := fun q hq => (b q hq).trans (a q hq)
theorem pO.set {lo hi a : Nat} {h h1 : pH} {x : va_E} (a0 : pO lo hi h h1) (h1' : lo ≤ a) (h2 : a < hi) : pO lo hi h (pset h1 a x) := fun q hq => (pset_n (by omega)).trans (a0 q hq)
theorem pO.mono {lo hi lo2 hi2 : Nat} {h h1 : pH} (a : pO lo hi h h1) (h1' : lo2 ≤ lo) (h2 : hi ≤ hi2) : pO lo2 hi2 h h1 := fun q hq => a q (by omega)
def pFp (f : Int32) : pH → Nat → Option Value → pH → Nat → Prop := fun h z v h' z' => v = some (.int f) ∧ h' = h ∧ z' = z
def pFi (P : pH → Int32 → pH → Prop) : pH → Nat → Option Value → pH → Nat → Prop := fun h z v h' z' => z' = z ∧ ∃ r, v = some (.int r) ∧ P h r h'
def pFv (P : pH → pH → Prop) : pH → Nat → Option Value → pH → Nat → Prop := fun h z v h' z' => z' = z ∧ v = none ∧ P h h'
section PVM
variable {p : Program} {l : Launch} {e : Env} {R : Room} {s : State} {m : MethodId} {args : Array Value} {below : List Frame} {meth : Method} {c : Code} {cc : ByteArray} {nL : Nat} {own : String} {E : pE} {A : Nat → Prop} {Q : State → Prop} {z : Nat} {h : pH} {k n : Nat} {pc : Nat} {L : List (Option Value)} {st st0 : List Value}
variable {h0 : pH} {z0 : Nat} {y : MethodName} {cy : ByteArray} {ny N idx : Nat} {ret : Option FieldType} {rm : Room} {mc ms : Nat} {As : List Value} {pre : pH → Nat → Prop} {post : pH → Nat → Option Value → pH → Nat → Prop}
theorem v_ifeqB (X : pCx p s m args c cc nL own E A) {P : Prop} [Decidable P] {off : Int} {tgt : Nat} (hd : decode cc pc = .ok (.ifCond .eq off, 3)) (ht : (pc : Int) + off = (tgt : Int) := by decide) (kt : ¬ P → pV p l e R s m args below meth c nL E A Q z h k n tgt L st) (kf : P → pV p l e R s m args below meth c nL E A Q z h k n (pc + 3) L st) : pV p l e R s m args below meth c nL E A Q z h k n pc L (.int (bI P) :: st) := by
  refine v_ifeq (tgt := tgt) X (hd := hd) (ht := ht) (kt := fun q => kt (fun hp => ?_)) (kf := fun q => ?_)
  · rw [bI_t hp] at q; exact absurd q (by decide)
  · by_cases hp : P
    · exact kf hp
    · exact absurd (bI_f hp) q
theorem v_ifneB (X : pCx p s m args c cc nL own E A) {P : Prop} [Decidable P] {off : Int} {tgt : Nat} (hd : decode cc pc = .ok (.ifCond .ne off, 3)) (ht : (pc : Int) + off = (tgt : Int) := by decide) (kt : P → pV p l e R s m args below meth c nL E A Q z h k n tgt L st) (kf : ¬ P → pV p l e R s m args below meth c nL E A Q z h k n (pc + 3) L st) : pV p l e R s m args below meth c nL E A Q z h k n pc L (.int (bI P) :: st) := by
  refine v_ifne (tgt := tgt) X (hd := hd) (ht := ht) (kt := fun q => ?_) (kf := fun q => kf (fun hp => ?_))
  · by_cases hp : P
    · exact kt hp
    · exact absurd (bI_f hp) q
  · rw [bI_t hp] at q; exact q (by decide)
theorem v_ialdN (X : pCx p s m args c cc nL own E A) {a0 M : Nat} {f : Nat → Int32} {i : Int32} (j : Nat) (hd : decode cc pc = .ok (.iaload, 1)) (hh : h a0 = some (ai 1 M f)) (hi : i = nI j) (hj : j < M) (kk : pV p l e R s m args below meth c nL E A Q z h k n (pc + 1) L (.int (f j) :: st)) (hM : M < 2 ^ 31 := by decide) : pV p l e R s m args below meth c nL E A Q z h k n pc L (.int i :: .ref a0 :: st) := by
  subst hi
  refine v_iald X hd hh (vp_in_nI hj hM) ?_
  rw [nI_clamp (Nat.lt_trans hj hM)]
  exact kk
theorem v_zaldN (X : pCx p s m args c cc nL own E A) {a0 M : Nat} {f : Nat → Int32} {i : Int32} (j : Nat) (hd : decode cc pc = .ok (.baload, 1)) (hh : h a0 = some (ai 2 M f)) (hi : i = nI j) (hj : j < M) (kk : pV p l e R s m args below meth c nL E A Q z h k n (pc + 1) L (.int (f j) :: st)) (hM : M < 2 ^ 31 := by decide) : pV p l e R s m args below meth c nL E A Q z h k n pc L (.int i :: .ref a0 :: st) := by
  subst hi
  refine v_zald X hd hh (vp_in_nI hj hM) ?_
  rw [nI_clamp (Nat.lt_trans hj hM)]
  exact kk
theorem v_caldN (X : pCx p s m args c cc nL own E A) {a0 M : Nat} {f : Nat → Int32} {i : Int32} (j : Nat) (hd : decode cc pc = .ok (.caload, 1)) (hh : h a0 = some (ai 0 M f)) (hi : i = nI j) (hj : j < M) (kk : pV p l e R s m args below meth c nL E A Q z h k n (pc + 1) L (.int (f j) :: st)) (hM : M < 2 ^ 31 := by decide) : pV p l e R s m args below meth c nL E A Q z h k n pc L (.int i :: .ref a0 :: st) := by
  subst hi
  refine v_cald X hd hh (vp_in_nI hj hM) ?_
  rw [nI_clamp (Nat.lt_trans hj hM)]
  exact kk
theorem v_aaldN (X : pCx p s m args c cc nL own E A) {a0 M ki y1 : Nat} {C : String} {f : Nat → Option Nat} {i : Int32} (j : Nat) (hd : decode cc pc = .ok (.aaload, 1)) (hh : h a0 = some (ar ki M f)) (hi : i = nI j) (hj : j < M) (hf : f j = some y1) (kk : pV p l e R s m args below meth c nL E A Q z h k n (pc + 1) L (.ref y1 :: st)) (hM : M < 2 ^ 31 := by decide) (hki : ki < 8 := by decide) (hC : pT ki = .object C := by rfl) : pV p l e R s m args below meth c nL E A Q z h k n pc L (.int i :: .ref a0 :: st) := by
  subst hi
  exact v_aald X hd hh (vp_in_nI hj hM) hki hC (by rw [nI_clamp (Nat.lt_trans hj hM)]; exact hf) kk
theorem v_iastN (X : pCx p s m args c cc nL own E A) {a0 M : Nat} {f : Nat → Int32} {i x : Int32} (j : Nat) (hd : decode cc pc = .ok (.iastore, 1)) (hh : h a0 = some (ai 1 M f)) (hi : i = nI j) (hj : j < M) (kk : pV p l e R s m args below meth c nL E A Q z (pset h a0 (ai 1 M (upd f j x))) k n (pc + 1) L st) (hM : M < 2 ^ 31 := by decide) : pV p l e R s m args below meth c nL E A Q z h k n pc L (.int x :: .int i :: .ref a0 :: st) := by
  subst hi
  refine v_iast X hd hh (vp_in_nI hj hM) ?_
  rw [nI_clamp (Nat.lt_trans hj hM)]
  exact kk
theorem v_zastN (X : pCx p s m args c cc nL own E A) {a0 M : Nat} {f : Nat → Int32} {i x x1 : Int32} (j : Nat) (hd : decode cc pc = .ok (.bastore, 1)) (hh : h a0 = some (ai 2 M f)) (hi : i = nI j) (hj : j < M) (hx : vp_nar .boolean x = x1) (kk : pV p l e R s m args below meth c nL E A Q z (pset h a0 (ai 2 M (upd f j x1))) k n (pc + 1) L st) (hM : M < 2 ^ 31 := by decide) : pV p l e R s m args below meth c nL E A Q z h k n pc L (.int x :: .int i :: .ref a0 :: st) := by
  subst hi
  refine v_zast X hd hh (vp_in_nI hj hM) ?_
  rw [nI_clamp (Nat.lt_trans hj hM)]
  rw [hx]
  exact kk
theorem v_castN (X : pCx p s m args c cc nL own E A) {a0 M : Nat} {f : Nat → Int32} {i x x1 : Int32} (j : Nat) (hd : decode cc pc = .ok (.castore, 1)) (hh : h a0 = some (ai 0 M f)) (hi : i = nI j) (hj : j < M) (hx : vp_nar .char x = x1) (kk : pV p l e R s m args below meth c nL E A Q z (pset h a0 (ai 0 M (upd f j x1))) k n (pc + 1) L st) (hM : M < 2 ^ 31 := by decide) : pV p l e R s m args below meth c nL E A Q z h k n pc L (.int x :: .int i :: .ref a0 :: st) := by
  subst hi
  refine v_cast X hd hh (vp_in_nI hj hM) ?_
  rw [nI_clamp (Nat.lt_trans hj hM)]
  rw [hx]
  exact kk
theorem v_aastN (X : pCx p s m args c cc nL own E A) {a0 M ki y1 ci : Nat} {r : vw_C} {vs : List Value} {f : Nat → Option Nat} {i : Int32} (j : Nat) (hd : decode cc pc = .ok (.aastore, 1)) (hh : h a0 = some (ar ki M f)) (hv : h y1 = some (ob ci vs)) (hi : i = nI j) (hj : j < M) (kk : pV p l e R s m args below meth c nL E A Q z (pset h a0 (ar ki M (va_up f j (some y1)))) k n (pc + 1) L st) (hM : M < 2 ^ 31 := by decide) (hki : ki < 8 := by decide) (hc0 : vwCl[ci]? = some r := by rfl) (hC : pT ki = .object r.1 := by rfl) : pV p l e R s m args below meth c nL E A Q z h k n pc L (.ref y1 :: .int i :: .ref a0 :: st) := by
  subst hi
  refine v_aast X hd hh hv (vp_in_nI hj hM) hki hc0 hC ?_
  rw [nI_clamp (Nat.lt_trans hj hM)]
  exact kk
theorem v_iincN (X : pCx p s m args c cc nL own E A) {j i : Nat} (hd : decode cc pc = .ok (.iinc j 1, 3)) (hl : L[j]? = some (some (.int (nI i))) := by rfl) (hn : j < nL := by decide) (kk : pV p l e R s m args below meth c nL E A Q z h k n (pc + 3) (lset L j (.int (nI (i + 1)))) st) : pV p l e R s m args below meth c nL E A Q z h k n pc L st := v_iinc X (hd := hd) (hl := hl) (hv := (nI_succ i).symm) (hn := hn) (kk := kk)
theorem v_iinc1 (X : pCx p s m args c cc nL own E A) {j : Nat} {x : Int32} (hd : decode cc pc = .ok (.iinc j 1, 3)) (hl : L[j]? = some (some (.int x)) := by rfl) (hn : j < nL := by decide) (kk : pV p l e R s m args below meth c nL E A Q z h k n (pc + 3) (lset L j (.int (x + 1))) st) : pV p l e R s m args below meth c nL E A Q z h k n pc L st := v_iinc X (hd := hd) (hl := hl) (hv := rfl) (hn := hn) (kk := kk)
theorem v_gen (P : pH → Prop) (hP : P h) (kk : ∀ h1 : pH, P h1 → pV p l e R s m args below meth c nL E A Q z h1 k n pc L st) : pV p l e R s m args below meth c nL E A Q z h k n pc L st := kk h hP
/-- a loop over i from 0 to M -/
theorem v_for (M : Nat) (Lf : Nat → List (Option Value)) (I : Nat → pH → Prop) (h0 : I 0 h) (hL : L = Lf 0 := by rfl) (step : ∀ (i : Nat) (h1 : pH), i < M → I i h1 → (∀ h2 : pH, I (i + 1) h2 → pV p l e R s m args below meth c nL E A Q z h2 k n pc (Lf (i + 1)) st) → pV p l e R s m args below meth c nL E A Q z h1 k n pc (Lf i) st) (out : ∀ h1 : pH, I M h1 → pV p l e R s m args below meth c nL E A Q z h1 k n pc (Lf M) st) : pV p l e R s m args below meth c nL E A Q z h k n pc L st := by
  subst hL
  have K : ∀ (d i : Nat) (h1 : pH), i + d = M → I i h1 → pV p l e R s m args below meth c nL E A Q z h1 k n pc (Lf i) st := by
    intro d
    induction d with
    | zero => intro i h1 hi hI; obtain rfl : i = M := by omega
              exact out h1 hI
    | succ d ih => intro i h1 hi hI; exact step i h1 (by omega) hI (fun h2 h3 => ih (i + 1) h2 (by omega) h3)
  exact K M 0 h (by omega) h0
/-- a loop over i from 0 to M that changes no cell -/
theorem v_forp (M : Nat) (Lf : Nat → List (Option Value)) (hL : L = Lf 0 := by rfl) (step : ∀ (i : Nat), i < M → pV p l e R s m args below meth c nL E A Q z h k n pc (Lf (i + 1)) st → pV p l e R s m args below meth c nL E A Q z h k n pc (Lf i) st) (out : pV p l e R s m args below meth c nL E A Q z h k n pc (Lf M) st) : pV p l e R s m args below meth c nL E A Q z h k n pc L st := by
  subst hL
  have K : ∀ (d i : Nat), i + d = M → pV p l e R s m args below meth c nL E A Q z h k n pc (Lf i) st := by
    intro d
    induction d with
    | zero => intro i hi; obtain rfl : i = M := by omega
              exact out
    | succ d ih => intro i hi; exact step i (by omega) (ih (i + 1) (by omega))
  exact K M 0 (by omega)
theorem v_callVp (X : pCx p s m args c cc nL own E A) {b ci : Nat} {r : vw_C} {fs : List Value} {f : Int32} (hd : decode cc pc = .ok (.invokevirtual idx, 3)) (w : pWV own idx y cy ny ret N) (hC : pC l E y cy ny ret rm 0 0 (.ref b :: As) pre (pFp f)) (hp : pre h z) (hb : h b = some (ob ci fs)) (kk : pV p l e R s m args below meth c nL E A Q z h k n (pc + 3) L (.int f :: st)) (hcl : vwCl[ci]? = some r := by rfl) (hr : r.1 = y.cls := by rfl) (hN : As.length = N := by rfl) (hst : st0 = As.reverse ++ .ref b :: st := by rfl) (hrm : rm.cells = 0 ∧ rm.slots = 0 := by exact ⟨rfl, rfl⟩) (hR : rm.frames + 1 ≤ R.frames ∧ 8 + (ny + 11) + rm.locals ≤ R.locals := by decide) (hf : k + 0 ≤ R.cells ∧ n + 0 ≤ R.slots := by decide) (hW : (st.map fun v => v.category).sum ≤ 8 := by exact Nat.le_of_ble_eq_true rfl) : pV p l e R s m args below meth c nL E A Q z h k n pc L st0 := by
  refine v_callV X hd w hC hp hb (fun v h' z' hq => ?_) hcl hr hN hst hrm hR hf hW
  obtain ⟨rfl, rfl, rfl⟩ := hq
  exact kk
theorem v_callVi (X : pCx p s m args c cc nL own E A) {b ci : Nat} {r : vw_C} {fs : List Value} {P : pH → Int32 → pH → Prop} (hd : decode cc pc = .ok (.invokevirtual idx, 3)) (w : pWV own idx y cy ny ret N) (hC : pC l E y cy ny ret rm 0 0 (.ref b :: As) pre (pFi P)) (hp : pre h z) (hb : h b = some (ob ci fs)) (kk : ∀ (r : Int32) (h' : pH), P h r h' → pV p l e R s m args below meth c nL E A Q z h' k n (pc + 3) L (.int r :: st)) (hcl : vwCl[ci]? = some r := by rfl) (hr : r.1 = y.cls := by rfl) (hN : As.length = N := by rfl) (hst : st0 = As.reverse ++ .ref b :: st := by rfl) (hrm : rm.cells = 0 ∧ rm.slots = 0 := by exact ⟨rfl, rfl⟩) (hR : rm.frames + 1 ≤ R.frames ∧ 8 + (ny + 11) + rm.locals ≤ R.locals := by decide) (hf : k + 0 ≤ R.cells ∧ n + 0 ≤ R.slots := by decide) (hW : (st.map fun v => v.category).sum ≤ 8 := by exact Nat.le_of_ble_eq_true rfl) : pV p l e R s m args below meth c nL E A Q z h k n pc L st0 := by
  refine v_callV X hd w hC hp hb (fun v h' z' hq => ?_) hcl hr hN hst hrm hR hf hW
  obtain ⟨rfl, r, rfl, hq⟩ := hq
  exact kk r h' hq
theorem v_callVv (X : pCx p s m args c cc nL own E A) {b ci : Nat} {r : vw_C} {fs : List Value} {P : pH → pH → Prop} (hd : decode cc pc = .ok (.invokevirtual idx, 3)) (w : pWV own idx y cy ny none N) (hC : pC l E y cy ny none rm 0 0 (.ref b :: As) pre (pFv P)) (hp : pre h z) (hb : h b = some (ob ci fs)) (kk : ∀ (h' : pH), P h h' → pV p l e R s m args below meth c nL E A Q z h' k n (pc + 3) L st) (hcl : vwCl[ci]? = some r := by rfl) (hr : r.1 = y.cls := by rfl) (hN : As.length = N := by rfl) (hst : st0 = As.reverse ++ .ref b :: st := by rfl) (hrm : rm.cells = 0 ∧ rm.slots = 0 := by exact ⟨rfl, rfl⟩) (hR : rm.frames + 1 ≤ R.frames ∧ 8 + (ny + 11) + rm.locals ≤ R.locals := by decide) (hf : k + 0 ≤ R.cells ∧ n + 0 ≤ R.slots := by decide) (hW : (st.map fun v => v.category).sum ≤ 8 := by exact Nat.le_of_ble_eq_true rfl) : pV p l e R s m args below meth c nL E A Q z h k n pc L st0 := by
  refine v_callV X hd w hC hp hb (fun v h' z' hq => ?_) hcl hr hN hst hrm hR hf hW
  obtain ⟨rfl, rfl, hq⟩ := hq
  exact kk h' hq
theorem v_callSp (X : pCx p s m args c cc nL own E A)  {f : Int32} (hd : decode cc pc = .ok (.invokestatic idx, 3)) (w : pWS own idx y cy ny ret N) (hC : pC l E y cy ny ret rm 0 0 As pre (pFp f)) (hp : pre h z)  (kk : pV p l e R s m args below meth c nL E A Q z h k n (pc + 3) L (.int f :: st)) (hN : As.length = N := by rfl) (hst : st0 = As.reverse ++ st := by rfl) (hrm : rm.cells = 0 ∧ rm.slots = 0 := by exact ⟨rfl, rfl⟩) (hR : rm.frames + 1 ≤ R.frames ∧ 8 + (ny + 11) + rm.locals ≤ R.locals := by decide) (hf : k + 0 ≤ R.cells ∧ n + 0 ≤ R.slots := by decide) (hW : (st.map fun v => v.category).sum ≤ 8 := by exact Nat.le_of_ble_eq_true rfl) : pV p l e R s m args below meth c nL E A Q z h k n pc L st0 := by
  refine v_callS X hd w hC hp (fun v h' z' hq => ?_) hN hst hrm hR hf hW
  obtain ⟨rfl, rfl, rfl⟩ := hq
  exact kk
theorem v_callSi (X : pCx p s m args c cc nL own E A)  {P : pH → Int32 → pH → Prop} (hd : decode cc pc = .ok (.invokestatic idx, 3)) (w : pWS own idx y cy ny ret N) (hC : pC l E y cy ny ret rm 0 0 As pre (pFi P)) (hp : pre h z)  (kk : ∀ (r : Int32) (h' : pH), P h r h' → pV p l e R s m args below meth c nL E A Q z h' k n (pc + 3) L (.int r :: st)) (hN : As.length = N := by rfl) (hst : st0 = As.reverse ++ st := by rfl) (hrm : rm.cells = 0 ∧ rm.slots = 0 := by exact ⟨rfl, rfl⟩) (hR : rm.frames + 1 ≤ R.frames ∧ 8 + (ny + 11) + rm.locals ≤ R.locals := by decide) (hf : k + 0 ≤ R.cells ∧ n + 0 ≤ R.slots := by decide) (hW : (st.map fun v => v.category).sum ≤ 8 := by exact Nat.le_of_ble_eq_true rfl) : pV p l e R s m args below meth c nL E A Q z h k n pc L st0 := by
  refine v_callS X hd w hC hp (fun v h' z' hq => ?_) hN hst hrm hR hf hW
  obtain ⟨rfl, r, rfl, hq⟩ := hq
  exact kk r h' hq
theorem v_callSNp (X : pCx p s m args c cc nL own E A) {host : String} {f : Int32} (hd : decode cc pc = .ok (.invokestatic idx, 3)) (w : pWN own idx y host cy ny ret N ∧ Cond.static y ∈ uw) (hC : pC l E y cy ny ret rm 0 0 As pre (pFp f)) (hp : pre h z)  (kk : pV p l e R s m args below meth c nL E A Q z h k n (pc + 3) L (.int f :: st)) (hN : As.length = N := by rfl) (hst : st0 = As.reverse ++ st := by rfl) (hrm : rm.cells = 0 ∧ rm.slots = 0 := by exact ⟨rfl, rfl⟩) (hR : rm.frames + 1 ≤ R.frames ∧ 8 + (ny + 11) + rm.locals ≤ R.locals := by decide) (hf : k + 0 ≤ R.cells ∧ n + 0 ≤ R.slots := by decide) (hW : (st.map fun v => v.category).sum ≤ 8 := by exact Nat.le_of_ble_eq_true rfl) : pV p l e R s m args below meth c nL E A Q z h k n pc L st0 := by
  refine v_callSN X hd w hC hp (fun v h' z' hq => ?_) hN hst hrm hR hf hW
  obtain ⟨rfl, rfl, rfl⟩ := hq
  exact kk
theorem v_callSNi (X : pCx p s m args c cc nL own E A) {host : String} {P : pH → Int32 → pH → Prop} (hd : decode cc pc = .ok (.invokestatic idx, 3)) (w : pWN own idx y host cy ny ret N ∧ Cond.static y ∈ uw) (hC : pC l E y cy ny ret rm 0 0 As pre (pFi P)) (hp : pre h z)  (kk : ∀ (r : Int32) (h' : pH), P h r h' → pV p l e R s m args below meth c nL E A Q z h' k n (pc + 3) L (.int r :: st)) (hN : As.length = N := by rfl) (hst : st0 = As.reverse ++ st := by rfl) (hrm : rm.cells = 0 ∧ rm.slots = 0 := by exact ⟨rfl, rfl⟩) (hR : rm.frames + 1 ≤ R.frames ∧ 8 + (ny + 11) + rm.locals ≤ R.locals := by decide) (hf : k + 0 ≤ R.cells ∧ n + 0 ≤ R.slots := by decide) (hW : (st.map fun v => v.category).sum ≤ 8 := by exact Nat.le_of_ble_eq_true rfl) : pV p l e R s m args below meth c nL E A Q z h k n pc L st0 := by
  refine v_callSN X hd w hC hp (fun v h' z' hq => ?_) hN hst hrm hR hf hW
  obtain ⟨rfl, r, rfl, hq⟩ := hq
  exact kk r h' hq
theorem v_callIv (X : pCx p s m args c cc nL own E A) {b : Nat} {P : pH → pH → Prop} (hd : decode cc pc = .ok (.invokespecial idx, 3)) (w : pWI own idx y cy ny N) (hC : pC l E y cy ny none rm 0 0 (.ref b :: As) pre (pFv P)) (hp : pre h z)  (kk : ∀ (h' : pH), P h h' → pV p l e R s m args below meth c nL E A Q z h' k n (pc + 3) L st) (hN : As.length = N := by rfl) (hst : st0 = As.reverse ++ .ref b :: st := by rfl) (hrm : rm.cells = 0 ∧ rm.slots = 0 := by exact ⟨rfl, rfl⟩) (hR : rm.frames + 1 ≤ R.frames ∧ 8 + (ny + 11) + rm.locals ≤ R.locals := by decide) (hf : k + 0 ≤ R.cells ∧ n + 0 ≤ R.slots := by decide) (hW : (st.map fun v => v.category).sum ≤ 8 := by exact Nat.le_of_ble_eq_true rfl) : pV p l e R s m args below meth c nL E A Q z h k n pc L st0 := by
  refine v_callI X hd w hC hp (fun v h' z' hq => ?_) hN hst hrm hR hf hW
  obtain ⟨rfl, rfl, hq⟩ := hq
  exact kk h' hq
theorem v_endp (X : pCx p s m args c cc nL own E (pA h0 z0)) {r f : Int32} (hret : meth.sig.returnType = some .int) (hlk : meth.locks = false) (hd : decode cc pc = .ok (.ireturn, 1)) (hf : r = f) : pV p l e R s m args below meth c nL E (pA h0 z0) (MQ below (pQ E (pFp f) h0 z0) args s 0 0 (pA h0 z0)) z0 h0 0 0 pc L [.int r] := v_iret X hret hlk hd ⟨by rw [hf], rfl, rfl⟩ (Nat.le_refl _)
theorem v_endb (X : pCx p s m args c cc nL own E (pA h0 z0)) {r : Int32} {P : Prop} [Decidable P] (hret : meth.sig.returnType = some .boolean) (hlk : meth.locks = false) (hd : decode cc pc = .ok (.ireturn, 1)) (hf : r = bI P) : pV p l e R s m args below meth c nL E (pA h0 z0) (MQ below (pQ E (pFp (bI P)) h0 z0) args s 0 0 (pA h0 z0)) z0 h0 0 0 pc L [.int r] := v_zret X hret hlk hd (by rw [hf]; exact bI_n P) ⟨by rw [hf], rfl, rfl⟩ (Nat.le_refl _)
theorem v_endi (X : pCx p s m args c cc nL own E (pA h0 z0)) {r : Int32} {P : pH → Int32 → pH → Prop} (hret : meth.sig.returnType = some .int) (hlk : meth.locks = false) (hd : decode cc pc = .ok (.ireturn, 1)) (hf : P h0 r h) : pV p l e R s m args below meth c nL E (pA h0 z0) (MQ below (pQ E (pFi P) h0 z0) args s 0 0 (pA h0 z0)) z0 h 0 0 pc L [.int r] := v_iret X hret hlk hd ⟨rfl, r, rfl, hf⟩ (Nat.le_refl _)
theorem v_endbi (X : pCx p s m args c cc nL own E (pA h0 z0)) {r : Int32} {P : pH → Int32 → pH → Prop} (hret : meth.sig.returnType = some .boolean) (hlk : meth.locks = false) (hd : decode cc pc = .ok (.ireturn, 1)) (hn : narrow .boolean (.int r) = .int r) (hf : P h0 r h) : pV p l e R s m args below meth c nL E (pA h0 z0) (MQ below (pQ E (pFi P) h0 z0) args s 0 0 (pA h0 z0)) z0 h 0 0 pc L [.int r] := v_zret X hret hlk hd hn ⟨rfl, r, rfl, hf⟩ (Nat.le_refl _)
theorem v_endv (X : pCx p s m args c cc nL own E (pA h0 z0)) {P : pH → pH → Prop} (hret : meth.sig.returnType = none) (hlk : meth.locks = false) (hd : decode cc pc = .ok (.return_, 1)) (hf : P h0 h) : pV p l e R s m args below meth c nL E (pA h0 z0) (MQ below (pQ E (pFv P) h0 z0) args s 0 0 (pA h0 z0)) z0 h 0 0 pc L [] := v_vret X hret hlk hd ⟨rfl, rfl, hf⟩ (Nat.le_refl _)
end PVM
