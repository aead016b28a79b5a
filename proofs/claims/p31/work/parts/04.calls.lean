/-! calls, ends, makings -/
def pQ (E : pE) (post : pH → Nat → Option Value → pH → Nat → Prop) (h : pH) (z : Nat) : Array Value → State → Outcome → State → Prop := fun _ st oc t => (∃ (v : Option Value) (h' : pH) (z' : Nat), oc = .returned v ∧ post h z v h' z' ∧ t.heap.size = z' ∧ z ≤ z' ∧ pR E (pA h z) h' t.heap) ∧ va_F (pA h z) st t
def pP (E : pE) (h : pH) (z : Nat) : State → Prop := fun U => U.heap.size = z ∧ pR E (pA h z) h U.heap ∧ pK E U ∧ pS E (pA h z) U U.heap
theorem pP_blind {E : pE} {h : pH} {z : Nat} {vs : List Value} : FrameBlind (va_Pc vs (pP E h z)) := fun a U g mk q => by
  obtain ⟨q0, q1, q2, q3, q4⟩ := q
  exact ⟨q0, q1, q2, pK.same (u := U) (U := U.calling g mk a) rfl q3, pS.same (u := U) (U := U.calling g mk a) rfl q4⟩
def pWB (own : String) (idx : Nat) (y : MethodName) (cy : ByteArray) (ny : Nat) (ret : Option FieldType) (N : Nat) : Prop := Cond.methodLink own idx y ∈ uw ∧ Cond.initialized y.cls ∈ uw ∧ Cond.code y cy ny ret ∈ uw ∧ (y.cls ≠ "java/lang/invoke/MethodHandle" ∧ y.cls ≠ "java/lang/invoke/VarHandle" ∧ (parseMethodDescriptor y.desc).map (fun d => d.parameters.length) = some N)
def pWV (own : String) (idx : Nat) (y : MethodName) (cy : ByteArray) (ny : Nat) (ret : Option FieldType) (N : Nat) : Prop := pWB own idx y cy ny ret N ∧ Cond.instanceMethod y ∈ uw ∧ Cond.selects y.cls y y ∈ uw
def pWS (own : String) (idx : Nat) (y : MethodName) (cy : ByteArray) (ny : Nat) (ret : Option FieldType) (N : Nat) : Prop := pWB own idx y cy ny ret N ∧ Cond.static y ∈ uw
def pWI (own : String) (idx : Nat) (y : MethodName) (cy : ByteArray) (ny : Nat) (N : Nat) : Prop := pWB own idx y cy ny none N ∧ y.name = "<init>" ∧ Cond.instanceMethod y ∈ uw
def pWN (own : String) (idx : Nat) (y : MethodName) (host : String) (cy : ByteArray) (ny : Nat) (ret : Option FieldType) (N : Nat) : Prop := Cond.methodLinkNest own idx y host ∈ pNest ∧ Cond.initialized y.cls ∈ uw ∧ Cond.code y cy ny ret ∈ uw ∧ (y.cls ≠ "java/lang/invoke/MethodHandle" ∧ y.cls ≠ "java/lang/invoke/VarHandle" ∧ (parseMethodDescriptor y.desc).map (fun d => d.parameters.length) = some N)
section PVC
variable {p : Program} {l : Launch} {e : Env} {R : Room} {s : State} {m : MethodId} {args : Array Value} {below : List Frame} {meth : Method} {c : Code} {cc : ByteArray} {nL : Nat} {own : String} {E : pE} {A : Nat → Prop} {Q : State → Prop} {z : Nat} {h : pH} {k n : Nat} {pc : Nat} {L : List (Option Value)} {st st0 : List Value}
variable {h0 : pH} {z0 : Nat} {y : MethodName} {cy : ByteArray} {ny N idx : Nat} {ret : Option FieldType} {rm : Room} {mc ms : Nat} {As : List Value} {pre : pH → Nat → Prop} {post : pH → Nat → Option Value → pH → Nat → Prop}
theorem v_core (X : pCx p s m args c cc nL own E A) {vs : List Value}
    (run : ∀ (H : Heap) (locs : List Loc) (ls : Array Slot), pR E A h H → H.size = z → va_S A s.heap H locs → pL ls nL L → va_Run p l e R s m args below meth c H locs k n mc ms (F0 m pc ls st0) st (pQ E post h z vs.toArray) (pA h z))
    (kk : ∀ (v : Option Value) (h' : pH) (z' : Nat), post h z v h' z' → pV p l e R s m args below meth c nL E A Q z' h' (k + mc) (n + ms) (pc + 3) L (v.toList ++ st)) :
    pV p l e R s m args below meth c nL E A Q z h k n pc L st0 := by
  intro H locs ls a b c0 d T hT X0
  have hAA : ∀ q : Nat, pA h z q → A q := by
    intro q hq
    rcases hq with hq | hq
    · cases hx : h q with
      | none => exact absurd hx hq
      | some x => exact (a q x hx).2
    · exact X.2.2.2 q (Nat.le_trans (by rw [← b]; exact c0.1) hq)
  obtain ⟨v, st₀, t, T', Lc, h0, X', hL, e1, e2, ⟨⟨v', h', z', hv, hpost, hz, hle, hR'⟩, hF1, hF2⟩, go⟩ := run H locs ls a b c0 d T hT X0
  cases hv
  rw [h0] at hF1 hF2
  refine (fun ⟨t2, a1, b1⟩ => ⟨t2, go t2 a1, b1⟩) (kk v h' z' hpost T'.heap (locs ++ Lc) ls ?_ (by rw [e1]; exact hz) ?_ d T' rfl X')
  · intro q x hq
    obtain ⟨g1, g2⟩ := hR' q x hq
    exact ⟨by rw [e1]; exact g1, hAA q g2⟩
  · refine ⟨Nat.le_trans c0.1 (by rw [e1]; exact hF1), fun q h1 h2 => ?_, fun q hq => ?_⟩
    · rw [e1, hF2 q (Nat.lt_of_lt_of_le h1 c0.1) (fun w => h2 (hAA q w))]
      exact c0.2.1 q h1 h2
    · rcases List.mem_append.mp hq with w | w
      · exact c0.2.2 q w
      · exact hAA _ (hL q w)
theorem pP_at (X : pCx p s m args c cc nL own E A) {H : Heap} {locs : List Loc} (a : pR E A h H) (b : H.size = z) (c0 : va_S A s.heap H locs) {U : State} (hU : U.heap = H) (hW : s.WarmedH U.vm) : pP E h z U := by
  refine ⟨by rw [hU]; exact b, fun q x hq => ⟨by rw [hU]; exact (a q x hq).1, Or.inl (by rw [hq]; exact fun w => by cases w)⟩, X.2.1.warm hW, ?_⟩
  refine (X.2.2.1.warm hW).kept (H1 := U.heap) (fun q h1 h2 => by rw [hU]; exact c0.2.1 q h1 h2) (fun q hq => ?_)
  rcases hq with hq | hq
  · cases hx : h q with
    | none => exact absurd hx hq
    | some x => exact (a q x hx).2
  · exact X.2.2.2 q (Nat.le_trans (by rw [← b]; exact c0.1) hq)
theorem pWB.use (X : pCx p s m args c cc nL own E A) (w : pWB own idx y cy ny ret N) (hrm : rm.cells = mc ∧ rm.slots = ms) (hR : rm.frames + 1 ≤ R.frames ∧ 8 + (ny + 11) + rm.locals ≤ R.locals) : CallB R s args own idx y cy ny ret (wy y cy ny ret) rm mc ms N :=
  callB_of N X.1.2.2.2.2 (wy_good w.2.2.1) rfl hrm.1 hrm.2 (X.1.2.2.2.2 _ w.2.1) (X.1.2.2.2.2 _ w.1) w.2.2.2 hR
/-- a call of a method on an object of the abstract heap -/
theorem v_callV (X : pCx p s m args c cc nL own E A) {b ci : Nat} {r : vw_C} {fs : List Value} (hd : decode cc pc = .ok (.invokevirtual idx, 3)) (w : pWV own idx y cy ny ret N) (hC : pC l E y cy ny ret rm mc ms (.ref b :: As) pre post) (hp : pre h z) (hb : h b = some (ob ci fs))
    (kk : ∀ (v : Option Value) (h' : pH) (z' : Nat), post h z v h' z' → pV p l e R s m args below meth c nL E A Q z' h' (k + mc) (n + ms) (pc + 3) L (v.toList ++ st))
    (hcl : vwCl[ci]? = some r := by rfl) (hr : r.1 = y.cls := by rfl) (hN : As.length = N := by rfl) (hst : st0 = As.reverse ++ .ref b :: st := by rfl) (hrm : rm.cells = mc ∧ rm.slots = ms := by exact ⟨rfl, rfl⟩) (hR : rm.frames + 1 ≤ R.frames ∧ 8 + (ny + 11) + rm.locals ≤ R.locals := by decide) (hf : k + mc ≤ R.cells ∧ n + ms ≤ R.slots := by decide) (hW : (st.map fun v => v.category).sum ≤ 8 := by exact Nat.le_of_ble_eq_true rfl) :
    pV p l e R s m args below meth c nL E A Q z h k n pc L st0 := by
  subst hst
  refine v_core X (vs := .ref b :: As) (fun H locs ls a0 b0 c0 d0 => ?_) kk
  refine va_runV (As := As) (rest := st) (own := own) X.1 (hC h z hp) ⟨w.1.use X hrm hR, X.1.2.2.2.2 _ w.2.1, X.1.2.2.2.2 _ w.2.2⟩ ⟨pP_blind, ?_, fun U hU hW => ⟨rfl, pP_at X a0 b0 c0 hU hW⟩⟩ rfl hN d0.1 rfl (lv_room hW) hd hf
  obtain ⟨q', h1, cell, g1, g2, g3, -⟩ := (a0 b _ hb).1
  have hq : q' = r := Option.some.inj (h1.symm.trans hcl)
  subst hq
  exact ⟨cell, g1, by rw [g3]; rfl, by rw [g2, ← hr]; exact (X.2.1.1.1 ci q' hcl).2.1⟩
theorem v_callS (X : pCx p s m args c cc nL own E A) (hd : decode cc pc = .ok (.invokestatic idx, 3)) (w : pWS own idx y cy ny ret N) (hC : pC l E y cy ny ret rm mc ms As pre post) (hp : pre h z)
    (kk : ∀ (v : Option Value) (h' : pH) (z' : Nat), post h z v h' z' → pV p l e R s m args below meth c nL E A Q z' h' (k + mc) (n + ms) (pc + 3) L (v.toList ++ st))
    (hN : As.length = N := by rfl) (hst : st0 = As.reverse ++ st := by rfl) (hrm : rm.cells = mc ∧ rm.slots = ms := by exact ⟨rfl, rfl⟩) (hR : rm.frames + 1 ≤ R.frames ∧ 8 + (ny + 11) + rm.locals ≤ R.locals := by decide) (hf : k + mc ≤ R.cells ∧ n + ms ≤ R.slots := by decide) (hW : (st.map fun v => v.category).sum ≤ 8 := by exact Nat.le_of_ble_eq_true rfl) :
    pV p l e R s m args below meth c nL E A Q z h k n pc L st0 := by
  subst hst
  refine v_core X (vs := As) (fun H locs ls a0 b0 c0 d0 => ?_) kk
  exact va_runS (As := As) (rest := st) (own := own) X.1 (hC h z hp) ⟨w.1.use X hrm hR, X.1.2.2.2.2 _ w.2⟩ ⟨pP_blind, fun U hU hW => ⟨rfl, pP_at X a0 b0 c0 hU hW⟩⟩ rfl hN d0.1 rfl (lv_room hW) hd hf
theorem v_callI (X : pCx p s m args c cc nL own E A) {b : Nat} (hd : decode cc pc = .ok (.invokespecial idx, 3)) (w : pWI own idx y cy ny N) (hC : pC l E y cy ny none rm mc ms (.ref b :: As) pre post) (hp : pre h z)
    (kk : ∀ (v : Option Value) (h' : pH) (z' : Nat), post h z v h' z' → pV p l e R s m args below meth c nL E A Q z' h' (k + mc) (n + ms) (pc + 3) L (v.toList ++ st))
    (hN : As.length = N := by rfl) (hst : st0 = As.reverse ++ .ref b :: st := by rfl) (hrm : rm.cells = mc ∧ rm.slots = ms := by exact ⟨rfl, rfl⟩) (hR : rm.frames + 1 ≤ R.frames ∧ 8 + (ny + 11) + rm.locals ≤ R.locals := by decide) (hf : k + mc ≤ R.cells ∧ n + ms ≤ R.slots := by decide) (hW : (st.map fun v => v.category).sum ≤ 8 := by exact Nat.le_of_ble_eq_true rfl) :
    pV p l e R s m args below meth c nL E A Q z h k n pc L st0 := by
  subst hst
  refine v_core X (vs := .ref b :: As) (fun H locs ls a0 b0 c0 d0 => ?_) kk
  exact va_runI (As := As) (rest := st) (own := own) X.1 (hC h z hp) ⟨w.1.use X hrm hR, w.2.1, X.1.2.2.2.2 _ w.2.2⟩ ⟨pP_blind, fun U hU hW => ⟨rfl, pP_at X a0 b0 c0 hU hW⟩⟩ rfl hN d0.1 rfl (lv_room hW) hd hf
theorem pWN.use (X : pCx p s m args c cc nL own E A) {host : String} (w : pWN own idx y host cy ny ret N) (hrm : rm.cells = mc ∧ rm.slots = ms) (hR : rm.frames + 1 ≤ R.frames ∧ 8 + (ny + 11) + rm.locals ≤ R.locals) : va_CN R s args own idx y host cy ny ret (wy y cy ny ret) rm mc ms N :=
  va_cnB N X.1.2.2.2.2 (wy_good w.2.2.1) rfl hrm.1 hrm.2 (X.2.1.2.2.1 _ w.1) (X.1.2.2.2.2 _ w.2.1) w.2.2.2 hR
theorem v_callSN (X : pCx p s m args c cc nL own E A) {host : String} (hd : decode cc pc = .ok (.invokestatic idx, 3)) (w : pWN own idx y host cy ny ret N ∧ Cond.static y ∈ uw) (hC : pC l E y cy ny ret rm mc ms As pre post) (hp : pre h z)
    (kk : ∀ (v : Option Value) (h' : pH) (z' : Nat), post h z v h' z' → pV p l e R s m args below meth c nL E A Q z' h' (k + mc) (n + ms) (pc + 3) L (v.toList ++ st))
    (hN : As.length = N := by rfl) (hst : st0 = As.reverse ++ st := by rfl) (hrm : rm.cells = mc ∧ rm.slots = ms := by exact ⟨rfl, rfl⟩) (hR : rm.frames + 1 ≤ R.frames ∧ 8 + (ny + 11) + rm.locals ≤ R.locals := by decide) (hf : k + mc ≤ R.cells ∧ n + ms ≤ R.slots := by decide) (hW : (st.map fun v => v.category).sum ≤ 8 := by exact Nat.le_of_ble_eq_true rfl) :
    pV p l e R s m args below meth c nL E A Q z h k n pc L st0 := by
  subst hst
  refine v_core X (vs := As) (fun H locs ls a0 b0 c0 d0 => ?_) kk
  exact va_runSN (As := As) (rest := st) (own := own) X.1 (hC h z hp) ⟨w.1.use X hrm hR, X.1.2.2.2.2 _ w.2, trivial⟩ ⟨pP_blind, fun U hU hW => ⟨rfl, pP_at X a0 b0 c0 hU hW⟩⟩ rfl hN d0.1 rfl (lv_room hW) hd hf
theorem v_callIN (X : pCx p s m args c cc nL own E A) {b : Nat} {host : String} (hd : decode cc pc = .ok (.invokespecial idx, 3)) (w : pWN own idx y host cy ny none N ∧ y.name = "<init>" ∧ Cond.instanceMethod y ∈ uw) (hC : pC l E y cy ny none rm mc ms (.ref b :: As) pre post) (hp : pre h z)
    (kk : ∀ (v : Option Value) (h' : pH) (z' : Nat), post h z v h' z' → pV p l e R s m args below meth c nL E A Q z' h' (k + mc) (n + ms) (pc + 3) L (v.toList ++ st))
    (hN : As.length = N := by rfl) (hst : st0 = As.reverse ++ .ref b :: st := by rfl) (hrm : rm.cells = mc ∧ rm.slots = ms := by exact ⟨rfl, rfl⟩) (hR : rm.frames + 1 ≤ R.frames ∧ 8 + (ny + 11) + rm.locals ≤ R.locals := by decide) (hf : k + mc ≤ R.cells ∧ n + ms ≤ R.slots := by decide) (hW : (st.map fun v => v.category).sum ≤ 8 := by exact Nat.le_of_ble_eq_true rfl) :
    pV p l e R s m args below meth c nL E A Q z h k n pc L st0 := by
  subst hst
  refine v_core X (vs := .ref b :: As) (fun H locs ls a0 b0 c0 d0 => ?_) kk
  exact va_runIN (As := As) (rest := st) (own := own) X.1 (hC h z hp) ⟨w.1.use X hrm hR, w.2.1, X.1.2.2.2.2 _ w.2.2⟩ ⟨pP_blind, fun U hU hW => ⟨rfl, pP_at X a0 b0 c0 hU hW⟩⟩ rfl hN d0.1 rfl (lv_room hW) hd hf
/-- Object.<init> -/
theorem v_objInit (X : pCx p s m args c cc nL own E A) {b : Nat} (hd : decode cc pc = .ok (.invokespecial idx, 3)) (hw1 : Cond.methodLink own idx objectInit ∈ uw) (hw2 : Cond.instanceMethod objectInit ∈ uw) (hw3 : Cond.code objectInit ⟨#[0xb1]⟩ 1 none ∈ uw)
    (kk : pV p l e R s m args below meth c nL E A Q z h k n (pc + 3) L st) (hF : 1 ≤ R.frames := by decide) (hLo : (st.map fun v => v.category).sum + 12 ≤ R.locals := by exact Nat.le_of_ble_eq_true rfl) : pV p l e R s m args below meth c nL E A Q z h k n pc L (.ref b :: st) := fun H locs ls a b0 c0 d =>
  W.objInit X.1.1 X.1.2.1 X.1.2.2.2.1 (X.1.2.2.2.2 _ hw1) (X.1.2.2.2.2 _ hw2) (X.1.2.2.2.2 _ hw3) rfl (by rw [X.1.2.2.1]; exact d.1) rfl hd hF (by show 2 * 0 + _ + 12 ≤ _; omega) (W.eq (g2 := F0 m (pc + 3) ls st) rfl (kk H locs ls a b0 c0 d))
theorem v_max (X : pCx p s m args c cc nL own E A) {x x2 : Int32} (hd : decode cc pc = .ok (.invokestatic idx, 3)) (hw1 : Cond.methodLink own idx Lib.Math.max.name ∈ uw) (hw2 : Cond.static Lib.Math.max.name ∈ uw) (hw3 : Cond.initialized "java/lang/Math" ∈ uw) (hw4 : Cond.code Lib.Math.max.name Lib.Math.max.code 2 (some .int) ∈ uw)
    (kk : pV p l e R s m args below meth c nL E A Q z h k n (pc + 3) L (.int (if x < x2 then x2 else x) :: st)) (hF : 1 ≤ R.frames := by decide) (hLo : (st.map fun v => v.category).sum + 13 ≤ R.locals := by exact Nat.le_of_ble_eq_true rfl) (hf : k ≤ R.cells ∧ n ≤ R.slots := by decide) : pV p l e R s m args below meth c nL E A Q z h k n pc L (.int x2 :: .int x :: st) := fun H locs ls a b0 c0 d =>
  va_mmax X.1.1 X.1.2.1 (by rw [X.1.2.2.1]; exact d.1.symm) X.1.2.2.2.1 (X.1.2.2.2.2 _ hw1) (X.1.2.2.2.2 _ hw2) (X.1.2.2.2.2 _ hw3) (X.1.2.2.2.2 _ hw4) hF hLo hf.1 hf.2 hd (kk H locs ls a b0 c0 d)
theorem v_min (X : pCx p s m args c cc nL own E A) {x x2 : Int32} (hd : decode cc pc = .ok (.invokestatic idx, 3)) (hw1 : Cond.methodLink own idx Lib.Math.min.name ∈ uw) (hw2 : Cond.static Lib.Math.min.name ∈ uw) (hw3 : Cond.initialized "java/lang/Math" ∈ uw) (hw4 : Cond.code Lib.Math.min.name Lib.Math.min.code 2 (some .int) ∈ uw)
    (kk : pV p l e R s m args below meth c nL E A Q z h k n (pc + 3) L (.int (if x2 < x then x2 else x) :: st)) (hF : 1 ≤ R.frames := by decide) (hLo : (st.map fun v => v.category).sum + 13 ≤ R.locals := by exact Nat.le_of_ble_eq_true rfl) (hf : k ≤ R.cells ∧ n ≤ R.slots := by decide) : pV p l e R s m args below meth c nL E A Q z h k n pc L (.int x2 :: .int x :: st) := fun H locs ls a b0 c0 d =>
  va_mmin X.1.1 X.1.2.1 (by rw [X.1.2.2.1]; exact d.1.symm) X.1.2.2.2.1 (X.1.2.2.2.2 _ hw1) (X.1.2.2.2.2 _ hw2) (X.1.2.2.2.2 _ hw3) (X.1.2.2.2.2 _ hw4) hF hLo hf.1 hf.2 hd (kk H locs ls a b0 c0 d)
/-! ends -/
theorem v_iret (X : pCx p s m args c cc nL own E (pA h0 z0)) (hr : meth.sig.returnType = some .int) (hlk : meth.locks = false) {r : Int32} (hd : decode cc pc = .ok (.ireturn, 1)) (hq : post h0 z0 (some (.int r)) h z) (hz : z0 ≤ z) : pV p l e R s m args below meth c nL E (pA h0 z0) (MQ below (pQ E post h0 z0) args s k n (pA h0 z0)) z h k n pc L [.int r] := fun H locs ls a b c0 d =>
  W.iret X.1.1 X.1.2.1 hr (fun t ht hW => ⟨⟨some (.int r), h, z, rfl, hq, by rw [ht]; exact b, hz, by rw [ht]; exact a⟩, c0.F ht⟩) c0.2.2 hd hlk
theorem v_zret (X : pCx p s m args c cc nL own E (pA h0 z0)) {ty : FieldType} (hr : meth.sig.returnType = some ty) (hlk : meth.locks = false) {r : Int32} (hd : decode cc pc = .ok (.ireturn, 1)) (hn : narrow ty (.int r) = .int r) (hq : post h0 z0 (some (.int r)) h z) (hz : z0 ≤ z) : pV p l e R s m args below meth c nL E (pA h0 z0) (MQ below (pQ E post h0 z0) args s k n (pA h0 z0)) z h k n pc L [.int r] := fun H locs ls a b c0 d =>
  W.zret X.1.1 X.1.2.1 hr hn (fun t ht hW => ⟨⟨some (.int r), h, z, rfl, hq, by rw [ht]; exact b, hz, by rw [ht]; exact a⟩, c0.F ht⟩) c0.2.2 hd hlk
theorem v_vret (X : pCx p s m args c cc nL own E (pA h0 z0)) (hr : meth.sig.returnType = none) (hlk : meth.locks = false) (hd : decode cc pc = .ok (.return_, 1)) (hq : post h0 z0 none h z) (hz : z0 ≤ z) : pV p l e R s m args below meth c nL E (pA h0 z0) (MQ below (pQ E post h0 z0) args s k n (pA h0 z0)) z h k n pc L [] := fun H locs ls a b c0 d =>
  W.vret X.1.1 X.1.2.1 hr (fun t ht hW => ⟨⟨none, h, z, rfl, hq, by rw [ht]; exact b, hz, by rw [ht]; exact a⟩, c0.F ht⟩) c0.2.2 hd hlk
/-! makings: the new cell stands at z -/
theorem pR.push {H H1 : Heap} {x : va_E} (a : pR E A h H) (b : H.size = z) (hA : A z) (hx : va_at (E.1, E.2.1) vwCl (z, px E x) H1) (o : ∀ q : Nat, q < z → H1[q]? = H[q]?) : pR E A (pset h z x) H1 := by
  intro q y0 hq
  by_cases e0 : q = z
  · subst e0
    rw [pset_s] at hq
    cases hq
    exact ⟨hx, hA⟩
  · rw [pset_n e0] at hq
    exact ⟨(a q y0 hq).1.kept (o q (by rw [← b]; exact a.lt hq)), (a q y0 hq).2⟩
theorem v_new (X : pCx p s m args c cc nL own E A) {ci : Nat} {C : String} {T : u_T} {Nf : Nat} (hd : decode cc pc = .ok (.new idx, 3)) (hin : ∀ w ∈ u_ws C T Nf, w ∈ uw) (ty : Nat → FieldType) (hty : ∀ k, k < Nf → parseFieldDescriptor (T k).2.2.1 = some (ty k)) (hw1 : Cond.classLink own idx C ∈ uw) (hw2 : Cond.instantiable C Nf ∈ uw) (hw3 : Cond.initialized C ∈ uw) (hc : vwCl[ci]? = some (C, T, Nf)) (fs : List Value) (hfs : ∀ j, j < Nf → defaultValue (ty j) = vp_V fs j)
    (kk : pV p l e R s m args below meth c nL E A Q (z + 1) (pset h z (ob ci fs)) (k + 1) (n + Nf) (pc + 3) L (.ref z :: st)) (hf : k + 1 ≤ R.cells ∧ n + Nf ≤ R.slots := by decide) : pV p l e R s m args below meth c nL E A Q z h k n pc L st := fun H locs ls a b c0 d => by
  have hKn := X.2.1.1.1 ci _ hc
  refine W.newcK X.1.1 X.1.2.1 X.1.2.2.2.1 (X.1.2.2.2.2 _ hw1) (X.1.2.2.2.2 _ hw2) (X.1.2.2.2.2 _ hw3) rfl hd hf.1 hf.2 hKn.2.1 b fun H1 kC hkC e1 z1 o1 => ?_
  refine kk H1 locs ls (a.push b (X.2.2.2 z (by rw [← b]; exact c0.1)) ⟨_, hc, (u_born ty X.1.2.2.2.2 hin hKn hkC e1 hty).to hfs⟩ o1) z1 ⟨Nat.le_trans c0.1 (by omega), fun x h1 h2 => (o1 x (by rw [← b]; exact Nat.lt_of_lt_of_le h1 c0.1)).trans (c0.2.1 x h1 h2), c0.2.2⟩ d
theorem v_newa (X : pCx p s m args c cc nL own E A) {ki : Nat} {atype : ArrayType} {i : Int32} {Na : Nat} (hd : decode cc pc = .ok (.newarray atype, 2)) (hw : Cond.arrayClass (newarray.typeOf atype) ∈ uw) (hki : ki < 8) (hT : pT ki = newarray.typeOf atype) (hdef : defaultValue (newarray.typeOf atype) = .int 0) (hi0 : ¬ i < 0) (hN : i.toNatClampNeg = Na) (hb : Na * componentBytes (newarray.typeOf atype) ≤ 536870912) (hRA : ∀ (U : State) (cA : ClassId), va_RA U cA (newarray.typeOf atype) → U.vm.findClass ("[" ++ (newarray.typeOf atype).toString) = some cA)
    (kk : pV p l e R s m args below meth c nL E A Q (z + 1) (pset h z (ai ki Na (fun _ => 0))) (k + 1) (n + Na) (pc + 2) L (.ref z :: st)) (hf : k + 1 ≤ R.cells ∧ n + Na ≤ R.slots := by decide) : pV p l e R s m args below meth c nL E A Q z h k n pc L (.int i :: st) := fun H locs ls a b c0 d => by
  refine va_newaK X.1.1 X.1.2.1 (X.1.2.2.2.2 _ hw) rfl hd rfl hi0 hN hb hf.1 hf.2 b fun H1 cA e1 z1 o1 hAr hNm => ?_
  have hk := (X.2.1.2.1 ki hki).2
  rw [hT] at hk
  have hcA : E.2.2.1 ki = cA := Option.some.inj ((hRA s _ hk).symm.trans hNm)
  refine kk H1 locs ls (a.push b (X.2.2.2 z (by rw [← b]; exact c0.1)) ?_ o1) z1 ⟨Nat.le_trans c0.1 (by omega), fun x h1 h2 => (o1 x (by rw [← b]; exact Nat.lt_of_lt_of_le h1 c0.1)).trans (c0.2.1 x h1 h2), c0.2.2⟩ d
  show H1[z]? = some (vp_cell (E.2.2.1 ki) (Na, .inl (fun _ => 0)))
  rw [hcA, vp_cell_i, e1, hdef]
theorem v_newq (X : pCx p s m args c cc nL own E A) {ki : Nat} {C : String} {i : Int32} {Na : Nat} (hd : decode cc pc = .ok (.anewarray idx, 3)) (hw : Cond.classLink own idx C ∈ uw) (hAO : C ∈ pAO) (hki : ki < 8) (hT : pT ki = .object C) (hi0 : ¬ i < 0) (hN : i.toNatClampNeg = Na) (hb : Na * 4 ≤ 536870912)
    (kk : pV p l e R s m args below meth c nL E A Q (z + 1) (pset h z (ar ki Na (fun _ => none))) (k + 1) (n + Na) (pc + 3) L (.ref z :: st)) (hf : k + 1 ≤ R.cells ∧ n + Na ≤ R.slots := by decide) : pV p l e R s m args below meth c nL E A Q z h k n pc L (.int i :: st) := fun H locs ls a b c0 d => by
  subst hN
  refine W.anew X.1.1 X.1.2.1 X.1.2.2.2.1 (X.1.2.2.2.2 _ hw) (va_AO.use (X.2.1.2.2.2 C hAO)) rfl hd rfl hi0 hb hf.1 hf.2 fun cA kA comp f1 f2 f3 f4 => ?_
  generalize hH1 : H.push ({ cls := cA, slots := Array.replicate i.toNatClampNeg .null, vm := .none } : Cell) = H1
  have z1 : H1.size = z + 1 := by rw [← hH1, Array.size_push, b]
  have e1 : H1[z]? = some (arrV cA i.toNatClampNeg (fun _ => .null)) := by rw [← hH1, ← b, Array.getElem?_push_size, ← arrV_new]
  have o1 : ∀ q : Nat, q < z → H1[q]? = H[q]? := fun q hq => by rw [← hH1, Array.getElem?_push, if_neg (by omega)]
  have hk := (X.2.1.2.1 ki hki).2
  rw [hT] at hk
  obtain ⟨kA', comp', k1, k2, k3, k4⟩ := hk
  have hcA : E.2.2.1 ki = cA := Option.some.inj (k4.symm.trans f1)
  rw [b]
  refine kk H1 locs ls (a.push b (X.2.2.2 z (by rw [← b]; exact c0.1)) ?_ o1) z1 ⟨Nat.le_trans c0.1 (by omega), fun x h1 h2 => (o1 x (by rw [← b]; exact Nat.lt_of_lt_of_le h1 c0.1)).trans (c0.2.1 x h1 h2), c0.2.2⟩ d
  show H1[z]? = some (vp_cell (E.2.2.1 ki) (i.toNatClampNeg, .inr (.inr (.inr (.inr (fun _ => none))))))
  rw [hcA, vp_cell_q, e1]
  rfl
/-! a contract out of a walk -/
theorem pC_of {vs : List Value} (hy : plainName y.cls = true) (hc : ∀ v ∈ vs, v.category = 1) (hn : (lg_sl vs).length ≤ ny)
    (body : ∀ (h : pH) (z : Nat), pre h z → ∀ (p : Program) (e : Env) (s : State) (m : MethodId) (args : Array Value) (below : List Frame) (meth : Method) (c : Code), pCx p s m args c cy ny y.cls E (pA h z) → meth.sig.returnType = ret → meth.locks = false → meth.name = y.name →
      pV p l e rm s m args below meth c ny E (pA h z) (MQ below (pQ E post h z) args s mc ms (pA h z)) z h 0 0 0 (vs.map some ++ List.replicate (ny - vs.length) none) []) : pC l E y cy ny ret rm mc ms vs pre post := by
  intro h z hp
  refine Met.ofW (cc := cy) (maxL := ny) (ret := ret) hy rfl ?_
  intro p e s m args below meth c s₁ B hml hv
  obtain ⟨rfl, hz, hR, hK, hS⟩ := hv
  have hts := atoms_spec (ws := wy y cy ny ret) B.pre
  have X : pCx p s m vs.toArray c cy ny y.cls E (pA h z) := ⟨⟨B.exec, B.bytes, hml, findClass_of_methodNamed B.named, fun w hw => hts w (List.mem_cons_of_mem _ hw)⟩, hK, hS, fun q hq => Or.inr (by rw [← hz]; exact hq)⟩
  have hb := body h z hp p e s m vs.toArray below meth c X B.returns B.notSynchronized (name_of_methodNamed B.named B.method).1
  rw [lg_entry_eq]
  exact hb s.heap [] _ hR hz va_S.rf (pL_entry hc hn)
end PVC
