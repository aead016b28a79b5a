/-! the script's cell beside the abstract heap -/
def pCs (l : Launch) (E : pE) (y : MethodName) (cc : ByteArray) (nL : Nat) (ret : Option FieldType) (rm : Room) (b L0 : Nat) (xs : Nat → Int32) (vs : List Value) (post : pH → Nat → Option Value → pH → Nat → Prop) : Prop :=
  ∀ (h : pH) (z : Nat), h b = none → b < z → Met l y (wy y cc nL ret) rm (va_Pc vs (fun U => pP E h z U ∧ va_X b L0 xs U U.heap)) (pQ E post h z) 0 0 (pA h z)
theorem pPX_blind {E : pE} {h : pH} {z b L0 : Nat} {xs : Nat → Int32} {vs : List Value} : FrameBlind (va_Pc vs (fun U => pP E h z U ∧ va_X b L0 xs U U.heap)) := fun a U g mk q => by
  obtain ⟨q0, q1, q2⟩ := q
  obtain ⟨-, q3⟩ := pP_blind (vs := vs) a U g mk ⟨q0, q1⟩
  exact ⟨q0, q3, q2.moved (u := U) (U := U.calling g mk a) (Vm.Alike.refl U.vm)⟩
section PVS
variable {p : Program} {l : Launch} {e : Env} {R : Room} {s : State} {m : MethodId} {args : Array Value} {below : List Frame} {meth : Method} {c : Code} {cc : ByteArray} {nL : Nat} {own : String} {E : pE} {A : Nat → Prop} {Q : State → Prop} {z : Nat} {h : pH} {k n : Nat} {pc : Nat} {L : List (Option Value)} {st st0 : List Value}
variable {h0 : pH} {z0 : Nat} {y : MethodName} {cy : ByteArray} {ny N idx : Nat} {ret : Option FieldType} {rm : Room} {mc ms : Nat} {As : List Value} {b L0 : Nat} {xs : Nat → Int32} {post : pH → Nat → Option Value → pH → Nat → Prop}
theorem v_xld (X : pCx p s m args c cc nL own E A) (hX : va_X b L0 xs s s.heap) (hbl : b < s.heap.size) (hA : ¬ A b) (hL : L0 ≤ 2048) {i : Int32} (j : Nat) (hd : decode cc pc = .ok (.iaload, 1)) (hi : i = nI j) (hj : j < L0) (kk : pV p l e R s m args below meth c nL E A Q z h k n (pc + 1) L (.int (xs j) :: st)) : pV p l e R s m args below meth c nL E A Q z h k n pc L (.int i :: .ref b :: st) := fun H locs ls a0 b0 c0 d => by
  subst hi
  refine va_sld X.1.1 X.1.2.1 hX hbl hA c0 (vp_in_nI hj (by omega)) hd ?_
  rw [nI_clamp (by omega)]
  exact kk H locs ls a0 b0 c0 d
theorem v_xlen (X : pCx p s m args c cc nL own E A) (hX : va_X b L0 xs s s.heap) (hbl : b < s.heap.size) (hA : ¬ A b) (hd : decode cc pc = .ok (.arraylength, 1)) (kk : pV p l e R s m args below meth c nL E A Q z h k n (pc + 1) L (.int (nI L0) :: st)) : pV p l e R s m args below meth c nL E A Q z h k n pc L (.ref b :: st) := fun H locs ls a0 b0 c0 d =>
  va_slen X.1.1 X.1.2.1 hX hbl hA c0 hd (kk H locs ls a0 b0 c0 d)
theorem v_callX (X : pCx p s m args c cc nL own E A) (hX : va_X b L0 xs s s.heap) (hbl : b < s.heap.size) (hA : ¬ A b) (hd : decode cc pc = .ok (.invokestatic idx, 3)) (w : pWS own idx y cy ny ret N) {P : pH → Int32 → pH → Prop} (hC : pCs l E y cy ny ret rm b L0 xs As (pFi P))
    (kk : ∀ (r : Int32) (h' : pH), P h r h' → pV p l e R s m args below meth c nL E A Q z h' k n (pc + 3) L (.int r :: st))
    (hN : As.length = N := by rfl) (hst : st0 = As.reverse ++ st := by rfl) (hrm : rm.cells = 0 ∧ rm.slots = 0 := by exact ⟨rfl, rfl⟩) (hR : rm.frames + 1 ≤ R.frames ∧ 8 + (ny + 11) + rm.locals ≤ R.locals := by decide) (hf : k + 0 ≤ R.cells ∧ n + 0 ≤ R.slots := by decide) (hW : (st.map fun v => v.category).sum ≤ 8 := by exact Nat.le_of_ble_eq_true rfl) :
    pV p l e R s m args below meth c nL E A Q z h k n pc L st0 := by
  subst hst
  refine v_core (st := st) (mc := 0) (ms := 0) (post := pFi P) X (vs := As) (fun H locs ls a0 b0 c0 d0 => ?_) (fun v h' z' hq => ?_)
  · have hb : h b = none := by
      cases hx : h b with
      | none => rfl
      | some x => exact absurd (a0 b x hx).2 hA
    have hz : b < z := by rw [← b0]; exact Nat.lt_of_lt_of_le hbl c0.1
    exact va_runS (As := As) (rest := st) (own := own) X.1 (hC h z hb hz) ⟨w.1.use X hrm hR, X.1.2.2.2.2 _ w.2⟩ ⟨pPX_blind, fun U hU hW => ⟨rfl, pP_at X a0 b0 c0 hU hW, (hX.kept (H1 := U.heap) (by rw [hU]; exact c0.2.1 b hbl hA)).moved hW.alike⟩⟩ rfl hN d0.1 rfl (lv_room hW) hd hf
  · obtain ⟨rfl, r, rfl, hq⟩ := hq
    exact kk r h' hq
theorem pCs_of {vs : List Value} (hy : plainName y.cls = true) (hc : ∀ v ∈ vs, v.category = 1) (hn : (lg_sl vs).length ≤ ny)
    (body : ∀ (h : pH) (z : Nat), ∀ (p : Program) (e : Env) (s : State) (m : MethodId) (args : Array Value) (below : List Frame) (meth : Method) (c : Code), pCx p s m args c cy ny y.cls E (pA h z) → va_X b L0 xs s s.heap → b < s.heap.size → ¬ pA h z b → meth.sig.returnType = ret → meth.locks = false → meth.name = y.name →
      pV p l e rm s m args below meth c ny E (pA h z) (MQ below (pQ E post h z) args s 0 0 (pA h z)) z h 0 0 0 (vs.map some ++ List.replicate (ny - vs.length) none) []) : pCs l E y cy ny ret rm b L0 xs vs post := by
  intro h z hb hbz
  refine Met.ofW (cc := cy) (maxL := ny) (ret := ret) hy rfl ?_
  intro p e s m args below meth c s₁ B hml hv
  obtain ⟨rfl, ⟨hz, hR, hK, hS⟩, hX⟩ := hv
  have hts := atoms_spec (ws := wy y cy ny ret) B.pre
  have X : pCx p s m vs.toArray c cy ny y.cls E (pA h z) := ⟨⟨B.exec, B.bytes, hml, findClass_of_methodNamed B.named, fun w hw => hts w (List.mem_cons_of_mem _ hw)⟩, hK, hS, fun q hq => Or.inr (by rw [← hz]; exact hq)⟩
  have hbd := body h z p e s m vs.toArray below meth c X hX (by rw [hz]; exact hbz) (fun q => q.elim (fun q => q hb) (fun q => by omega)) B.returns B.notSynchronized (name_of_methodNamed B.named B.method).1
  rw [lg_entry_eq]
  exact hbd s.heap [] _ hR hz va_S.rf (pL_entry hc hn)
end PVS
set_option maxRecDepth 100000 in
set_option maxHeartbeats 4000000 in
theorem c_L_cell (l : Launch) (E : pE) (b L0 : Nat) (xs : Nat → Int32) (hL : L0 ≤ 260) (j : Nat) (hj : j < 1000) : pCs l E yL_cell cL_cell 2 (some .int) { frames := 0, cells := 0, slots := 0, locals := 0 } b L0 xs [.ref b, .int (nI j)] (pFi (fun h r h' => h' = h)) := by
  refine pCs_of (by decide) (by simp [Value.category]) (Nat.le_of_ble_eq_true rfl) ?_
  intro h z p__ e__ s__ m__ args__ below__ meth__ c__ X hX hbl hA hr hlk hname
  refine v_iload_n (pc := 0) X (hd := dL_cell_0) (kk := ?_)
  refine v_aload_n (pc := 1) X (hd := dL_cell_1) (kk := ?_)
  refine v_xlen (pc := 2) X hX hbl hA (hd := dL_cell_2) (kk := ?_)
  refine v_icmpge (pc := 3) X (tgt := 12) (hd := dL_cell_3) (kt := fun c3 => ?_) (kf := fun c3 => ?_)
  · refine v_ldc (v := nI 40503) (pc := 12) X (hw := wq_L_7) (hd := dL_cell_12) (kk := ?_)
    refine v_iload_n (pc := 14) X (hd := dL_cell_14) (kk := ?_)
    refine v_iconst (pc := 15) X (v := nI 3) (hd := dL_cell_15) (kk := ?_)
    refine v_iadd (pc := 16) X (hd := dL_cell_16) (kk := ?_)
    refine v_imul (pc := 17) X (hd := dL_cell_17) (kk := ?_)
    exact v_endi (pc := 18) X hr hlk (hd := dL_cell_18) (hf := rfl)
  · refine v_aload_n (pc := 6) X (hd := dL_cell_6) (kk := ?_)
    refine v_iload_n (pc := 7) X (hd := dL_cell_7) (kk := ?_)
    refine v_xld (pc := 8) X hX hbl hA (by omega) j (hd := dL_cell_8) (hi := rfl) (hj := by
      rcases Nat.lt_or_ge j L0 with q | q
      · exact q
      · exact absurd ((nI_leI (by omega) (by omega)).mpr q) c3) (kk := ?_)
    refine v_goto (pc := 9) X (tgt := 18) (hd := dL_cell_9) (kk := ?_)
    exact v_endi (pc := 18) X hr hlk (hd := dL_cell_18) (hf := rfl)
