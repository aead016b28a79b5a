/-! makings -/
section PVZ
variable {p : Program} {l : Launch} {e : Env} {R : Room} {s : State} {m : MethodId} {args : Array Value} {below : List Frame} {meth : Method} {c : Code} {cc : ByteArray} {nL : Nat} {own : String} {E : pE} {A : Nat → Prop} {Q : State → Prop} {z : Nat} {h : pH} {k n : Nat} {pc : Nat} {L : List (Option Value)} {st st0 : List Value}
variable {h0 : pH} {z0 : Nat} {y : MethodName} {cy : ByteArray} {ny N idx : Nat} {ret : Option FieldType} {rm : Room} {mc ms : Nat} {As : List Value} {pre : pH → Nat → Prop} {post : pH → Nat → Option Value → pH → Nat → Prop}
def pFz (N9 : Nat) (P : pH → Nat → pH → Prop) : pH → Nat → Option Value → pH → Nat → Prop := fun h z v h' z' => v = none ∧ z' = z + N9 ∧ P h z h'
theorem v_callIz (X : pCx p s m args c cc nL own E A) {b N9 : Nat} {P : pH → Nat → pH → Prop} (hd : decode cc pc = .ok (.invokespecial idx, 3)) (w : pWI own idx y cy ny N) (hC : pC l E y cy ny none rm mc ms (.ref b :: As) pre (pFz N9 P)) (hp : pre h z) (kk : ∀ h' : pH, P h z h' → pV p l e R s m args below meth c nL E A Q (z + N9) h' (k + mc) (n + ms) (pc + 3) L st) (hN : As.length = N := by rfl) (hst : st0 = As.reverse ++ .ref b :: st := by rfl) (hrm : rm.cells = mc ∧ rm.slots = ms := by exact ⟨rfl, rfl⟩) (hR : rm.frames + 1 ≤ R.frames ∧ 8 + (ny + 11) + rm.locals ≤ R.locals := by decide) (hf : k + mc ≤ R.cells ∧ n + ms ≤ R.slots := by decide) (hW : (st.map fun v => v.category).sum ≤ 8 := by exact Nat.le_of_ble_eq_true rfl) : pV p l e R s m args below meth c nL E A Q z h k n pc L st0 := by
  refine v_callI X hd w hC hp (fun v h' z' hq => ?_) hN hst hrm hR hf hW
  obtain ⟨rfl, rfl, hq⟩ := hq
  exact kk h' hq
theorem v_callINz (X : pCx p s m args c cc nL own E A) {b N9 : Nat} {host : String} {P : pH → Nat → pH → Prop} (hd : decode cc pc = .ok (.invokespecial idx, 3)) (w : pWN own idx y host cy ny none N ∧ y.name = "<init>" ∧ Cond.instanceMethod y ∈ uw) (hC : pC l E y cy ny none rm mc ms (.ref b :: As) pre (pFz N9 P)) (hp : pre h z) (kk : ∀ h' : pH, P h z h' → pV p l e R s m args below meth c nL E A Q (z + N9) h' (k + mc) (n + ms) (pc + 3) L st) (hN : As.length = N := by rfl) (hst : st0 = As.reverse ++ .ref b :: st := by rfl) (hrm : rm.cells = mc ∧ rm.slots = ms := by exact ⟨rfl, rfl⟩) (hR : rm.frames + 1 ≤ R.frames ∧ 8 + (ny + 11) + rm.locals ≤ R.locals := by decide) (hf : k + mc ≤ R.cells ∧ n + ms ≤ R.slots := by decide) (hW : (st.map fun v => v.category).sum ≤ 8 := by exact Nat.le_of_ble_eq_true rfl) : pV p l e R s m args below meth c nL E A Q z h k n pc L st0 := by
  refine v_callIN X hd w hC hp (fun v h' z' hq => ?_) hN hst hrm hR hf hW
  obtain ⟨rfl, rfl, hq⟩ := hq
  exact kk h' hq
theorem v_endzz (X : pCx p s m args c cc nL own E (pA h0 z0)) {N9 : Nat} {P : pH → Nat → pH → Prop} (hret : meth.sig.returnType = none) (hlk : meth.locks = false) (hd : decode cc pc = .ok (.return_, 1)) (hz : z = z0 + N9) (hf : P h0 z0 h) : pV p l e R s m args below meth c nL E (pA h0 z0) (MQ below (pQ E (pFz N9 P) h0 z0) args s k n (pA h0 z0)) z h k n pc L [] := v_vret X hret hlk hd ⟨rfl, hz, hf⟩ (by omega)
theorem v_forz (M : Nat) (Lf : Nat → List (Option Value)) (I : Nat → pH → Prop) (Z Kf Nf : Nat → Nat) (h0 : I 0 h) (hL : L = Lf 0 := by rfl) (hZ : z = Z 0 := by rfl) (hK : k = Kf 0 := by rfl) (hN : n = Nf 0 := by rfl) (step : ∀ (i : Nat) (h1 : pH), i < M → I i h1 → (∀ h2 : pH, I (i + 1) h2 → pV p l e R s m args below meth c nL E A Q (Z (i + 1)) h2 (Kf (i + 1)) (Nf (i + 1)) pc (Lf (i + 1)) st) → pV p l e R s m args below meth c nL E A Q (Z i) h1 (Kf i) (Nf i) pc (Lf i) st) (out : ∀ h1 : pH, I M h1 → pV p l e R s m args below meth c nL E A Q (Z M) h1 (Kf M) (Nf M) pc (Lf M) st) : pV p l e R s m args below meth c nL E A Q z h k n pc L st := by
  subst hL
  subst hZ
  subst hK
  subst hN
  have K9 : ∀ (d i : Nat) (h1 : pH), i + d = M → I i h1 → pV p l e R s m args below meth c nL E A Q (Z i) h1 (Kf i) (Nf i) pc (Lf i) st := by
    intro d
    induction d with
    | zero => intro i h1 hi hI; obtain rfl : i = M := by omega
              exact out h1 hI
    | succ d ih => intro i h1 hi hI; exact step i h1 (by omega) hI (fun h2 h3 => ih (i + 1) h2 (by omega) h3)
  exact K9 M 0 h (by omega) h0
end PVZ
def inF (g : Nat → Nat) (n : Nat) : Nat → Option Nat := fun k => if k < n then some (g k) else none
theorem inF_0 (g : Nat → Nat) : inF g 0 = fun _ => none := rfl
theorem inF_s (g : Nat → Nat) (n : Nat) : va_up (inF g n) n (some (g n)) = inF g (n + 1) := by
  funext k
  unfold va_up inF
  by_cases e : k = n
  · rw [if_pos e, if_pos (by omega), e]
  · rw [if_neg e]
    by_cases e2 : k < n
    · rw [if_pos e2, if_pos (by omega)]
    · rw [if_neg e2, if_neg (by omega)]
theorem inF_l {g : Nat → Nat} {n k : Nat} (h : k < n) : inF g n k = some (g k) := if_pos h
set_option maxRecDepth 100000 in
set_option maxHeartbeats 4000000 in
theorem c_X1_init (l : Launch) (E : pE) (b : Nat) (u0 u1 u2 : Int32) : pC l E yX1_init cX1_init 1 none { frames := 1, cells := 0, slots := 0, locals := 20 } 0 0 [.ref b] (fun h z => h b = some (ob 1 [.int u0, .int u1, .int u2])) (pFz 0 (fun h z h' => h' b = some (ob 1 [.int (nI 0), .int (nI 0), .int (nI 0)]) ∧ ∀ q, q ≠ b → h' q = h q)) := by
  refine pC_of (by decide) (by simp [Value.category]) (Nat.le_of_ble_eq_true rfl) ?_
  intro h z hp p__ e__ s__ m__ args__ below__ meth__ c__ X hr hlk hname
  refine v_aload_n (pc := 0) X (hd := dX1_init_0) (kk := ?_)
  refine v_objInit (pc := 1) X (hd := dX1_init_1) (hw1 := wm_X1_1) (hw2 := wn_objectInit) (hw3 := wc_objectInit) (kk := ?_)
  refine v_aload_n (pc := 4) X (hd := dX1_init_4) (kk := ?_)
  refine v_iconst (pc := 5) X (v := nI 0) (hd := dX1_init_5) (kk := ?_)
  refine p_X1_7 (pc := 6) X (hd := dX1_init_6) (hh := hp) (kk := ?_)
  refine v_aload_n (pc := 9) X (hd := dX1_init_9) (kk := ?_)
  refine v_iconst (pc := 10) X (v := nI 0) (hd := dX1_init_10) (kk := ?_)
  refine p_X1_13 (pc := 11) X (hd := dX1_init_11) (hh := pset_s _ _ _) (kk := ?_)
  rw [pset_pset]
  refine v_aload_n (pc := 14) X (hd := dX1_init_14) (kk := ?_)
  refine v_iconst (pc := 15) X (v := nI 0) (hd := dX1_init_15) (kk := ?_)
  refine p_X1_16 (pc := 16) X (hd := dX1_init_16) (hh := pset_s _ _ _) (kk := ?_)
  rw [pset_pset]
  exact v_endzz (pc := 19) X hr hlk (hd := dX1_init_19) (hz := by omega) (hf := ⟨pset_s _ _ _, fun q hq => pset_n hq⟩)
set_option maxRecDepth 100000 in
set_option maxHeartbeats 4000000 in
theorem c_X5_init (l : Launch) (E : pE) (b : Nat) (u0 u1 u2 u3 u4 : Int32) : pC l E yX5_init cX5_init 1 none { frames := 1, cells := 0, slots := 0, locals := 20 } 0 0 [.ref b] (fun h z => h b = some (ob 5 [.int u0, .int u1, .int u2, .int u3, .int u4])) (pFz 0 (fun h z h' => h' b = some (ob 5 [.int (nI 0), .int (nI 0), .int (nI 0), .int (nI 0), .int (nI 0)]) ∧ ∀ q, q ≠ b → h' q = h q)) := by
  refine pC_of (by decide) (by simp [Value.category]) (Nat.le_of_ble_eq_true rfl) ?_
  intro h z hp p__ e__ s__ m__ args__ below__ meth__ c__ X hr hlk hname
  refine v_aload_n (pc := 0) X (hd := dX5_init_0) (kk := ?_)
  refine v_objInit (pc := 1) X (hd := dX5_init_1) (hw1 := wm_X5_3) (hw2 := wn_objectInit) (hw3 := wc_objectInit) (kk := ?_)
  refine v_aload_n (pc := 4) X (hd := dX5_init_4) (kk := ?_)
  refine v_iconst (pc := 5) X (v := nI 0) (hd := dX5_init_5) (kk := ?_)
  refine p_X5_9 (pc := 6) X (hd := dX5_init_6) (hh := hp) (kk := ?_)
  refine v_aload_n (pc := 9) X (hd := dX5_init_9) (kk := ?_)
  refine v_iconst (pc := 10) X (v := nI 0) (hd := dX5_init_10) (kk := ?_)
  refine p_X5_15 (pc := 11) X (hd := dX5_init_11) (hh := pset_s _ _ _) (kk := ?_)
  rw [pset_pset]
  refine v_aload_n (pc := 14) X (hd := dX5_init_14) (kk := ?_)
  refine v_iconst (pc := 15) X (v := nI 0) (hd := dX5_init_15) (kk := ?_)
  refine p_X5_18 (pc := 16) X (hd := dX5_init_16) (hh := pset_s _ _ _) (kk := ?_)
  rw [pset_pset]
  refine v_aload_n (pc := 19) X (hd := dX5_init_19) (kk := ?_)
  refine v_iconst (pc := 20) X (v := nI 0) (hd := dX5_init_20) (kk := ?_)
  refine p_X5_21 (pc := 21) X (hd := dX5_init_21) (hh := pset_s _ _ _) (kk := ?_)
  rw [pset_pset]
  refine v_aload_n (pc := 24) X (hd := dX5_init_24) (kk := ?_)
  refine v_iconst (pc := 25) X (v := nI 0) (hd := dX5_init_25) (kk := ?_)
  refine p_X5_24 (pc := 26) X (hd := dX5_init_26) (hh := pset_s _ _ _) (kk := ?_)
  rw [pset_pset]
  exact v_endzz (pc := 29) X hr hlk (hd := dX5_init_29) (hz := by omega) (hf := ⟨pset_s _ _ _, fun q hq => pset_n hq⟩)
set_option maxRecDepth 100000 in
set_option maxHeartbeats 4000000 in
theorem c_X0_init (l : Launch) (E : pE) (b : Nat) (u0 u1 u2 u3 u4 u5 : Int32) : pC l E yX0_init cX0_init 1 none { frames := 1, cells := 2, slots := 12, locals := 20 } 2 12 [.ref b] (fun h z => h b = some (ob 0 [.int u0, .int u1, .int u2, .int u3, .int u4, .int u5, .null, .null]) ∧ z = b + 1) (pFz 2 (fun h z h' => h' b = some (ob 0 [.int (nI 0), .int (nI 0), .int (nI 0), .int (nI 0), .int (nI 0), .int (nI 0), .ref (b + 1), .ref (b + 2)]) ∧ h' (b + 1) = some (ai 2 6 (fun _ => 0)) ∧ h' (b + 2) = some (ai 1 6 (fun _ => 0)) ∧ ∀ q, q < b → h' q = h q)) := by
  refine pC_of (by decide) (by simp [Value.category]) (Nat.le_of_ble_eq_true rfl) ?_
  intro h z hp p__ e__ s__ m__ args__ below__ meth__ c__ X hr hlk hname
  obtain ⟨hb, rfl⟩ := hp
  refine v_aload_n (pc := 0) X (hd := dX0_init_0) (kk := ?_)
  refine v_objInit (pc := 1) X (hd := dX0_init_1) (hw1 := wm_X0_3) (hw2 := wn_objectInit) (hw3 := wc_objectInit) (kk := ?_)
  refine v_aload_n (pc := 4) X (hd := dX0_init_4) (kk := ?_)
  refine v_iconst (pc := 5) X (v := nI 0) (hd := dX0_init_5) (kk := ?_)
  refine p_X0_9 (pc := 6) X (hd := dX0_init_6) (hh := hb) (kk := ?_)
  refine v_aload_n (pc := 9) X (hd := dX0_init_9) (kk := ?_)
  refine v_iconst (pc := 10) X (v := nI 0) (hd := dX0_init_10) (kk := ?_)
  refine p_X0_15 (pc := 11) X (hd := dX0_init_11) (hh := pset_s _ _ _) (kk := ?_)
  rw [pset_pset]
  refine v_aload_n (pc := 14) X (hd := dX0_init_14) (kk := ?_)
  refine v_iconst (pc := 15) X (v := nI 0) (hd := dX0_init_15) (kk := ?_)
  refine p_X0_18 (pc := 16) X (hd := dX0_init_16) (hh := pset_s _ _ _) (kk := ?_)
  rw [pset_pset]
  refine v_aload_n (pc := 19) X (hd := dX0_init_19) (kk := ?_)
  refine v_iconst (pc := 20) X (v := nI 0) (hd := dX0_init_20) (kk := ?_)
  refine p_X0_21 (pc := 21) X (hd := dX0_init_21) (hh := pset_s _ _ _) (kk := ?_)
  rw [pset_pset]
  refine v_aload_n (pc := 24) X (hd := dX0_init_24) (kk := ?_)
  refine v_iconst (pc := 25) X (v := nI 0) (hd := dX0_init_25) (kk := ?_)
  refine p_X0_24 (pc := 26) X (hd := dX0_init_26) (hh := pset_s _ _ _) (kk := ?_)
  rw [pset_pset]
  refine v_aload_n (pc := 29) X (hd := dX0_init_29) (kk := ?_)
  refine v_iconst (pc := 30) X (v := nI 0) (hd := dX0_init_30) (kk := ?_)
  refine p_X0_27 (pc := 31) X (hd := dX0_init_31) (hh := pset_s _ _ _) (kk := ?_)
  rw [pset_pset]
  refine v_aload_n (pc := 34) X (hd := dX0_init_34) (kk := ?_)
  refine v_bipush (pc := 35) X (v := nI 6) (hd := dX0_init_35) (kk := ?_)
  refine v_newa (pc := 37) X (ki := 2) (Na := 6) (hd := dX0_init_37) wa_boolean (by decide) rfl rfl (by decide) (by decide +kernel) (by decide) (fun _ _ h => h) (kk := ?_)
  refine p_X0_30 (pc := 39) X (hd := dX0_init_39) (hh := (pset_n (by omega)).trans (pset_s _ _ _)) (hin2 := hname) (kk := ?_)
  refine v_aload_n (pc := 42) X (hd := dX0_init_42) (kk := ?_)
  refine v_bipush (pc := 43) X (v := nI 6) (hd := dX0_init_43) (kk := ?_)
  refine v_newa (pc := 45) X (ki := 1) (Na := 6) (hd := dX0_init_45) wa_int (by decide) rfl rfl (by decide) (by decide +kernel) (by decide) (fun _ _ h => h) (kk := ?_)
  refine p_X0_34 (pc := 47) X (hd := dX0_init_47) (hh := (pset_n (by omega)).trans (pset_s _ _ _)) (hin2 := hname) (kk := ?_)
  exact v_endzz (pc := 50) X hr hlk (hd := dX0_init_50) (hz := by omega) (hf := ⟨pset_s _ _ _, (pset_n (by omega)).trans ((pset_n (by omega)).trans ((pset_n (by omega)).trans (pset_s _ _ _))), (pset_n (by omega)).trans (pset_s _ _ _), fun q hq => (pset_n (by omega)).trans ((pset_n (by omega)).trans ((pset_n (by omega)).trans ((pset_n (by omega)).trans (pset_n (by omega)))))⟩)
set_option maxRecDepth 100000 in
set_option maxHeartbeats 4000000 in
theorem c_X3_init (l : Launch) (E : pE) (b : Nat) (u1 u2 u3 : Int32) : pC l E yX3_init cX3_init 1 none { frames := 1, cells := 2, slots := 143, locals := 20 } 2 143 [.ref b] (fun h z => h b = some (ob 3 [.null, .int u1, .int u2, .int u3, .null]) ∧ z = b + 1) (pFz 2 (fun h z h' => h' b = some (ob 3 [.ref (b + 1), .int (nI 0), .int (nI 0), .int (nI 0), .ref (b + 2)]) ∧ h' (b + 1) = some (ai 0 140 (fun _ => 0)) ∧ h' (b + 2) = some (ai 1 3 (fun _ => 0)) ∧ ∀ q, q < b → h' q = h q)) := by
  refine pC_of (by decide) (by simp [Value.category]) (Nat.le_of_ble_eq_true rfl) ?_
  intro h z hp p__ e__ s__ m__ args__ below__ meth__ c__ X hr hlk hname
  obtain ⟨hb, rfl⟩ := hp
  refine v_aload_n (pc := 0) X (hd := dX3_init_0) (kk := ?_)
  refine v_objInit (pc := 1) X (hd := dX3_init_1) (hw1 := wm_X3_3) (hw2 := wn_objectInit) (hw3 := wc_objectInit) (kk := ?_)
  refine v_aload_n (pc := 4) X (hd := dX3_init_4) (kk := ?_)
  refine v_sipush (pc := 5) X (v := nI 140) (hd := dX3_init_5) (kk := ?_)
  refine v_newa (pc := 8) X (ki := 0) (Na := 140) (hd := dX3_init_8) wa_char (by decide) rfl rfl (by decide) (by decide +kernel) (by decide) (fun _ _ h => h) (kk := ?_)
  refine p_X3_9 (pc := 10) X (hd := dX3_init_10) (hh := (pset_n (by omega)).trans hb) (hin2 := hname) (kk := ?_)
  refine v_aload_n (pc := 13) X (hd := dX3_init_13) (kk := ?_)
  refine v_iconst (pc := 14) X (v := nI 0) (hd := dX3_init_14) (kk := ?_)
  refine p_X3_15 (pc := 15) X (hd := dX3_init_15) (hh := pset_s _ _ _) (kk := ?_)
  rw [pset_pset]
  refine v_aload_n (pc := 18) X (hd := dX3_init_18) (kk := ?_)
  refine v_iconst (pc := 19) X (v := nI 0) (hd := dX3_init_19) (kk := ?_)
  refine p_X3_19 (pc := 20) X (hd := dX3_init_20) (hh := pset_s _ _ _) (kk := ?_)
  rw [pset_pset]
  refine v_aload_n (pc := 23) X (hd := dX3_init_23) (kk := ?_)
  refine v_iconst (pc := 24) X (v := nI 0) (hd := dX3_init_24) (kk := ?_)
  refine p_X3_22 (pc := 25) X (hd := dX3_init_25) (hh := pset_s _ _ _) (kk := ?_)
  rw [pset_pset]
  refine v_aload_n (pc := 28) X (hd := dX3_init_28) (kk := ?_)
  refine v_iconst (pc := 29) X (v := nI 3) (hd := dX3_init_29) (kk := ?_)
  refine v_newa (pc := 30) X (ki := 1) (Na := 3) (hd := dX3_init_30) wa_int (by decide) rfl rfl (by decide) (by decide +kernel) (by decide) (fun _ _ h => h) (kk := ?_)
  refine p_X3_25 (pc := 32) X (hd := dX3_init_32) (hh := (pset_n (by omega)).trans (pset_s _ _ _)) (hin2 := hname) (kk := ?_)
  exact v_endzz (pc := 35) X hr hlk (hd := dX3_init_35) (hz := by omega) (hf := ⟨pset_s _ _ _, (pset_n (by omega)).trans ((pset_n (by omega)).trans ((pset_n (by omega)).trans (pset_s _ _ _))), (pset_n (by omega)).trans (pset_s _ _ _), fun q hq => (pset_n (by omega)).trans ((pset_n (by omega)).trans ((pset_n (by omega)).trans (pset_n (by omega))))⟩)