set_option maxRecDepth 100000 in
set_option maxHeartbeats 4000000 in
theorem law_init {p : Program} {l : Launch} {e : Env} {s : State} {m : MethodId} {args : Array Value} {below : List Frame} {meth : Method} {c : Code} {E : pE} {Q : State → Prop} {b x : Nat} (X : pCx p s m args c cL_law 4 RL E (Al s)) (kk : ∀ h : pH, LI x h → pV p l e room_1 s m args below meth c 4 E (Al s) Q (x + 746) h 746 7201 18 (LL b x 0) []) : pV p l e room_1 s m args below meth c 4 E (Al s) Q x (fun _ => none) 0 0 0 [some (.ref b), none, none, none] [] := by
  refine v_new (pc := 0) X (ci := 6) (hd := dL_law_0) inU6 tyX6 tyX6_ok wk_L_7 wx_X6 wi_X6 rfl [.null, .null, .null, .int 0, .null] (fun j hj => match j, hj with | 0, _ => rfl | 1, _ => rfl | 2, _ => rfl | 3, _ => rfl | 4, _ => rfl) (hf := ⟨Nat.le_of_ble_eq_true rfl, Nat.le_of_ble_eq_true rfl⟩) (kk := ?_)
  refine v_dup (pc := 3) X (hd := dL_law_3) (kk := ?_)
  refine v_callIz (pc := 4) X (hd := dL_law_4) (w := wv_L_9) (hC := c_X6_init l E x) (hp := ⟨pset_s _ _ _, rfl⟩) (hR := ⟨Nat.le_of_ble_eq_true rfl, Nat.le_of_ble_eq_true rfl⟩) (hf := ⟨Nat.le_of_ble_eq_true rfl, Nat.le_of_ble_eq_true rfl⟩) (kk := fun h4 q4 => ?_)
  refine v_astore_n (pc := 7) X (hd := dL_law_7) (kk := ?_)
  refine v_zkn (z1 := x + 740) (k1 := 740) (n1 := 4176) (by omega) rfl rfl ?_
  refine v_new (pc := 8) X (ci := 7) (hd := dL_law_8) inU7 tyX7 tyX7_ok wk_L_10 wx_X7 wi_X7 rfl [.null, .null, .null, .int 0, .int 0, .null, .int 0, .int 0, .int 0, .int 0, .null, .int 0] (fun j hj => match j, hj with | 0, _ => rfl | 1, _ => rfl | 2, _ => rfl | 3, _ => rfl | 4, _ => rfl | 5, _ => rfl | 6, _ => rfl | 7, _ => rfl | 8, _ => rfl | 9, _ => rfl | 10, _ => rfl | 11, _ => rfl) (hf := ⟨Nat.le_of_ble_eq_true rfl, Nat.le_of_ble_eq_true rfl⟩) (kk := ?_)
  refine v_dup (pc := 11) X (hd := dL_law_11) (kk := ?_)
  refine v_callIz (pc := 12) X (hd := dL_law_12) (w := wv_L_12) (hC := c_X7_init l E (x + 740)) (hp := ⟨pset_s _ _ _, rfl⟩) (hR := ⟨Nat.le_of_ble_eq_true rfl, Nat.le_of_ble_eq_true rfl⟩) (hf := ⟨Nat.le_of_ble_eq_true rfl, Nat.le_of_ble_eq_true rfl⟩) (kk := fun h12 q12 => ?_)
  refine v_astore_n (pc := 15) X (hd := dL_law_15) (kk := ?_)
  refine v_iconst (pc := 16) X (v := nI (4 * 0)) (hd := dL_law_16) (kk := ?_)
  refine v_istore_n (pc := 17) X (hd := dL_law_17) (kk := ?_)
  refine v_zkn (z1 := x + 746) (k1 := 746) (n1 := 7201) (by omega) rfl rfl ?_
  have eW : (fun _ : Nat => nI 0) = fun _ => (0 : Int32) := by funext _; exact nI_z
  have eb : bI (false = true) = nI 0 := (bI_f (by decide)).trans nI_z.symm
  have S0 : SI (fun _ => nI 0) := ⟨⟨0, 0, 0, iv_0⟩, fun i hi q => absurd (show nI 0 = 1 from q) (by decide +kernel)⟩
  have K0 := (q4.1).off (by omega) (fun q h1 h2 => (q12.2 q (by omega)).trans (pset_n (by omega)))
  have M0 := q12.1
  rw [eW] at S0 K0
  exact kk h12 ⟨fun _ => 0, fun _ => 0, fun _ => 0, fun _ => 0, fun _ => 0, 0, 0, nI 0, nI 0, nI 0, nI 0, nI 0, nI 0, K0, by rw [eb]; exact M0, ⟨by omega, S0, fun k hk => by omega⟩, ⟨by omega, fun i hi => by omega⟩⟩
set_option maxRecDepth 100000 in
set_option maxHeartbeats 4000000 in
theorem law_out {p : Program} {l : Launch} {e : Env} {s : State} {m : MethodId} {below : List Frame} {meth : Method} {c : Code} {E : pE} {b L0 : Nat} {xs : Nat → Int32} (C0 : lw_At p s m meth c b L0 xs) (X : pCx p s m #[.ref b] c cL_law 4 RL E (Al s)) {z x : Nat} (h9 : pH) (kx : Nat) : pV p l e room_1 s m #[.ref b] below meth c 4 E (Al s) (lw_Z below #[.ref b] s) z h9 746 7201 950 (LL b x kx) [] := by
  obtain ⟨hx, hb, hr, hml, hown, hts, hX, hbl, hlk, hgv⟩ := id C0
  refine v_iconst (pc := 950) X (v := 1) (hd := dL_law_950) (kk := ?_)
  intro H locs ls a0 b0 c0 d
  refine va_forget (fun q hq => c0.2.2 q hq) ?_
  refine W.widen (k := 600000) (n := 7302250) (Nat.le_of_ble_eq_true rfl) (Nat.le_of_ble_eq_true rfl) ?_
  exact W.base (lw_ret (Drawn.sameBut.refl s.drawn lw_cs) hx hb hr hlk dL_law_951)
set_option maxRecDepth 100000 in
set_option maxHeartbeats 4000000 in
/-- YOUR PART: from the entry, for every script of at most 2048 ints, the law comes to its end with true -/
theorem whole_start {p : Program} {e : Env} {s : State} {m : MethodId} {below : List Frame} {meth : Method} {c : Code} (l : Launch) (hflags : l.flags = flags0) {b L : Nat} {xs : Nat → Int32} (hL : L ≤ 2048) (C0 : lw_At p s m meth c b L xs) : W p l e room_1 s m #[Value.ref b] below meth c s.heap [] 0 0 (lw_Z below #[Value.ref b] s) (entryFrame m ([Value.ref b] : List Value).toArray 4) := by
  obtain ⟨hx, hb, hr, hml, hown, hts, hX, hbl, hlk, hgv⟩ := id C0
  obtain ⟨dC, dI, hK⟩ := en_K hts
  obtain ⟨aC, hT⟩ := en_T hts
  obtain ⟨adK, adV, hS⟩ := en_S hts hgv
  have X : pCx p s m #[Value.ref b] c cL_law 4 RL (dC, dI, aC, adK, adV) (Al s) := ⟨⟨hx, hb, hml, hown, hu_of hts⟩, ⟨hK, hT, en_N hts, en_A hts⟩, hS dC dI aC, fun q hq => hq⟩
  have G : pV p l e room_1 s m #[Value.ref b] below meth c 4 (dC, dI, aC, adK, adV) (Al s) (lw_Z below #[Value.ref b] s) s.heap.size (fun _ => none) 0 0 0 [some (.ref b), none, none, none] [] := law_init X (fun h I => law_loop X hX hbl hL (fun h9 kx => law_out C0 X h9 kx) L 0 h (by omega) (by omega) I)
  rw [lg_entry_eq]
  exact G s.heap [] _ (fun q y hq => by cases hq) rfl va_S.rf (pL_entry (vs := [Value.ref b]) (n := 4) (by simp [Value.category]) (Nat.le_of_ble_eq_true rfl))
