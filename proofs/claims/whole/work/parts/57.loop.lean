set_option maxRecDepth 100000 in
set_option maxHeartbeats 4000000 in
theorem law_step {p : Program} {l : Launch} {e : Env} {s : State} {m : MethodId} {args : Array Value} {below : List Frame} {meth : Method} {c : Code} {E : pE} {Q : State → Prop} {z : Nat} {h : pH} {b x kx L0 : Nat} {xs : Nat → Int32} (X : pCx p s m args c cL_law 4 RL E (Al s)) (hX : va_X b L0 xs s s.heap) (hbl : b < s.heap.size) (hL : L0 ≤ 2048) (hk : 4 * kx ≤ L0) (I : LI x h) (nx9 : 4 * kx + 4 ≤ L0 → ∀ h9 : pH, LI x h9 → pV p l e room_1 s m args below meth c 4 E (Al s) Q z h9 746 7201 18 (LL b x (kx + 1)) []) (ou : pV p l e room_1 s m args below meth c 4 E (Al s) Q z h 746 7201 950 (LL b x kx) []) : pV p l e room_1 s m args below meth c 4 E (Al s) Q z h 746 7201 18 (LL b x kx) [] := by
  refine v_iload_n (pc := 18) X (hd := dL_law_18) (kk := ?_)
  refine v_aload_n (pc := 19) X (hd := dL_law_19) (kk := ?_)
  refine v_xlen (pc := 20) X hX hbl (hd := dL_law_20) (kk := ?_)
  refine v_iconst (pc := 21) X (v := nI 4) (hd := dL_law_21) (kk := ?_)
  refine v_isub (pc := 22) X (hd := dL_law_22) (kk := ?_)
  refine v_icmpgt (pc := 23) X (tgt := 950) (hd := dL_law_23) (kt := fun _ => ou) (kf := fun c23 => ?_)
  have hk4 : 4 * kx + 4 ≤ L0 := by
    have e9 : (nI L0 - nI 4).toInt = (L0 : Int) - 4 := by
      rw [Int32.toInt_sub, nI_toInt (by omega), nI_toInt (by omega)]
      simp only [Int.bmod_def]
      omega
    rw [n_lt, e9, nI_toInt (by omega)] at c23
    omega
  have tl : ∀ h9 : pH, LI x h9 → pV p l e room_1 s m args below meth c 4 E (Al s) Q z h9 746 7201 944 (LL b x kx) [] := fun h9 J => by
    refine v_iinc (pc := 944) X (v := nI (4 * (kx + 1))) (hd := dL_law_944) (hv := ?_) (kk := ?_)
    · rw [show Int32.ofInt 4 = nI 4 by decide +kernel, nI_add]
      exact congrArg nI (by omega)
    · refine v_goto (pc := 947) X (tgt := 18) (hd := dL_law_947) (kk := ?_)
      exact nx9 hk4 h9 J
  refine v_aload_n (pc := 26) X (hd := dL_law_26) (kk := ?_)
  refine v_iload_n (pc := 27) X (hd := dL_law_27) (kk := ?_)
  refine v_xld (pc := 28) X hX hbl hL (4 * kx) (hd := dL_law_28) (hi := rfl) (hj := by omega) (kk := ?_)
  refine v_bipush (pc := 29) X (v := nI 31) (hd := dL_law_29) (kk := ?_)
  refine v_iand (pc := 31) X (hd := dL_law_31) (kk := ?_)
  obtain ⟨j, hj, ej⟩ := pk_andE (xs (4 * kx)) (m := nI 31) 5 (by decide +kernel)
  rw [ej]
  have hj2 : j = 0 ∨ j = 1 ∨ j = 2 ∨ j = 3 ∨ j = 4 ∨ j = 5 ∨ j = 6 ∨ j = 7 ∨ j = 8 ∨ j = 9 ∨ j = 10 ∨ j = 11 ∨ j = 12 ∨ j = 13 ∨ j = 14 ∨ j = 15 ∨ j = 16 ∨ j = 17 ∨ j = 18 ∨ j = 19 ∨ j = 20 ∨ j = 21 ∨ j = 22 ∨ j = 23 ∨ j = 24 ∨ j = 25 ∨ j = 26 ∨ j = 27 ∨ 28 ≤ j := by omega
  rcases hj2 with rfl | rfl | rfl | rfl | rfl | rfl | rfl | rfl | rfl | rfl | rfl | rfl | rfl | rfl | rfl | rfl | rfl | rfl | rfl | rfl | rfl | rfl | rfl | rfl | rfl | rfl | rfl | rfl | h28
  · exact v_tabIn (pc := 32) (tgt := 160) X (hd := dL_law_32) 0 (by decide +kernel) (kk := lc_0 X hX hbl hL hk4 I tl)
  · exact v_tabIn (pc := 32) (tgt := 183) X (hd := dL_law_32) 1 (by decide +kernel) (kk := lc_1 X hX hbl hL hk4 I tl)
  · exact v_tabIn (pc := 32) (tgt := 216) X (hd := dL_law_32) 2 (by decide +kernel) (kk := lc_2 X hX hbl hL hk4 I tl)
  · exact v_tabIn (pc := 32) (tgt := 249) X (hd := dL_law_32) 3 (by decide +kernel) (kk := lc_3 X hX hbl hL hk4 I tl)
  · exact v_tabIn (pc := 32) (tgt := 282) X (hd := dL_law_32) 4 (by decide +kernel) (kk := lc_4 X hX hbl hL hk4 I tl)
  · exact v_tabIn (pc := 32) (tgt := 325) X (hd := dL_law_32) 5 (by decide +kernel) (kk := lc_5 X hX hbl hL hk4 I tl)
  · exact v_tabIn (pc := 32) (tgt := 368) X (hd := dL_law_32) 6 (by decide +kernel) (kk := lc_6 X hX hbl hL hk4 I tl)
  · exact v_tabIn (pc := 32) (tgt := 391) X (hd := dL_law_32) 7 (by decide +kernel) (kk := lc_7 X hX hbl hL hk4 I tl)
  · exact v_tabIn (pc := 32) (tgt := 424) X (hd := dL_law_32) 8 (by decide +kernel) (kk := lc_8 X hX hbl hL hk4 I tl)
  · exact v_tabIn (pc := 32) (tgt := 457) X (hd := dL_law_32) 9 (by decide +kernel) (kk := lc_9 X hX hbl hL hk4 I tl)
  · exact v_tabIn (pc := 32) (tgt := 480) X (hd := dL_law_32) 10 (by decide +kernel) (kk := lc_10 X hX hbl hL hk4 I tl)
  · exact v_tabIn (pc := 32) (tgt := 513) X (hd := dL_law_32) 11 (by decide +kernel) (kk := lc_11 X hX hbl hL hk4 I tl)
  · exact v_tabIn (pc := 32) (tgt := 526) X (hd := dL_law_32) 12 (by decide +kernel) (kk := lc_12 X hX hbl hL hk4 I tl)
  · exact v_tabIn (pc := 32) (tgt := 549) X (hd := dL_law_32) 13 (by decide +kernel) (kk := lc_13 X hX hbl hL hk4 I tl)
  · exact v_tabIn (pc := 32) (tgt := 572) X (hd := dL_law_32) 14 (by decide +kernel) (kk := lc_14 X hX hbl hL hk4 I tl)
  · exact v_tabIn (pc := 32) (tgt := 585) X (hd := dL_law_32) 15 (by decide +kernel) (kk := lc_15 X hX hbl hL hk4 I tl)
  · exact v_tabIn (pc := 32) (tgt := 608) X (hd := dL_law_32) 16 (by decide +kernel) (kk := lc_16 X hX hbl hL hk4 I tl)
  · exact v_tabIn (pc := 32) (tgt := 621) X (hd := dL_law_32) 17 (by decide +kernel) (kk := lc_17 X hX hbl hL hk4 I tl)
  · exact v_tabIn (pc := 32) (tgt := 634) X (hd := dL_law_32) 18 (by decide +kernel) (kk := lc_18 X hX hbl hL hk4 I tl)
  · exact v_tabIn (pc := 32) (tgt := 657) X (hd := dL_law_32) 19 (by decide +kernel) (kk := lc_19 X hX hbl hL hk4 I tl)
  · exact v_tabIn (pc := 32) (tgt := 690) X (hd := dL_law_32) 20 (by decide +kernel) (kk := lc_20 X hX hbl hL hk4 I tl)
  · exact v_tabIn (pc := 32) (tgt := 723) X (hd := dL_law_32) 21 (by decide +kernel) (kk := lc_21 X hX hbl hL hk4 I tl)
  · exact v_tabIn (pc := 32) (tgt := 766) X (hd := dL_law_32) 22 (by decide +kernel) (kk := lc_22 X hX hbl hL hk4 I tl)
  · exact v_tabIn (pc := 32) (tgt := 799) X (hd := dL_law_32) 23 (by decide +kernel) (kk := lc_23 X hX hbl hL hk4 I tl)
  · exact v_tabIn (pc := 32) (tgt := 842) X (hd := dL_law_32) 24 (by decide +kernel) (kk := lc_24 X hX hbl hL hk4 I tl)
  · exact v_tabIn (pc := 32) (tgt := 865) X (hd := dL_law_32) 25 (by decide +kernel) (kk := lc_25 X hX hbl hL hk4 I tl)
  · exact v_tabIn (pc := 32) (tgt := 888) X (hd := dL_law_32) 26 (by decide +kernel) (kk := lc_26 X hX hbl hL hk4 I tl)
  · exact v_tabIn (pc := 32) (tgt := 921) X (hd := dL_law_32) 27 (by decide +kernel) (kk := lc_27 X hX hbl hL hk4 I tl)
  · exact v_tabOut (pc := 32) (tgt := 944) X (hd := dL_law_32) (Or.inr (by rw [nI_toInt (by omega)]; omega)) (kk := tl h I)
theorem law_loop {p : Program} {l : Launch} {e : Env} {s : State} {m : MethodId} {args : Array Value} {below : List Frame} {meth : Method} {c : Code} {E : pE} {Q : State → Prop} {z : Nat} {b x L0 : Nat} {xs : Nat → Int32} (X : pCx p s m args c cL_law 4 RL E (Al s)) (hX : va_X b L0 xs s s.heap) (hbl : b < s.heap.size) (hL : L0 ≤ 2048) (ou : ∀ (h9 : pH) (kx : Nat), pV p l e room_1 s m args below meth c 4 E (Al s) Q z h9 746 7201 950 (LL b x kx) []) : ∀ (d kx : Nat) (h : pH), L0 - 4 * kx ≤ d → 4 * kx ≤ L0 → LI x h → pV p l e room_1 s m args below meth c 4 E (Al s) Q z h 746 7201 18 (LL b x kx) [] := by
  intro d
  induction d with
  | zero => intro kx h h1 h2 I; exact law_step X hX hbl hL h2 I (fun h3 => by omega) (ou h kx)
  | succ d ih => intro kx h h1 h2 I; exact law_step X hX hbl hL h2 I (fun h3 h9 J => ih (kx + 1) h9 (by omega) (by omega) J) (ou h kx)
