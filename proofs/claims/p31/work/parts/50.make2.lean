/-! makings: a parish, a state, the class -/
section PVY
variable {p : Program} {l : Launch} {e : Env} {R : Room} {s : State} {m : MethodId} {args : Array Value} {below : List Frame} {meth : Method} {c : Code} {cc : ByteArray} {nL : Nat} {own : String} {E : pE} {A : Nat → Prop} {Q : State → Prop} {z : Nat} {h : pH} {k n : Nat} {pc : Nat} {L : List (Option Value)} {st st0 : List Value}
variable {h0 : pH} {z0 : Nat} {y : MethodName} {cy : ByteArray} {ny N idx : Nat} {ret : Option FieldType} {rm : Room} {mc ms : Nat} {As : List Value} {pre : pH → Nat → Prop} {post : pH → Nat → Option Value → pH → Nat → Prop}
theorem v_zkn {z1 k1 n1 : Nat} (hz : z = z1) (hk : k = k1) (hn : n = n1) (kk : pV p l e R s m args below meth c nL E A Q z1 h k1 n1 pc L st) : pV p l e R s m args below meth c nL E A Q z h k n pc L st := by
  subst hz
  subst hk
  subst hn
  exact kk
end PVY
theorem bt_0 : ∀ i, i < 6 → bt (nI 0) i = 0 := by decide +kernel
theorem iv_0 : Iv (fun _ => nI 0) 0 0 0 := by
  refine ⟨⟨by omega, by omega, by omega, rfl, rfl, rfl⟩, ⟨⟨0, by omega, by omega, rfl⟩, ⟨0, by omega, by omega, rfl⟩⟩, fun j hj => by omega, fun j _ _ => ⟨rfl, rfl, rfl⟩, fun b hb => by omega, fun b _ => ⟨0, by omega, by omega, rfl⟩, fun b _ _ q _ => rfl, fun j b _ _ => ⟨⟨0, by omega, by omega, rfl⟩, fun _ => rfl⟩, fun k hk => by omega, ?_⟩
  decide +kernel
set_option maxRecDepth 100000 in
set_option maxHeartbeats 4000000 in
theorem c_X2_init (l : Launch) (E : pE) (a : Nat) : pC l E yX2_init cX2_init 2 none { frames := 2, cells := 33, slots := 180, locals := 40 } 33 180 [.ref a] (fun h z => h a = some (ob 2 [.int 0, .int 0, .int 0, .int 0, .int 0, .int 0, .null, .null, .null]) ∧ z = a + 1) (pFz 33 (fun h z h' => PA a (fun _ => nI 0) h' ∧ ∀ q, q < a → h' q = h q)) := by
  refine pC_of (by decide) (by simp [Value.category]) (Nat.le_of_ble_eq_true rfl) ?_
  intro h z hp p__ e__ s__ m__ args__ below__ meth__ c__ X hr hlk hname
  obtain ⟨hb, rfl⟩ := hp
  refine v_aload_n (pc := 0) X (hd := dX2_init_0) (kk := ?_)
  refine v_objInit (pc := 1) X (hd := dX2_init_1) (hw1 := wm_X2_3) (hw2 := wn_objectInit) (hw3 := wc_objectInit) (kk := ?_)
  refine v_aload_n (pc := 4) X (hd := dX2_init_4) (kk := ?_)
  refine v_iconst (pc := 5) X (v := nI 0) (hd := dX2_init_5) (kk := ?_)
  refine p_X2_9 (pc := 6) X (hd := dX2_init_6) (hh := hb) (kk := ?_)
  refine v_aload_n (pc := 9) X (hd := dX2_init_9) (kk := ?_)
  refine v_iconst (pc := 10) X (v := nI 0) (hd := dX2_init_10) (kk := ?_)
  refine p_X2_15 (pc := 11) X (hd := dX2_init_11) (hh := pset_s _ _ _) (kk := ?_)
  rw [pset_pset]
  refine v_aload_n (pc := 14) X (hd := dX2_init_14) (kk := ?_)
  refine v_iconst (pc := 15) X (v := nI 0) (hd := dX2_init_15) (kk := ?_)
  refine p_X2_18 (pc := 16) X (hd := dX2_init_16) (hh := pset_s _ _ _) (kk := ?_)
  rw [pset_pset]
  refine v_aload_n (pc := 19) X (hd := dX2_init_19) (kk := ?_)
  refine v_iconst (pc := 20) X (v := nI 0) (hd := dX2_init_20) (kk := ?_)
  refine p_X2_21 (pc := 21) X (hd := dX2_init_21) (hh := pset_s _ _ _) (kk := ?_)
  rw [pset_pset]
  refine v_aload_n (pc := 24) X (hd := dX2_init_24) (kk := ?_)
  refine v_iconst (pc := 25) X (v := nI 0) (hd := dX2_init_25) (kk := ?_)
  refine p_X2_24 (pc := 26) X (hd := dX2_init_26) (hh := pset_s _ _ _) (kk := ?_)
  rw [pset_pset]
  refine v_aload_n (pc := 29) X (hd := dX2_init_29) (kk := ?_)
  refine v_iconst (pc := 30) X (v := nI 0) (hd := dX2_init_30) (kk := ?_)
  refine p_X2_27 (pc := 31) X (hd := dX2_init_31) (hh := pset_s _ _ _) (kk := ?_)
  rw [pset_pset]
  refine v_aload_n (pc := 34) X (hd := dX2_init_34) (kk := ?_)
  refine v_bipush (pc := 35) X (v := nI 6) (hd := dX2_init_35) (kk := ?_)
  refine v_newq (pc := 37) X (ki := 3) (Na := 6) (hd := dX2_init_37) wk_X2_30 (by simp [pAO]) (by decide) rfl (by decide) (by decide +kernel) (by decide) (kk := ?_)
  refine p_X2_32 (pc := 40) X (hd := dX2_init_40) (hh := (pset_n (by omega)).trans (pset_s _ _ _)) (hin2 := hname) (kk := ?_)
  refine v_aload_n (pc := 43) X (hd := dX2_init_43) (kk := ?_)
  refine v_iconst (pc := 44) X (v := nI 4) (hd := dX2_init_44) (kk := ?_)
  refine v_newq (pc := 45) X (ki := 4) (Na := 4) (hd := dX2_init_45) wk_X2_36 (by simp [pAO]) (by decide) rfl (by decide) (by decide +kernel) (by decide) (kk := ?_)
  refine p_X2_38 (pc := 48) X (hd := dX2_init_48) (hh := (pset_n (by omega)).trans (pset_s _ _ _)) (hin2 := hname) (kk := ?_)
  refine v_aload_n (pc := 51) X (hd := dX2_init_51) (kk := ?_)
  refine v_bipush (pc := 52) X (v := nI 12) (hd := dX2_init_52) (kk := ?_)
  refine v_newq (pc := 54) X (ki := 5) (Na := 12) (hd := dX2_init_54) wk_X2_42 (by simp [pAO]) (by decide) rfl (by decide) (by decide +kernel) (by decide) (kk := ?_)
  refine p_X2_44 (pc := 57) X (hd := dX2_init_57) (hh := (pset_n (by omega)).trans (pset_s _ _ _)) (hin2 := hname) (kk := ?_)
  refine v_iconst (pc := 60) X (v := nI 0) (hd := dX2_init_60) (kk := ?_)
  refine v_istore_n (pc := 61) X (hd := dX2_init_61) (kk := ?_)
  refine v_forz (pc := 62) (M := 6) (Lf := fun i => [some (.ref a), some (.int (nI i))]) (I := fun i h1 => h1 a = some (ob 2 [.int (nI 0), .int (nI 0), .int (nI 0), .int (nI 0), .int (nI 0), .int (nI 0), .ref (a + 1), .ref (a + 2), .ref (a + 3)]) ∧ h1 (a + 1) = some (ar 3 6 (inF (fun k => a + 4 + k) i)) ∧ h1 (a + 2) = some (ar 4 4 (fun _ => none)) ∧ h1 (a + 3) = some (ar 5 12 (fun _ => none)) ∧ (∀ j, j < i → h1 (a + 4 + j) = some (ob 1 [.int (nI 0), .int (nI 0), .int (nI 0)])) ∧ (∀ j, j < 0 → h1 (a + 10 + 3 * j) = some (ob 0 [.int (nI 0), .int (nI 0), .int (nI 0), .int (nI 0), .int (nI 0), .int (nI 0), .ref (a + 11 + 3 * j), .ref (a + 12 + 3 * j)]) ∧ h1 (a + 11 + 3 * j) = some (ai 2 6 (fun _ => 0)) ∧ h1 (a + 12 + 3 * j) = some (ai 1 6 (fun _ => 0))) ∧ (∀ j, j < 0 → h1 (a + 22 + j) = some (ob 5 [.int (nI 0), .int (nI 0), .int (nI 0), .int (nI 0), .int (nI 0)])) ∧ ∀ q, q < a → h1 q = h q) (Z := fun i => a + 4 + i) (Kf := fun i => 3 + i) (Nf := fun i => 22 + 3 * i) (h0 := ⟨pset_s _ _ _, (pset_n (by omega)).trans ((pset_n (by omega)).trans ((pset_n (by omega)).trans ((pset_n (by omega)).trans ((pset_n (by omega)).trans (pset_s _ _ _))))), (pset_n (by omega)).trans ((pset_n (by omega)).trans ((pset_n (by omega)).trans (pset_s _ _ _))), (pset_n (by omega)).trans (pset_s _ _ _), fun j hj => by omega, fun j hj => by omega, fun j hj => by omega, fun q hq => (pset_n (by omega)).trans ((pset_n (by omega)).trans ((pset_n (by omega)).trans ((pset_n (by omega)).trans ((pset_n (by omega)).trans ((pset_n (by omega)).trans (pset_n (by omega))))))) ⟩) (hL := by rfl) (step := ?_) (out := ?_)
  · intro i h1 hi hI kk
    obtain ⟨I0, I1, I2, I3, I4, I5, I6, I7⟩ := hI
    refine v_iload_n (pc := 62) X (hd := dX2_init_62) (kk := ?_)
    refine v_bipush (pc := 63) X (v := nI 6) (hd := dX2_init_63) (kk := ?_)
    refine v_icmpge (pc := 65) X (tgt := 87) (hd := dX2_init_65) (kt := fun c65 => ?_) (kf := fun c65 => ?_)
    · exact absurd c65 (nI_ge hi (by omega))
    · refine v_aload_n (pc := 68) X (hd := dX2_init_68) (kk := ?_)
      refine g_X2_32 (pc := 69) X (hd := dX2_init_69) (hh := I0) (kk := ?_)
      refine v_iload_n (pc := 72) X (hd := dX2_init_72) (kk := ?_)
      refine v_new (pc := 73) X (ci := 1) (hd := dX2_init_73) inU1 tyX1 tyX1_ok wk_X2_30 wx_X1 wi_X1 rfl [.int 0, .int 0, .int 0] (fun j hj => match j, hj with | 0, _ => rfl | 1, _ => rfl | 2, _ => rfl) (kk := ?_) (hf := ⟨by show 3 + i + 1 ≤ 33; omega, by show 22 + 3 * i + 3 ≤ 180; omega⟩)
      refine v_dup (pc := 76) X (hd := dX2_init_76) (kk := ?_)
      refine v_callINz (pc := 77) X (hd := dX2_init_77) (w := wv_X2_48) (hC := c_X1_init l E _ _ _ _) (hp := pset_s _ _ _) (hf := ⟨by show 3 + i + 1 + 0 ≤ 33; omega, by show 22 + 3 * i + 3 + 0 ≤ 180; omega⟩) (kk := fun h77 q77 => ?_)
      refine v_aastN (pc := 80) X (j := i) (hd := dX2_init_80) (hh := (q77.2 _ (by omega)).trans ((pset_n (by omega)).trans I1)) (hv := q77.1) (hi := by first | rfl | (simp only [pk_mul, nI_add]; done)) (hj := by omega) (kk := ?_)
      refine v_iincN (pc := 81) X (hd := dX2_init_81) (kk := ?_)
      refine v_goto (pc := 84) X (tgt := 62) (hd := dX2_init_84) (kk := ?_)
      exact v_zkn (by omega) (by omega) (by omega) (kk _ ⟨(pset_n (by omega)).trans ((q77.2 _ (by omega)).trans ((pset_n (by omega)).trans I0)), (pset_s _ _ _).trans (congrArg (fun f => some (ar 3 6 f)) (inF_s (fun k => a + 4 + k) i)), (pset_n (by omega)).trans ((q77.2 _ (by omega)).trans ((pset_n (by omega)).trans I2)), (pset_n (by omega)).trans ((q77.2 _ (by omega)).trans ((pset_n (by omega)).trans I3)), fun j hj => by
        by_cases e : j = i
        · rw [e]; exact (pset_n (by omega)).trans q77.1
        · exact (pset_n (by omega)).trans ((q77.2 _ (by omega)).trans ((pset_n (by omega)).trans (I4 j (by omega)))), fun j hj => by omega, fun j hj => by omega, fun q hq => (pset_n (by omega)).trans ((q77.2 _ (by omega)).trans ((pset_n (by omega)).trans (I7 q hq)))⟩)
  · intro h1 hI
    obtain ⟨I0, I1, I2, I3, I4, I5, I6, I7⟩ := hI
    refine v_iload_n (pc := 62) X (hd := dX2_init_62) (kk := ?_)
    refine v_bipush (pc := 63) X (v := nI 6) (hd := dX2_init_63) (kk := ?_)
    refine v_icmpge (pc := 65) X (tgt := 87) (hd := dX2_init_65) (kt := fun c65 => ?_) (kf := fun c65 => ?_)
    · refine v_iconst (pc := 87) X (v := nI 0) (hd := dX2_init_87) (kk := ?_)
      refine v_istore_n (pc := 88) X (hd := dX2_init_88) (kk := ?_)
      refine v_forz (pc := 89) (M := 4) (Lf := fun i => [some (.ref a), some (.int (nI i))]) (I := fun i h1 => h1 a = some (ob 2 [.int (nI 0), .int (nI 0), .int (nI 0), .int (nI 0), .int (nI 0), .int (nI 0), .ref (a + 1), .ref (a + 2), .ref (a + 3)]) ∧ h1 (a + 1) = some (ar 3 6 (inF (fun k => a + 4 + k) 6)) ∧ h1 (a + 2) = some (ar 4 4 (inF (fun k => a + 10 + 3 * k) i)) ∧ h1 (a + 3) = some (ar 5 12 (fun _ => none)) ∧ (∀ j, j < 6 → h1 (a + 4 + j) = some (ob 1 [.int (nI 0), .int (nI 0), .int (nI 0)])) ∧ (∀ j, j < i → h1 (a + 10 + 3 * j) = some (ob 0 [.int (nI 0), .int (nI 0), .int (nI 0), .int (nI 0), .int (nI 0), .int (nI 0), .ref (a + 11 + 3 * j), .ref (a + 12 + 3 * j)]) ∧ h1 (a + 11 + 3 * j) = some (ai 2 6 (fun _ => 0)) ∧ h1 (a + 12 + 3 * j) = some (ai 1 6 (fun _ => 0))) ∧ (∀ j, j < 0 → h1 (a + 22 + j) = some (ob 5 [.int (nI 0), .int (nI 0), .int (nI 0), .int (nI 0), .int (nI 0)])) ∧ ∀ q, q < a → h1 q = h q) (Z := fun i => a + 10 + 3 * i) (Kf := fun i => 9 + 3 * i) (Nf := fun i => 40 + 20 * i) (h0 := ⟨I0, I1, I2, I3, I4, fun j hj => by omega, I6, I7⟩) (hL := by rfl) (step := ?_) (out := ?_)
      · intro i h1 hi hI kk
        obtain ⟨I0, I1, I2, I3, I4, I5, I6, I7⟩ := hI
        refine v_iload_n (pc := 89) X (hd := dX2_init_89) (kk := ?_)
        refine v_iconst (pc := 90) X (v := nI 4) (hd := dX2_init_90) (kk := ?_)
        refine v_icmpge (pc := 91) X (tgt := 113) (hd := dX2_init_91) (kt := fun c91 => ?_) (kf := fun c91 => ?_)
        · exact absurd c91 (nI_ge hi (by omega))
        · refine v_aload_n (pc := 94) X (hd := dX2_init_94) (kk := ?_)
          refine g_X2_38 (pc := 95) X (hd := dX2_init_95) (hh := I0) (kk := ?_)
          refine v_iload_n (pc := 98) X (hd := dX2_init_98) (kk := ?_)
          refine v_new (pc := 99) X (ci := 0) (hd := dX2_init_99) inU0 tyX0 tyX0_ok wk_X2_36 wx_X0 wi_X0 rfl [.int 0, .int 0, .int 0, .int 0, .int 0, .int 0, .null, .null] (fun j hj => match j, hj with | 0, _ => rfl | 1, _ => rfl | 2, _ => rfl | 3, _ => rfl | 4, _ => rfl | 5, _ => rfl | 6, _ => rfl | 7, _ => rfl) (kk := ?_) (hf := ⟨by show 9 + 3 * i + 1 ≤ 33; omega, by show 40 + 20 * i + 8 ≤ 180; omega⟩)
          refine v_dup (pc := 102) X (hd := dX2_init_102) (kk := ?_)
          refine v_callINz (pc := 103) X (hd := dX2_init_103) (w := wv_X2_49) (hC := c_X0_init l E _ _ _ _ _ _ _) (hp := ⟨pset_s _ _ _, rfl⟩) (hf := ⟨by show 9 + 3 * i + 1 + 2 ≤ 33; omega, by show 40 + 20 * i + 8 + 12 ≤ 180; omega⟩) (kk := fun h103 q103 => ?_)
          refine v_aastN (pc := 106) X (j := i) (hd := dX2_init_106) (hh := (q103.2.2.2 _ (by omega)).trans ((pset_n (by omega)).trans I2)) (hv := q103.1) (hi := by first | rfl | (simp only [pk_mul, nI_add]; done)) (hj := by omega) (kk := ?_)
          refine v_iincN (pc := 107) X (hd := dX2_init_107) (kk := ?_)
          refine v_goto (pc := 110) X (tgt := 89) (hd := dX2_init_110) (kk := ?_)
          exact v_zkn (by omega) (by omega) (by omega) (kk _ ⟨(pset_n (by omega)).trans ((q103.2.2.2 _ (by omega)).trans ((pset_n (by omega)).trans I0)), (pset_n (by omega)).trans ((q103.2.2.2 _ (by omega)).trans ((pset_n (by omega)).trans I1)), (pset_s _ _ _).trans (congrArg (fun f => some (ar 4 4 f)) (inF_s (fun k => a + 10 + 3 * k) i)), (pset_n (by omega)).trans ((q103.2.2.2 _ (by omega)).trans ((pset_n (by omega)).trans I3)), fun j hj => (pset_n (by omega)).trans ((q103.2.2.2 _ (by omega)).trans ((pset_n (by omega)).trans (I4 j hj))), fun j hj => by
            by_cases e : j = i
            · rw [e, show a + 11 + 3 * i = a + 10 + 3 * i + 1 by omega, show a + 12 + 3 * i = a + 10 + 3 * i + 2 by omega]
              exact ⟨(pset_n (by omega)).trans q103.1, (pset_n (by omega)).trans q103.2.1, (pset_n (by omega)).trans q103.2.2.1⟩
            · exact ⟨(pset_n (by omega)).trans ((q103.2.2.2 _ (by omega)).trans ((pset_n (by omega)).trans (I5 j (by omega)).1)), (pset_n (by omega)).trans ((q103.2.2.2 _ (by omega)).trans ((pset_n (by omega)).trans (I5 j (by omega)).2.1)), (pset_n (by omega)).trans ((q103.2.2.2 _ (by omega)).trans ((pset_n (by omega)).trans (I5 j (by omega)).2.2))⟩, fun j hj => by omega, fun q hq => (pset_n (by omega)).trans ((q103.2.2.2 _ (by omega)).trans ((pset_n (by omega)).trans (I7 q hq)))⟩)
      · intro h1 hI
        obtain ⟨I0, I1, I2, I3, I4, I5, I6, I7⟩ := hI
        refine v_iload_n (pc := 89) X (hd := dX2_init_89) (kk := ?_)
        refine v_iconst (pc := 90) X (v := nI 4) (hd := dX2_init_90) (kk := ?_)
        refine v_icmpge (pc := 91) X (tgt := 113) (hd := dX2_init_91) (kt := fun c91 => ?_) (kf := fun c91 => ?_)
        · refine v_iconst (pc := 113) X (v := nI 0) (hd := dX2_init_113) (kk := ?_)
          refine v_istore_n (pc := 114) X (hd := dX2_init_114) (kk := ?_)
          refine v_forz (pc := 115) (M := 12) (Lf := fun i => [some (.ref a), some (.int (nI i))]) (I := fun i h1 => h1 a = some (ob 2 [.int (nI 0), .int (nI 0), .int (nI 0), .int (nI 0), .int (nI 0), .int (nI 0), .ref (a + 1), .ref (a + 2), .ref (a + 3)]) ∧ h1 (a + 1) = some (ar 3 6 (inF (fun k => a + 4 + k) 6)) ∧ h1 (a + 2) = some (ar 4 4 (inF (fun k => a + 10 + 3 * k) 4)) ∧ h1 (a + 3) = some (ar 5 12 (inF (fun k => a + 22 + k) i)) ∧ (∀ j, j < 6 → h1 (a + 4 + j) = some (ob 1 [.int (nI 0), .int (nI 0), .int (nI 0)])) ∧ (∀ j, j < 4 → h1 (a + 10 + 3 * j) = some (ob 0 [.int (nI 0), .int (nI 0), .int (nI 0), .int (nI 0), .int (nI 0), .int (nI 0), .ref (a + 11 + 3 * j), .ref (a + 12 + 3 * j)]) ∧ h1 (a + 11 + 3 * j) = some (ai 2 6 (fun _ => 0)) ∧ h1 (a + 12 + 3 * j) = some (ai 1 6 (fun _ => 0))) ∧ (∀ j, j < i → h1 (a + 22 + j) = some (ob 5 [.int (nI 0), .int (nI 0), .int (nI 0), .int (nI 0), .int (nI 0)])) ∧ ∀ q, q < a → h1 q = h q) (Z := fun i => a + 22 + i) (Kf := fun i => 21 + i) (Nf := fun i => 120 + 5 * i) (h0 := ⟨I0, I1, I2, I3, I4, I5, fun j hj => by omega, I7⟩) (hL := by rfl) (step := ?_) (out := ?_)
          · intro i h1 hi hI kk
            obtain ⟨I0, I1, I2, I3, I4, I5, I6, I7⟩ := hI
            refine v_iload_n (pc := 115) X (hd := dX2_init_115) (kk := ?_)
            refine v_bipush (pc := 116) X (v := nI 12) (hd := dX2_init_116) (kk := ?_)
            refine v_icmpge (pc := 118) X (tgt := 140) (hd := dX2_init_118) (kt := fun c118 => ?_) (kf := fun c118 => ?_)
            · exact absurd c118 (nI_ge hi (by omega))
            · refine v_aload_n (pc := 121) X (hd := dX2_init_121) (kk := ?_)
              refine g_X2_44 (pc := 122) X (hd := dX2_init_122) (hh := I0) (kk := ?_)
              refine v_iload_n (pc := 125) X (hd := dX2_init_125) (kk := ?_)
              refine v_new (pc := 126) X (ci := 5) (hd := dX2_init_126) inU5 tyX5 tyX5_ok wk_X2_42 wx_X5 wi_X5 rfl [.int 0, .int 0, .int 0, .int 0, .int 0] (fun j hj => match j, hj with | 0, _ => rfl | 1, _ => rfl | 2, _ => rfl | 3, _ => rfl | 4, _ => rfl) (kk := ?_) (hf := ⟨by show 21 + i + 1 ≤ 33; omega, by show 120 + 5 * i + 5 ≤ 180; omega⟩)
              refine v_dup (pc := 129) X (hd := dX2_init_129) (kk := ?_)
              refine v_callINz (pc := 130) X (hd := dX2_init_130) (w := wv_X2_50) (hC := c_X5_init l E _ _ _ _ _ _) (hp := pset_s _ _ _) (hf := ⟨by show 21 + i + 1 + 0 ≤ 33; omega, by show 120 + 5 * i + 5 + 0 ≤ 180; omega⟩) (kk := fun h130 q130 => ?_)
              refine v_aastN (pc := 133) X (j := i) (hd := dX2_init_133) (hh := (q130.2 _ (by omega)).trans ((pset_n (by omega)).trans I3)) (hv := q130.1) (hi := by first | rfl | (simp only [pk_mul, nI_add]; done)) (hj := by omega) (kk := ?_)
              refine v_iincN (pc := 134) X (hd := dX2_init_134) (kk := ?_)
              refine v_goto (pc := 137) X (tgt := 115) (hd := dX2_init_137) (kk := ?_)
              exact v_zkn (by omega) (by omega) (by omega) (kk _ ⟨(pset_n (by omega)).trans ((q130.2 _ (by omega)).trans ((pset_n (by omega)).trans I0)), (pset_n (by omega)).trans ((q130.2 _ (by omega)).trans ((pset_n (by omega)).trans I1)), (pset_n (by omega)).trans ((q130.2 _ (by omega)).trans ((pset_n (by omega)).trans I2)), (pset_s _ _ _).trans (congrArg (fun f => some (ar 5 12 f)) (inF_s (fun k => a + 22 + k) i)), fun j hj => (pset_n (by omega)).trans ((q130.2 _ (by omega)).trans ((pset_n (by omega)).trans (I4 j hj))), fun j hj => ⟨(pset_n (by omega)).trans ((q130.2 _ (by omega)).trans ((pset_n (by omega)).trans (I5 j hj).1)), (pset_n (by omega)).trans ((q130.2 _ (by omega)).trans ((pset_n (by omega)).trans (I5 j hj).2.1)), (pset_n (by omega)).trans ((q130.2 _ (by omega)).trans ((pset_n (by omega)).trans (I5 j hj).2.2))⟩, fun j hj => by
                by_cases e : j = i
                · rw [e]; exact (pset_n (by omega)).trans q130.1
                · exact (pset_n (by omega)).trans ((q130.2 _ (by omega)).trans ((pset_n (by omega)).trans (I6 j (by omega)))), fun q hq => (pset_n (by omega)).trans ((q130.2 _ (by omega)).trans ((pset_n (by omega)).trans (I7 q hq)))⟩)
          · intro h1 hI
            obtain ⟨I0, I1, I2, I3, I4, I5, I6, I7⟩ := hI
            refine v_iload_n (pc := 115) X (hd := dX2_init_115) (kk := ?_)
            refine v_bipush (pc := 116) X (v := nI 12) (hd := dX2_init_116) (kk := ?_)
            refine v_icmpge (pc := 118) X (tgt := 140) (hd := dX2_init_118) (kt := fun c118 => ?_) (kf := fun c118 => ?_)
            · exact v_endzz (pc := 140) X hr hlk (hd := dX2_init_140) (hz := by omega) (hf := by
                  refine ⟨⟨_, _, _, fun k => k, fun _ _ => 0, fun _ _ => 0, I0, I1, I2, I3, ⟨fun j hj => inF_l hj, fun j hj => inF_l hj, fun j hj => inF_l hj, fun j hj => hj, fun i j _ _ e => e⟩, I4, fun j hj => (I5 j hj).1, fun j hj => (I5 j hj).2.1, fun j hj => (I5 j hj).2.2, fun j _ i hi => (bt_0 i hi).symm, fun j _ i _ => nI_z.symm, fun k hk => ⟨_, _, _, _, _, I6 k hk⟩, fun k hk _ => I6 k hk⟩, I7⟩)
            · exact absurd (Int32.le_refl _) c118
        · exact absurd (Int32.le_refl _) c91
    · exact absurd (Int32.le_refl _) c65
set_option maxRecDepth 100000 in
set_option maxHeartbeats 4000000 in
theorem c_X4_init (l : Launch) (E : pE) (q0 : Nat) : pC l E yX4_init cX4_init 2 none { frames := 3, cells := 104, slots := 571, locals := 61 } 104 571 [.ref q0] (fun h z => h q0 = some (ob 4 [.null, .null, .null]) ∧ z = q0 + 1) (pFz 104 (fun h z h' => SA q0 (fun _ => nI 0) h' ∧ ∀ q, q < q0 → h' q = h q)) := by
  refine pC_of (by decide) (by simp [Value.category]) (Nat.le_of_ble_eq_true rfl) ?_
  intro h z hp p__ e__ s__ m__ args__ below__ meth__ c__ X hr hlk hname
  obtain ⟨hb, rfl⟩ := hp
  refine v_aload_n (pc := 0) X (hd := dX4_init_0) (kk := ?_)
  refine v_objInit (pc := 1) X (hd := dX4_init_1) (hw1 := wm_X4_3) (hw2 := wn_objectInit) (hw3 := wc_objectInit) (kk := ?_)
  refine v_aload_n (pc := 4) X (hd := dX4_init_4) (kk := ?_)
  refine v_new (pc := 5) X (ci := 2) (hd := dX4_init_5) inU2 tyX2 tyX2_ok wk_X4_9 wx_X2 wi_X2 rfl [.int 0, .int 0, .int 0, .int 0, .int 0, .int 0, .null, .null, .null] (fun j hj => match j, hj with | 0, _ => rfl | 1, _ => rfl | 2, _ => rfl | 3, _ => rfl | 4, _ => rfl | 5, _ => rfl | 6, _ => rfl | 7, _ => rfl | 8, _ => rfl) (kk := ?_) (hf := by decide)
  refine v_dup (pc := 8) X (hd := dX4_init_8) (kk := ?_)
  refine v_callIz (pc := 9) X (hd := dX4_init_9) (w := wv_X4_11) (hC := c_X2_init l E _) (hp := ⟨pset_s _ _ _, rfl⟩) (kk := fun h9 q9 => ?_)
  refine p_X4_12 (pc := 12) X (hd := dX4_init_12) (hh := (q9.2 _ (by omega)).trans ((pset_n (by omega)).trans hb)) (hin2 := hname) (kk := ?_)
  refine v_aload_n (pc := 15) X (hd := dX4_init_15) (kk := ?_)
  refine v_iconst (pc := 16) X (v := nI 2) (hd := dX4_init_16) (kk := ?_)
  refine v_newq (pc := 17) X (ki := 6) (Na := 2) (hd := dX4_init_17) wk_X4_9 (by simp [pAO]) (by decide) rfl (by decide) (by decide +kernel) (by decide) (kk := ?_)
  refine p_X4_18 (pc := 20) X (hd := dX4_init_20) (hh := (pset_n (by omega)).trans (pset_s _ _ _)) (hin2 := hname) (kk := ?_)
  refine v_aload_n (pc := 23) X (hd := dX4_init_23) (kk := ?_)
  refine v_iconst (pc := 24) X (v := nI 2) (hd := dX4_init_24) (kk := ?_)
  refine v_newa (pc := 25) X (ki := 2) (Na := 2) (hd := dX4_init_25) wa_boolean (by decide) rfl rfl (by decide) (by decide +kernel) (by decide) (fun _ _ h => h) (kk := ?_)
  refine p_X4_22 (pc := 27) X (hd := dX4_init_27) (hh := (pset_n (by omega)).trans (pset_s _ _ _)) (hin2 := hname) (kk := ?_)
  refine v_iconst (pc := 30) X (v := nI 0) (hd := dX4_init_30) (kk := ?_)
  refine v_istore_n (pc := 31) X (hd := dX4_init_31) (kk := ?_)
  refine v_forz (pc := 32) (M := 2) (Lf := fun i => [some (.ref q0), some (.int (nI i))]) (I := fun i h1 => h1 q0 = some (ob 4 [.ref (q0 + 1), .ref (q0 + 35), .ref (q0 + 36)]) ∧ h1 (q0 + 35) = some (ar 6 2 (inF (fun k => q0 + 37 + 34 * k) i)) ∧ h1 (q0 + 36) = some (ai 2 2 (fun _ => 0)) ∧ PA (q0 + 1) (fun _ => nI 0) h1 ∧ (∀ j, j < i → PA (q0 + 37 + 34 * j) (fun _ => nI 0) h1) ∧ ∀ q, q < q0 → h1 q = h q) (Z := fun i => q0 + 37 + 34 * i) (Kf := fun i => 36 + 34 * i) (Nf := fun i => 193 + 189 * i) (h0 := ⟨pset_s _ _ _, (pset_n (by omega)).trans ((pset_n (by omega)).trans ((pset_n (by omega)).trans (pset_s _ _ _))), (pset_n (by omega)).trans (pset_s _ _ _), q9.1.off (fun p h2 h3 => (pset_n (by omega)).trans ((pset_n (by omega)).trans ((pset_n (by omega)).trans ((pset_n (by omega)).trans (pset_n (by omega)))))), fun j hj => by omega, fun q hq => (pset_n (by omega)).trans ((pset_n (by omega)).trans ((pset_n (by omega)).trans ((pset_n (by omega)).trans ((pset_n (by omega)).trans ((q9.2 _ (by omega)).trans (pset_n (by omega)))))))⟩) (hL := by rfl) (step := ?_) (out := ?_)
  · intro i h1 hi hI kk
    obtain ⟨I0, I1, I2, I3, I4, I7⟩ := hI
    refine v_iload_n (pc := 32) X (hd := dX4_init_32) (kk := ?_)
    refine v_iconst (pc := 33) X (v := nI 2) (hd := dX4_init_33) (kk := ?_)
    refine v_icmpge (pc := 34) X (tgt := 56) (hd := dX4_init_34) (kt := fun c34 => ?_) (kf := fun c34 => ?_)
    · exact absurd c34 (nI_ge hi (by omega))
    · refine v_aload_n (pc := 37) X (hd := dX4_init_37) (kk := ?_)
      refine g_X4_18 (pc := 38) X (hd := dX4_init_38) (hh := I0) (kk := ?_)
      refine v_iload_n (pc := 41) X (hd := dX4_init_41) (kk := ?_)
      refine v_new (pc := 42) X (ci := 2) (hd := dX4_init_42) inU2 tyX2 tyX2_ok wk_X4_9 wx_X2 wi_X2 rfl [.int 0, .int 0, .int 0, .int 0, .int 0, .int 0, .null, .null, .null] (fun j hj => match j, hj with | 0, _ => rfl | 1, _ => rfl | 2, _ => rfl | 3, _ => rfl | 4, _ => rfl | 5, _ => rfl | 6, _ => rfl | 7, _ => rfl | 8, _ => rfl) (kk := ?_) (hf := ⟨by show 36 + 34 * i + 1 ≤ 104; omega, by show 193 + 189 * i + 9 ≤ 571; omega⟩)
      refine v_dup (pc := 45) X (hd := dX4_init_45) (kk := ?_)
      refine v_callIz (pc := 46) X (hd := dX4_init_46) (w := wv_X4_11) (hC := c_X2_init l E _) (hp := ⟨pset_s _ _ _, rfl⟩) (hf := ⟨by show 36 + 34 * i + 1 + 33 ≤ 104; omega, by show 193 + 189 * i + 9 + 180 ≤ 571; omega⟩) (kk := fun h46 q46 => ?_)
      refine v_aastN (pc := 49) X (j := i) (hd := dX4_init_49) (hh := (q46.2 _ (by omega)).trans ((pset_n (by omega)).trans I1)) (hv := PA.ob q46.1) (hi := by first | rfl | (simp only [pk_mul, nI_add]; done)) (hj := by omega) (kk := ?_)
      refine v_iincN (pc := 50) X (hd := dX4_init_50) (kk := ?_)
      refine v_goto (pc := 53) X (tgt := 32) (hd := dX4_init_53) (kk := ?_)
      exact v_zkn (by omega) (by omega) (by omega) (kk _ ⟨(pset_n (by omega)).trans ((q46.2 _ (by omega)).trans ((pset_n (by omega)).trans I0)), (pset_s _ _ _).trans (congrArg (fun f => some (ar 6 2 f)) (inF_s (fun k => q0 + 37 + 34 * k) i)), (pset_n (by omega)).trans ((q46.2 _ (by omega)).trans ((pset_n (by omega)).trans I2)), I3.off (fun p h2 h3 => (pset_n (by omega)).trans ((q46.2 _ (by omega)).trans ((pset_n (by omega)).trans rfl))), fun j hj => by
        by_cases e : j = i
        · rw [e]; exact q46.1.off (fun p h2 h3 => pset_n (by omega))
        · exact (I4 j (by omega)).off (fun p h2 h3 => (pset_n (by omega)).trans ((q46.2 _ (by omega)).trans ((pset_n (by omega)).trans rfl))), fun q hq => (pset_n (by omega)).trans ((q46.2 _ (by omega)).trans ((pset_n (by omega)).trans (I7 q hq)))⟩)
  · intro h1 hI
    obtain ⟨I0, I1, I2, I3, I4, I7⟩ := hI
    refine v_iload_n (pc := 32) X (hd := dX4_init_32) (kk := ?_)
    refine v_iconst (pc := 33) X (v := nI 2) (hd := dX4_init_33) (kk := ?_)
    refine v_icmpge (pc := 34) X (tgt := 56) (hd := dX4_init_34) (kt := fun c34 => ?_) (kf := fun c34 => ?_)
    · exact v_endzz (pc := 56) X hr hlk (hd := dX4_init_56) (hz := by omega) (hf := by
          refine ⟨⟨_, _, fun _ => (fun _ => nI 0), I0, I1, I2, fun j hj => inF_l hj, fun j hj => nI_z.symm, fun j hj => Or.inl nI_z, I3, I4, fun i hi q => ?_⟩, I7⟩
          exact absurd (show nI 0 = 1 from q) (by decide +kernel))
    · exact absurd (Int32.le_refl _) c34
set_option maxRecDepth 100000 in
set_option maxHeartbeats 4000000 in
theorem c_X6_init (l : Launch) (E : pE) (x : Nat) : pC l E yX6_init cX6_init 2 none { frames := 4, cells := 739, slots := 4171, locals := 82 } 739 4171 [.ref x] (fun h z => h x = some (ob 6 [.null, .null, .null, .int 0, .null]) ∧ z = x + 1) (pFz 739 (fun h z h' => KY x (fun _ => nI 0) (fun _ => 0) 0 0 (fun _ => 0) (nI 0) (nI 0) (fun _ => 0) h' ∧ ∀ q, q < x → h' q = h q)) := by
  refine pC_of (by decide) (by simp [Value.category]) (Nat.le_of_ble_eq_true rfl) ?_
  intro h z hp p__ e__ s__ m__ args__ below__ meth__ c__ X hr hlk hname
  obtain ⟨hb, rfl⟩ := hp
  refine v_aload_n (pc := 0) X (hd := dX6_init_0) (kk := ?_)
  refine v_objInit (pc := 1) X (hd := dX6_init_1) (hw1 := wm_X6_1) (hw2 := wn_objectInit) (hw3 := wc_objectInit) (kk := ?_)
  refine v_aload_n (pc := 4) X (hd := dX6_init_4) (kk := ?_)
  refine v_new (pc := 5) X (ci := 4) (hd := dX6_init_5) inU4 tyX4 tyX4_ok wk_X6_7 wx_X4 wi_X4 rfl [.null, .null, .null] (fun j hj => match j, hj with | 0, _ => rfl | 1, _ => rfl | 2, _ => rfl) (kk := ?_) (hf := by decide)
  refine v_dup (pc := 8) X (hd := dX6_init_8) (kk := ?_)
  refine v_callIz (pc := 9) X (hd := dX6_init_9) (w := wv_X6_9) (hC := c_X4_init l E _) (hp := ⟨pset_s _ _ _, rfl⟩) (kk := fun h9 q9 => ?_)
  refine p_X6_10 (pc := 12) X (hd := dX6_init_12) (hh := (q9.2 _ (by omega)).trans ((pset_n (by omega)).trans hb)) (kk := ?_)
  refine v_gen (P := fun h9 => h9 x = some (ob 6 [.ref (x + 1), .null, .null, .int 0, .null]) ∧ SA (x + 1) (fun _ => nI 0) h9 ∧ ∀ q, q < x → h9 q = h q) ⟨pset_s _ _ _, q9.1.off (fun p h2 h3 => pset_n (by omega)), fun q hq => (pset_n (by omega)).trans ((q9.2 _ (by omega)).trans (pset_n (by omega)))⟩ (fun h12 q12 => ?_)
  obtain ⟨B1, B2, B3⟩ := q12
  refine v_aload_n (pc := 15) X (hd := dX6_init_15) (kk := ?_)
  refine v_new (pc := 16) X (ci := 4) (hd := dX6_init_16) inU4 tyX4 tyX4_ok wk_X6_7 wx_X4 wi_X4 rfl [.null, .null, .null] (fun j hj => match j, hj with | 0, _ => rfl | 1, _ => rfl | 2, _ => rfl) (kk := ?_) (hf := by decide)
  refine v_dup (pc := 19) X (hd := dX6_init_19) (kk := ?_)
  refine v_callIz (pc := 20) X (hd := dX6_init_20) (w := wv_X6_9) (hC := c_X4_init l E _) (hp := ⟨pset_s _ _ _, rfl⟩) (kk := fun h20 q20 => ?_)
  refine p_X6_16 (pc := 23) X (hd := dX6_init_23) (hh := (q20.2 _ (by omega)).trans ((pset_n (by omega)).trans B1)) (kk := ?_)
  refine v_gen (P := fun h9 => h9 x = some (ob 6 [.ref (x + 1), .ref (x + 106), .null, .int 0, .null]) ∧ SA (x + 1) (fun _ => nI 0) h9 ∧ SA (x + 106) (fun _ => nI 0) h9 ∧ ∀ q, q < x → h9 q = h q) ⟨pset_s _ _ _, B2.off (fun p h2 h3 => (pset_n (by omega)).trans ((q20.2 _ (by omega)).trans (pset_n (by omega)))), q20.1.off (fun p h2 h3 => pset_n (by omega)), fun q hq => (pset_n (by omega)).trans ((q20.2 _ (by omega)).trans ((pset_n (by omega)).trans (B3 q hq)))⟩ (fun h23 q23 => ?_)
  obtain ⟨C1, C2, C3, C4⟩ := q23
  refine v_aload_n (pc := 26) X (hd := dX6_init_26) (kk := ?_)
  refine v_iconst (pc := 27) X (v := nI 5) (hd := dX6_init_27) (kk := ?_)
  refine v_newq (pc := 28) X (ki := 7) (Na := 5) (hd := dX6_init_28) wk_X6_7 (by simp [pAO]) (by decide) rfl (by decide) (by decide +kernel) (by decide) (kk := ?_)
  refine p_X6_19 (pc := 31) X (hd := dX6_init_31) (hh := (pset_n (by omega)).trans C1) (hin2 := hname) (kk := ?_)
  refine v_aload_n (pc := 34) X (hd := dX6_init_34) (kk := ?_)
  refine v_iconst (pc := 35) X (v := nI 0) (hd := dX6_init_35) (kk := ?_)
  refine p_X6_23 (pc := 36) X (hd := dX6_init_36) (hh := pset_s _ _ _) (kk := ?_)
  rw [pset_pset]
  refine v_aload_n (pc := 39) X (hd := dX6_init_39) (kk := ?_)
  refine v_new (pc := 40) X (ci := 3) (hd := dX6_init_40) inU3 tyX3 tyX3_ok wk_X6_27 wx_X3 wi_X3 rfl [.null, .int 0, .int 0, .int 0, .null] (fun j hj => match j, hj with | 0, _ => rfl | 1, _ => rfl | 2, _ => rfl | 3, _ => rfl | 4, _ => rfl) (kk := ?_) (hf := by decide)
  refine v_dup (pc := 43) X (hd := dX6_init_43) (kk := ?_)
  refine v_callINz (pc := 44) X (hd := dX6_init_44) (w := wv_X6_29) (hC := c_X3_init l E _ _ _ _) (hp := ⟨pset_s _ _ _, rfl⟩) (kk := fun h44 q44 => ?_)
  refine p_X6_30 (pc := 47) X (hd := dX6_init_47) (hh := (q44.2.2.2 _ (by omega)).trans ((pset_n (by omega)).trans (pset_s _ _ _))) (hin2 := hname) (kk := ?_)
  refine v_iconst (pc := 50) X (v := nI 0) (hd := dX6_init_50) (kk := ?_)
  refine v_istore_n (pc := 51) X (hd := dX6_init_51) (kk := ?_)
  refine v_forz (pc := 52) (M := 5) (Lf := fun i => [some (.ref x), some (.int (nI i))]) (I := fun i h1 => h1 x = some (ob 6 [.ref (x + 1), .ref (x + 106), .ref (x + 211), .int (nI 0), .ref (x + 212)]) ∧ h1 (x + 211) = some (ar 7 5 (inF (fun k => x + 215 + 105 * k) i)) ∧ SA (x + 1) (fun _ => nI 0) h1 ∧ SA (x + 106) (fun _ => nI 0) h1 ∧ (h1 (x + 212) = some (ob 3 [.ref (x + 213), .int (nI 0), .int (nI 0), .int (nI 0), .ref (x + 214)]) ∧ h1 (x + 213) = some (ai 0 140 (fun _ => 0)) ∧ h1 (x + 214) = some (ai 1 3 (fun _ => 0))) ∧ (∀ j, j < i → SA (x + 215 + 105 * j) (fun _ => nI 0) h1) ∧ ∀ q, q < x → h1 q = h q) (Z := fun i => x + 215 + 105 * i) (Kf := fun i => 214 + 105 * i) (Nf := fun i => 1301 + 574 * i) (h0 := ⟨pset_s _ _ _, (pset_n (by omega)).trans ((q44.2.2.2 _ (by omega)).trans ((pset_n (by omega)).trans ((pset_n (by omega)).trans (pset_s _ _ _)))), C2.off (fun p h2 h3 => (pset_n (by omega)).trans ((q44.2.2.2 _ (by omega)).trans ((pset_n (by omega)).trans ((pset_n (by omega)).trans (pset_n (by omega)))))), C3.off (fun p h2 h3 => (pset_n (by omega)).trans ((q44.2.2.2 _ (by omega)).trans ((pset_n (by omega)).trans ((pset_n (by omega)).trans (pset_n (by omega)))))), ⟨(pset_n (by omega)).trans q44.1, (pset_n (by omega)).trans q44.2.1, (pset_n (by omega)).trans q44.2.2.1⟩, fun j hj => by omega, fun q hq => (pset_n (by omega)).trans ((q44.2.2.2 _ (by omega)).trans ((pset_n (by omega)).trans ((pset_n (by omega)).trans ((pset_n (by omega)).trans (C4 q hq)))))⟩) (hL := by rfl) (step := ?_) (out := ?_)
  · intro i h1 hi hI kk
    obtain ⟨I0, I1, I2, I3, I4, I5, I7⟩ := hI
    refine v_iload_n (pc := 52) X (hd := dX6_init_52) (kk := ?_)
    refine v_iconst (pc := 53) X (v := nI 5) (hd := dX6_init_53) (kk := ?_)
    refine v_icmpge (pc := 54) X (tgt := 76) (hd := dX6_init_54) (kt := fun c54 => ?_) (kf := fun c54 => ?_)
    · exact absurd c54 (nI_ge hi (by omega))
    · refine v_aload_n (pc := 57) X (hd := dX6_init_57) (kk := ?_)
      refine g_X6_19 (pc := 58) X (hd := dX6_init_58) (hh := I0) (kk := ?_)
      refine v_iload_n (pc := 61) X (hd := dX6_init_61) (kk := ?_)
      refine v_new (pc := 62) X (ci := 4) (hd := dX6_init_62) inU4 tyX4 tyX4_ok wk_X6_7 wx_X4 wi_X4 rfl [.null, .null, .null] (fun j hj => match j, hj with | 0, _ => rfl | 1, _ => rfl | 2, _ => rfl) (kk := ?_) (hf := ⟨by show 214 + 105 * i + 1 ≤ 739; omega, by show 1301 + 574 * i + 3 ≤ 4171; omega⟩)
      refine v_dup (pc := 65) X (hd := dX6_init_65) (kk := ?_)
      refine v_callIz (pc := 66) X (hd := dX6_init_66) (w := wv_X6_9) (hC := c_X4_init l E _) (hp := ⟨pset_s _ _ _, rfl⟩) (hf := ⟨by show 214 + 105 * i + 1 + 104 ≤ 739; omega, by show 1301 + 574 * i + 3 + 571 ≤ 4171; omega⟩) (kk := fun h66 q66 => ?_)
      refine v_aastN (pc := 69) X (j := i) (hd := dX6_init_69) (hh := (q66.2 _ (by omega)).trans ((pset_n (by omega)).trans I1)) (hv := SA.ob q66.1) (hi := by first | rfl | (simp only [pk_mul, nI_add]; done)) (hj := by omega) (kk := ?_)
      refine v_iincN (pc := 70) X (hd := dX6_init_70) (kk := ?_)
      refine v_goto (pc := 73) X (tgt := 52) (hd := dX6_init_73) (kk := ?_)
      exact v_zkn (by omega) (by omega) (by omega) (kk _ ⟨(pset_n (by omega)).trans ((q66.2 _ (by omega)).trans ((pset_n (by omega)).trans I0)), (pset_s _ _ _).trans (congrArg (fun f => some (ar 7 5 f)) (inF_s (fun k => x + 215 + 105 * k) i)), I2.off (fun p h2 h3 => (pset_n (by omega)).trans ((q66.2 _ (by omega)).trans ((pset_n (by omega)).trans rfl))), I3.off (fun p h2 h3 => (pset_n (by omega)).trans ((q66.2 _ (by omega)).trans ((pset_n (by omega)).trans rfl))), ⟨(pset_n (by omega)).trans ((q66.2 _ (by omega)).trans ((pset_n (by omega)).trans I4.1)), (pset_n (by omega)).trans ((q66.2 _ (by omega)).trans ((pset_n (by omega)).trans I4.2.1)), (pset_n (by omega)).trans ((q66.2 _ (by omega)).trans ((pset_n (by omega)).trans I4.2.2))⟩, fun j hj => by
        by_cases e : j = i
        · rw [e]; exact q66.1.off (fun p h2 h3 => pset_n (by omega))
        · exact (I5 j (by omega)).off (fun p h2 h3 => (pset_n (by omega)).trans ((q66.2 _ (by omega)).trans ((pset_n (by omega)).trans rfl))), fun q hq => (pset_n (by omega)).trans ((q66.2 _ (by omega)).trans ((pset_n (by omega)).trans (I7 q hq)))⟩)
  · intro h1 hI
    obtain ⟨I0, I1, I2, I3, I4, I5, I7⟩ := hI
    refine v_iload_n (pc := 52) X (hd := dX6_init_52) (kk := ?_)
    refine v_iconst (pc := 53) X (v := nI 5) (hd := dX6_init_53) (kk := ?_)
    refine v_icmpge (pc := 54) X (tgt := 76) (hd := dX6_init_54) (kt := fun c54 => ?_) (kf := fun c54 => ?_)
    · exact v_endzz (pc := 76) X hr hlk (hd := dX6_init_76) (hz := by omega) (hf := by
          refine ⟨⟨fun r => if r = 0 then x + 1 else if r = 1 then x + 106 else x + 215 + 105 * (r - 2), _, ⟨I0, I1, fun k hk => (inF_l hk).trans (by show some (x + 215 + 105 * k) = some (if 2 + k = 0 then x + 1 else if 2 + k = 1 then x + 106 else x + 215 + 105 * (2 + k - 2)); rw [if_neg (by omega), if_neg (by omega), show 2 + k - 2 = k by omega]), ⟨fun r hr => ?_, fun r s hr hs hne => ?_⟩, I4, fun r hr => ⟨(fun _ => nI 0), ?_⟩⟩, I2, fun k hk => absurd hk (by omega)⟩, I7⟩
          · by_cases e0 : r = 0
            · exact Or.inl (if_pos e0)
            · by_cases e1 : r = 1
              · exact Or.inr (Or.inl (by show (if r = 0 then _ else _) = _; rw [if_neg e0, if_pos e1]))
              · exact Or.inr (Or.inr ⟨r - 2, by omega, by show (if r = 0 then _ else _) = _; rw [if_neg e0, if_neg e1]⟩)
          · show (if r = 0 then x + 1 else if r = 1 then x + 106 else x + 215 + 105 * (r - 2)) ≠ (if s = 0 then x + 1 else if s = 1 then x + 106 else x + 215 + 105 * (s - 2))
            repeat' split
            all_goals omega
          · show SA (if r = 0 then x + 1 else if r = 1 then x + 106 else x + 215 + 105 * (r - 2)) _ _
            by_cases e0 : r = 0
            · rw [if_pos e0]; exact I2
            · by_cases e1 : r = 1
              · rw [if_neg e0, if_pos e1]; exact I3
              · rw [if_neg e0, if_neg e1]; exact I5 _ (by omega))
    · exact absurd (Int32.le_refl _) c54
