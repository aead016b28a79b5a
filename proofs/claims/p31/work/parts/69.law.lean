/-! the law: its making, its two loops, its end -/
abbrev Al (s : State) : Nat → Prop := fun q => s.heap.size ≤ q
theorem qC_out (w : Nat → Int32) (ps ty x : Int32) (ns : Nat) (h : ¬ gI x (nI 0) (nI 9)) : qCount w ps ty x ns = -1 := by unfold qCount; rw [if_neg h]
theorem gH_big {n k : Nat} (hn : n ≤ k) (hk : k < 2 ^ 31) : ¬ gH (nI n) (nI k) := fun q => absurd ((nI_ltI hk (by omega)).mp q.2) (by omega)
theorem qR_b {w : Nat → Int32} {nh nb ns : Nat} (I : Iv w nh nb ns) : qRight w nh (nI 0) (nI 4) (nI 0) = -1 ∧ qRight w nh (nI 6) (nI 0) (nI 0) = -1 := by
  obtain ⟨hn6, hb4, hs12, en, eb, es⟩ := I.1
  constructor
  · unfold qRight
    rw [if_neg (fun q => by have q1 := q.2.1; rw [eb] at q1; exact gH_big hb4 (by omega) q1)]
  · unfold qRight
    rw [if_neg (fun q => by have q1 := q.1; rw [en] at q1; exact gH_big hn6 (by omega) q1)]
set_option maxRecDepth 100000 in
set_option maxHeartbeats 4000000 in
theorem law_init {p : Program} {l : Launch} {e : Env} {s : State} {m : MethodId} {args : Array Value} {below : List Frame} {meth : Method} {c : Code} {E : pE} {Q : State → Prop} {b x : Nat} (X : pCx p s m args c cL_law 10 RL E (Al s)) (kk : ∀ h : pH, LV x (x + 740) 0 h → pV p l e room_1 s m args below meth c 10 E (Al s) Q (x + 745) h 745 4312 36 [some (.ref b), some (.ref x), some (.ref (x + 740)), some (.ref (x + 740 + 1)), some (.ref (x + 740 + 2)), some (.ref (x + 740 + 3)), some (.ref (x + 740 + 4)), none, none, none] []) : pV p l e room_1 s m args below meth c 10 E (Al s) Q x (fun _ => none) 0 0 0 [some (.ref b), none, none, none, none, none, none, none, none, none] [] := by
  refine v_new (pc := 0) X (ci := 6) (hd := dL_law_0) inU6 tyX6 tyX6_ok wk_L_17 wx_X6 wi_X6 rfl [.null, .null, .null, .int 0, .null] (fun j hj => match j, hj with | 0, _ => rfl | 1, _ => rfl | 2, _ => rfl | 3, _ => rfl | 4, _ => rfl) (hf := ⟨Nat.le_of_ble_eq_true rfl, Nat.le_of_ble_eq_true rfl⟩) (kk := ?_)
  refine v_dup (pc := 3) X (hd := dL_law_3) (kk := ?_)
  refine v_callIz (pc := 4) X (hd := dL_law_4) (w := wv_L_105) (hC := c_X6_init l E x) (hp := ⟨pset_s _ _ _, rfl⟩) (hR := ⟨Nat.le_of_ble_eq_true rfl, Nat.le_of_ble_eq_true rfl⟩) (hf := ⟨Nat.le_of_ble_eq_true rfl, Nat.le_of_ble_eq_true rfl⟩) (kk := fun h4 q4 => ?_)
  refine v_astore_n (pc := 7) X (hd := dL_law_7) (kk := ?_)
  refine v_zkn (z1 := x + 740) (k1 := 740) (n1 := 4176) (by omega) rfl rfl ?_
  refine v_bipush (pc := 8) X (v := nI 6) (hd := dL_law_8) (kk := ?_)
  refine v_newa (pc := 10) X (ki := 1) (Na := 6) (hd := dL_law_10) wa_int (by decide) rfl rfl (by decide) (by decide +kernel) (by decide) (fun _ _ h => h) (hf := ⟨Nat.le_of_ble_eq_true rfl, Nat.le_of_ble_eq_true rfl⟩) (kk := ?_)
  refine v_astore_n (pc := 12) X (hd := dL_law_12) (kk := ?_)
  refine v_zkn (z1 := x + 740 + 1) (k1 := 741) (n1 := 4182) (by omega) rfl rfl ?_
  refine v_bipush (pc := 13) X (v := nI 18) (hd := dL_law_13) (kk := ?_)
  refine v_newa (pc := 15) X (ki := 1) (Na := 18) (hd := dL_law_15) wa_int (by decide) rfl rfl (by decide) (by decide +kernel) (by decide) (fun _ _ h => h) (hf := ⟨Nat.le_of_ble_eq_true rfl, Nat.le_of_ble_eq_true rfl⟩) (kk := ?_)
  refine v_astore_n (pc := 17) X (hd := dL_law_17) (kk := ?_)
  refine v_zkn (z1 := x + 740 + 2) (k1 := 742) (n1 := 4200) (by omega) rfl rfl ?_
  refine v_bipush (pc := 18) X (v := nI 28) (hd := dL_law_18) (kk := ?_)
  refine v_newa (pc := 20) X (ki := 1) (Na := 28) (hd := dL_law_20) wa_int (by decide) rfl rfl (by decide) (by decide +kernel) (by decide) (fun _ _ h => h) (hf := ⟨Nat.le_of_ble_eq_true rfl, Nat.le_of_ble_eq_true rfl⟩) (kk := ?_)
  refine v_astore (pc := 22) X (hd := dL_law_22) (kk := ?_)
  refine v_zkn (z1 := x + 740 + 3) (k1 := 743) (n1 := 4228) (by omega) rfl rfl ?_
  refine v_bipush (pc := 24) X (v := nI 24) (hd := dL_law_24) (kk := ?_)
  refine v_newa (pc := 26) X (ki := 1) (Na := 24) (hd := dL_law_26) wa_int (by decide) rfl rfl (by decide) (by decide +kernel) (by decide) (fun _ _ h => h) (hf := ⟨Nat.le_of_ble_eq_true rfl, Nat.le_of_ble_eq_true rfl⟩) (kk := ?_)
  refine v_astore (pc := 28) X (hd := dL_law_28) (kk := ?_)
  refine v_zkn (z1 := x + 740 + 4) (k1 := 744) (n1 := 4252) (by omega) rfl rfl ?_
  refine v_bipush (pc := 30) X (v := nI 60) (hd := dL_law_30) (kk := ?_)
  refine v_newa (pc := 32) X (ki := 1) (Na := 60) (hd := dL_law_32) wa_int (by decide) rfl rfl (by decide) (by decide +kernel) (by decide) (fun _ _ h => h) (hf := ⟨Nat.le_of_ble_eq_true rfl, Nat.le_of_ble_eq_true rfl⟩) (kk := ?_)
  refine v_astore (pc := 34) X (hd := dL_law_34) (kk := ?_)
  refine v_zkn (z1 := x + 740 + 5) (k1 := 745) (n1 := 4312) (by omega) rfl rfl ?_
  have eW : (fun _ : Nat => nI 0) = fun _ => (0 : Int32) := by funext _; exact nI_z
  have S0 : SI (fun _ => nI 0) := ⟨⟨0, 0, 0, iv_0⟩, fun i hi q => absurd (show nI 0 = 1 from q) (by decide +kernel)⟩
  have K0 := q4.1
  have R0 : ∀ N b0, LR N b0 (fun _ => nI 0) (some (ai 1 N (fun _ => 0))) := fun N b0 => ⟨fun _ => 0, rfl, fun i _ => nI_z.symm⟩
  have W0 : W2 (fun _ => nI 0) 0 0 := ⟨fun j _ => by show nI 0 = nI 0 + nI 0 + nI 0; decide +kernel, fun b _ k _ h2 => bt_0 k h2⟩
  refine kk _ ⟨fun _ => nI 0, 0, 0, 0, ⟨⟨fun _ => 0, fun _ => 0, fun _ => 0, 0, nI 0, nI 0, K0.off (by omega) (fun q h1 h2 => ?_), ⟨by omega, S0, fun k hk => by omega⟩⟩, ⟨?_, ?_, ?_, ?_, ?_⟩, by omega⟩, iv_0, W0, ⟨0, by omega, by omega, rfl⟩⟩
  · exact (pset_n (by omega)).trans ((pset_n (by omega)).trans ((pset_n (by omega)).trans ((pset_n (by omega)).trans (pset_n (by omega)))))
  · rw [pset_n (by omega), pset_n (by omega), pset_n (by omega), pset_n (by omega), pset_s]; exact R0 6 0
  · rw [pset_n (by omega), pset_n (by omega), pset_n (by omega), pset_s]; exact R0 18 6
  · rw [pset_n (by omega), pset_n (by omega), pset_s]; exact R0 28 24
  · rw [pset_n (by omega), pset_s]; exact R0 24 52
  · rw [pset_s]; exact R0 60 76
set_option maxRecDepth 100000 in
set_option maxHeartbeats 4000000 in
theorem law_go {p : Program} {l : Launch} {e : Env} {s : State} {m : MethodId} {args : Array Value} {below : List Frame} {meth : Method} {c : Code} {E : pE} {Q : State → Prop} {z b x L0 : Nat} {h : pH} {xs : Nat → Int32} (X : pCx p s m args c cL_law 10 RL E (Al s)) (hX : va_X b L0 xs s s.heap) (hbl : b < s.heap.size) (hL : L0 ≤ 260) (J0 : LV x (x + 740) 0 h) (ou : ∀ (h9 : pH) (L9 : List (Option Value)), pV p l e room_1 s m args below meth c 10 E (Al s) Q z h9 745 4312 279 L9 [.int (nI 1)]) : pV p l e room_1 s m args below meth c 10 E (Al s) Q z h 745 4312 36 [some (.ref b), some (.ref x), some (.ref (x + 740)), some (.ref (x + 740 + 1)), some (.ref (x + 740 + 2)), some (.ref (x + 740 + 3)), some (.ref (x + 740 + 4)), none, none, none] [] := by
  refine v_aload_n (pc := 36) X (hd := dL_law_36) (kk := ?_)
  refine v_aload_n (pc := 37) X (hd := dL_law_37) (kk := ?_)
  refine v_aload_n (pc := 38) X (hd := dL_law_38) (kk := ?_)
  refine v_aload (pc := 39) X (hd := dL_law_39) (kk := ?_)
  refine v_aload (pc := 41) X (hd := dL_law_41) (kk := ?_)
  refine v_aload (pc := 43) X (hd := dL_law_43) (kk := ?_)
  refine v_callSi (pc := 45) X (hd := dL_law_45) (w := wv_L_106) (hC := c_L_isSo l E x (x + 740) 0) (hp := J0) (hR := ⟨Nat.le_of_ble_eq_true rfl, Nat.le_of_ble_eq_true rfl⟩) (hf := ⟨Nat.le_of_ble_eq_true rfl, Nat.le_of_ble_eq_true rfl⟩) (kk := fun r45 h45 q45 => ?_)
  obtain ⟨rfl, rfl⟩ := q45
  refine v_istore (pc := 48) X (hd := dL_law_48) (kk := ?_)
  refine v_iconst (pc := 50) X (v := nI 0) (hd := dL_law_50) (kk := ?_)
  refine v_istore (pc := 51) X (hd := dL_law_51) (kk := ?_)
  refine v_for (pc := 53) (M := 12) (Lf := fun k => [some (.ref b), some (.ref x), some (.ref (x + 740)), some (.ref (x + 740 + 1)), some (.ref (x + 740 + 2)), some (.ref (x + 740 + 3)), some (.ref (x + 740 + 4)), some (.int (nI (1))), some (.int (nI (k))), none]) (I := fun k h1 => LV x (x + 740) k h1) (h0 := J0) (hL := by rfl) (step := ?_) (out := ?_)
  · intro k h1 hk hI kk
    refine v_iload (pc := 53) X (hd := dL_law_53) (kk := ?_)
    refine v_bipush (pc := 55) X (v := nI 12) (hd := dL_law_55) (kk := ?_)
    refine v_icmpge (pc := 57) X (tgt := 138) (hd := dL_law_57) (kt := fun c57 => ?_) (kf := fun c57 => ?_)
    · exact absurd c57 (nI_ge hk (by omega))
    · refine v_iload (pc := 60) X (hd := dL_law_60) (kk := ?_)
      refine v_ifeq (pc := 62) X (tgt := 138) (hd := dL_law_62) (kt := fun c62 => ?_) (kf := fun c62 => ?_)
      · exact absurd c62 (by decide +kernel)
      · refine v_aload_n (pc := 65) X (hd := dL_law_65) (kk := ?_)
        refine v_aload_n (pc := 66) X (hd := dL_law_66) (kk := ?_)
        refine v_aload_n (pc := 67) X (hd := dL_law_67) (kk := ?_)
        refine v_aload (pc := 68) X (hd := dL_law_68) (kk := ?_)
        refine v_aload (pc := 70) X (hd := dL_law_70) (kk := ?_)
        refine v_aload (pc := 72) X (hd := dL_law_72) (kk := ?_)
        refine v_aload_n (pc := 74) X (hd := dL_law_74) (kk := ?_)
        refine v_iconst (pc := 75) X (v := nI 1) (hd := dL_law_75) (kk := ?_)
        refine v_iload (pc := 76) X (hd := dL_law_76) (kk := ?_)
        refine v_iadd (pc := 78) X (hd := dL_law_78) (kk := ?_)
        rw [nI_add]
        refine v_callX (pc := 79) X hX hbl (Nat.not_le.mpr hbl) (hd := dL_law_79) (w := wv_L_110) (hC := c_L_cell l E b L0 xs hL (1 + k) (by omega)) (hR := ⟨Nat.le_of_ble_eq_true rfl, Nat.le_of_ble_eq_true rfl⟩) (hf := ⟨Nat.le_of_ble_eq_true rfl, Nat.le_of_ble_eq_true rfl⟩) (kk := fun r79 h79 q79 => ?_)
        subst q79
        refine v_ldc (v := nI 2147483647) (pc := 82) X (hw := wq_L_8) (hd := dL_law_82) (kk := ?_)
        refine v_iand (pc := 84) X (hd := dL_law_84) (kk := ?_)
        refine v_sipush (pc := 85) X (v := nI 832) (hd := dL_law_85) (kk := ?_)
        refine v_idiv (pc := 88) X (hd := dL_law_88) (hne := by decide +kernel) (kk := ?_)
        refine v_sipush (pc := 89) X (v := nI 832) (hd := dL_law_89) (kk := ?_)
        refine v_imul (pc := 92) X (hd := dL_law_92) (kk := ?_)
        refine v_iload (pc := 93) X (hd := dL_law_93) (kk := ?_)
        refine v_iconst (pc := 95) X (v := nI 3) (hd := dL_law_95) (kk := ?_)
        refine v_icmpge (pc := 96) X (tgt := 103) (hd := dL_law_96) (kt := fun c96 => ?_) (kf := fun c96 => ?_)
        · refine v_iload (pc := 103) X (hd := dL_law_103) (kk := ?_)
          refine v_iconst (pc := 105) X (v := nI 5) (hd := dL_law_105) (kk := ?_)
          refine v_icmpge (pc := 106) X (tgt := 113) (hd := dL_law_106) (kt := fun c106 => ?_) (kf := fun c106 => ?_)
          · refine v_iload (pc := 113) X (hd := dL_law_113) (kk := ?_)
            refine v_bipush (pc := 115) X (v := nI 8) (hd := dL_law_115) (kk := ?_)
            refine v_icmpge (pc := 117) X (tgt := 124) (hd := dL_law_117) (kt := fun c117 => ?_) (kf := fun c117 => ?_)
            · refine v_bipush (pc := 124) X (v := nI 6) (hd := dL_law_124) (kk := ?_)
              refine v_iadd (pc := 126) X (hd := dL_law_126) (kk := ?_)
              refine v_callSi (pc := 127) X (hd := dL_law_127) (w := wv_L_114) (hC := c_L_acts l E x (x + 740) k _) (hp := ⟨hI, by omega⟩) (hR := ⟨Nat.le_of_ble_eq_true rfl, Nat.le_of_ble_eq_true rfl⟩) (hf := ⟨Nat.le_of_ble_eq_true rfl, Nat.le_of_ble_eq_true rfl⟩) (kk := fun r127 h127 q127 => ?_)
              rw [q127.1]
              refine v_istore (pc := 130) X (hd := dL_law_130) (kk := ?_)
              refine v_iincN (pc := 132) X (hd := dL_law_132) (kk := ?_)
              refine v_goto (pc := 135) X (tgt := 53) (hd := dL_law_135) (kk := ?_)
              exact kk _ q127.2
            · refine v_iconst (pc := 120) X (v := nI 3) (hd := dL_law_120) (kk := ?_)
              refine v_goto (pc := 121) X (tgt := 126) (hd := dL_law_121) (kk := ?_)
              refine v_iadd (pc := 126) X (hd := dL_law_126) (kk := ?_)
              refine v_callSi (pc := 127) X (hd := dL_law_127) (w := wv_L_114) (hC := c_L_acts l E x (x + 740) k _) (hp := ⟨hI, by omega⟩) (hR := ⟨Nat.le_of_ble_eq_true rfl, Nat.le_of_ble_eq_true rfl⟩) (hf := ⟨Nat.le_of_ble_eq_true rfl, Nat.le_of_ble_eq_true rfl⟩) (kk := fun r127 h127 q127 => ?_)
              rw [q127.1]
              refine v_istore (pc := 130) X (hd := dL_law_130) (kk := ?_)
              refine v_iincN (pc := 132) X (hd := dL_law_132) (kk := ?_)
              refine v_goto (pc := 135) X (tgt := 53) (hd := dL_law_135) (kk := ?_)
              exact kk _ q127.2
          · refine v_iconst (pc := 109) X (v := nI 1) (hd := dL_law_109) (kk := ?_)
            refine v_goto (pc := 110) X (tgt := 126) (hd := dL_law_110) (kk := ?_)
            refine v_iadd (pc := 126) X (hd := dL_law_126) (kk := ?_)
            refine v_callSi (pc := 127) X (hd := dL_law_127) (w := wv_L_114) (hC := c_L_acts l E x (x + 740) k _) (hp := ⟨hI, by omega⟩) (hR := ⟨Nat.le_of_ble_eq_true rfl, Nat.le_of_ble_eq_true rfl⟩) (hf := ⟨Nat.le_of_ble_eq_true rfl, Nat.le_of_ble_eq_true rfl⟩) (kk := fun r127 h127 q127 => ?_)
            rw [q127.1]
            refine v_istore (pc := 130) X (hd := dL_law_130) (kk := ?_)
            refine v_iincN (pc := 132) X (hd := dL_law_132) (kk := ?_)
            refine v_goto (pc := 135) X (tgt := 53) (hd := dL_law_135) (kk := ?_)
            exact kk _ q127.2
        · refine v_iconst (pc := 99) X (v := nI 0) (hd := dL_law_99) (kk := ?_)
          refine v_goto (pc := 100) X (tgt := 126) (hd := dL_law_100) (kk := ?_)
          refine v_iadd (pc := 126) X (hd := dL_law_126) (kk := ?_)
          refine v_callSi (pc := 127) X (hd := dL_law_127) (w := wv_L_114) (hC := c_L_acts l E x (x + 740) k _) (hp := ⟨hI, by omega⟩) (hR := ⟨Nat.le_of_ble_eq_true rfl, Nat.le_of_ble_eq_true rfl⟩) (hf := ⟨Nat.le_of_ble_eq_true rfl, Nat.le_of_ble_eq_true rfl⟩) (kk := fun r127 h127 q127 => ?_)
          rw [q127.1]
          refine v_istore (pc := 130) X (hd := dL_law_130) (kk := ?_)
          refine v_iincN (pc := 132) X (hd := dL_law_132) (kk := ?_)
          refine v_goto (pc := 135) X (tgt := 53) (hd := dL_law_135) (kk := ?_)
          exact kk _ q127.2
  · intro h1 hI
    refine v_iload (pc := 53) X (hd := dL_law_53) (kk := ?_)
    refine v_bipush (pc := 55) X (v := nI 12) (hd := dL_law_55) (kk := ?_)
    refine v_icmpge (pc := 57) X (tgt := 138) (hd := dL_law_57) (kt := fun c57 => ?_) (kf := fun c57 => ?_)
    · refine v_bipush (pc := 138) X (v := nI 8) (hd := dL_law_138) (kk := ?_)
      refine v_aload_n (pc := 140) X (hd := dL_law_140) (kk := ?_)
      refine v_iconst (pc := 141) X (v := nI 0) (hd := dL_law_141) (kk := ?_)
      refine v_callX (pc := 142) X hX hbl (Nat.not_le.mpr hbl) (hd := dL_law_142) (w := wv_L_110) (hC := c_L_cell l E b L0 xs hL (0) (by omega)) (hR := ⟨Nat.le_of_ble_eq_true rfl, Nat.le_of_ble_eq_true rfl⟩) (hf := ⟨Nat.le_of_ble_eq_true rfl, Nat.le_of_ble_eq_true rfl⟩) (kk := fun r142 h142 q142 => ?_)
      subst q142
      refine v_bipush (pc := 145) X (v := nI 50) (hd := dL_law_145) (kk := ?_)
      refine v_callSi (pc := 147) X (hd := dL_law_147) (w := wv_L_42) (hC := c_L_low l E r142 50) (hp := ⟨by omega, by omega⟩) (hR := ⟨Nat.le_of_ble_eq_true rfl, Nat.le_of_ble_eq_true rfl⟩) (hf := ⟨Nat.le_of_ble_eq_true rfl, Nat.le_of_ble_eq_true rfl⟩) (kk := fun r147 h147 q147 => ?_)
      obtain ⟨rfl, j, hj, rfl⟩ := q147
      refine v_iadd (pc := 150) X (hd := dL_law_150) (kk := ?_)
      rw [nI_add]
      refine v_istore (pc := 151) X (hd := dL_law_151) (kk := ?_)
      refine v_iconst (pc := 153) X (v := nI 0) (hd := dL_law_153) (kk := ?_)
      refine v_istore (pc := 154) X (hd := dL_law_154) (kk := ?_)
      refine v_for (pc := 156) (M := 8 + j) (Lf := fun k => [some (.ref b), some (.ref x), some (.ref (x + 740)), some (.ref (x + 740 + 1)), some (.ref (x + 740 + 2)), some (.ref (x + 740 + 3)), some (.ref (x + 740 + 4)), some (.int (nI (1))), some (.int (nI (8 + j))), some (.int (nI (k)))]) (I := fun k h1 => LV x (x + 740) (12 + k) h1) (h0 := hI) (hL := by rfl) (step := ?_) (out := ?_)
      · intro k h1 hk hI kk
        refine v_iload (pc := 156) X (hd := dL_law_156) (kk := ?_)
        refine v_iload (pc := 158) X (hd := dL_law_158) (kk := ?_)
        refine v_icmpge (pc := 160) X (tgt := 227) (hd := dL_law_160) (kt := fun c160 => ?_) (kf := fun c160 => ?_)
        · exact absurd c160 (nI_ge hk (by omega))
        · refine v_iload (pc := 163) X (hd := dL_law_163) (kk := ?_)
          refine v_ifeq (pc := 165) X (tgt := 227) (hd := dL_law_165) (kt := fun c165 => ?_) (kf := fun c165 => ?_)
          · exact absurd c165 (by decide +kernel)
          · refine v_aload_n (pc := 168) X (hd := dL_law_168) (kk := ?_)
            refine v_aload_n (pc := 169) X (hd := dL_law_169) (kk := ?_)
            refine v_aload_n (pc := 170) X (hd := dL_law_170) (kk := ?_)
            refine v_aload (pc := 171) X (hd := dL_law_171) (kk := ?_)
            refine v_aload (pc := 173) X (hd := dL_law_173) (kk := ?_)
            refine v_aload (pc := 175) X (hd := dL_law_175) (kk := ?_)
            refine v_aload_n (pc := 177) X (hd := dL_law_177) (kk := ?_)
            refine v_bipush (pc := 178) X (v := nI 13) (hd := dL_law_178) (kk := ?_)
            refine v_iload (pc := 180) X (hd := dL_law_180) (kk := ?_)
            refine v_iadd (pc := 182) X (hd := dL_law_182) (kk := ?_)
            rw [nI_add]
            refine v_callX (pc := 183) X hX hbl (Nat.not_le.mpr hbl) (hd := dL_law_183) (w := wv_L_110) (hC := c_L_cell l E b L0 xs hL (13 + k) (by omega)) (hR := ⟨Nat.le_of_ble_eq_true rfl, Nat.le_of_ble_eq_true rfl⟩) (hf := ⟨Nat.le_of_ble_eq_true rfl, Nat.le_of_ble_eq_true rfl⟩) (kk := fun r183 h183 q183 => ?_)
            subst q183
            refine v_sipush (pc := 186) X (v := nI 7919) (hd := dL_law_186) (kk := ?_)
            refine v_iload (pc := 189) X (hd := dL_law_189) (kk := ?_)
            refine v_imul (pc := 191) X (hd := dL_law_191) (kk := ?_)
            refine v_ixor (pc := 192) X (hd := dL_law_192) (kk := ?_)
            refine v_callSi (pc := 193) X (hd := dL_law_193) (w := wv_L_114) (hC := c_L_acts l E x (x + 740) (12 + k) _) (hp := ⟨hI, by omega⟩) (hR := ⟨Nat.le_of_ble_eq_true rfl, Nat.le_of_ble_eq_true rfl⟩) (hf := ⟨Nat.le_of_ble_eq_true rfl, Nat.le_of_ble_eq_true rfl⟩) (kk := fun r193 h193 q193 => ?_)
            rw [q193.1]
            refine v_ifeq (pc := 196) X (tgt := 218) (hd := dL_law_196) (kt := fun c196 => ?_) (kf := fun c196 => ?_)
            · exact absurd c196 (by decide +kernel)
            · refine v_aload_n (pc := 199) X (hd := dL_law_199) (kk := ?_)
              refine v_aload_n (pc := 200) X (hd := dL_law_200) (kk := ?_)
              refine v_aload_n (pc := 201) X (hd := dL_law_201) (kk := ?_)
              refine v_aload (pc := 202) X (hd := dL_law_202) (kk := ?_)
              refine v_aload (pc := 204) X (hd := dL_law_204) (kk := ?_)
              refine v_aload (pc := 206) X (hd := dL_law_206) (kk := ?_)
              refine v_callSi (pc := 208) X (hd := dL_law_208) (w := wv_L_106) (hC := c_L_isSo l E x (x + 740) (12 + k + 1)) (hp := q193.2) (hR := ⟨Nat.le_of_ble_eq_true rfl, Nat.le_of_ble_eq_true rfl⟩) (hf := ⟨Nat.le_of_ble_eq_true rfl, Nat.le_of_ble_eq_true rfl⟩) (kk := fun r208 h208 q208 => ?_)
              obtain ⟨rfl, rfl⟩ := q208
              refine v_ifeq (pc := 211) X (tgt := 218) (hd := dL_law_211) (kt := fun c211 => ?_) (kf := fun c211 => ?_)
              · exact absurd c211 (by decide +kernel)
              · refine v_iconst (pc := 214) X (v := nI 1) (hd := dL_law_214) (kk := ?_)
                refine v_goto (pc := 215) X (tgt := 219) (hd := dL_law_215) (kk := ?_)
                refine v_istore (pc := 219) X (hd := dL_law_219) (kk := ?_)
                refine v_iincN (pc := 221) X (hd := dL_law_221) (kk := ?_)
                refine v_goto (pc := 224) X (tgt := 156) (hd := dL_law_224) (kk := ?_)
                exact kk _ q193.2
      · intro h2 hI2
        obtain ⟨w, nh, nb, ns, B, I, W, Y⟩ := hI2
        refine v_iload (pc := 156) X (hd := dL_law_156) (kk := ?_)
        refine v_iload (pc := 158) X (hd := dL_law_158) (kk := ?_)
        refine v_icmpge (pc := 160) X (tgt := 227) (hd := dL_law_160) (kt := fun c160 => ?_) (kf := fun c160 => ?_)
        · refine v_iload (pc := 227) X (hd := dL_law_227) (kk := ?_)
          refine v_ifeq (pc := 229) X (tgt := 278) (hd := dL_law_229) (kt := fun c229 => ?_) (kf := fun c229 => ?_)
          · exact absurd c229 (by decide +kernel)
          · refine v_aload_n (pc := 232) X (hd := dL_law_232) (kk := ?_)
            refine v_iconst (pc := 233) X (v := (-1)) (hd := dL_law_233) (kk := ?_)
            refine v_look (pc := 234) X (f := fun np => qCount w (nI np) (nI 0) (-1) ns) (f0 := (-1)) B I (hd := dL_law_234) (wv := wv_L_90) (hC := fun pa te nu np st en => c_X6_count l E x w pa np 0 te st en nu (-1) nh nb ns) (hf0 := fun np => qC_out _ _ _ _ _ (by decide +kernel)) (hR := ⟨Nat.le_of_ble_eq_true rfl, Nat.le_of_ble_eq_true rfl⟩) (hf := ⟨Nat.le_of_ble_eq_true rfl, Nat.le_of_ble_eq_true rfl⟩) (kk := ?_)
            refine v_iconst (pc := 237) X (v := (-1)) (hd := dL_law_237) (kk := ?_)
            refine v_icmpne (pc := 238) X (tgt := 278) (hd := dL_law_238) (kt := fun c238 => ?_) (kf := fun c238 => ?_)
            · exact absurd rfl c238
            · refine v_aload_n (pc := 241) X (hd := dL_law_241) (kk := ?_)
              refine v_bipush (pc := 242) X (v := nI 10) (hd := dL_law_242) (kk := ?_)
              refine v_look (pc := 244) X (f := fun np => qCount w (nI np) (nI 0) (nI 10) ns) (f0 := (-1)) B I (hd := dL_law_244) (wv := wv_L_90) (hC := fun pa te nu np st en => c_X6_count l E x w pa np 0 te st en nu (nI 10) nh nb ns) (hf0 := fun np => qC_out _ _ _ _ _ (by decide +kernel)) (hR := ⟨Nat.le_of_ble_eq_true rfl, Nat.le_of_ble_eq_true rfl⟩) (hf := ⟨Nat.le_of_ble_eq_true rfl, Nat.le_of_ble_eq_true rfl⟩) (kk := ?_)
              refine v_iconst (pc := 247) X (v := (-1)) (hd := dL_law_247) (kk := ?_)
              refine v_icmpne (pc := 248) X (tgt := 278) (hd := dL_law_248) (kt := fun c248 => ?_) (kf := fun c248 => ?_)
              · exact absurd rfl c248
              · refine v_aload_n (pc := 251) X (hd := dL_law_251) (kk := ?_)
                refine v_iconst (pc := 252) X (v := nI 0) (hd := dL_law_252) (kk := ?_)
                refine v_iconst (pc := 253) X (v := nI 4) (hd := dL_law_253) (kk := ?_)
                refine v_iconst (pc := 254) X (v := nI 0) (hd := dL_law_254) (kk := ?_)
                refine v_look (pc := 255) X (f := fun np => qRight w nh (nI 0) (nI 4) (nI 0)) (f0 := (-1)) B I (hd := dL_law_255) (wv := wv_L_93) (hC := fun pa te nu np st en => c_X6_right l E x w pa np 0 te st en nu (nI 0) (nI 4) (nI 0) nh nb ns) (hf0 := fun np => (qR_b I).1) (hR := ⟨Nat.le_of_ble_eq_true rfl, Nat.le_of_ble_eq_true rfl⟩) (hf := ⟨Nat.le_of_ble_eq_true rfl, Nat.le_of_ble_eq_true rfl⟩) (kk := ?_)
                refine v_iconst (pc := 258) X (v := (-1)) (hd := dL_law_258) (kk := ?_)
                refine v_icmpne (pc := 259) X (tgt := 278) (hd := dL_law_259) (kt := fun c259 => ?_) (kf := fun c259 => ?_)
                · exact absurd rfl c259
                · refine v_aload_n (pc := 262) X (hd := dL_law_262) (kk := ?_)
                  refine v_bipush (pc := 263) X (v := nI 6) (hd := dL_law_263) (kk := ?_)
                  refine v_iconst (pc := 265) X (v := nI 0) (hd := dL_law_265) (kk := ?_)
                  refine v_iconst (pc := 266) X (v := nI 0) (hd := dL_law_266) (kk := ?_)
                  refine v_look (pc := 267) X (f := fun np => qRight w nh (nI 6) (nI 0) (nI 0)) (f0 := (-1)) B I (hd := dL_law_267) (wv := wv_L_93) (hC := fun pa te nu np st en => c_X6_right l E x w pa np 0 te st en nu (nI 6) (nI 0) (nI 0) nh nb ns) (hf0 := fun np => (qR_b I).2) (hR := ⟨Nat.le_of_ble_eq_true rfl, Nat.le_of_ble_eq_true rfl⟩) (hf := ⟨Nat.le_of_ble_eq_true rfl, Nat.le_of_ble_eq_true rfl⟩) (kk := ?_)
                  refine v_iconst (pc := 270) X (v := (-1)) (hd := dL_law_270) (kk := ?_)
                  refine v_icmpne (pc := 271) X (tgt := 278) (hd := dL_law_271) (kt := fun c271 => ?_) (kf := fun c271 => ?_)
                  · exact absurd rfl c271
                  · refine v_iconst (pc := 274) X (v := nI 1) (hd := dL_law_274) (kk := ?_)
                    refine v_goto (pc := 275) X (tgt := 279) (hd := dL_law_275) (kk := ?_)
                    exact ou _ _
        · exact absurd (Int32.le_refl _) c160
    · exact absurd (Int32.le_refl _) c57
