/-! texts: the JDK's length and charAt over the constants -/
section PVT
variable {p : Program} {l : Launch} {e : Env} {R : Room} {s : State} {m : MethodId} {args : Array Value} {below : List Frame} {meth : Method} {c : Code} {cc : ByteArray} {nL : Nat} {own : String} {E : pE} {A : Nat → Prop} {Q : State → Prop} {z : Nat} {h : pH} {k n : Nat} {pc : Nat} {L : List (Option Value)} {st st0 : List Value}
variable {h0 : pH} {z0 : Nat} {y : MethodName} {cy : ByteArray} {ny N idx : Nat} {ret : Option FieldType} {rm : Room} {mc ms : Nat} {As : List Value} {pre : pH → Nat → Prop} {post : pH → Nat → Option Value → pH → Nat → Prop}
theorem v_callVsp (X : pCx p s m args c cc nL own E A) {i : Nat} {f : Int32} (hd : decode cc pc = .ok (.invokevirtual idx, 3)) (w : pWV own idx y cy ny ret N) (hC : pC l E y cy ny ret rm 0 0 (.ref (E.2.2.2.1 i) :: As) pre (pFp f)) (hi : i < 8) (hp : pre h z) (kk : pV p l e R s m args below meth c nL E A Q z h k n (pc + 3) L (.int f :: st)) (hr : y.cls = "java/lang/String" := by rfl) (hN : As.length = N := by rfl) (hst : st0 = As.reverse ++ .ref (E.2.2.2.1 i) :: st := by rfl) (hrm : rm.cells = 0 ∧ rm.slots = 0 := by exact ⟨rfl, rfl⟩) (hR : rm.frames + 1 ≤ R.frames ∧ 8 + (ny + 11) + rm.locals ≤ R.locals := by decide) (hf : k + 0 ≤ R.cells ∧ n + 0 ≤ R.slots := by decide) (hW : (st.map fun v => v.category).sum ≤ 8 := by exact Nat.le_of_ble_eq_true rfl) : pV p l e R s m args below meth c nL E A Q z h k n pc L st0 := by
  subst hst
  refine v_core X (st := st) (vs := .ref (E.2.2.2.1 i) :: As) (mc := 0) (ms := 0) (post := pFp f) (fun H locs ls a0 b0 c0 d0 => ?_) (fun v h' z' hq => ?_)
  · refine va_runV (As := As) (rest := st) (own := own) X.1 (hC h z hp) ⟨w.1.use X hrm hR, X.1.2.2.2.2 _ w.2.1, X.1.2.2.2.2 _ w.2.2⟩ ⟨pP_blind, ?_, fun U hU hW => ⟨rfl, pP_at X a0 b0 c0 hU hW⟩⟩ rfl hN d0.1 rfl (lv_room hW) hd hf
    obtain ⟨cell, g1, g2, g3⟩ := vk_recv X.2.2.1.1 hi c0
    exact ⟨cell, g1, g2, by rw [hr]; exact g3⟩
  · obtain ⟨rfl, rfl, rfl⟩ := hq
    exact kk
theorem v_ldcS (X : pCx p s m args c cc nL RX3 E A) (i : Nat) (hi : i < 8) {ix : Nat} (hix : pTi.getD i 0 = ix := by rfl) (hd : decode cc pc = .ok (.ldc ix, 2)) (kk : pV p l e R s m args below meth c nL E A Q z h k n (pc + 2) L (.ref (E.2.2.2.1 i) :: st)) : pV p l e R s m args below meth c nL E A Q z h k n pc L st := by
  subst hix
  exact fun H locs ls a b c0 d => va_ldcS X.1.1 X.1.2.1 X.1.2.2.2.1 (X.2.2.1.2.1 i hi) hd (kk H locs ls a b c0 d)
theorem v_sval (X : pCx p s m args c cc nL RJ0 E A) {i : Nat} (hi : i < 8) (hw : Cond.fieldLink RJ0 9 "java/lang/String" "value" "[B" ∈ uw) (hd : decode cc pc = .ok (.getfield 9, 3)) (kk : pV p l e R s m args below meth c nL E A Q z h k n (pc + 3) L (.ref (E.2.2.2.2 i) :: st)) : pV p l e R s m args below meth c nL E A Q z h k n pc L (.ref (E.2.2.2.1 i) :: st) := fun H locs ls a b c0 d =>
  vk_getf X.1.1 X.1.2.1 (X.2.2.1.1.1 i hi).2.2.1 c0 X.1.2.2.2.1 (X.1.2.2.2.2 _ hw) (fun _ h => h) hd (kk H locs ls a b c0 d)
theorem v_scod (X : pCx p s m args c cc nL RJ0 E A) {i : Nat} (hi : i < 8) (hw : Cond.fieldLink RJ0 15 "java/lang/String" "coder" "B" ∈ uw) (hd : decode cc pc = .ok (.getfield 15, 3)) (kk : pV p l e R s m args below meth c nL E A Q z h k n (pc + 3) L (.int (nI 0) :: st)) : pV p l e R s m args below meth c nL E A Q z h k n pc L (.ref (E.2.2.2.1 i) :: st) := fun H locs ls a b c0 d =>
  vk_getf X.1.1 X.1.2.1 (X.2.2.1.1.1 i hi).2.1 c0 X.1.2.2.2.1 (X.1.2.2.2.2 _ hw) (fun _ h => h) hd (by rw [nI_z] at kk; exact kk H locs ls a b c0 d)
theorem v_scmp (X : pCx p s m args c cc nL RJ0 E A) (hw : Cond.fieldLink RJ0 38 "java/lang/String" "COMPACT_STRINGS" "Z" ∈ uw) (hd : decode cc pc = .ok (.getstatic 38, 3)) (kk : pV p l e R s m args below meth c nL E A Q z h k n (pc + 3) L (.int (nI 1) :: st)) : pV p l e R s m args below meth c nL E A Q z h k n pc L st := fun H locs ls a b c0 d =>
  va_gets X.1.1 X.1.2.1 X.2.2.1.2.2.1 c0 X.1.2.2.2.1 (X.1.2.2.2.2 _ hw) (fun _ h => h) hd (by rw [nI_t] at kk; exact kk H locs ls a b c0 d)
theorem v_sfmt (X : pCx p s m args c cc nL RJ0 E A) (hw : Cond.fieldLink RJ0 1053 "jdk/internal/util/Preconditions" "SIOOBE_FORMATTER" "Ljava/util/function/BiFunction;" ∈ uw) (hd : decode cc pc = .ok (.getstatic 1053, 3)) (k0 : pV p l e R s m args below meth c nL E A Q z h k n (pc + 3) L (.null :: st)) (k1 : ∀ t : Nat, pV p l e R s m args below meth c nL E A Q z h k n (pc + 3) L (.ref t :: st)) : pV p l e R s m args below meth c nL E A Q z h k n pc L st := fun H locs ls a b c0 d => by
  rcases X.2.2.1.2.2.2 with hZ | ⟨t, hZ⟩
  · exact va_gets X.1.1 X.1.2.1 hZ c0 X.1.2.2.2.1 (X.1.2.2.2.2 _ hw) (fun _ h => h) hd (k0 H locs ls a b c0 d)
  · exact va_gets X.1.1 X.1.2.1 hZ c0 X.1.2.2.2.1 (X.1.2.2.2.2 _ hw) (fun _ h => h) hd (k1 t H locs ls a b c0 d)
theorem v_callSv (X : pCx p s m args c cc nL own E A) {P : pH → pH → Prop} (hd : decode cc pc = .ok (.invokestatic idx, 3)) (w : pWS own idx y cy ny none N) (hC : pC l E y cy ny none rm 0 0 As pre (pFv P)) (hp : pre h z) (kk : ∀ (h' : pH), P h h' → pV p l e R s m args below meth c nL E A Q z h' k n (pc + 3) L st) (hN : As.length = N := by rfl) (hst : st0 = As.reverse ++ st := by rfl) (hrm : rm.cells = 0 ∧ rm.slots = 0 := by exact ⟨rfl, rfl⟩) (hR : rm.frames + 1 ≤ R.frames ∧ 8 + (ny + 11) + rm.locals ≤ R.locals := by decide) (hf : k + 0 ≤ R.cells ∧ n + 0 ≤ R.slots := by decide) (hW : (st.map fun v => v.category).sum ≤ 8 := by exact Nat.le_of_ble_eq_true rfl) : pV p l e R s m args below meth c nL E A Q z h k n pc L st0 := by
  refine v_callS X hd w hC hp (fun v h' z' hq => ?_) hN hst hrm hR hf hW
  obtain ⟨rfl, rfl, hq⟩ := hq
  exact kk h' hq
theorem v_slen (X : pCx p s m args c cc nL own E A) {i : Nat} (hi : i < 8) (hd : decode cc pc = .ok (.arraylength, 1)) (kk : pV p l e R s m args below meth c nL E A Q z h k n (pc + 1) L (.int (nI (pTl.getD i 0)) :: st)) : pV p l e R s m args below meth c nL E A Q z h k n pc L (.ref (E.2.2.2.2 i) :: st) := fun H locs ls a b c0 d =>
  va_tlen X.1.1 X.1.2.1 (X.2.2.1.1.1 i hi).2.2.2 c0 rfl hd (kk H locs ls a b c0 d)
theorem v_sbyt (X : pCx p s m args c cc nL own E A) {i j : Nat} (hi : i < 8) (hj : j < pTl.getD i 0) (hj2 : j < 2 ^ 31) (hd : decode cc pc = .ok (.baload, 1)) (kk : pV p l e R s m args below meth c nL E A Q z h k n (pc + 1) L (.int ((pTb.getD i []).getD j 0) :: st)) : pV p l e R s m args below meth c nL E A Q z h k n pc L (.int (nI j) :: .ref (E.2.2.2.2 i) :: st) := fun H locs ls a b c0 d => by
  have e : (nI j).toNatClampNeg = j := nI_clamp hj2
  exact va_tb X.1.1 X.1.2.1 (X.2.2.1.1.1 i hi).2.2.2 c0 (i := nI j) (by
    intro q
    rcases q with q | q
    · exact absurd q (n_nn hj2)
    · rw [e] at q; omega) (by rw [e]) hd (kk H locs ls a b c0 d)
theorem v_endz (X : pCx p s m args c cc nL own E (pA h0 z0)) {ty : FieldType} {r f : Int32} (hret : meth.sig.returnType = some ty) (hlk : meth.locks = false) (hd : decode cc pc = .ok (.ireturn, 1)) (hn : narrow ty (.int f) = .int f) (hf : r = f) : pV p l e R s m args below meth c nL E (pA h0 z0) (MQ below (pQ E (pFp f) h0 z0) args s 0 0 (pA h0 z0)) z0 h0 0 0 pc L [.int r] := v_zret X hret hlk hd (by rw [hf]; exact hn) ⟨by rw [hf], rfl, rfl⟩ (Nat.le_refl _)
end PVT
theorem wf_J0_9 : Cond.fieldLink RJ0 9 "java/lang/String" "value" "[B" ∈ uw := uw_in (i := 961) (by decide +kernel) (by decide +kernel)
theorem wf_J0_15 : Cond.fieldLink RJ0 15 "java/lang/String" "coder" "B" ∈ uw := uw_in (i := 962) (by decide +kernel) (by decide +kernel)
theorem wf_J0_38 : Cond.fieldLink RJ0 38 "java/lang/String" "COMPACT_STRINGS" "Z" ∈ uw := uw_in (i := 489) (by decide +kernel) (by decide +kernel)
theorem wf_J0_1053 : Cond.fieldLink RJ0 1053 "jdk/internal/util/Preconditions" "SIOOBE_FORMATTER" "Ljava/util/function/BiFunction;" ∈ uw := uw_in (i := 505) (by decide +kernel) (by decide +kernel)
theorem sb_ok : ∀ i, i < 8 → ∀ j, j < pTl.getD i 0 → ((((pTb.getD i []).getD j 0 &&& nI 255).toUInt32 % 65536).toInt32 = (pTb.getD i []).getD j 0 ∧ narrow .char (.int ((pTb.getD i []).getD j 0)) = .int ((pTb.getD i []).getD j 0)) := by decide +kernel
theorem sl_ok : ∀ i, i < 8 → pTl.getD i 0 ≤ 5 ∧ nI (pTl.getD i 0) >>> (nI 0 &&& 31) = nI (pTl.getD i 0) := by decide +kernel
set_option maxRecDepth 100000 in
set_option maxHeartbeats 4000000 in
theorem c_J0_coder_7d493 (l : Launch) (E : pE) (i : Nat) : pC l E yJ0_coder_7d493 cJ0_coder_7d493 1 (some .byte) { frames := 0, cells := 0, slots := 0, locals := 0 } 0 0 [.ref (E.2.2.2.1 i)] (fun h _ => i < 8) (pFp ((nI 0))) := by
  refine pC_of (by decide) (by simp [Value.category]) (Nat.le_of_ble_eq_true rfl) ?_
  intro h z hp p__ e__ s__ m__ args__ below__ meth__ c__ X hr hlk hname
  refine v_scmp (pc := 0) X wf_J0_38 (hd := dJ0_coder_7d493_0) (kk := ?_)
  refine v_ifeq (pc := 3) X (tgt := 13) (hd := dJ0_coder_7d493_3) (kt := fun c3 => ?_) (kf := fun c3 => ?_)
  · exact absurd c3 (by decide)
  · refine v_aload_n (pc := 6) X (hd := dJ0_coder_7d493_6) (kk := ?_)
    refine v_scod (pc := 7) X hp wf_J0_15 (hd := dJ0_coder_7d493_7) (kk := ?_)
    refine v_goto (pc := 10) X (tgt := 14) (hd := dJ0_coder_7d493_10) (kk := ?_)
    exact v_endz (pc := 14) X hr hlk (hd := dJ0_coder_7d493_14) (hn := by decide +kernel) (hf := rfl)
set_option maxRecDepth 100000 in
set_option maxHeartbeats 4000000 in
theorem c_J0_length_8abf5 (l : Launch) (E : pE) (i : Nat) : pC l E yJ0_length_8abf5 cJ0_length_8abf5 1 (some .int) { frames := 1, cells := 0, slots := 0, locals := 20 } 0 0 [.ref (E.2.2.2.1 i)] (fun h _ => i < 8) (pFp ((nI (pTl.getD i 0)))) := by
  refine pC_of (by decide) (by simp [Value.category]) (Nat.le_of_ble_eq_true rfl) ?_
  intro h z hp p__ e__ s__ m__ args__ below__ meth__ c__ X hr hlk hname
  refine v_aload_n (pc := 0) X (hd := dJ0_length_8abf5_0) (kk := ?_)
  refine v_sval (pc := 1) X hp wf_J0_9 (hd := dJ0_length_8abf5_1) (kk := ?_)
  refine v_slen (pc := 4) X hp (hd := dJ0_length_8abf5_4) (kk := ?_)
  refine v_aload_n (pc := 5) X (hd := dJ0_length_8abf5_5) (kk := ?_)
  refine v_callVsp (pc := 6) X (hd := dJ0_length_8abf5_6) (w := wv_J0_335) (hC := c_J0_coder_7d493 l E i) (hi := hp) (hp := hp) (kk := ?_)
  refine v_ishr (pc := 9) X (hd := dJ0_length_8abf5_9) (kk := ?_)
  exact v_endp (pc := 10) X hr hlk (hd := dJ0_length_8abf5_10) (hf := (sl_ok i hp).2)
set_option maxRecDepth 100000 in
set_option maxHeartbeats 4000000 in
theorem c_J0_isLatin1_aae02 (l : Launch) (E : pE) (i : Nat) : pC l E yJ0_isLatin1_aae02 cJ0_isLatin1_aae02 1 (some .boolean) { frames := 0, cells := 0, slots := 0, locals := 0 } 0 0 [.ref (E.2.2.2.1 i)] (fun h _ => i < 8) (pFp ((nI 1))) := by
  refine pC_of (by decide) (by simp [Value.category]) (Nat.le_of_ble_eq_true rfl) ?_
  intro h z hp p__ e__ s__ m__ args__ below__ meth__ c__ X hr hlk hname
  refine v_scmp (pc := 0) X wf_J0_38 (hd := dJ0_isLatin1_aae02_0) (kk := ?_)
  refine v_ifeq (pc := 3) X (tgt := 17) (hd := dJ0_isLatin1_aae02_3) (kt := fun c3 => ?_) (kf := fun c3 => ?_)
  · exact absurd c3 (by decide)
  · refine v_aload_n (pc := 6) X (hd := dJ0_isLatin1_aae02_6) (kk := ?_)
    refine v_scod (pc := 7) X hp wf_J0_15 (hd := dJ0_isLatin1_aae02_7) (kk := ?_)
    refine v_ifne (pc := 10) X (tgt := 17) (hd := dJ0_isLatin1_aae02_10) (kt := fun c10 => ?_) (kf := fun c10 => ?_)
    · exact absurd (show nI 0 = 0 by decide) c10
    · refine v_iconst (pc := 13) X (v := nI 1) (hd := dJ0_isLatin1_aae02_13) (kk := ?_)
      refine v_goto (pc := 14) X (tgt := 18) (hd := dJ0_isLatin1_aae02_14) (kk := ?_)
      exact v_endz (pc := 18) X hr hlk (hd := dJ0_isLatin1_aae02_18) (hn := by decide +kernel) (hf := rfl)
set_option maxRecDepth 100000 in
set_option maxHeartbeats 4000000 in
theorem c_J3n (l : Launch) (E : pE) (j n : Nat) : pC l E yJ3_checkIndex_8e157 cJ3_checkIndex_8e157 3 (some .int) { frames := 0, cells := 0, slots := 0, locals := 0 } 0 0 [.int (nI j), .int (nI n), .null] (fun h _ => j < n ∧ n < 2 ^ 31) (pFp ((nI j))) := by
  refine pC_of (by decide) (by simp [Value.category]) (Nat.le_of_ble_eq_true rfl) ?_
  intro h z hp p__ e__ s__ m__ args__ below__ meth__ c__ X hr hlk hname
  refine v_iload_n (pc := 0) X (hd := dJ3_checkIndex_8e157_0) (kk := ?_)
  refine v_iflt (pc := 1) X (tgt := 9) (hd := dJ3_checkIndex_8e157_1) (kt := fun c1 => ?_) (kf := fun c1 => ?_)
  · exact absurd c1 (n_nn (by omega))
  · refine v_iload_n (pc := 4) X (hd := dJ3_checkIndex_8e157_4) (kk := ?_)
    refine v_iload_n (pc := 5) X (hd := dJ3_checkIndex_8e157_5) (kk := ?_)
    refine v_icmplt (pc := 6) X (tgt := 16) (hd := dJ3_checkIndex_8e157_6) (kt := fun c6 => ?_) (kf := fun c6 => ?_)
    · refine v_iload_n (pc := 16) X (hd := dJ3_checkIndex_8e157_16) (kk := ?_)
      exact v_endp (pc := 17) X hr hlk (hd := dJ3_checkIndex_8e157_17) (hf := rfl)
    · exact absurd (nI_lt hp.1 hp.2) c6
set_option maxRecDepth 100000 in
set_option maxHeartbeats 4000000 in
theorem c_J3_checkIndex_8e157 (l : Launch) (E : pE) (j n t : Nat) : pC l E yJ3_checkIndex_8e157 cJ3_checkIndex_8e157 3 (some .int) { frames := 0, cells := 0, slots := 0, locals := 0 } 0 0 [.int (nI j), .int (nI n), .ref t] (fun h _ => j < n ∧ n < 2 ^ 31) (pFp ((nI j))) := by
  refine pC_of (by decide) (by simp [Value.category]) (Nat.le_of_ble_eq_true rfl) ?_
  intro h z hp p__ e__ s__ m__ args__ below__ meth__ c__ X hr hlk hname
  refine v_iload_n (pc := 0) X (hd := dJ3_checkIndex_8e157_0) (kk := ?_)
  refine v_iflt (pc := 1) X (tgt := 9) (hd := dJ3_checkIndex_8e157_1) (kt := fun c1 => ?_) (kf := fun c1 => ?_)
  · exact absurd c1 (n_nn (by omega))
  · refine v_iload_n (pc := 4) X (hd := dJ3_checkIndex_8e157_4) (kk := ?_)
    refine v_iload_n (pc := 5) X (hd := dJ3_checkIndex_8e157_5) (kk := ?_)
    refine v_icmplt (pc := 6) X (tgt := 16) (hd := dJ3_checkIndex_8e157_6) (kt := fun c6 => ?_) (kf := fun c6 => ?_)
    · refine v_iload_n (pc := 16) X (hd := dJ3_checkIndex_8e157_16) (kk := ?_)
      exact v_endp (pc := 17) X hr hlk (hd := dJ3_checkIndex_8e157_17) (hf := rfl)
    · exact absurd (nI_lt hp.1 hp.2) c6
set_option maxRecDepth 100000 in
set_option maxHeartbeats 4000000 in
theorem c_J0_checkIndex_df160 (l : Launch) (E : pE) (j n : Nat) : pC l E yJ0_checkIndex_df160 cJ0_checkIndex_df160 2 none { frames := 1, cells := 0, slots := 0, locals := 22 } 0 0 [.int (nI j), .int (nI n)] (fun h _ => j < n ∧ n < 2 ^ 31) (pFv (fun h h' => h' = h)) := by
  refine pC_of (by decide) (by simp [Value.category]) (Nat.le_of_ble_eq_true rfl) ?_
  intro h z hp p__ e__ s__ m__ args__ below__ meth__ c__ X hr hlk hname
  refine v_iload_n (pc := 0) X (hd := dJ0_checkIndex_df160_0) (kk := ?_)
  refine v_iload_n (pc := 1) X (hd := dJ0_checkIndex_df160_1) (kk := ?_)
  refine v_sfmt (pc := 2) X wf_J0_1053 (hd := dJ0_checkIndex_df160_2) (k0 := ?_) (k1 := fun t2 => ?_)
  · skip
    refine v_callSp (pc := 5) X (hd := dJ0_checkIndex_df160_5) (w := wv_J0_1059) (hC := c_J3n l E j n) (hp := hp) (kk := ?_)
    refine v_pop (pc := 8) X (hd := dJ0_checkIndex_df160_8) (kk := ?_)
    exact v_endv (pc := 9) X hr hlk (hd := dJ0_checkIndex_df160_9) (hf := rfl)
  · skip
    refine v_callSp (pc := 5) X (hd := dJ0_checkIndex_df160_5) (w := wv_J0_1059) (hC := c_J3_checkIndex_8e157 l E j n t2) (hp := hp) (kk := ?_)
    refine v_pop (pc := 8) X (hd := dJ0_checkIndex_df160_8) (kk := ?_)
    exact v_endv (pc := 9) X hr hlk (hd := dJ0_checkIndex_df160_9) (hf := rfl)
set_option maxRecDepth 100000 in
set_option maxHeartbeats 4000000 in
theorem c_J1_charAt_3b067 (l : Launch) (E : pE) (i j : Nat) : pC l E yJ1_charAt_3b067 cJ1_charAt_3b067 2 (some .char) { frames := 2, cells := 0, slots := 0, locals := 43 } 0 0 [.ref (E.2.2.2.2 i), .int (nI j)] (fun h _ => i < 8 ∧ j < pTl.getD i 0) (pFp (((pTb.getD i []).getD j 0))) := by
  refine pC_of (by decide) (by simp [Value.category]) (Nat.le_of_ble_eq_true rfl) ?_
  intro h z hp p__ e__ s__ m__ args__ below__ meth__ c__ X hr hlk hname
  refine v_iload_n (pc := 0) X (hd := dJ1_charAt_3b067_0) (kk := ?_)
  refine v_aload_n (pc := 1) X (hd := dJ1_charAt_3b067_1) (kk := ?_)
  refine v_slen (pc := 2) X hp.1 (hd := dJ1_charAt_3b067_2) (kk := ?_)
  refine v_callSv (pc := 3) X (hd := dJ1_charAt_3b067_3) (w := wv_J1_9) (hC := c_J0_checkIndex_df160 l E j (pTl.getD i 0)) (hp := ⟨hp.2, by have := (sl_ok i hp.1).1; omega⟩) (kk := fun h3 q3 => ?_)
  subst q3
  refine v_aload_n (pc := 6) X (hd := dJ1_charAt_3b067_6) (kk := ?_)
  refine v_iload_n (pc := 7) X (hd := dJ1_charAt_3b067_7) (kk := ?_)
  refine v_sbyt (pc := 8) X hp.1 hp.2 (by have := (sl_ok i hp.1).1; have := hp.2; omega) (hd := dJ1_charAt_3b067_8) (kk := ?_)
  refine v_sipush (pc := 9) X (v := nI 255) (hd := dJ1_charAt_3b067_9) (kk := ?_)
  refine v_iand (pc := 12) X (hd := dJ1_charAt_3b067_12) (kk := ?_)
  refine v_i2c (pc := 13) X (hd := dJ1_charAt_3b067_13) (kk := ?_)
  exact v_endz (pc := 14) X hr hlk (hd := dJ1_charAt_3b067_14) (hn := (sb_ok i hp.1 j hp.2).2) (hf := (sb_ok i hp.1 j hp.2).1)
set_option maxRecDepth 100000 in
set_option maxHeartbeats 4000000 in
theorem c_J0_charAt_5068e (l : Launch) (E : pE) (i j : Nat) : pC l E yJ0_charAt_5068e cJ0_charAt_5068e 2 (some .char) { frames := 3, cells := 0, slots := 0, locals := 64 } 0 0 [.ref (E.2.2.2.1 i), .int (nI j)] (fun h _ => i < 8 ∧ j < pTl.getD i 0) (pFp (((pTb.getD i []).getD j 0))) := by
  refine pC_of (by decide) (by simp [Value.category]) (Nat.le_of_ble_eq_true rfl) ?_
  intro h z hp p__ e__ s__ m__ args__ below__ meth__ c__ X hr hlk hname
  refine v_aload_n (pc := 0) X (hd := dJ0_charAt_5068e_0) (kk := ?_)
  refine v_callVsp (pc := 1) X (hd := dJ0_charAt_5068e_1) (w := wv_J0_492) (hC := c_J0_isLatin1_aae02 l E i) (hi := hp.1) (hp := hp.1) (kk := ?_)
  refine v_ifeq (pc := 4) X (tgt := 16) (hd := dJ0_charAt_5068e_4) (kt := fun c4 => ?_) (kf := fun c4 => ?_)
  · exact absurd c4 (by decide)
  · refine v_aload_n (pc := 7) X (hd := dJ0_charAt_5068e_7) (kk := ?_)
    refine v_sval (pc := 8) X hp.1 wf_J0_9 (hd := dJ0_charAt_5068e_8) (kk := ?_)
    refine v_iload_n (pc := 11) X (hd := dJ0_charAt_5068e_11) (kk := ?_)
    refine v_callSp (pc := 12) X (hd := dJ0_charAt_5068e_12) (w := wv_J0_495) (hC := c_J1_charAt_3b067 l E i j) (hp := hp) (kk := ?_)
    exact v_endz (pc := 15) X hr hlk (hd := dJ0_charAt_5068e_15) (hn := (sb_ok i hp.1 j hp.2).2) (hf := rfl)
