set_option maxRecDepth 100000 in
set_option maxHeartbeats 4000000 in
theorem lc_0 {p : Program} {l : Launch} {e : Env} {s : State} {m : MethodId} {args : Array Value} {below : List Frame} {meth : Method} {c : Code} {E : pE} {Q : State → Prop} {z : Nat} {h : pH} {b x kx L0 : Nat} {xs : Nat → Int32} (X : pCx p s m args c cL_law 4 RL E (Al s)) (hX : va_X b L0 xs s s.heap) (hbl : b < s.heap.size) (hL : L0 ≤ 2048) (hk : 4 * kx + 4 ≤ L0) (I : LI x h) (kk : ∀ h9 : pH, LI x h9 → pV p l e room_1 s m args below meth c 4 E (Al s) Q z h9 746 7201 944 (LL b x kx) []) : pV p l e room_1 s m args below meth c 4 E (Al s) Q z h 746 7201 160 (LL b x kx) [] := by
  obtain ⟨w, pa, he, te, nu, np, tn, at_, st, ki, co, st1, en1, K, M, I, T⟩ := I
  obtain ⟨nh, nb, ns, V⟩ := I.2.1.1
  obtain ⟨a0, a1, B⟩ := K.ob
  refine v_aload_n (pc := 160) X (hd := dL_law_160) (kk := ?_)
  refine v_aload_n (pc := 161) X (hd := dL_law_161) (kk := ?_)
  refine v_iload_n (pc := 162) X (hd := dL_law_162) (kk := ?_)
  refine v_iconst (pc := 163) X (v := nI 1) (hd := dL_law_163) (kk := ?_)
  refine v_iadd (pc := 164) X (hd := dL_law_164) (kk := ?_)
  refine v_xld (pc := 165) X hX hbl hL (4 * kx + 1) (hd := dL_law_165) (hi := nI_add _ _) (hj := by omega) (kk := ?_)
  refine v_callVi (pc := 166) X (hd := dL_law_166) (w := wv_L_13) (hC := c_X6_come l E x w pa np tn te st1 en1 nu (xs (4 * kx + 1)) nh nb ns) (hp := ⟨K, I, V⟩) (hb := B) (hR := ⟨Nat.le_of_ble_eq_true rfl, Nat.le_of_ble_eq_true rfl⟩) (hf := ⟨Nat.le_of_ble_eq_true rfl, Nat.le_of_ble_eq_true rfl⟩) (kk := fun r1 h1 q1 => ?_)
  have O1 : pO x (x + 740) h h1 := q1.2.2
  have M1 : MD (x + 740) w pa he te nu (nI np) (bI (false = true)) (nI tn) at_ st ki co h1 := M.off (fun q h3 h4 => O1 q (Or.inr h3))
  refine v_aload_n (pc := 169) X (hd := dL_law_169) (kk := ?_)
  refine v_aload_n (pc := 170) X (hd := dL_law_170) (kk := ?_)
  refine v_iload_n (pc := 171) X (hd := dL_law_171) (kk := ?_)
  refine v_iconst (pc := 172) X (v := nI 1) (hd := dL_law_172) (kk := ?_)
  refine v_iadd (pc := 173) X (hd := dL_law_173) (kk := ?_)
  refine v_xld (pc := 174) X hX hbl hL (4 * kx + 1) (hd := dL_law_174) (hi := nI_add _ _) (hj := by omega) (kk := ?_)
  refine v_callVi (pc := 175) X (hd := dL_law_175) (w := wv_L_17) (hC := c_X7_come l E (x + 740) w pa he te nu np false (nI tn) at_ st ki co (xs (4 * kx + 1)) nh nb ns) (hp := ⟨M1, I.1, V⟩) (hb := M1.1) (hR := ⟨Nat.le_of_ble_eq_true rfl, Nat.le_of_ble_eq_true rfl⟩) (hf := ⟨Nat.le_of_ble_eq_true rfl, Nat.le_of_ble_eq_true rfl⟩) (kk := fun r2 h2 q2 => ?_)
  obtain ⟨e9, J⟩ := LI.act q1 M1 q2 I T (fun k9 => I.2.1.lo ⟨_, _, _, iCome V k9⟩ (fun q hq => hiCome V k9 q hq))
  refine v_icmpeq (pc := 178) X (tgt := 944) (hd := dL_law_178) (kt := fun _ => kk h2 J) (kf := fun c9 => absurd e9 c9)
set_option maxRecDepth 100000 in
set_option maxHeartbeats 4000000 in
theorem lc_1 {p : Program} {l : Launch} {e : Env} {s : State} {m : MethodId} {args : Array Value} {below : List Frame} {meth : Method} {c : Code} {E : pE} {Q : State → Prop} {z : Nat} {h : pH} {b x kx L0 : Nat} {xs : Nat → Int32} (X : pCx p s m args c cL_law 4 RL E (Al s)) (hX : va_X b L0 xs s s.heap) (hbl : b < s.heap.size) (hL : L0 ≤ 2048) (hk : 4 * kx + 4 ≤ L0) (I : LI x h) (kk : ∀ h9 : pH, LI x h9 → pV p l e room_1 s m args below meth c 4 E (Al s) Q z h9 746 7201 944 (LL b x kx) []) : pV p l e room_1 s m args below meth c 4 E (Al s) Q z h 746 7201 183 (LL b x kx) [] := by
  obtain ⟨w, pa, he, te, nu, np, tn, at_, st, ki, co, st1, en1, K, M, I, T⟩ := I
  obtain ⟨nh, nb, ns, V⟩ := I.2.1.1
  obtain ⟨a0, a1, B⟩ := K.ob
  refine v_aload_n (pc := 183) X (hd := dL_law_183) (kk := ?_)
  refine v_aload_n (pc := 184) X (hd := dL_law_184) (kk := ?_)
  refine v_iload_n (pc := 185) X (hd := dL_law_185) (kk := ?_)
  refine v_iconst (pc := 186) X (v := nI 1) (hd := dL_law_186) (kk := ?_)
  refine v_iadd (pc := 187) X (hd := dL_law_187) (kk := ?_)
  refine v_xld (pc := 188) X hX hbl hL (4 * kx + 1) (hd := dL_law_188) (hi := nI_add _ _) (hj := by omega) (kk := ?_)
  refine v_aload_n (pc := 189) X (hd := dL_law_189) (kk := ?_)
  refine v_iload_n (pc := 190) X (hd := dL_law_190) (kk := ?_)
  refine v_iconst (pc := 191) X (v := nI 2) (hd := dL_law_191) (kk := ?_)
  refine v_iadd (pc := 192) X (hd := dL_law_192) (kk := ?_)
  refine v_xld (pc := 193) X hX hbl hL (4 * kx + 2) (hd := dL_law_193) (hi := nI_add _ _) (hj := by omega) (kk := ?_)
  refine v_callVi (pc := 194) X (hd := dL_law_194) (w := wv_L_18) (hC := c_X6_setSpades l E x w pa np tn te st1 en1 nu (xs (4 * kx + 1)) (xs (4 * kx + 2)) nh nb ns) (hp := ⟨K, I, V⟩) (hb := B) (hR := ⟨Nat.le_of_ble_eq_true rfl, Nat.le_of_ble_eq_true rfl⟩) (hf := ⟨Nat.le_of_ble_eq_true rfl, Nat.le_of_ble_eq_true rfl⟩) (kk := fun r1 h1 q1 => ?_)
  have O1 : pO x (x + 740) h h1 := q1.2.2
  have M1 : MD (x + 740) w pa he te nu (nI np) (bI (false = true)) (nI tn) at_ st ki co h1 := M.off (fun q h3 h4 => O1 q (Or.inr h3))
  refine v_aload_n (pc := 197) X (hd := dL_law_197) (kk := ?_)
  refine v_aload_n (pc := 198) X (hd := dL_law_198) (kk := ?_)
  refine v_iload_n (pc := 199) X (hd := dL_law_199) (kk := ?_)
  refine v_iconst (pc := 200) X (v := nI 1) (hd := dL_law_200) (kk := ?_)
  refine v_iadd (pc := 201) X (hd := dL_law_201) (kk := ?_)
  refine v_xld (pc := 202) X hX hbl hL (4 * kx + 1) (hd := dL_law_202) (hi := nI_add _ _) (hj := by omega) (kk := ?_)
  refine v_aload_n (pc := 203) X (hd := dL_law_203) (kk := ?_)
  refine v_iload_n (pc := 204) X (hd := dL_law_204) (kk := ?_)
  refine v_iconst (pc := 205) X (v := nI 2) (hd := dL_law_205) (kk := ?_)
  refine v_iadd (pc := 206) X (hd := dL_law_206) (kk := ?_)
  refine v_xld (pc := 207) X hX hbl hL (4 * kx + 2) (hd := dL_law_207) (hi := nI_add _ _) (hj := by omega) (kk := ?_)
  refine v_callVi (pc := 208) X (hd := dL_law_208) (w := wv_L_22) (hC := c_X7_setSpades l E (x + 740) w pa he te nu np false (nI tn) at_ st ki co (xs (4 * kx + 1)) (xs (4 * kx + 2)) nh nb ns) (hp := ⟨M1, I.1, V⟩) (hb := M1.1) (hR := ⟨Nat.le_of_ble_eq_true rfl, Nat.le_of_ble_eq_true rfl⟩) (hf := ⟨Nat.le_of_ble_eq_true rfl, Nat.le_of_ble_eq_true rfl⟩) (kk := fun r2 h2 q2 => ?_)
  obtain ⟨e9, J⟩ := LI.act q1 M1 q2 I T (fun k9 => I.2.1.lo ⟨_, _, _, iSet V k9⟩ (fun q hq => hiSet V k9 q hq))
  refine v_icmpeq (pc := 211) X (tgt := 944) (hd := dL_law_211) (kt := fun _ => kk h2 J) (kf := fun c9 => absurd e9 c9)
set_option maxRecDepth 100000 in
set_option maxHeartbeats 4000000 in
theorem lc_2 {p : Program} {l : Launch} {e : Env} {s : State} {m : MethodId} {args : Array Value} {below : List Frame} {meth : Method} {c : Code} {E : pE} {Q : State → Prop} {z : Nat} {h : pH} {b x kx L0 : Nat} {xs : Nat → Int32} (X : pCx p s m args c cL_law 4 RL E (Al s)) (hX : va_X b L0 xs s s.heap) (hbl : b < s.heap.size) (hL : L0 ≤ 2048) (hk : 4 * kx + 4 ≤ L0) (I : LI x h) (kk : ∀ h9 : pH, LI x h9 → pV p l e room_1 s m args below meth c 4 E (Al s) Q z h9 746 7201 944 (LL b x kx) []) : pV p l e room_1 s m args below meth c 4 E (Al s) Q z h 746 7201 216 (LL b x kx) [] := by
  obtain ⟨w, pa, he, te, nu, np, tn, at_, st, ki, co, st1, en1, K, M, I, T⟩ := I
  obtain ⟨nh, nb, ns, V⟩ := I.2.1.1
  obtain ⟨a0, a1, B⟩ := K.ob
  refine v_aload_n (pc := 216) X (hd := dL_law_216) (kk := ?_)
  refine v_aload_n (pc := 217) X (hd := dL_law_217) (kk := ?_)
  refine v_iload_n (pc := 218) X (hd := dL_law_218) (kk := ?_)
  refine v_iconst (pc := 219) X (v := nI 1) (hd := dL_law_219) (kk := ?_)
  refine v_iadd (pc := 220) X (hd := dL_law_220) (kk := ?_)
  refine v_xld (pc := 221) X hX hbl hL (4 * kx + 1) (hd := dL_law_221) (hi := nI_add _ _) (hj := by omega) (kk := ?_)
  refine v_aload_n (pc := 222) X (hd := dL_law_222) (kk := ?_)
  refine v_iload_n (pc := 223) X (hd := dL_law_223) (kk := ?_)
  refine v_iconst (pc := 224) X (v := nI 2) (hd := dL_law_224) (kk := ?_)
  refine v_iadd (pc := 225) X (hd := dL_law_225) (kk := ?_)
  refine v_xld (pc := 226) X hX hbl hL (4 * kx + 2) (hd := dL_law_226) (hi := nI_add _ _) (hj := by omega) (kk := ?_)
  refine v_callVi (pc := 227) X (hd := dL_law_227) (w := wv_L_23) (hC := c_X6_addBank l E x w pa np tn te st1 en1 nu (xs (4 * kx + 1)) (xs (4 * kx + 2)) nh nb ns) (hp := ⟨K, I, V⟩) (hb := B) (hR := ⟨Nat.le_of_ble_eq_true rfl, Nat.le_of_ble_eq_true rfl⟩) (hf := ⟨Nat.le_of_ble_eq_true rfl, Nat.le_of_ble_eq_true rfl⟩) (kk := fun r1 h1 q1 => ?_)
  have O1 : pO x (x + 740) h h1 := q1.2.2
  have M1 : MD (x + 740) w pa he te nu (nI np) (bI (false = true)) (nI tn) at_ st ki co h1 := M.off (fun q h3 h4 => O1 q (Or.inr h3))
  refine v_aload_n (pc := 230) X (hd := dL_law_230) (kk := ?_)
  refine v_aload_n (pc := 231) X (hd := dL_law_231) (kk := ?_)
  refine v_iload_n (pc := 232) X (hd := dL_law_232) (kk := ?_)
  refine v_iconst (pc := 233) X (v := nI 1) (hd := dL_law_233) (kk := ?_)
  refine v_iadd (pc := 234) X (hd := dL_law_234) (kk := ?_)
  refine v_xld (pc := 235) X hX hbl hL (4 * kx + 1) (hd := dL_law_235) (hi := nI_add _ _) (hj := by omega) (kk := ?_)
  refine v_aload_n (pc := 236) X (hd := dL_law_236) (kk := ?_)
  refine v_iload_n (pc := 237) X (hd := dL_law_237) (kk := ?_)
  refine v_iconst (pc := 238) X (v := nI 2) (hd := dL_law_238) (kk := ?_)
  refine v_iadd (pc := 239) X (hd := dL_law_239) (kk := ?_)
  refine v_xld (pc := 240) X hX hbl hL (4 * kx + 2) (hd := dL_law_240) (hi := nI_add _ _) (hj := by omega) (kk := ?_)
  refine v_callVi (pc := 241) X (hd := dL_law_241) (w := wv_L_26) (hC := c_X7_addBank l E (x + 740) w pa he te nu np false (nI tn) at_ st ki co (xs (4 * kx + 1)) (xs (4 * kx + 2)) nh nb ns) (hp := ⟨M1, I.1, V⟩) (hb := M1.1) (hR := ⟨Nat.le_of_ble_eq_true rfl, Nat.le_of_ble_eq_true rfl⟩) (hf := ⟨Nat.le_of_ble_eq_true rfl, Nat.le_of_ble_eq_true rfl⟩) (kk := fun r2 h2 q2 => ?_)
  obtain ⟨e9, J⟩ := LI.act q1 M1 q2 I T (fun k9 => I.2.1.lo ⟨_, _, _, iAdd V k9⟩ (fun q hq => hiAdd V k9 q hq))
  refine v_icmpeq (pc := 244) X (tgt := 944) (hd := dL_law_244) (kt := fun _ => kk h2 J) (kf := fun c9 => absurd e9 c9)
set_option maxRecDepth 100000 in
set_option maxHeartbeats 4000000 in
theorem lc_3 {p : Program} {l : Launch} {e : Env} {s : State} {m : MethodId} {args : Array Value} {below : List Frame} {meth : Method} {c : Code} {E : pE} {Q : State → Prop} {z : Nat} {h : pH} {b x kx L0 : Nat} {xs : Nat → Int32} (X : pCx p s m args c cL_law 4 RL E (Al s)) (hX : va_X b L0 xs s s.heap) (hbl : b < s.heap.size) (hL : L0 ≤ 2048) (hk : 4 * kx + 4 ≤ L0) (I : LI x h) (kk : ∀ h9 : pH, LI x h9 → pV p l e room_1 s m args below meth c 4 E (Al s) Q z h9 746 7201 944 (LL b x kx) []) : pV p l e room_1 s m args below meth c 4 E (Al s) Q z h 746 7201 249 (LL b x kx) [] := by
  obtain ⟨w, pa, he, te, nu, np, tn, at_, st, ki, co, st1, en1, K, M, I, T⟩ := I
  obtain ⟨nh, nb, ns, V⟩ := I.2.1.1
  obtain ⟨a0, a1, B⟩ := K.ob
  refine v_aload_n (pc := 249) X (hd := dL_law_249) (kk := ?_)
  refine v_aload_n (pc := 250) X (hd := dL_law_250) (kk := ?_)
  refine v_iload_n (pc := 251) X (hd := dL_law_251) (kk := ?_)
  refine v_iconst (pc := 252) X (v := nI 1) (hd := dL_law_252) (kk := ?_)
  refine v_iadd (pc := 253) X (hd := dL_law_253) (kk := ?_)
  refine v_xld (pc := 254) X hX hbl hL (4 * kx + 1) (hd := dL_law_254) (hi := nI_add _ _) (hj := by omega) (kk := ?_)
  refine v_aload_n (pc := 255) X (hd := dL_law_255) (kk := ?_)
  refine v_iload_n (pc := 256) X (hd := dL_law_256) (kk := ?_)
  refine v_iconst (pc := 257) X (v := nI 2) (hd := dL_law_257) (kk := ?_)
  refine v_iadd (pc := 258) X (hd := dL_law_258) (kk := ?_)
  refine v_xld (pc := 259) X hX hbl hL (4 * kx + 2) (hd := dL_law_259) (hi := nI_add _ _) (hj := by omega) (kk := ?_)
  refine v_callVi (pc := 260) X (hd := dL_law_260) (w := wv_L_27) (hC := c_X6_setAllowance l E x w pa np tn te st1 en1 nu (xs (4 * kx + 1)) (xs (4 * kx + 2)) nh nb ns) (hp := ⟨K, I, V⟩) (hb := B) (hR := ⟨Nat.le_of_ble_eq_true rfl, Nat.le_of_ble_eq_true rfl⟩) (hf := ⟨Nat.le_of_ble_eq_true rfl, Nat.le_of_ble_eq_true rfl⟩) (kk := fun r1 h1 q1 => ?_)
  have O1 : pO x (x + 740) h h1 := q1.2.2
  have M1 : MD (x + 740) w pa he te nu (nI np) (bI (false = true)) (nI tn) at_ st ki co h1 := M.off (fun q h3 h4 => O1 q (Or.inr h3))
  refine v_aload_n (pc := 263) X (hd := dL_law_263) (kk := ?_)
  refine v_aload_n (pc := 264) X (hd := dL_law_264) (kk := ?_)
  refine v_iload_n (pc := 265) X (hd := dL_law_265) (kk := ?_)
  refine v_iconst (pc := 266) X (v := nI 1) (hd := dL_law_266) (kk := ?_)
  refine v_iadd (pc := 267) X (hd := dL_law_267) (kk := ?_)
  refine v_xld (pc := 268) X hX hbl hL (4 * kx + 1) (hd := dL_law_268) (hi := nI_add _ _) (hj := by omega) (kk := ?_)
  refine v_aload_n (pc := 269) X (hd := dL_law_269) (kk := ?_)
  refine v_iload_n (pc := 270) X (hd := dL_law_270) (kk := ?_)
  refine v_iconst (pc := 271) X (v := nI 2) (hd := dL_law_271) (kk := ?_)
  refine v_iadd (pc := 272) X (hd := dL_law_272) (kk := ?_)
  refine v_xld (pc := 273) X hX hbl hL (4 * kx + 2) (hd := dL_law_273) (hi := nI_add _ _) (hj := by omega) (kk := ?_)
  refine v_callVi (pc := 274) X (hd := dL_law_274) (w := wv_L_30) (hC := c_X7_setAllowance l E (x + 740) w pa he te nu np false (nI tn) at_ st ki co (xs (4 * kx + 1)) (xs (4 * kx + 2)) nh nb ns) (hp := ⟨M1, I.1, V⟩) (hb := M1.1) (hR := ⟨Nat.le_of_ble_eq_true rfl, Nat.le_of_ble_eq_true rfl⟩) (hf := ⟨Nat.le_of_ble_eq_true rfl, Nat.le_of_ble_eq_true rfl⟩) (kk := fun r2 h2 q2 => ?_)
  obtain ⟨e9, J⟩ := LI.act q1 M1 q2 I T (fun k9 => I.2.1.lo ⟨_, _, _, iAllow V k9⟩ (fun q hq => hiAllow V k9 q hq))
  refine v_icmpeq (pc := 277) X (tgt := 944) (hd := dL_law_277) (kt := fun _ => kk h2 J) (kf := fun c9 => absurd e9 c9)
set_option maxRecDepth 100000 in
set_option maxHeartbeats 4000000 in
theorem lc_4 {p : Program} {l : Launch} {e : Env} {s : State} {m : MethodId} {args : Array Value} {below : List Frame} {meth : Method} {c : Code} {E : pE} {Q : State → Prop} {z : Nat} {h : pH} {b x kx L0 : Nat} {xs : Nat → Int32} (X : pCx p s m args c cL_law 4 RL E (Al s)) (hX : va_X b L0 xs s s.heap) (hbl : b < s.heap.size) (hL : L0 ≤ 2048) (hk : 4 * kx + 4 ≤ L0) (I : LI x h) (kk : ∀ h9 : pH, LI x h9 → pV p l e room_1 s m args below meth c 4 E (Al s) Q z h9 746 7201 944 (LL b x kx) []) : pV p l e room_1 s m args below meth c 4 E (Al s) Q z h 746 7201 282 (LL b x kx) [] := by
  obtain ⟨w, pa, he, te, nu, np, tn, at_, st, ki, co, st1, en1, K, M, I, T⟩ := I
  obtain ⟨nh, nb, ns, V⟩ := I.2.1.1
  obtain ⟨a0, a1, B⟩ := K.ob
  refine v_aload_n (pc := 282) X (hd := dL_law_282) (kk := ?_)
  refine v_aload_n (pc := 283) X (hd := dL_law_283) (kk := ?_)
  refine v_iload_n (pc := 284) X (hd := dL_law_284) (kk := ?_)
  refine v_iconst (pc := 285) X (v := nI 1) (hd := dL_law_285) (kk := ?_)
  refine v_iadd (pc := 286) X (hd := dL_law_286) (kk := ?_)
  refine v_xld (pc := 287) X hX hbl hL (4 * kx + 1) (hd := dL_law_287) (hi := nI_add _ _) (hj := by omega) (kk := ?_)
  refine v_aload_n (pc := 288) X (hd := dL_law_288) (kk := ?_)
  refine v_iload_n (pc := 289) X (hd := dL_law_289) (kk := ?_)
  refine v_iconst (pc := 290) X (v := nI 2) (hd := dL_law_290) (kk := ?_)
  refine v_iadd (pc := 291) X (hd := dL_law_291) (kk := ?_)
  refine v_xld (pc := 292) X hX hbl hL (4 * kx + 2) (hd := dL_law_292) (hi := nI_add _ _) (hj := by omega) (kk := ?_)
  refine v_aload_n (pc := 293) X (hd := dL_law_293) (kk := ?_)
  refine v_iload_n (pc := 294) X (hd := dL_law_294) (kk := ?_)
  refine v_iconst (pc := 295) X (v := nI 3) (hd := dL_law_295) (kk := ?_)
  refine v_iadd (pc := 296) X (hd := dL_law_296) (kk := ?_)
  refine v_xld (pc := 297) X hX hbl hL (4 * kx + 3) (hd := dL_law_297) (hi := nI_add _ _) (hj := by omega) (kk := ?_)
  refine v_callVi (pc := 298) X (hd := dL_law_298) (w := wv_L_31) (hC := c_X6_grant l E x w pa np tn te st1 en1 nu (xs (4 * kx + 1)) (xs (4 * kx + 2)) (xs (4 * kx + 3)) nh nb ns) (hp := ⟨K, I, V⟩) (hb := B) (hR := ⟨Nat.le_of_ble_eq_true rfl, Nat.le_of_ble_eq_true rfl⟩) (hf := ⟨Nat.le_of_ble_eq_true rfl, Nat.le_of_ble_eq_true rfl⟩) (kk := fun r1 h1 q1 => ?_)
  have O1 : pO x (x + 740) h h1 := q1.2.2
  have M1 : MD (x + 740) w pa he te nu (nI np) (bI (false = true)) (nI tn) at_ st ki co h1 := M.off (fun q h3 h4 => O1 q (Or.inr h3))
  refine v_aload_n (pc := 301) X (hd := dL_law_301) (kk := ?_)
  refine v_aload_n (pc := 302) X (hd := dL_law_302) (kk := ?_)
  refine v_iload_n (pc := 303) X (hd := dL_law_303) (kk := ?_)
  refine v_iconst (pc := 304) X (v := nI 1) (hd := dL_law_304) (kk := ?_)
  refine v_iadd (pc := 305) X (hd := dL_law_305) (kk := ?_)
  refine v_xld (pc := 306) X hX hbl hL (4 * kx + 1) (hd := dL_law_306) (hi := nI_add _ _) (hj := by omega) (kk := ?_)
  refine v_aload_n (pc := 307) X (hd := dL_law_307) (kk := ?_)
  refine v_iload_n (pc := 308) X (hd := dL_law_308) (kk := ?_)
  refine v_iconst (pc := 309) X (v := nI 2) (hd := dL_law_309) (kk := ?_)
  refine v_iadd (pc := 310) X (hd := dL_law_310) (kk := ?_)
  refine v_xld (pc := 311) X hX hbl hL (4 * kx + 2) (hd := dL_law_311) (hi := nI_add _ _) (hj := by omega) (kk := ?_)
  refine v_aload_n (pc := 312) X (hd := dL_law_312) (kk := ?_)
  refine v_iload_n (pc := 313) X (hd := dL_law_313) (kk := ?_)
  refine v_iconst (pc := 314) X (v := nI 3) (hd := dL_law_314) (kk := ?_)
  refine v_iadd (pc := 315) X (hd := dL_law_315) (kk := ?_)
  refine v_xld (pc := 316) X hX hbl hL (4 * kx + 3) (hd := dL_law_316) (hi := nI_add _ _) (hj := by omega) (kk := ?_)
  refine v_callVi (pc := 317) X (hd := dL_law_317) (w := wv_L_35) (hC := c_X7_grant l E (x + 740) w pa he te nu np false (nI tn) at_ st ki co (xs (4 * kx + 1)) (xs (4 * kx + 2)) (xs (4 * kx + 3)) nh nb ns) (hp := ⟨M1, I.1, V⟩) (hb := M1.1) (hR := ⟨Nat.le_of_ble_eq_true rfl, Nat.le_of_ble_eq_true rfl⟩) (hf := ⟨Nat.le_of_ble_eq_true rfl, Nat.le_of_ble_eq_true rfl⟩) (kk := fun r2 h2 q2 => ?_)
  obtain ⟨e9, J⟩ := LI.act q1 M1 q2 I T (fun k9 => I.2.1.lo ⟨_, _, _, iGrant V k9⟩ (fun q hq => hiGrant V k9 q hq))
  refine v_icmpeq (pc := 320) X (tgt := 944) (hd := dL_law_320) (kt := fun _ => kk h2 J) (kf := fun c9 => absurd e9 c9)
set_option maxRecDepth 100000 in
set_option maxHeartbeats 4000000 in
theorem lc_5 {p : Program} {l : Launch} {e : Env} {s : State} {m : MethodId} {args : Array Value} {below : List Frame} {meth : Method} {c : Code} {E : pE} {Q : State → Prop} {z : Nat} {h : pH} {b x kx L0 : Nat} {xs : Nat → Int32} (X : pCx p s m args c cL_law 4 RL E (Al s)) (hX : va_X b L0 xs s s.heap) (hbl : b < s.heap.size) (hL : L0 ≤ 2048) (hk : 4 * kx + 4 ≤ L0) (I : LI x h) (kk : ∀ h9 : pH, LI x h9 → pV p l e room_1 s m args below meth c 4 E (Al s) Q z h9 746 7201 944 (LL b x kx) []) : pV p l e room_1 s m args below meth c 4 E (Al s) Q z h 746 7201 325 (LL b x kx) [] := by
  obtain ⟨w, pa, he, te, nu, np, tn, at_, st, ki, co, st1, en1, K, M, I, T⟩ := I
  obtain ⟨nh, nb, ns, V⟩ := I.2.1.1
  obtain ⟨a0, a1, B⟩ := K.ob
  refine v_aload_n (pc := 325) X (hd := dL_law_325) (kk := ?_)
  refine v_aload_n (pc := 326) X (hd := dL_law_326) (kk := ?_)
  refine v_iload_n (pc := 327) X (hd := dL_law_327) (kk := ?_)
  refine v_iconst (pc := 328) X (v := nI 1) (hd := dL_law_328) (kk := ?_)
  refine v_iadd (pc := 329) X (hd := dL_law_329) (kk := ?_)
  refine v_xld (pc := 330) X hX hbl hL (4 * kx + 1) (hd := dL_law_330) (hi := nI_add _ _) (hj := by omega) (kk := ?_)
  refine v_aload_n (pc := 331) X (hd := dL_law_331) (kk := ?_)
  refine v_iload_n (pc := 332) X (hd := dL_law_332) (kk := ?_)
  refine v_iconst (pc := 333) X (v := nI 2) (hd := dL_law_333) (kk := ?_)
  refine v_iadd (pc := 334) X (hd := dL_law_334) (kk := ?_)
  refine v_xld (pc := 335) X hX hbl hL (4 * kx + 2) (hd := dL_law_335) (hi := nI_add _ _) (hj := by omega) (kk := ?_)
  refine v_aload_n (pc := 336) X (hd := dL_law_336) (kk := ?_)
  refine v_iload_n (pc := 337) X (hd := dL_law_337) (kk := ?_)
  refine v_iconst (pc := 338) X (v := nI 3) (hd := dL_law_338) (kk := ?_)
  refine v_iadd (pc := 339) X (hd := dL_law_339) (kk := ?_)
  refine v_xld (pc := 340) X hX hbl hL (4 * kx + 3) (hd := dL_law_340) (hi := nI_add _ _) (hj := by omega) (kk := ?_)
  refine v_callVi (pc := 341) X (hd := dL_law_341) (w := wv_L_36) (hC := c_X6_cut l E x w pa np tn te st1 en1 nu (xs (4 * kx + 1)) (xs (4 * kx + 2)) (xs (4 * kx + 3)) nh nb ns) (hp := ⟨K, I, V⟩) (hb := B) (hR := ⟨Nat.le_of_ble_eq_true rfl, Nat.le_of_ble_eq_true rfl⟩) (hf := ⟨Nat.le_of_ble_eq_true rfl, Nat.le_of_ble_eq_true rfl⟩) (kk := fun r1 h1 q1 => ?_)
  have O1 : pO x (x + 740) h h1 := q1.2.2
  have M1 : MD (x + 740) w pa he te nu (nI np) (bI (false = true)) (nI tn) at_ st ki co h1 := M.off (fun q h3 h4 => O1 q (Or.inr h3))
  refine v_aload_n (pc := 344) X (hd := dL_law_344) (kk := ?_)
  refine v_aload_n (pc := 345) X (hd := dL_law_345) (kk := ?_)
  refine v_iload_n (pc := 346) X (hd := dL_law_346) (kk := ?_)
  refine v_iconst (pc := 347) X (v := nI 1) (hd := dL_law_347) (kk := ?_)
  refine v_iadd (pc := 348) X (hd := dL_law_348) (kk := ?_)
  refine v_xld (pc := 349) X hX hbl hL (4 * kx + 1) (hd := dL_law_349) (hi := nI_add _ _) (hj := by omega) (kk := ?_)
  refine v_aload_n (pc := 350) X (hd := dL_law_350) (kk := ?_)
  refine v_iload_n (pc := 351) X (hd := dL_law_351) (kk := ?_)
  refine v_iconst (pc := 352) X (v := nI 2) (hd := dL_law_352) (kk := ?_)
  refine v_iadd (pc := 353) X (hd := dL_law_353) (kk := ?_)
  refine v_xld (pc := 354) X hX hbl hL (4 * kx + 2) (hd := dL_law_354) (hi := nI_add _ _) (hj := by omega) (kk := ?_)
  refine v_aload_n (pc := 355) X (hd := dL_law_355) (kk := ?_)
  refine v_iload_n (pc := 356) X (hd := dL_law_356) (kk := ?_)
  refine v_iconst (pc := 357) X (v := nI 3) (hd := dL_law_357) (kk := ?_)
  refine v_iadd (pc := 358) X (hd := dL_law_358) (kk := ?_)
  refine v_xld (pc := 359) X hX hbl hL (4 * kx + 3) (hd := dL_law_359) (hi := nI_add _ _) (hj := by omega) (kk := ?_)
  refine v_callVi (pc := 360) X (hd := dL_law_360) (w := wv_L_39) (hC := c_X7_cut l E (x + 740) w pa he te nu np false (nI tn) at_ st ki co (xs (4 * kx + 1)) (xs (4 * kx + 2)) (xs (4 * kx + 3)) nh nb ns) (hp := ⟨M1, I.1, V⟩) (hb := M1.1) (hR := ⟨Nat.le_of_ble_eq_true rfl, Nat.le_of_ble_eq_true rfl⟩) (hf := ⟨Nat.le_of_ble_eq_true rfl, Nat.le_of_ble_eq_true rfl⟩) (kk := fun r2 h2 q2 => ?_)
  obtain ⟨e9, J⟩ := LI.act q1 M1 q2 I T (fun k9 => I.2.1.lo ⟨_, _, _, iCut V k9⟩ (fun q hq => hiCut V k9 q hq))
  refine v_icmpeq (pc := 363) X (tgt := 944) (hd := dL_law_363) (kt := fun _ => kk h2 J) (kf := fun c9 => absurd e9 c9)
set_option maxRecDepth 100000 in
set_option maxHeartbeats 4000000 in
theorem lc_6 {p : Program} {l : Launch} {e : Env} {s : State} {m : MethodId} {args : Array Value} {below : List Frame} {meth : Method} {c : Code} {E : pE} {Q : State → Prop} {z : Nat} {h : pH} {b x kx L0 : Nat} {xs : Nat → Int32} (X : pCx p s m args c cL_law 4 RL E (Al s)) (hX : va_X b L0 xs s s.heap) (hbl : b < s.heap.size) (hL : L0 ≤ 2048) (hk : 4 * kx + 4 ≤ L0) (I : LI x h) (kk : ∀ h9 : pH, LI x h9 → pV p l e room_1 s m args below meth c 4 E (Al s) Q z h9 746 7201 944 (LL b x kx) []) : pV p l e room_1 s m args below meth c 4 E (Al s) Q z h 746 7201 368 (LL b x kx) [] := by
  obtain ⟨w, pa, he, te, nu, np, tn, at_, st, ki, co, st1, en1, K, M, I, T⟩ := I
  obtain ⟨nh, nb, ns, V⟩ := I.2.1.1
  obtain ⟨a0, a1, B⟩ := K.ob
  refine v_aload_n (pc := 368) X (hd := dL_law_368) (kk := ?_)
  refine v_aload_n (pc := 369) X (hd := dL_law_369) (kk := ?_)
  refine v_iload_n (pc := 370) X (hd := dL_law_370) (kk := ?_)
  refine v_iconst (pc := 371) X (v := nI 1) (hd := dL_law_371) (kk := ?_)
  refine v_iadd (pc := 372) X (hd := dL_law_372) (kk := ?_)
  refine v_xld (pc := 373) X hX hbl hL (4 * kx + 1) (hd := dL_law_373) (hi := nI_add _ _) (hj := by omega) (kk := ?_)
  refine v_callVi (pc := 374) X (hd := dL_law_374) (w := wv_L_40) (hC := c_X6_turn l E x w pa np tn te st1 en1 nu (xs (4 * kx + 1)) nh nb ns) (hp := ⟨K, I, V⟩) (hb := B) (hR := ⟨Nat.le_of_ble_eq_true rfl, Nat.le_of_ble_eq_true rfl⟩) (hf := ⟨Nat.le_of_ble_eq_true rfl, Nat.le_of_ble_eq_true rfl⟩) (kk := fun r1 h1 q1 => ?_)
  have O1 : pO x (x + 740) h h1 := q1.2.2
  have M1 : MD (x + 740) w pa he te nu (nI np) (bI (false = true)) (nI tn) at_ st ki co h1 := M.off (fun q h3 h4 => O1 q (Or.inr h3))
  refine v_aload_n (pc := 377) X (hd := dL_law_377) (kk := ?_)
  refine v_aload_n (pc := 378) X (hd := dL_law_378) (kk := ?_)
  refine v_iload_n (pc := 379) X (hd := dL_law_379) (kk := ?_)
  refine v_iconst (pc := 380) X (v := nI 1) (hd := dL_law_380) (kk := ?_)
  refine v_iadd (pc := 381) X (hd := dL_law_381) (kk := ?_)
  refine v_xld (pc := 382) X hX hbl hL (4 * kx + 1) (hd := dL_law_382) (hi := nI_add _ _) (hj := by omega) (kk := ?_)
  refine v_callVi (pc := 383) X (hd := dL_law_383) (w := wv_L_43) (hC := c_X7_turn l E (x + 740) w pa he te nu np false (nI tn) at_ st ki co (xs (4 * kx + 1)) nh nb ns) (hp := ⟨M1, I.1, V⟩) (hb := M1.1) (hR := ⟨Nat.le_of_ble_eq_true rfl, Nat.le_of_ble_eq_true rfl⟩) (hf := ⟨Nat.le_of_ble_eq_true rfl, Nat.le_of_ble_eq_true rfl⟩) (kk := fun r2 h2 q2 => ?_)
  obtain ⟨e9, J⟩ := LI.act q1 M1 q2 I T (fun k9 => I.2.1.lo ⟨_, _, _, iTurn V k9⟩ (fun q hq => hiTurn V k9 q hq))
  refine v_icmpeq (pc := 386) X (tgt := 944) (hd := dL_law_386) (kt := fun _ => kk h2 J) (kf := fun c9 => absurd e9 c9)
set_option maxRecDepth 100000 in
set_option maxHeartbeats 4000000 in
theorem lc_7 {p : Program} {l : Launch} {e : Env} {s : State} {m : MethodId} {args : Array Value} {below : List Frame} {meth : Method} {c : Code} {E : pE} {Q : State → Prop} {z : Nat} {h : pH} {b x kx L0 : Nat} {xs : Nat → Int32} (X : pCx p s m args c cL_law 4 RL E (Al s)) (hX : va_X b L0 xs s s.heap) (hbl : b < s.heap.size) (hL : L0 ≤ 2048) (hk : 4 * kx + 4 ≤ L0) (I : LI x h) (kk : ∀ h9 : pH, LI x h9 → pV p l e room_1 s m args below meth c 4 E (Al s) Q z h9 746 7201 944 (LL b x kx) []) : pV p l e room_1 s m args below meth c 4 E (Al s) Q z h 746 7201 391 (LL b x kx) [] := by
  obtain ⟨w, pa, he, te, nu, np, tn, at_, st, ki, co, st1, en1, K, M, I, T⟩ := I
  obtain ⟨nh, nb, ns, V⟩ := I.2.1.1
  obtain ⟨a0, a1, B⟩ := K.ob
  refine v_aload_n (pc := 391) X (hd := dL_law_391) (kk := ?_)
  refine v_aload_n (pc := 392) X (hd := dL_law_392) (kk := ?_)
  refine v_iload_n (pc := 393) X (hd := dL_law_393) (kk := ?_)
  refine v_iconst (pc := 394) X (v := nI 1) (hd := dL_law_394) (kk := ?_)
  refine v_iadd (pc := 395) X (hd := dL_law_395) (kk := ?_)
  refine v_xld (pc := 396) X hX hbl hL (4 * kx + 1) (hd := dL_law_396) (hi := nI_add _ _) (hj := by omega) (kk := ?_)
  refine v_aload_n (pc := 397) X (hd := dL_law_397) (kk := ?_)
  refine v_iload_n (pc := 398) X (hd := dL_law_398) (kk := ?_)
  refine v_iconst (pc := 399) X (v := nI 2) (hd := dL_law_399) (kk := ?_)
  refine v_iadd (pc := 400) X (hd := dL_law_400) (kk := ?_)
  refine v_xld (pc := 401) X hX hbl hL (4 * kx + 2) (hd := dL_law_401) (hi := nI_add _ _) (hj := by omega) (kk := ?_)
  refine v_callVi (pc := 402) X (hd := dL_law_402) (w := wv_L_44) (hC := c_X6_join l E x w pa np tn te st1 en1 nu (xs (4 * kx + 1)) (xs (4 * kx + 2)) nh nb ns) (hp := ⟨K, I, V⟩) (hb := B) (hR := ⟨Nat.le_of_ble_eq_true rfl, Nat.le_of_ble_eq_true rfl⟩) (hf := ⟨Nat.le_of_ble_eq_true rfl, Nat.le_of_ble_eq_true rfl⟩) (kk := fun r1 h1 q1 => ?_)
  have O1 : pO x (x + 740) h h1 := q1.2.2
  have M1 : MD (x + 740) w pa he te nu (nI np) (bI (false = true)) (nI tn) at_ st ki co h1 := M.off (fun q h3 h4 => O1 q (Or.inr h3))
  refine v_aload_n (pc := 405) X (hd := dL_law_405) (kk := ?_)
  refine v_aload_n (pc := 406) X (hd := dL_law_406) (kk := ?_)
  refine v_iload_n (pc := 407) X (hd := dL_law_407) (kk := ?_)
  refine v_iconst (pc := 408) X (v := nI 1) (hd := dL_law_408) (kk := ?_)
  refine v_iadd (pc := 409) X (hd := dL_law_409) (kk := ?_)
  refine v_xld (pc := 410) X hX hbl hL (4 * kx + 1) (hd := dL_law_410) (hi := nI_add _ _) (hj := by omega) (kk := ?_)
  refine v_aload_n (pc := 411) X (hd := dL_law_411) (kk := ?_)
  refine v_iload_n (pc := 412) X (hd := dL_law_412) (kk := ?_)
  refine v_iconst (pc := 413) X (v := nI 2) (hd := dL_law_413) (kk := ?_)
  refine v_iadd (pc := 414) X (hd := dL_law_414) (kk := ?_)
  refine v_xld (pc := 415) X hX hbl hL (4 * kx + 2) (hd := dL_law_415) (hi := nI_add _ _) (hj := by omega) (kk := ?_)
  refine v_callVi (pc := 416) X (hd := dL_law_416) (w := wv_L_47) (hC := c_X7_join l E (x + 740) w pa he te nu np false (nI tn) at_ st ki co (xs (4 * kx + 1)) (xs (4 * kx + 2)) nh nb ns) (hp := ⟨M1, I.1, V⟩) (hb := M1.1) (hR := ⟨Nat.le_of_ble_eq_true rfl, Nat.le_of_ble_eq_true rfl⟩) (hf := ⟨Nat.le_of_ble_eq_true rfl, Nat.le_of_ble_eq_true rfl⟩) (kk := fun r2 h2 q2 => ?_)
  obtain ⟨e9, J⟩ := LI.act q1 M1 q2 I T (fun k9 => I.2.1.lo ⟨_, _, _, iJoin V k9⟩ (fun q hq => hiJoin V k9 q hq))
  refine v_icmpeq (pc := 419) X (tgt := 944) (hd := dL_law_419) (kt := fun _ => kk h2 J) (kf := fun c9 => absurd e9 c9)
set_option maxRecDepth 100000 in
set_option maxHeartbeats 4000000 in
theorem lc_8 {p : Program} {l : Launch} {e : Env} {s : State} {m : MethodId} {args : Array Value} {below : List Frame} {meth : Method} {c : Code} {E : pE} {Q : State → Prop} {z : Nat} {h : pH} {b x kx L0 : Nat} {xs : Nat → Int32} (X : pCx p s m args c cL_law 4 RL E (Al s)) (hX : va_X b L0 xs s s.heap) (hbl : b < s.heap.size) (hL : L0 ≤ 2048) (hk : 4 * kx + 4 ≤ L0) (I : LI x h) (kk : ∀ h9 : pH, LI x h9 → pV p l e room_1 s m args below meth c 4 E (Al s) Q z h9 746 7201 944 (LL b x kx) []) : pV p l e room_1 s m args below meth c 4 E (Al s) Q z h 746 7201 424 (LL b x kx) [] := by
  obtain ⟨w, pa, he, te, nu, np, tn, at_, st, ki, co, st1, en1, K, M, I, T⟩ := I
  obtain ⟨nh, nb, ns, V⟩ := I.2.1.1
  obtain ⟨a0, a1, B⟩ := K.ob
  refine v_aload_n (pc := 424) X (hd := dL_law_424) (kk := ?_)
  refine v_aload_n (pc := 425) X (hd := dL_law_425) (kk := ?_)
  refine v_iload_n (pc := 426) X (hd := dL_law_426) (kk := ?_)
  refine v_iconst (pc := 427) X (v := nI 1) (hd := dL_law_427) (kk := ?_)
  refine v_iadd (pc := 428) X (hd := dL_law_428) (kk := ?_)
  refine v_xld (pc := 429) X hX hbl hL (4 * kx + 1) (hd := dL_law_429) (hi := nI_add _ _) (hj := by omega) (kk := ?_)
  refine v_aload_n (pc := 430) X (hd := dL_law_430) (kk := ?_)
  refine v_iload_n (pc := 431) X (hd := dL_law_431) (kk := ?_)
  refine v_iconst (pc := 432) X (v := nI 2) (hd := dL_law_432) (kk := ?_)
  refine v_iadd (pc := 433) X (hd := dL_law_433) (kk := ?_)
  refine v_xld (pc := 434) X hX hbl hL (4 * kx + 2) (hd := dL_law_434) (hi := nI_add _ _) (hj := by omega) (kk := ?_)
  refine v_callVi (pc := 435) X (hd := dL_law_435) (w := wv_L_48) (hC := c_X6_cart l E x w pa np tn te st1 en1 nu (xs (4 * kx + 1)) (xs (4 * kx + 2)) nh nb ns) (hp := ⟨K, I, V⟩) (hb := B) (hR := ⟨Nat.le_of_ble_eq_true rfl, Nat.le_of_ble_eq_true rfl⟩) (hf := ⟨Nat.le_of_ble_eq_true rfl, Nat.le_of_ble_eq_true rfl⟩) (kk := fun r1 h1 q1 => ?_)
  have O1 : pO x (x + 740) h h1 := q1.2.2
  have M1 : MD (x + 740) w pa he te nu (nI np) (bI (false = true)) (nI tn) at_ st ki co h1 := M.off (fun q h3 h4 => O1 q (Or.inr h3))
  refine v_aload_n (pc := 438) X (hd := dL_law_438) (kk := ?_)
  refine v_aload_n (pc := 439) X (hd := dL_law_439) (kk := ?_)
  refine v_iload_n (pc := 440) X (hd := dL_law_440) (kk := ?_)
  refine v_iconst (pc := 441) X (v := nI 1) (hd := dL_law_441) (kk := ?_)
  refine v_iadd (pc := 442) X (hd := dL_law_442) (kk := ?_)
  refine v_xld (pc := 443) X hX hbl hL (4 * kx + 1) (hd := dL_law_443) (hi := nI_add _ _) (hj := by omega) (kk := ?_)
  refine v_aload_n (pc := 444) X (hd := dL_law_444) (kk := ?_)
  refine v_iload_n (pc := 445) X (hd := dL_law_445) (kk := ?_)
  refine v_iconst (pc := 446) X (v := nI 2) (hd := dL_law_446) (kk := ?_)
  refine v_iadd (pc := 447) X (hd := dL_law_447) (kk := ?_)
  refine v_xld (pc := 448) X hX hbl hL (4 * kx + 2) (hd := dL_law_448) (hi := nI_add _ _) (hj := by omega) (kk := ?_)
  refine v_callVi (pc := 449) X (hd := dL_law_449) (w := wv_L_51) (hC := c_X7_cart l E (x + 740) w pa he te nu np false (nI tn) at_ st ki co (xs (4 * kx + 1)) (xs (4 * kx + 2)) nh nb ns) (hp := ⟨M1, I.1, V⟩) (hb := M1.1) (hR := ⟨Nat.le_of_ble_eq_true rfl, Nat.le_of_ble_eq_true rfl⟩) (hf := ⟨Nat.le_of_ble_eq_true rfl, Nat.le_of_ble_eq_true rfl⟩) (kk := fun r2 h2 q2 => ?_)
  obtain ⟨e9, J⟩ := LI.act q1 M1 q2 I T (fun k9 => I.2.1.lo ((iCart V k9).elim fun n1 i1 => ⟨_, _, _, i1⟩) (fun q hq => hiCart V k9 q hq))
  refine v_icmpeq (pc := 452) X (tgt := 944) (hd := dL_law_452) (kt := fun _ => kk h2 J) (kf := fun c9 => absurd e9 c9)
set_option maxRecDepth 100000 in
set_option maxHeartbeats 4000000 in
theorem lc_9 {p : Program} {l : Launch} {e : Env} {s : State} {m : MethodId} {args : Array Value} {below : List Frame} {meth : Method} {c : Code} {E : pE} {Q : State → Prop} {z : Nat} {h : pH} {b x kx L0 : Nat} {xs : Nat → Int32} (X : pCx p s m args c cL_law 4 RL E (Al s)) (hX : va_X b L0 xs s s.heap) (hbl : b < s.heap.size) (hL : L0 ≤ 2048) (hk : 4 * kx + 4 ≤ L0) (I : LI x h) (kk : ∀ h9 : pH, LI x h9 → pV p l e room_1 s m args below meth c 4 E (Al s) Q z h9 746 7201 944 (LL b x kx) []) : pV p l e room_1 s m args below meth c 4 E (Al s) Q z h 746 7201 457 (LL b x kx) [] := by
  obtain ⟨w, pa, he, te, nu, np, tn, at_, st, ki, co, st1, en1, K, M, I, T⟩ := I
  obtain ⟨nh, nb, ns, V⟩ := I.2.1.1
  obtain ⟨a0, a1, B⟩ := K.ob
  refine v_aload_n (pc := 457) X (hd := dL_law_457) (kk := ?_)
  refine v_aload_n (pc := 458) X (hd := dL_law_458) (kk := ?_)
  refine v_iload_n (pc := 459) X (hd := dL_law_459) (kk := ?_)
  refine v_iconst (pc := 460) X (v := nI 1) (hd := dL_law_460) (kk := ?_)
  refine v_iadd (pc := 461) X (hd := dL_law_461) (kk := ?_)
  refine v_xld (pc := 462) X hX hbl hL (4 * kx + 1) (hd := dL_law_462) (hi := nI_add _ _) (hj := by omega) (kk := ?_)
  refine v_callVi (pc := 463) X (hd := dL_law_463) (w := wv_L_52) (hC := c_X6_repair l E x w pa np tn te st1 en1 nu (xs (4 * kx + 1)) nh nb ns) (hp := ⟨K, I, V⟩) (hb := B) (hR := ⟨Nat.le_of_ble_eq_true rfl, Nat.le_of_ble_eq_true rfl⟩) (hf := ⟨Nat.le_of_ble_eq_true rfl, Nat.le_of_ble_eq_true rfl⟩) (kk := fun r1 h1 q1 => ?_)
  have O1 : pO x (x + 740) h h1 := q1.2.2
  have M1 : MD (x + 740) w pa he te nu (nI np) (bI (false = true)) (nI tn) at_ st ki co h1 := M.off (fun q h3 h4 => O1 q (Or.inr h3))
  refine v_aload_n (pc := 466) X (hd := dL_law_466) (kk := ?_)
  refine v_aload_n (pc := 467) X (hd := dL_law_467) (kk := ?_)
  refine v_iload_n (pc := 468) X (hd := dL_law_468) (kk := ?_)
  refine v_iconst (pc := 469) X (v := nI 1) (hd := dL_law_469) (kk := ?_)
  refine v_iadd (pc := 470) X (hd := dL_law_470) (kk := ?_)
  refine v_xld (pc := 471) X hX hbl hL (4 * kx + 1) (hd := dL_law_471) (hi := nI_add _ _) (hj := by omega) (kk := ?_)
  refine v_callVi (pc := 472) X (hd := dL_law_472) (w := wv_L_55) (hC := c_X7_repair l E (x + 740) w pa he te nu np false (nI tn) at_ st ki co (xs (4 * kx + 1)) nh nb ns) (hp := ⟨M1, I.1, V⟩) (hb := M1.1) (hR := ⟨Nat.le_of_ble_eq_true rfl, Nat.le_of_ble_eq_true rfl⟩) (hf := ⟨Nat.le_of_ble_eq_true rfl, Nat.le_of_ble_eq_true rfl⟩) (kk := fun r2 h2 q2 => ?_)
  obtain ⟨e9, J⟩ := LI.act q1 M1 q2 I T (fun k9 => I.2.1.lo ⟨_, _, _, iRep V k9⟩ (fun q hq => hiRep V k9 q hq))
  refine v_icmpeq (pc := 475) X (tgt := 944) (hd := dL_law_475) (kt := fun _ => kk h2 J) (kf := fun c9 => absurd e9 c9)
set_option maxRecDepth 100000 in
set_option maxHeartbeats 4000000 in
theorem lc_10 {p : Program} {l : Launch} {e : Env} {s : State} {m : MethodId} {args : Array Value} {below : List Frame} {meth : Method} {c : Code} {E : pE} {Q : State → Prop} {z : Nat} {h : pH} {b x kx L0 : Nat} {xs : Nat → Int32} (X : pCx p s m args c cL_law 4 RL E (Al s)) (hX : va_X b L0 xs s s.heap) (hbl : b < s.heap.size) (hL : L0 ≤ 2048) (hk : 4 * kx + 4 ≤ L0) (I : LI x h) (kk : ∀ h9 : pH, LI x h9 → pV p l e room_1 s m args below meth c 4 E (Al s) Q z h9 746 7201 944 (LL b x kx) []) : pV p l e room_1 s m args below meth c 4 E (Al s) Q z h 746 7201 480 (LL b x kx) [] := by
  obtain ⟨w, pa, he, te, nu, np, tn, at_, st, ki, co, st1, en1, K, M, I, T⟩ := I
  obtain ⟨nh, nb, ns, V⟩ := I.2.1.1
  obtain ⟨a0, a1, B⟩ := K.ob
  refine v_aload_n (pc := 480) X (hd := dL_law_480) (kk := ?_)
  refine v_aload_n (pc := 481) X (hd := dL_law_481) (kk := ?_)
  refine v_iload_n (pc := 482) X (hd := dL_law_482) (kk := ?_)
  refine v_iconst (pc := 483) X (v := nI 1) (hd := dL_law_483) (kk := ?_)
  refine v_iadd (pc := 484) X (hd := dL_law_484) (kk := ?_)
  refine v_xld (pc := 485) X hX hbl hL (4 * kx + 1) (hd := dL_law_485) (hi := nI_add _ _) (hj := by omega) (kk := ?_)
  refine v_aload_n (pc := 486) X (hd := dL_law_486) (kk := ?_)
  refine v_iload_n (pc := 487) X (hd := dL_law_487) (kk := ?_)
  refine v_iconst (pc := 488) X (v := nI 2) (hd := dL_law_488) (kk := ?_)
  refine v_iadd (pc := 489) X (hd := dL_law_489) (kk := ?_)
  refine v_xld (pc := 490) X hX hbl hL (4 * kx + 2) (hd := dL_law_490) (hi := nI_add _ _) (hj := by omega) (kk := ?_)
  refine v_callVi (pc := 491) X (hd := dL_law_491) (w := wv_L_56) (hC := c_X6_day l E x w pa np tn te st1 en1 nu (xs (4 * kx + 1)) (xs (4 * kx + 2)) nh nb ns) (hp := ⟨K, I, V⟩) (hb := B) (hR := ⟨Nat.le_of_ble_eq_true rfl, Nat.le_of_ble_eq_true rfl⟩) (hf := ⟨Nat.le_of_ble_eq_true rfl, Nat.le_of_ble_eq_true rfl⟩) (kk := fun r1 h1 q1 => ?_)
  have O1 : pO x (x + 740) h h1 := q1.2.2
  have M1 : MD (x + 740) w pa he te nu (nI np) (bI (false = true)) (nI tn) at_ st ki co h1 := M.off (fun q h3 h4 => O1 q (Or.inr h3))
  refine v_aload_n (pc := 494) X (hd := dL_law_494) (kk := ?_)
  refine v_aload_n (pc := 495) X (hd := dL_law_495) (kk := ?_)
  refine v_iload_n (pc := 496) X (hd := dL_law_496) (kk := ?_)
  refine v_iconst (pc := 497) X (v := nI 1) (hd := dL_law_497) (kk := ?_)
  refine v_iadd (pc := 498) X (hd := dL_law_498) (kk := ?_)
  refine v_xld (pc := 499) X hX hbl hL (4 * kx + 1) (hd := dL_law_499) (hi := nI_add _ _) (hj := by omega) (kk := ?_)
  refine v_aload_n (pc := 500) X (hd := dL_law_500) (kk := ?_)
  refine v_iload_n (pc := 501) X (hd := dL_law_501) (kk := ?_)
  refine v_iconst (pc := 502) X (v := nI 2) (hd := dL_law_502) (kk := ?_)
  refine v_iadd (pc := 503) X (hd := dL_law_503) (kk := ?_)
  refine v_xld (pc := 504) X hX hbl hL (4 * kx + 2) (hd := dL_law_504) (hi := nI_add _ _) (hj := by omega) (kk := ?_)
  refine v_callVi (pc := 505) X (hd := dL_law_505) (w := wv_L_59) (hC := c_X7_day l E (x + 740) w pa he te nu np false (nI tn) at_ st ki co (xs (4 * kx + 1)) (xs (4 * kx + 2)) nh nb ns) (hp := ⟨M1, I.1, V⟩) (hb := M1.1) (hR := ⟨Nat.le_of_ble_eq_true rfl, Nat.le_of_ble_eq_true rfl⟩) (hf := ⟨Nat.le_of_ble_eq_true rfl, Nat.le_of_ble_eq_true rfl⟩) (kk := fun r2 h2 q2 => ?_)
  obtain ⟨e9, J⟩ := LI.act q1 M1 q2 I T (fun k9 => I.2.1.lo ⟨_, _, _, iDay V k9⟩ (fun q hq => hiDay V q hq))
  refine v_icmpeq (pc := 508) X (tgt := 944) (hd := dL_law_508) (kt := fun _ => kk h2 J) (kf := fun c9 => absurd e9 c9)
set_option maxRecDepth 100000 in
set_option maxHeartbeats 4000000 in
theorem lc_11 {p : Program} {l : Launch} {e : Env} {s : State} {m : MethodId} {args : Array Value} {below : List Frame} {meth : Method} {c : Code} {E : pE} {Q : State → Prop} {z : Nat} {h : pH} {b x kx L0 : Nat} {xs : Nat → Int32} (X : pCx p s m args c cL_law 4 RL E (Al s)) (hX : va_X b L0 xs s s.heap) (hbl : b < s.heap.size) (hL : L0 ≤ 2048) (hk : 4 * kx + 4 ≤ L0) (I : LI x h) (kk : ∀ h9 : pH, LI x h9 → pV p l e room_1 s m args below meth c 4 E (Al s) Q z h9 746 7201 944 (LL b x kx) []) : pV p l e room_1 s m args below meth c 4 E (Al s) Q z h 746 7201 513 (LL b x kx) [] := by
  obtain ⟨w, pa, he, te, nu, np, tn, at_, st, ki, co, st1, en1, K, M, I, T⟩ := I
  obtain ⟨nh, nb, ns, V⟩ := I.2.1.1
  obtain ⟨a0, a1, B⟩ := K.ob
  refine v_aload_n (pc := 513) X (hd := dL_law_513) (kk := ?_)
  refine v_callVi (pc := 514) X (hd := dL_law_514) (w := wv_L_60) (hC := c_X6_endYear l E x w pa np tn te st1 en1 nu nh nb ns) (hp := ⟨K, I, V⟩) (hb := B) (hR := ⟨Nat.le_of_ble_eq_true rfl, Nat.le_of_ble_eq_true rfl⟩) (hf := ⟨Nat.le_of_ble_eq_true rfl, Nat.le_of_ble_eq_true rfl⟩) (kk := fun r1 h1 q1 => ?_)
  have O1 : pO x (x + 740) h h1 := q1.2.2
  have M1 : MD (x + 740) w pa he te nu (nI np) (bI (false = true)) (nI tn) at_ st ki co h1 := M.off (fun q h3 h4 => O1 q (Or.inr h3))
  refine v_aload_n (pc := 517) X (hd := dL_law_517) (kk := ?_)
  refine v_callVi (pc := 518) X (hd := dL_law_518) (w := wv_L_64) (hC := c_X7_endYear l E (x + 740) w pa he te nu np false (nI tn) at_ st ki co nh nb ns) (hp := ⟨M1, I.1, V⟩) (hb := M1.1) (hR := ⟨Nat.le_of_ble_eq_true rfl, Nat.le_of_ble_eq_true rfl⟩) (hf := ⟨Nat.le_of_ble_eq_true rfl, Nat.le_of_ble_eq_true rfl⟩) (kk := fun r2 h2 q2 => ?_)
  obtain ⟨e9, J⟩ := LI.act q1 M1 q2 I T (fun k9 => I.2.1.lo ⟨_, _, _, iEnd V k9⟩ (fun q hq => hiEnd V q hq))
  refine v_icmpeq (pc := 521) X (tgt := 944) (hd := dL_law_521) (kt := fun _ => kk h2 J) (kf := fun c9 => absurd e9 c9)
set_option maxRecDepth 100000 in
set_option maxHeartbeats 4000000 in
theorem lc_12 {p : Program} {l : Launch} {e : Env} {s : State} {m : MethodId} {args : Array Value} {below : List Frame} {meth : Method} {c : Code} {E : pE} {Q : State → Prop} {z : Nat} {h : pH} {b x kx L0 : Nat} {xs : Nat → Int32} (X : pCx p s m args c cL_law 4 RL E (Al s)) (hX : va_X b L0 xs s s.heap) (hbl : b < s.heap.size) (hL : L0 ≤ 2048) (hk : 4 * kx + 4 ≤ L0) (I : LI x h) (kk : ∀ h9 : pH, LI x h9 → pV p l e room_1 s m args below meth c 4 E (Al s) Q z h9 746 7201 944 (LL b x kx) []) : pV p l e room_1 s m args below meth c 4 E (Al s) Q z h 746 7201 526 (LL b x kx) [] := by
  obtain ⟨w, pa, he, te, nu, np, tn, at_, st, ki, co, st1, en1, K, M, I, T⟩ := I
  obtain ⟨nh, nb, ns, V⟩ := I.2.1.1
  obtain ⟨a0, a1, B⟩ := K.ob
  refine v_aload_n (pc := 526) X (hd := dL_law_526) (kk := ?_)
  refine v_aload_n (pc := 527) X (hd := dL_law_527) (kk := ?_)
  refine v_iload_n (pc := 528) X (hd := dL_law_528) (kk := ?_)
  refine v_iconst (pc := 529) X (v := nI 1) (hd := dL_law_529) (kk := ?_)
  refine v_iadd (pc := 530) X (hd := dL_law_530) (kk := ?_)
  refine v_xld (pc := 531) X hX hbl hL (4 * kx + 1) (hd := dL_law_531) (hi := nI_add _ _) (hj := by omega) (kk := ?_)
  refine v_callVi (pc := 532) X (hd := dL_law_532) (w := wv_L_65) (hC := c_X6_take l E x w pa np tn te st1 en1 nu (xs (4 * kx + 1))) (hp := ⟨K, I⟩) (hb := B) (hR := ⟨Nat.le_of_ble_eq_true rfl, Nat.le_of_ble_eq_true rfl⟩) (hf := ⟨Nat.le_of_ble_eq_true rfl, Nat.le_of_ble_eq_true rfl⟩) (kk := fun r1 h1 q1 => ?_)
  have O1 : pO x (x + 740) h h1 := q1.2.2
  have M1 : MD (x + 740) w pa he te nu (nI np) (bI (false = true)) (nI tn) at_ st ki co h1 := M.off (fun q h3 h4 => O1 q (Or.inr h3))
  refine v_aload_n (pc := 535) X (hd := dL_law_535) (kk := ?_)
  refine v_aload_n (pc := 536) X (hd := dL_law_536) (kk := ?_)
  refine v_iload_n (pc := 537) X (hd := dL_law_537) (kk := ?_)
  refine v_iconst (pc := 538) X (v := nI 1) (hd := dL_law_538) (kk := ?_)
  refine v_iadd (pc := 539) X (hd := dL_law_539) (kk := ?_)
  refine v_xld (pc := 540) X hX hbl hL (4 * kx + 1) (hd := dL_law_540) (hi := nI_add _ _) (hj := by omega) (kk := ?_)
  refine v_callVi (pc := 541) X (hd := dL_law_541) (w := wv_L_68) (hC := c_X7_take l E (x + 740) w pa he te nu np false (nI tn) at_ st ki co (xs (4 * kx + 1)) nh nb ns) (hp := ⟨M1, I.1, V⟩) (hb := M1.1) (hR := ⟨Nat.le_of_ble_eq_true rfl, Nat.le_of_ble_eq_true rfl⟩) (hf := ⟨Nat.le_of_ble_eq_true rfl, Nat.le_of_ble_eq_true rfl⟩) (kk := fun r2 h2 q2 => ?_)
  obtain ⟨e9, J⟩ := LI.act q1 M1 q2 I T (fun k9 => siTake I.2.1 k9)
  refine v_icmpeq (pc := 544) X (tgt := 944) (hd := dL_law_544) (kt := fun _ => kk h2 J) (kf := fun c9 => absurd e9 c9)
set_option maxRecDepth 100000 in
set_option maxHeartbeats 4000000 in
theorem lc_13 {p : Program} {l : Launch} {e : Env} {s : State} {m : MethodId} {args : Array Value} {below : List Frame} {meth : Method} {c : Code} {E : pE} {Q : State → Prop} {z : Nat} {h : pH} {b x kx L0 : Nat} {xs : Nat → Int32} (X : pCx p s m args c cL_law 4 RL E (Al s)) (hX : va_X b L0 xs s s.heap) (hbl : b < s.heap.size) (hL : L0 ≤ 2048) (hk : 4 * kx + 4 ≤ L0) (I : LI x h) (kk : ∀ h9 : pH, LI x h9 → pV p l e room_1 s m args below meth c 4 E (Al s) Q z h9 746 7201 944 (LL b x kx) []) : pV p l e room_1 s m args below meth c 4 E (Al s) Q z h 746 7201 549 (LL b x kx) [] := by
  obtain ⟨w, pa, he, te, nu, np, tn, at_, st, ki, co, st1, en1, K, M, I, T⟩ := I
  obtain ⟨nh, nb, ns, V⟩ := I.2.1.1
  obtain ⟨a0, a1, B⟩ := K.ob
  refine v_aload_n (pc := 549) X (hd := dL_law_549) (kk := ?_)
  refine v_aload_n (pc := 550) X (hd := dL_law_550) (kk := ?_)
  refine v_iload_n (pc := 551) X (hd := dL_law_551) (kk := ?_)
  refine v_iconst (pc := 552) X (v := nI 1) (hd := dL_law_552) (kk := ?_)
  refine v_iadd (pc := 553) X (hd := dL_law_553) (kk := ?_)
  refine v_xld (pc := 554) X hX hbl hL (4 * kx + 1) (hd := dL_law_554) (hi := nI_add _ _) (hj := by omega) (kk := ?_)
  refine v_callVi (pc := 555) X (hd := dL_law_555) (w := wv_L_69) (hC := c_X6_restore l E x w pa np tn te st1 en1 nu (xs (4 * kx + 1))) (hp := ⟨K, I⟩) (hb := B) (hR := ⟨Nat.le_of_ble_eq_true rfl, Nat.le_of_ble_eq_true rfl⟩) (hf := ⟨Nat.le_of_ble_eq_true rfl, Nat.le_of_ble_eq_true rfl⟩) (kk := fun r1 h1 q1 => ?_)
  have O1 : pO x (x + 740) h h1 := q1.2.2
  have M1 : MD (x + 740) w pa he te nu (nI np) (bI (false = true)) (nI tn) at_ st ki co h1 := M.off (fun q h3 h4 => O1 q (Or.inr h3))
  refine v_aload_n (pc := 558) X (hd := dL_law_558) (kk := ?_)
  refine v_aload_n (pc := 559) X (hd := dL_law_559) (kk := ?_)
  refine v_iload_n (pc := 560) X (hd := dL_law_560) (kk := ?_)
  refine v_iconst (pc := 561) X (v := nI 1) (hd := dL_law_561) (kk := ?_)
  refine v_iadd (pc := 562) X (hd := dL_law_562) (kk := ?_)
  refine v_xld (pc := 563) X hX hbl hL (4 * kx + 1) (hd := dL_law_563) (hi := nI_add _ _) (hj := by omega) (kk := ?_)
  refine v_callVi (pc := 564) X (hd := dL_law_564) (w := wv_L_72) (hC := c_X7_restore l E (x + 740) w pa he te nu np false (nI tn) at_ st ki co (xs (4 * kx + 1)) nh nb ns) (hp := ⟨M1, I.1, V⟩) (hb := M1.1) (hR := ⟨Nat.le_of_ble_eq_true rfl, Nat.le_of_ble_eq_true rfl⟩) (hf := ⟨Nat.le_of_ble_eq_true rfl, Nat.le_of_ble_eq_true rfl⟩) (kk := fun r2 h2 q2 => ?_)
  obtain ⟨e9, J⟩ := LI.act q1 M1 q2 I T (fun k9 => siRes I.2.1 k9 K.tb)
  refine v_icmpeq (pc := 567) X (tgt := 944) (hd := dL_law_567) (kt := fun _ => kk h2 J) (kf := fun c9 => absurd e9 c9)
