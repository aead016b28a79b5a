/-! stacked: a stack is turned, put onto another one, carted -/
theorem LV.fin {x y n nh nb ns : Nat} {w v : Nat → Int32} {h : pH} (B : LB x y w v h) (hv : ∀ q, v q = w q) (I : Iv w nh nb ns) (W : W2 w nh ns) (Y : isN (w 0) 0 n) : LV x y n h := ⟨w, nh, nb, ns, ⟨B.1, B.2.1.cg (fun q _ => (hv q).symm), B.2.2⟩, I, W, Y⟩
theorem gI_in {a lo hi : Nat} (h1 : lo ≤ a) (h2 : a ≤ hi) (h3 : hi < 2 ^ 31) : gI (nI a) (nI lo) (nI hi) := ⟨(nI_leI (by omega) (by omega)).mpr h1, (nI_leI (by omega) (by omega)).mpr h2⟩
theorem nI_n3 : ¬ nI 100000 < nI 3 := by decide +kernel
theorem cd0 {S A : Nat} (hA : 0 < A) (h : S % A = 0) : S / A + 0 = (S + A - 1) / A := by
  obtain ⟨q, rfl⟩ := Nat.dvd_of_mod_eq_zero h
  rw [Nat.mul_div_cancel_left q hA, show A * q + A - 1 = (A - 1) + A * q by omega, Nat.add_mul_div_left _ _ hA, Nat.div_eq_of_lt (by omega)]
  omega
theorem cd1 {S A : Nat} (hA : 0 < A) (h : 0 < S % A) : S / A + 1 = (S + A - 1) / A := by
  have h2 := Nat.div_add_mod S A
  have h3 := Nat.mod_lt S hA
  generalize S / A = q at *
  generalize S % A = r at *
  rw [← h2, show A * q + r + A - 1 = (r - 1) + A * (q + 1) by rw [Nat.mul_add]; omega, Nat.add_mul_div_left _ _ hA, Nat.div_eq_of_lt (by omega)]
  omega
section STE
variable {w v1 v2 v3 v4 v5 : Nat → Int32} {nh nb ns k o bb ts we tn : Nat}
theorem eq_turn (u4 : w (76 + 5 * k + 4) = nI tn) (hk : k < 12) (e1 : ∀ q, v1 q = if q = 76 + (5 * k + 4) then nI tn + nI 1 else w q) (q : Nat) : v1 q = gTurn w (nI k) q := by
  unfold gTurn
  rw [nx_nI (show k < 2 ^ 31 by omega), e1, u4]
  rfl
theorem jo_at {to ts2 we2 : Nat} (hne : k ≠ to) (u2 : w (76 + 5 * k + 2) = nI ts) (u3 : w (76 + 5 * k + 3) = nI we) (y2 : w (76 + 5 * to + 2) = nI ts2) (y3 : w (76 + 5 * to + 3) = nI we2) (h1 : 1 ≤ ts) (hT : ts + ts2 ≤ 1080024) (h3 : we ≤ 100000) (h4 : we2 ≤ 100000) : ((((w (76 + 5 * k + 3)).toInt64 * (w (76 + 5 * k + 2)).toInt64 + (w (76 + 5 * to + 3)).toInt64 * (w (76 + 5 * to + 2)).toInt64 + (w (76 + 5 * k + 2) + w (76 + 5 * to + 2)).toInt64 - lN 1) / (w (76 + 5 * k + 2) + w (76 + 5 * to + 2)).toInt64).toInt32) = nI ((ts * we + ts2 * we2 + (ts + ts2) - 1) / (ts + ts2)) := by
  have q1 : we * ts ≤ 100000 * ts := Nat.mul_le_mul_right _ h3
  have q2 : we2 * ts2 ≤ 100000 * ts2 := Nat.mul_le_mul_right _ h4
  rw [u2, u3, y2, y3, nI_add, nI_l (by omega), nI_l (by omega), nI_l (by omega), nI_l (by omega), nI_l (by omega), lN_mul, lN_mul, lN_add, lN_add, lN_sub (by omega), pk_lDiv (by omega) (by omega) (by omega), lN_i, Nat.mul_comm ts we, Nat.mul_comm ts2 we2]
theorem eq_join {to ts2 we2 tn2 : Nat} (hk : k < 12) (hto : to < 12) (hne : k ≠ to) (u2 : w (76 + 5 * k + 2) = nI ts) (u3 : w (76 + 5 * k + 3) = nI we) (u4 : w (76 + 5 * k + 4) = nI tn) (y2 : w (76 + 5 * to + 2) = nI ts2) (y3 : w (76 + 5 * to + 3) = nI we2) (y4 : w (76 + 5 * to + 4) = nI tn2) (h1 : 1 ≤ ts) (hT : ts + ts2 ≤ 1080024) (h3 : we ≤ 100000) (h4 : we2 ≤ 100000) {x : Int32} (hx : x = if nI tn < nI tn2 then nI tn else nI tn2)
    (e1 : ∀ q, v1 q = if q = 76 + (5 * to + 2) then nI (ts + ts2) else w q) (e2 : ∀ q, v2 q = if q = 76 + (5 * to + 3) then nI ((ts * we + ts2 * we2 + (ts + ts2) - 1) / (ts + ts2)) else v1 q) (e3 : ∀ q, v3 q = if q = 76 + (5 * to + 4) then x else v2 q) (q : Nat) : gGo v3 k ns q = gJoin w (nI k) (nI to) ns q := by
  unfold gJoin
  rw [nx_nI (show k < 2 ^ 31 by omega), nx_nI (show to < 2 ^ 31 by omega)]
  refine congrFun (congrArg (fun f => gGo f k ns) ?_) q
  funext q
  unfold joC
  have j1 : ∀ q, q ≠ 76 + 5 * to + 2 → q ≠ 76 + 5 * to + 3 → joB w k to q = w q := fun q a1 a2 => by unfold joB; rw [pk_un a2, pk_un a1]
  rw [upd_at, j1 (76 + 5 * k + 4) (by omega) (by omega), j1 (76 + 5 * to + 4) (by omega) (by omega), u4, y4, ← hx, e3]
  by_cases c4 : q = 76 + 5 * to + 4
  · rw [if_pos (by omega), if_pos c4]
  · rw [if_neg (by omega), if_neg c4, e2]
    unfold joB
    rw [jo_at hne u2 u3 y2 y3 h1 hT h3 h4, u2, y2, nI_add, upd_at, upd_at]
    by_cases c3 : q = 76 + 5 * to + 3
    · rw [if_pos (by omega), if_pos c3]
    · rw [if_neg (by omega), if_neg c3, e1]
      rfl
theorem eq_caD {L T d : Nat} (hk : k < 12) (ho : o < 6) (hb : bb < 4) (hd : d = 1 ∨ d = 2) (u2 : w (76 + 5 * k + 2) = nI ts)
    (e1 : ∀ q, v1 q = if q = 24 + (7 * bb + 2) then w (24 + 7 * bb + 2) + fWear (nI L) else w q) (e2 : ∀ q, v2 q = if q = 24 + (7 * bb + 5) then w (24 + 7 * bb + 5) + nI T else v1 q) (e3 : ∀ q, v3 q = if q = 6 + (3 * o + d) then w (6 + 3 * o + d) + nI T else v2 q) (e4 : ∀ q, v4 q = if q = 76 + (5 * k + 2) then nI ts - nI T else v3 q) : v4 = caD w k bb o (nI L) (nI T) d := by
  funext q
  rw [caD_e hb ho hd, e4]
  by_cases c4 : q = 76 + 5 * k + 2
  · rw [if_pos (by omega), if_pos c4, u2]
  · rw [if_neg (by omega), if_neg c4, e3]
    by_cases c3 : q = 6 + 3 * o + d
    · rw [if_pos (by omega), if_pos c3]
    · rw [if_neg (by omega), if_neg c3, e2]
      by_cases c2 : q = 24 + 7 * bb + 5
      · rw [if_pos (by omega), if_pos c2]
      · rw [if_neg (by omega), if_neg c2, e1]
        by_cases c1 : q = 24 + 7 * bb + 2
        · rw [if_pos (by omega), if_pos c1]
        · rw [if_neg (by omega), if_neg c1]
theorem eq_hCart {L T d : Nat} (hk : k < 12) (ho : o < 6) (hb : bb < 4) (u0 : w (76 + 5 * k + 0) = nI o) (u1 : w (76 + 5 * k + 1) = nI bb) (u3 : w (76 + 5 * k + 3) = nI we) (eL : fLoad (nI we) (nI T) = nI L) (hd : d = if nI we ≤ nI 30000 then 1 else 2) : hCart w (nI k) (nI T) ns = if caD w k bb o (nI L) (nI T) d (76 + 5 * k + 2) = 0 then gGo (caD w k bb o (nI L) (nI T) d) k ns else caD w k bb o (nI L) (nI T) d := by
  unfold hCart
  rw [nx_nI (show k < 2 ^ 31 by omega), u0, u1, nx_nI (show o < 2 ^ 31 by omega), nx_nI (show bb < 2 ^ 31 by omega)]
  unfold gCart
  have h1 : ∀ L : Int32, caB w bb L (nI T) (76 + 5 * k + 3) = nI we := fun L => by unfold caB; rw [pk_un (by omega), pk_un (by omega), u3]
  rw [u3, eL, h1, hd]
theorem caD_0 {L T d : Nat} (hk : k < 12) (ho : o < 6) (hb : bb < 4) (hd : d = 1 ∨ d = 2) : caD w k bb o (nI L) (nI T) d 0 = w 0 := by
  rw [caD_e hb ho hd, if_neg (by omega), if_neg (by omega), if_neg (by omega), if_neg (by omega)]
end STE
section PVK
variable {p : Program} {l : Launch} {e : Env} {R : Room} {s : State} {m : MethodId} {args : Array Value} {below : List Frame} {meth : Method} {c : Code} {cc : ByteArray} {nL : Nat} {own : String} {E : pE} {A : Nat → Prop} {Q : State → Prop} {z : Nat} {h : pH} {k n : Nat} {pc : Nat} {L : List (Option Value)} {st st0 : List Value}
variable {y : MethodName} {cy : ByteArray} {ny N idx : Nat} {rm : Room} {As : List Value} {pre : pH → Nat → Prop}
theorem v_callSv (X : pCx p s m args c cc nL own E A) {P : pH → pH → Prop} (hd : decode cc pc = .ok (.invokestatic idx, 3)) (w : pWS own idx y cy ny none N) (hC : pC l E y cy ny none rm 0 0 As pre (pFv P)) (hp : pre h z) (kk : ∀ (h' : pH), P h h' → pV p l e R s m args below meth c nL E A Q z h' k n (pc + 3) L st) (hN : As.length = N := by rfl) (hst : st0 = As.reverse ++ st := by rfl) (hrm : rm.cells = 0 ∧ rm.slots = 0 := by exact ⟨rfl, rfl⟩) (hR : rm.frames + 1 ≤ R.frames ∧ 8 + (ny + 11) + rm.locals ≤ R.locals := by decide) (hf : k + 0 ≤ R.cells ∧ n + 0 ≤ R.slots := by decide) (hW : (st.map fun v => v.category).sum ≤ 8 := by exact Nat.le_of_ble_eq_true rfl) : pV p l e R s m args below meth c nL E A Q z h k n pc L st0 := by
  refine v_callS X hd w hC hp (fun v h' z' hq => ?_) hN hst hrm hR hf hW
  obtain ⟨rfl, rfl, hq⟩ := hq
  exact kk h' hq
end PVK
abbrev rmST : Room := { frames := 5, cells := 0, slots := 0, locals := 112 }
set_option maxRecDepth 100000 in
set_option maxHeartbeats 4000000 in
theorem st_cart3 {p__ : Program} {l : Launch} {e__ : Env} {s__ : State} {m__ : MethodId} {args__ : Array Value} {below__ : List Frame} {meth__ : Method} {c__ : Code} {E : pE} {h0 h : pH} {z x y n nh nb ns vv way k o bb ts we T L : Nat} {w : Nat → Int32} (X : pCx p__ s__ m__ args__ c__ cL_stacked 12 RL E (pA h0 z)) (hr : meth__.sig.returnType = some .boolean) (hlk : meth__.locks = false) (B : LB x y w w h) (I : Iv w nh nb ns) (W : W2 w nh ns) (Y : isN (w 0) 0 n) (hn9 : n ≤ 900) (hvv : vv < 10000000) (hk : k < ns) (s1 : o < nh) (s2 : bb < nb) (s4 : ts < 2 ^ 31) (s5 : we ≤ 100000) (u0 : w (76 + 5 * k + 0) = nI o) (u1 : w (76 + 5 * k + 1) = nI bb) (u2 : w (76 + 5 * k + 2) = nI ts) (u3 : w (76 + 5 * k + 3) = nI we) (hT1 : 1 ≤ T) (hT2 : T ≤ 1000) (hT3 : T ≤ ts) (hL : L ≤ 2001) (eL : fLoad (nI we) (nI T) = nI L) (k0 : kCart w (nI k) (nI T)) : pV p__ l e__ rmST s__ m__ args__ below__ meth__ c__ 12 E (pA h0 z) (MQ below__ (pQ E (pFi (fun h r h' => r = nI 1 ∧ LV x y (n + 1) h')) h0 z) args__ s__ 0 0 (pA h0 z)) z h 0 0 551 [some (.ref x), some (.ref y), some (.ref (y + 1)), some (.ref (y + 2)), some (.ref (y + 4)), some (.int (nI vv)), some (.int (nI way)), some (.int (nI (k))), some (.int (nI (T))), some (.int (nI (L))), some (.int (nI (bb))), none] [.int (w (24 + 7 * bb + 2) + fWear (nI L)), .int (nI 7 * nI bb + nI 2), .ref (y + 2)] := by
  obtain ⟨hn6, hb4, hs12, en, eb, es⟩ := I.1
  have hk12 : k < 12 := by omega
  have ek : nx (nI k) = k := nx_nI (by omega)
  have gk : gH (w 3) (nI k) := by rw [es]; exact gH_in (by omega) hk
  refine v_stB (pc := 551) X (7 * bb + 2) B (hd := dL_stacked_551) (hi := by first | rfl | (simp only [pk_mul, nI_add]; done)) (hj := by omega) (kk := fun h_1 v_1 e_1 B_1 => ?_)
  refine v_aload_n (pc := 552) X (hd := dL_stacked_552) (kk := ?_)
  refine v_bipush (pc := 553) X (v := nI 7) (hd := dL_stacked_553) (kk := ?_)
  refine v_iload (pc := 555) X (hd := dL_stacked_555) (kk := ?_)
  refine v_imul (pc := 557) X (hd := dL_stacked_557) (kk := ?_)
  refine v_iconst (pc := 558) X (v := nI 5) (hd := dL_stacked_558) (kk := ?_)
  refine v_iadd (pc := 559) X (hd := dL_stacked_559) (kk := ?_)
  refine v_dup2 (pc := 560) X (hd := dL_stacked_560) (kk := ?_)
  refine v_ldB (pc := 561) X (x := w (24 + 7 * bb + 5)) (7 * bb + 5) B_1.2.1 (hd := dL_stacked_561) (hi := by first | rfl | (simp only [pk_mul, nI_add]; done)) (hj := by omega) (hx := by (rw [e_1, if_neg (by omega)]) <;> first | rfl | exact congrArg _ (by omega)) (kk := ?_)
  refine v_iload (pc := 562) X (hd := dL_stacked_562) (kk := ?_)
  refine v_iadd (pc := 564) X (hd := dL_stacked_564) (kk := ?_)
  refine v_stB (pc := 565) X (7 * bb + 5) B_1 (hd := dL_stacked_565) (hi := by first | rfl | (simp only [pk_mul, nI_add]; done)) (hj := by omega) (kk := fun h_2 v_2 e_2 B_2 => ?_)
  refine v_aload_n (pc := 566) X (hd := dL_stacked_566) (kk := ?_)
  refine v_iconst (pc := 567) X (v := nI 3) (hd := dL_stacked_567) (kk := ?_)
  refine v_aload (pc := 568) X (hd := dL_stacked_568) (kk := ?_)
  refine v_iconst (pc := 570) X (v := nI 5) (hd := dL_stacked_570) (kk := ?_)
  refine v_iload (pc := 571) X (hd := dL_stacked_571) (kk := ?_)
  refine v_imul (pc := 573) X (hd := dL_stacked_573) (kk := ?_)
  refine v_ldT (pc := 574) X (x := nI o) (5 * k) B_2.2.1 (hd := dL_stacked_574) (hi := by first | rfl | (simp only [pk_mul, nI_add]; done)) (hj := by omega) (hx := by rw [e_2, if_neg (by omega), e_1, if_neg (by omega)]; exact u0) (kk := ?_)
  refine v_imul (pc := 575) X (hd := dL_stacked_575) (kk := ?_)
  refine v_aload (pc := 576) X (hd := dL_stacked_576) (kk := ?_)
  refine v_iconst (pc := 578) X (v := nI 5) (hd := dL_stacked_578) (kk := ?_)
  refine v_iload (pc := 579) X (hd := dL_stacked_579) (kk := ?_)
  refine v_imul (pc := 581) X (hd := dL_stacked_581) (kk := ?_)
  refine v_iconst (pc := 582) X (v := nI 3) (hd := dL_stacked_582) (kk := ?_)
  refine v_iadd (pc := 583) X (hd := dL_stacked_583) (kk := ?_)
  refine v_ldT (pc := 584) X (x := nI we) (5 * k + 3) B_2.2.1 (hd := dL_stacked_584) (hi := by first | rfl | (simp only [pk_mul, nI_add]; done)) (hj := by omega) (hx := by rw [e_2, if_neg (by omega), e_1, if_neg (by omega)]; exact u3) (kk := ?_)
  refine v_sipush (pc := 585) X (v := nI 30000) (hd := dL_stacked_585) (kk := ?_)
  refine v_icmple (pc := 588) X (tgt := 595) (hd := dL_stacked_588) (kt := fun c588 => ?_) (kf := fun c588 => ?_)
  · refine v_iconst (pc := 595) X (v := nI 1) (hd := dL_stacked_595) (kk := ?_)
    refine v_iadd (pc := 596) X (hd := dL_stacked_596) (kk := ?_)
    refine v_dup2 (pc := 597) X (hd := dL_stacked_597) (kk := ?_)
    refine v_ldH (pc := 598) X (x := w (6 + 3 * o + 1)) (3 * o + 1) B_2.2.1 (hd := dL_stacked_598) (hi := by first | rfl | (simp only [pk_mul, nI_add]; done)) (hj := by omega) (hx := by (rw [e_2, if_neg (by omega), e_1, if_neg (by omega)]) <;> first | rfl | exact congrArg _ (by omega)) (kk := ?_)
    refine v_iload (pc := 599) X (hd := dL_stacked_599) (kk := ?_)
    refine v_iadd (pc := 601) X (hd := dL_stacked_601) (kk := ?_)
    refine v_stH (pc := 602) X (3 * o + 1) B_2 (hd := dL_stacked_602) (hi := by first | rfl | (simp only [pk_mul, nI_add]; done)) (hj := by omega) (kk := fun h_3 v_3 e_3 B_3 => ?_)
    refine v_aload (pc := 603) X (hd := dL_stacked_603) (kk := ?_)
    refine v_iconst (pc := 605) X (v := nI 5) (hd := dL_stacked_605) (kk := ?_)
    refine v_iload (pc := 606) X (hd := dL_stacked_606) (kk := ?_)
    refine v_imul (pc := 608) X (hd := dL_stacked_608) (kk := ?_)
    refine v_iconst (pc := 609) X (v := nI 2) (hd := dL_stacked_609) (kk := ?_)
    refine v_iadd (pc := 610) X (hd := dL_stacked_610) (kk := ?_)
    refine v_dup2 (pc := 611) X (hd := dL_stacked_611) (kk := ?_)
    refine v_ldT (pc := 612) X (x := nI ts) (5 * k + 2) B_3.2.1 (hd := dL_stacked_612) (hi := by first | rfl | (simp only [pk_mul, nI_add]; done)) (hj := by omega) (hx := by rw [e_3, if_neg (by omega), e_2, if_neg (by omega), e_1, if_neg (by omega)]; exact u2) (kk := ?_)
    refine v_iload (pc := 613) X (hd := dL_stacked_613) (kk := ?_)
    refine v_isub (pc := 615) X (hd := dL_stacked_615) (kk := ?_)
    refine v_stT (pc := 616) X (5 * k + 2) B_3 (hd := dL_stacked_616) (hi := by first | rfl | (simp only [pk_mul, nI_add]; done)) (hj := by omega) (kk := fun h_4 v_4 e_4 B_4 => ?_)
    refine v_aload (pc := 617) X (hd := dL_stacked_617) (kk := ?_)
    refine v_iconst (pc := 619) X (v := nI 5) (hd := dL_stacked_619) (kk := ?_)
    refine v_iload (pc := 620) X (hd := dL_stacked_620) (kk := ?_)
    refine v_imul (pc := 622) X (hd := dL_stacked_622) (kk := ?_)
    refine v_iconst (pc := 623) X (v := nI 2) (hd := dL_stacked_623) (kk := ?_)
    refine v_iadd (pc := 624) X (hd := dL_stacked_624) (kk := ?_)
    refine v_ldT (pc := 625) X (x := nI ts - nI T) (5 * k + 2) B_4.2.1 (hd := dL_stacked_625) (hi := by first | rfl | (simp only [pk_mul, nI_add]; done)) (hj := by omega) (hx := by rw [e_4, if_pos (by omega)]) (kk := ?_)
    refine v_ifne (pc := 626) X (tgt := 637) (hd := dL_stacked_626) (kt := fun c626 => ?_) (kf := fun c626 => ?_)
    · refine v_aload_n (pc := 637) X (hd := dL_stacked_637) (kk := ?_)
      refine v_iload (pc := 638) X (hd := dL_stacked_638) (kk := ?_)
      refine v_iload (pc := 640) X (hd := dL_stacked_640) (kk := ?_)
      refine v_act (pc := 642) X B_4 I (hd := dL_stacked_642) (wv := wv_L_22) (hC := fun pa te nu np st en => c_X6_cart l E x w pa np 0 te st en nu (nI k) (nI T) nh nb ns) (S := fun k0 => (iCart I k0).elim (fun n1 I1 => ⟨_, _, n1, I1⟩)) (hhi := fun k0 => hiCart I k0) (kk := fun h_5 D0_5 D1_5 => ?_)
      have B_5 := D1_5 (k0)
      refine v_topv (y := nI L) (hx := by unfold rCart; rw [if_pos k0.1, if_pos k0.2, ek, u3]; exact eL) (kk := ?_)
      refine v_iload (pc := 645) X (hd := dL_stacked_645) (kk := ?_)
      refine v_icmpne (pc := 647) X (tgt := 654) (hd := dL_stacked_647) (kt := fun c647 => ?_) (kf := fun c647 => ?_)
      · exact absurd rfl c647
      · refine v_iconst (pc := 650) X (v := nI 1) (hd := dL_stacked_650) (kk := ?_)
        refine v_goto (pc := 651) X (tgt := 655) (hd := dL_stacked_651) (kk := ?_)
        exact v_endbi (pc := 655) X hr hlk (hd := dL_stacked_655) (hn := by rw [nI_t]; rfl) (hf := ⟨rfl, (iCart I k0).elim (fun n1 I1 => LV.fin B_5 (fun q => by rw [eq_hCart (ns := ns) hk12 (show o < 6 by omega) (show bb < 4 by omega) u0 u1 u3 eL (show 1 = _ from (if_pos c588).symm), if_neg (by rw [(show caD w k bb o (nI L) (nI T) 1 (76 + 5 * k + 2) = nI ts - nI T from by rw [← eq_caD (d := 1) hk12 (show o < 6 by omega) (show bb < 4 by omega) (by omega) u2 e_1 e_2 e_3 e_4, e_4, if_pos (by omega)])]; exact c626), ← eq_caD (d := 1) hk12 (show o < 6 by omega) (show bb < 4 by omega) (by omega) u2 e_1 e_2 e_3 e_4]) I1 (w2Cart I W k0 I1) (by rw [eq_hCart (ns := ns) hk12 (show o < 6 by omega) (show bb < 4 by omega) u0 u1 u3 eL (show 1 = _ from (if_pos c588).symm), if_neg (by rw [(show caD w k bb o (nI L) (nI T) 1 (76 + 5 * k + 2) = nI ts - nI T from by rw [← eq_caD (d := 1) hk12 (show o < 6 by omega) (show bb < 4 by omega) (by omega) u2 e_1 e_2 e_3 e_4, e_4, if_pos (by omega)])]; exact c626), caD_0 hk12 (by omega) (by omega) (by omega)]; exact Y.mono (by omega)))⟩)
    · refine v_aload_n (pc := 629) X (hd := dL_stacked_629) (kk := ?_)
      refine v_aload (pc := 630) X (hd := dL_stacked_630) (kk := ?_)
      refine v_iload (pc := 632) X (hd := dL_stacked_632) (kk := ?_)
      refine v_callSv (pc := 634) X (hd := dL_stacked_634) (w := wv_L_29) (hC := c_L_goes l E y v_4 k ns) (hp := ⟨B_4.2.1, by rw [e_4, if_neg (by omega), e_3, if_neg (by omega), e_2, if_neg (by omega), e_1, if_neg (by omega)]; exact es, hk, hs12⟩) (kk := fun h634 q634 => ?_)
      have B_g : LB x y w (gGo v_4 k ns) h634 := ⟨B_4.1.off (fun q g1 g2 => q634.2 q (by have := B_4.2.2; omega)), q634.1, B_4.2.2⟩
      refine v_aload_n (pc := 637) X (hd := dL_stacked_637) (kk := ?_)
      refine v_iload (pc := 638) X (hd := dL_stacked_638) (kk := ?_)
      refine v_iload (pc := 640) X (hd := dL_stacked_640) (kk := ?_)
      refine v_act (pc := 642) X B_g I (hd := dL_stacked_642) (wv := wv_L_22) (hC := fun pa te nu np st en => c_X6_cart l E x w pa np 0 te st en nu (nI k) (nI T) nh nb ns) (S := fun k0 => (iCart I k0).elim (fun n1 I1 => ⟨_, _, n1, I1⟩)) (hhi := fun k0 => hiCart I k0) (kk := fun h_6 D0_6 D1_6 => ?_)
      have B_6 := D1_6 (k0)
      refine v_topv (y := nI L) (hx := by unfold rCart; rw [if_pos k0.1, if_pos k0.2, ek, u3]; exact eL) (kk := ?_)
      refine v_iload (pc := 645) X (hd := dL_stacked_645) (kk := ?_)
      refine v_icmpne (pc := 647) X (tgt := 654) (hd := dL_stacked_647) (kt := fun c647 => ?_) (kf := fun c647 => ?_)
      · exact absurd rfl c647
      · refine v_iconst (pc := 650) X (v := nI 1) (hd := dL_stacked_650) (kk := ?_)
        refine v_goto (pc := 651) X (tgt := 655) (hd := dL_stacked_651) (kk := ?_)
        exact v_endbi (pc := 655) X hr hlk (hd := dL_stacked_655) (hn := by rw [nI_t]; rfl) (hf := ⟨rfl, (iCart I k0).elim (fun n1 I1 => LV.fin B_6 (fun q => by rw [eq_hCart (ns := ns) hk12 (show o < 6 by omega) (show bb < 4 by omega) u0 u1 u3 eL (show 1 = _ from (if_pos c588).symm), if_pos (by rw [(show caD w k bb o (nI L) (nI T) 1 (76 + 5 * k + 2) = nI ts - nI T from by rw [← eq_caD (d := 1) hk12 (show o < 6 by omega) (show bb < 4 by omega) (by omega) u2 e_1 e_2 e_3 e_4, e_4, if_pos (by omega)])]; exact Classical.not_not.mp c626), ← eq_caD (d := 1) hk12 (show o < 6 by omega) (show bb < 4 by omega) (by omega) u2 e_1 e_2 e_3 e_4]) I1 (w2Cart I W k0 I1) (by rw [eq_hCart (ns := ns) hk12 (show o < 6 by omega) (show bb < 4 by omega) u0 u1 u3 eL (show 1 = _ from (if_pos c588).symm), if_pos (by rw [(show caD w k bb o (nI L) (nI T) 1 (76 + 5 * k + 2) = nI ts - nI T from by rw [← eq_caD (d := 1) hk12 (show o < 6 by omega) (show bb < 4 by omega) (by omega) u2 e_1 e_2 e_3 e_4, e_4, if_pos (by omega)])]; exact Classical.not_not.mp c626), gGo_n (by omega) (by omega) hk, caD_0 hk12 (by omega) (by omega) (by omega)]; exact Y.mono (by omega)))⟩)
  · refine v_iconst (pc := 591) X (v := nI 2) (hd := dL_stacked_591) (kk := ?_)
    refine v_goto (pc := 592) X (tgt := 596) (hd := dL_stacked_592) (kk := ?_)
    refine v_iadd (pc := 596) X (hd := dL_stacked_596) (kk := ?_)
    refine v_dup2 (pc := 597) X (hd := dL_stacked_597) (kk := ?_)
    refine v_ldH (pc := 598) X (x := w (6 + 3 * o + 2)) (3 * o + 2) B_2.2.1 (hd := dL_stacked_598) (hi := by first | rfl | (simp only [pk_mul, nI_add]; done)) (hj := by omega) (hx := by (rw [e_2, if_neg (by omega), e_1, if_neg (by omega)]) <;> first | rfl | exact congrArg _ (by omega)) (kk := ?_)
    refine v_iload (pc := 599) X (hd := dL_stacked_599) (kk := ?_)
    refine v_iadd (pc := 601) X (hd := dL_stacked_601) (kk := ?_)
    refine v_stH (pc := 602) X (3 * o + 2) B_2 (hd := dL_stacked_602) (hi := by first | rfl | (simp only [pk_mul, nI_add]; done)) (hj := by omega) (kk := fun h_7 v_7 e_7 B_7 => ?_)
    refine v_aload (pc := 603) X (hd := dL_stacked_603) (kk := ?_)
    refine v_iconst (pc := 605) X (v := nI 5) (hd := dL_stacked_605) (kk := ?_)
    refine v_iload (pc := 606) X (hd := dL_stacked_606) (kk := ?_)
    refine v_imul (pc := 608) X (hd := dL_stacked_608) (kk := ?_)
    refine v_iconst (pc := 609) X (v := nI 2) (hd := dL_stacked_609) (kk := ?_)
    refine v_iadd (pc := 610) X (hd := dL_stacked_610) (kk := ?_)
    refine v_dup2 (pc := 611) X (hd := dL_stacked_611) (kk := ?_)
    refine v_ldT (pc := 612) X (x := nI ts) (5 * k + 2) B_7.2.1 (hd := dL_stacked_612) (hi := by first | rfl | (simp only [pk_mul, nI_add]; done)) (hj := by omega) (hx := by rw [e_7, if_neg (by omega), e_2, if_neg (by omega), e_1, if_neg (by omega)]; exact u2) (kk := ?_)
    refine v_iload (pc := 613) X (hd := dL_stacked_613) (kk := ?_)
    refine v_isub (pc := 615) X (hd := dL_stacked_615) (kk := ?_)
    refine v_stT (pc := 616) X (5 * k + 2) B_7 (hd := dL_stacked_616) (hi := by first | rfl | (simp only [pk_mul, nI_add]; done)) (hj := by omega) (kk := fun h_8 v_8 e_8 B_8 => ?_)
    refine v_aload (pc := 617) X (hd := dL_stacked_617) (kk := ?_)
    refine v_iconst (pc := 619) X (v := nI 5) (hd := dL_stacked_619) (kk := ?_)
    refine v_iload (pc := 620) X (hd := dL_stacked_620) (kk := ?_)
    refine v_imul (pc := 622) X (hd := dL_stacked_622) (kk := ?_)
    refine v_iconst (pc := 623) X (v := nI 2) (hd := dL_stacked_623) (kk := ?_)
    refine v_iadd (pc := 624) X (hd := dL_stacked_624) (kk := ?_)
    refine v_ldT (pc := 625) X (x := nI ts - nI T) (5 * k + 2) B_8.2.1 (hd := dL_stacked_625) (hi := by first | rfl | (simp only [pk_mul, nI_add]; done)) (hj := by omega) (hx := by rw [e_8, if_pos (by omega)]) (kk := ?_)
    refine v_ifne (pc := 626) X (tgt := 637) (hd := dL_stacked_626) (kt := fun c626 => ?_) (kf := fun c626 => ?_)
    · refine v_aload_n (pc := 637) X (hd := dL_stacked_637) (kk := ?_)
      refine v_iload (pc := 638) X (hd := dL_stacked_638) (kk := ?_)
      refine v_iload (pc := 640) X (hd := dL_stacked_640) (kk := ?_)
      refine v_act (pc := 642) X B_8 I (hd := dL_stacked_642) (wv := wv_L_22) (hC := fun pa te nu np st en => c_X6_cart l E x w pa np 0 te st en nu (nI k) (nI T) nh nb ns) (S := fun k0 => (iCart I k0).elim (fun n1 I1 => ⟨_, _, n1, I1⟩)) (hhi := fun k0 => hiCart I k0) (kk := fun h_9 D0_9 D1_9 => ?_)
      have B_9 := D1_9 (k0)
      refine v_topv (y := nI L) (hx := by unfold rCart; rw [if_pos k0.1, if_pos k0.2, ek, u3]; exact eL) (kk := ?_)
      refine v_iload (pc := 645) X (hd := dL_stacked_645) (kk := ?_)
      refine v_icmpne (pc := 647) X (tgt := 654) (hd := dL_stacked_647) (kt := fun c647 => ?_) (kf := fun c647 => ?_)
      · exact absurd rfl c647
      · refine v_iconst (pc := 650) X (v := nI 1) (hd := dL_stacked_650) (kk := ?_)
        refine v_goto (pc := 651) X (tgt := 655) (hd := dL_stacked_651) (kk := ?_)
        exact v_endbi (pc := 655) X hr hlk (hd := dL_stacked_655) (hn := by rw [nI_t]; rfl) (hf := ⟨rfl, (iCart I k0).elim (fun n1 I1 => LV.fin B_9 (fun q => by rw [eq_hCart (ns := ns) hk12 (show o < 6 by omega) (show bb < 4 by omega) u0 u1 u3 eL (show 2 = _ from (if_neg c588).symm), if_neg (by rw [(show caD w k bb o (nI L) (nI T) 2 (76 + 5 * k + 2) = nI ts - nI T from by rw [← eq_caD (d := 2) hk12 (show o < 6 by omega) (show bb < 4 by omega) (by omega) u2 e_1 e_2 e_7 e_8, e_8, if_pos (by omega)])]; exact c626), ← eq_caD (d := 2) hk12 (show o < 6 by omega) (show bb < 4 by omega) (by omega) u2 e_1 e_2 e_7 e_8]) I1 (w2Cart I W k0 I1) (by rw [eq_hCart (ns := ns) hk12 (show o < 6 by omega) (show bb < 4 by omega) u0 u1 u3 eL (show 2 = _ from (if_neg c588).symm), if_neg (by rw [(show caD w k bb o (nI L) (nI T) 2 (76 + 5 * k + 2) = nI ts - nI T from by rw [← eq_caD (d := 2) hk12 (show o < 6 by omega) (show bb < 4 by omega) (by omega) u2 e_1 e_2 e_7 e_8, e_8, if_pos (by omega)])]; exact c626), caD_0 hk12 (by omega) (by omega) (by omega)]; exact Y.mono (by omega)))⟩)
    · refine v_aload_n (pc := 629) X (hd := dL_stacked_629) (kk := ?_)
      refine v_aload (pc := 630) X (hd := dL_stacked_630) (kk := ?_)
      refine v_iload (pc := 632) X (hd := dL_stacked_632) (kk := ?_)
      refine v_callSv (pc := 634) X (hd := dL_stacked_634) (w := wv_L_29) (hC := c_L_goes l E y v_8 k ns) (hp := ⟨B_8.2.1, by rw [e_8, if_neg (by omega), e_7, if_neg (by omega), e_2, if_neg (by omega), e_1, if_neg (by omega)]; exact es, hk, hs12⟩) (kk := fun h634 q634 => ?_)
      have B_g : LB x y w (gGo v_8 k ns) h634 := ⟨B_8.1.off (fun q g1 g2 => q634.2 q (by have := B_8.2.2; omega)), q634.1, B_8.2.2⟩
      refine v_aload_n (pc := 637) X (hd := dL_stacked_637) (kk := ?_)
      refine v_iload (pc := 638) X (hd := dL_stacked_638) (kk := ?_)
      refine v_iload (pc := 640) X (hd := dL_stacked_640) (kk := ?_)
      refine v_act (pc := 642) X B_g I (hd := dL_stacked_642) (wv := wv_L_22) (hC := fun pa te nu np st en => c_X6_cart l E x w pa np 0 te st en nu (nI k) (nI T) nh nb ns) (S := fun k0 => (iCart I k0).elim (fun n1 I1 => ⟨_, _, n1, I1⟩)) (hhi := fun k0 => hiCart I k0) (kk := fun h_10 D0_10 D1_10 => ?_)
      have B_10 := D1_10 (k0)
      refine v_topv (y := nI L) (hx := by unfold rCart; rw [if_pos k0.1, if_pos k0.2, ek, u3]; exact eL) (kk := ?_)
      refine v_iload (pc := 645) X (hd := dL_stacked_645) (kk := ?_)
      refine v_icmpne (pc := 647) X (tgt := 654) (hd := dL_stacked_647) (kt := fun c647 => ?_) (kf := fun c647 => ?_)
      · exact absurd rfl c647
      · refine v_iconst (pc := 650) X (v := nI 1) (hd := dL_stacked_650) (kk := ?_)
        refine v_goto (pc := 651) X (tgt := 655) (hd := dL_stacked_651) (kk := ?_)
        exact v_endbi (pc := 655) X hr hlk (hd := dL_stacked_655) (hn := by rw [nI_t]; rfl) (hf := ⟨rfl, (iCart I k0).elim (fun n1 I1 => LV.fin B_10 (fun q => by rw [eq_hCart (ns := ns) hk12 (show o < 6 by omega) (show bb < 4 by omega) u0 u1 u3 eL (show 2 = _ from (if_neg c588).symm), if_pos (by rw [(show caD w k bb o (nI L) (nI T) 2 (76 + 5 * k + 2) = nI ts - nI T from by rw [← eq_caD (d := 2) hk12 (show o < 6 by omega) (show bb < 4 by omega) (by omega) u2 e_1 e_2 e_7 e_8, e_8, if_pos (by omega)])]; exact Classical.not_not.mp c626), ← eq_caD (d := 2) hk12 (show o < 6 by omega) (show bb < 4 by omega) (by omega) u2 e_1 e_2 e_7 e_8]) I1 (w2Cart I W k0 I1) (by rw [eq_hCart (ns := ns) hk12 (show o < 6 by omega) (show bb < 4 by omega) u0 u1 u3 eL (show 2 = _ from (if_neg c588).symm), if_pos (by rw [(show caD w k bb o (nI L) (nI T) 2 (76 + 5 * k + 2) = nI ts - nI T from by rw [← eq_caD (d := 2) hk12 (show o < 6 by omega) (show bb < 4 by omega) (by omega) u2 e_1 e_2 e_7 e_8, e_8, if_pos (by omega)])]; exact Classical.not_not.mp c626), gGo_n (by omega) (by omega) hk, caD_0 hk12 (by omega) (by omega) (by omega)]; exact Y.mono (by omega)))⟩)
set_option maxRecDepth 100000 in
set_option maxHeartbeats 4000000 in
theorem st_cart2 {p__ : Program} {l : Launch} {e__ : Env} {s__ : State} {m__ : MethodId} {args__ : Array Value} {below__ : List Frame} {meth__ : Method} {c__ : Code} {E : pE} {h0 h : pH} {z x y n nh nb ns vv way k o bb ts we T T9 : Nat} {w : Nat → Int32} (X : pCx p__ s__ m__ args__ c__ cL_stacked 12 RL E (pA h0 z)) (hr : meth__.sig.returnType = some .boolean) (hlk : meth__.locks = false) (B : LB x y w w h) (I : Iv w nh nb ns) (W : W2 w nh ns) (Y : isN (w 0) 0 n) (hn9 : n ≤ 900) (hvv : vv < 10000000) (hk : k < ns) (s1 : o < nh) (s2 : bb < nb) (s4 : ts < 2 ^ 31) (s5 : we ≤ 100000) (u0 : w (76 + 5 * k + 0) = nI o) (u1 : w (76 + 5 * k + 1) = nI bb) (u2 : w (76 + 5 * k + 2) = nI ts) (u3 : w (76 + 5 * k + 3) = nI we) (hT1 : 1 ≤ T) (hT2 : T ≤ 1000) (hT3 : T ≤ ts) : pV p__ l e__ rmST s__ m__ args__ below__ meth__ c__ 12 E (pA h0 z) (MQ below__ (pQ E (pFi (fun h r h' => r = nI 1 ∧ LV x y (n + 1) h')) h0 z) args__ s__ 0 0 (pA h0 z)) z h 0 0 466 [some (.ref x), some (.ref y), some (.ref (y + 1)), some (.ref (y + 2)), some (.ref (y + 4)), some (.int (nI vv)), some (.int (nI way)), some (.int (nI (k))), some (.int (nI (T9))), none, none, none] [.int (nI T)] := by
  obtain ⟨hn6, hb4, hs12, en, eb, es⟩ := I.1
  have ek : nx (nI k) = k := nx_nI (by omega)
  have gk : gH (w 3) (nI k) := by rw [es]; exact gH_in (by omega) hk
  refine v_istore (pc := 466) X (hd := dL_stacked_466) (kk := ?_)
  refine v_aload (pc := 468) X (hd := dL_stacked_468) (kk := ?_)
  refine v_iload (pc := 470) X (hd := dL_stacked_470) (kk := ?_)
  refine v_iload (pc := 472) X (hd := dL_stacked_472) (kk := ?_)
  refine v_callSp (pc := 474) X (hd := dL_stacked_474) (w := wv_L_33) (hC := c_L_heavy l E y w k T we) (hp := ⟨B.2.1, by omega, u3, s5, hT2⟩) (kk := ?_)
  obtain ⟨L, hL1, hL, eL⟩ := ld_of hT1 hT2 s5
  rw [u3, eL]
  refine v_istore (pc := 477) X (hd := dL_stacked_477) (kk := ?_)
  refine v_aload (pc := 479) X (hd := dL_stacked_479) (kk := ?_)
  refine v_iconst (pc := 481) X (v := nI 5) (hd := dL_stacked_481) (kk := ?_)
  refine v_iload (pc := 482) X (hd := dL_stacked_482) (kk := ?_)
  refine v_imul (pc := 484) X (hd := dL_stacked_484) (kk := ?_)
  refine v_iconst (pc := 485) X (v := nI 1) (hd := dL_stacked_485) (kk := ?_)
  refine v_iadd (pc := 486) X (hd := dL_stacked_486) (kk := ?_)
  refine v_ldT (pc := 487) X (x := nI bb) (5 * k + 1) B.2.1 (hd := dL_stacked_487) (hi := by first | rfl | (simp only [pk_mul, nI_add]; done)) (hj := by omega) (hx := u1) (kk := ?_)
  refine v_istore (pc := 488) X (hd := dL_stacked_488) (kk := ?_)
  refine v_iload (pc := 490) X (hd := dL_stacked_490) (kk := ?_)
  refine v_aload_n (pc := 492) X (hd := dL_stacked_492) (kk := ?_)
  refine v_aload_n (pc := 493) X (hd := dL_stacked_493) (kk := ?_)
  refine v_iload (pc := 494) X (hd := dL_stacked_494) (kk := ?_)
  refine v_callSp (pc := 496) X (hd := dL_stacked_496) (w := wv_L_37) (hC := c_L_bears l E y w bb) (hp := ⟨B.2.1, by omega⟩) (kk := ?_)
  refine v_icmple (pc := 499) X (tgt := 521) (hd := dL_stacked_499) (kt := fun c499 => ?_) (kf := fun c499 => ?_)
  · have k0 : kCart w (nI k) (nI T) := ⟨⟨gk, gI_in (lo := 1) (by omega) hT2 (by omega)⟩, by rw [ek, u2]; exact fun q => absurd ((nI_ltI (by omega) (by omega)).mp q) (by omega), by rw [ek, u1, u3, eL, nx_nI (show bb < 2 ^ 31 by omega)]; exact c499⟩
    refine v_aload_n (pc := 521) X (hd := dL_stacked_521) (kk := ?_)
    refine v_bipush (pc := 522) X (v := nI 7) (hd := dL_stacked_522) (kk := ?_)
    refine v_iload (pc := 524) X (hd := dL_stacked_524) (kk := ?_)
    refine v_imul (pc := 526) X (hd := dL_stacked_526) (kk := ?_)
    refine v_iconst (pc := 527) X (v := nI 2) (hd := dL_stacked_527) (kk := ?_)
    refine v_iadd (pc := 528) X (hd := dL_stacked_528) (kk := ?_)
    refine v_dup2 (pc := 529) X (hd := dL_stacked_529) (kk := ?_)
    refine v_ldB (pc := 530) X (x := w (24 + 7 * bb + 2)) (7 * bb + 2) B.2.1 (hd := dL_stacked_530) (hi := by first | rfl | (simp only [pk_mul, nI_add]; done)) (hj := by omega) (hx := rfl) (kk := ?_)
    refine v_iload (pc := 531) X (hd := dL_stacked_531) (kk := ?_)
    refine v_bipush (pc := 533) X (v := nI 50) (hd := dL_stacked_533) (kk := ?_)
    refine v_idivN (pc := 535) X (a := L) (d := 50) (hd := dL_stacked_535) (hx := by first | rfl | (simp only [pk_mul, nI_add]; done)) (hy := by first | rfl | (simp only [pk_mul, nI_add]; done)) (ha := by omega) (h0 := by omega) (hd2 := by omega) (kk := ?_)
    refine v_iload (pc := 536) X (hd := dL_stacked_536) (kk := ?_)
    refine v_bipush (pc := 538) X (v := nI 50) (hd := dL_stacked_538) (kk := ?_)
    refine v_iremN (pc := 540) X (a := L) (d := 50) (hd := dL_stacked_540) (hx := by first | rfl | (simp only [pk_mul, nI_add]; done)) (hy := by first | rfl | (simp only [pk_mul, nI_add]; done)) (ha := by omega) (h0 := by omega) (hd2 := by omega) (kk := ?_)
    refine v_ifle (pc := 541) X (tgt := 548) (hd := dL_stacked_541) (kt := fun c541 => ?_) (kf := fun c541 => ?_)
    · refine v_iconst (pc := 548) X (v := nI 0) (hd := dL_stacked_548) (kk := ?_)
      refine v_iadd (pc := 549) X (hd := dL_stacked_549) (kk := ?_)
      refine v_topv (y := fWear (nI L)) (hx := by unfold fWear; rw [nI_add, nI_add, pk_div (by omega) (by omega) (by omega)]; refine congrArg nI ?_; have q := n_le0 (by omega) c541; omega) (kk := ?_)
      refine v_iadd (pc := 550) X (hd := dL_stacked_550) (kk := ?_)
      exact st_cart3 X hr hlk B I W Y hn9 hvv hk s1 s2 s4 s5 u0 u1 u2 u3 hT1 hT2 hT3 hL eL k0
    · refine v_iconst (pc := 544) X (v := nI 1) (hd := dL_stacked_544) (kk := ?_)
      refine v_goto (pc := 545) X (tgt := 549) (hd := dL_stacked_545) (kk := ?_)
      refine v_iadd (pc := 549) X (hd := dL_stacked_549) (kk := ?_)
      refine v_topv (y := fWear (nI L)) (hx := by unfold fWear; rw [nI_add, nI_add, pk_div (by omega) (by omega) (by omega)]; refine congrArg nI ?_; have q := n_nle0 (by omega) c541; omega) (kk := ?_)
      refine v_iadd (pc := 550) X (hd := dL_stacked_550) (kk := ?_)
      exact st_cart3 X hr hlk B I W Y hn9 hvv hk s1 s2 s4 s5 u0 u1 u2 u3 hT1 hT2 hT3 hL eL k0
  · have k1 : ¬ (¬ w (76 + 5 * nx (nI k) + 2) < nI T ∧ fLoad (w (76 + 5 * nx (nI k) + 3)) (nI T) ≤ fBear (w (24 + 7 * nx (w (76 + 5 * nx (nI k) + 1)) + 1)) (w 4) (w (24 + 7 * nx (w (76 + 5 * nx (nI k) + 1)) + 2))) := fun q => c499 (by have q2 := q.2; rw [ek, u1, u3, eL, nx_nI (show bb < 2 ^ 31 by omega)] at q2; exact q2)
    refine v_aload_n (pc := 502) X (hd := dL_stacked_502) (kk := ?_)
    refine v_iload (pc := 503) X (hd := dL_stacked_503) (kk := ?_)
    refine v_iload (pc := 505) X (hd := dL_stacked_505) (kk := ?_)
    refine v_act (pc := 507) X B I (hd := dL_stacked_507) (wv := wv_L_22) (hC := fun pa te nu np st en => c_X6_cart l E x w pa np 0 te st en nu (nI k) (nI T) nh nb ns) (S := fun k0 => (iCart I k0).elim (fun n1 I1 => ⟨_, _, n1, I1⟩)) (hhi := fun k0 => hiCart I k0) (kk := fun h_1 D0_1 D1_1 => ?_)
    have B_1 := D0_1 (fun q => k1 q.2)
    refine v_topv (y := (-2)) (hx := by unfold rCart; rw [if_pos ⟨gk, gI_in (lo := 1) (by omega) hT2 (by omega)⟩, if_neg k1]) (kk := ?_)
    refine v_bipush (pc := 510) X (v := (-2)) (hd := dL_stacked_510) (kk := ?_)
    refine v_icmpne (pc := 512) X (tgt := 519) (hd := dL_stacked_512) (kt := fun c512 => ?_) (kf := fun c512 => ?_)
    · exact absurd rfl c512
    · refine v_iconst (pc := 515) X (v := nI 1) (hd := dL_stacked_515) (kk := ?_)
      refine v_goto (pc := 516) X (tgt := 520) (hd := dL_stacked_516) (kk := ?_)
      exact v_endbi (pc := 520) X hr hlk (hd := dL_stacked_520) (hn := by rw [nI_t]; rfl) (hf := ⟨rfl, LV.fin B_1 (fun q => rfl) I W (Y.mono (by omega))⟩)
set_option maxRecDepth 100000 in
set_option maxHeartbeats 4000000 in
theorem st_cart1 {p__ : Program} {l : Launch} {e__ : Env} {s__ : State} {m__ : MethodId} {args__ : Array Value} {below__ : List Frame} {meth__ : Method} {c__ : Code} {E : pE} {h0 h : pH} {z x y n nh nb ns vv way k o bb ts we T0 : Nat} {w : Nat → Int32} (X : pCx p__ s__ m__ args__ c__ cL_stacked 12 RL E (pA h0 z)) (hr : meth__.sig.returnType = some .boolean) (hlk : meth__.locks = false) (B : LB x y w w h) (I : Iv w nh nb ns) (W : W2 w nh ns) (Y : isN (w 0) 0 n) (hn9 : n ≤ 900) (hvv : vv < 10000000) (hk : k < ns) (s1 : o < nh) (s2 : bb < nb) (s4 : ts < 2 ^ 31) (s5 : we ≤ 100000) (u0 : w (76 + 5 * k + 0) = nI o) (u1 : w (76 + 5 * k + 1) = nI bb) (u2 : w (76 + 5 * k + 2) = nI ts) (u3 : w (76 + 5 * k + 3) = nI we) (hT1 : 1 ≤ T0) (hT3 : T0 ≤ ts) : pV p__ l e__ rmST s__ m__ args__ below__ meth__ c__ 12 E (pA h0 z) (MQ below__ (pQ E (pFi (fun h r h' => r = nI 1 ∧ LV x y (n + 1) h')) h0 z) args__ s__ 0 0 (pA h0 z)) z h 0 0 448 [some (.ref x), some (.ref y), some (.ref (y + 1)), some (.ref (y + 2)), some (.ref (y + 4)), some (.int (nI vv)), some (.int (nI way)), some (.int (nI (k))), none, none, none, none] [.int (nI T0)] := by
  obtain ⟨hn6, hb4, hs12, en, eb, es⟩ := I.1
  refine v_istore (pc := 448) X (hd := dL_stacked_448) (kk := ?_)
  refine v_iload (pc := 450) X (hd := dL_stacked_450) (kk := ?_)
  refine v_sipush (pc := 452) X (v := nI 1000) (hd := dL_stacked_452) (kk := ?_)
  refine v_icmple (pc := 455) X (tgt := 464) (hd := dL_stacked_455) (kt := fun c455 => ?_) (kf := fun c455 => ?_)
  · have q455 : T0 ≤ 1000 := (nI_leI (by omega) (by omega)).mp c455
    refine v_iload (pc := 464) X (hd := dL_stacked_464) (kk := ?_)
    exact st_cart2 X hr hlk B I W Y hn9 hvv hk s1 s2 s4 s5 u0 u1 u2 u3 (by omega) (by omega) (by omega)
  · have q455 : 1000 < T0 := by
      rcases Nat.lt_or_ge 1000 T0 with q | q
      · exact q
      · exact absurd ((nI_leI (by omega) (by omega)).mpr q) c455
    refine v_sipush (pc := 458) X (v := nI 1000) (hd := dL_stacked_458) (kk := ?_)
    refine v_goto (pc := 461) X (tgt := 466) (hd := dL_stacked_461) (kk := ?_)
    exact st_cart2 X hr hlk B I W Y hn9 hvv hk s1 s2 s4 s5 u0 u1 u2 u3 (by omega) (by omega) (by omega)
set_option maxRecDepth 100000 in
set_option maxHeartbeats 4000000 in
theorem st_join3 {p__ : Program} {l : Launch} {e__ : Env} {s__ : State} {m__ : MethodId} {args__ : Array Value} {below__ : List Frame} {meth__ : Method} {c__ : Code} {E : pE} {h0 : pH} {z x y n nh nb ns vv way k to o bb ts we tn ts2 we2 tn2 : Nat} {w v1 : Nat → Int32} {h1 : pH} {S9 : Int64} (X : pCx p__ s__ m__ args__ c__ cL_stacked 12 RL E (pA h0 z)) (hr : meth__.sig.returnType = some .boolean) (hlk : meth__.locks = false) (I : Iv w nh nb ns) (W : W2 w nh ns) (Y : isN (w 0) 0 n) (hn9 : n ≤ 900) (hvv : vv < 10000000) (hk : k < ns) (hto : to < ns) (hne : k ≠ to) (s1 : o < nh) (s2 : bb < nb) (s3 : 1 ≤ ts) (s4 : ts < 2 ^ 31) (s5 : we ≤ 100000) (s6 : tn ≤ 3) (z4 : ts2 < 2 ^ 31) (z5 : we2 ≤ 100000) (z6 : tn2 ≤ 3) (u2 : w (76 + 5 * k + 2) = nI ts) (u3 : w (76 + 5 * k + 3) = nI we) (u4 : w (76 + 5 * k + 4) = nI tn) (y2 : w (76 + 5 * to + 2) = nI ts2) (y3 : w (76 + 5 * to + 3) = nI we2) (y4 : w (76 + 5 * to + 4) = nI tn2) (hTT : ts + ts2 ≤ 1080024) (k0 : kJoin w (nI k) (nI to)) (B1 : LB x y w v1 h1) (e1 : ∀ q, v1 q = if q = 76 + (5 * to + 2) then nI (ts + ts2) else w q) : pV p__ l e__ rmST s__ m__ args__ below__ meth__ c__ 12 E (pA h0 z) (MQ below__ (pQ E (pFi (fun h r h' => r = nI 1 ∧ LV x y (n + 1) h')) h0 z) args__ s__ 0 0 (pA h0 z)) z h1 0 0 333 [some (.ref x), some (.ref y), some (.ref (y + 1)), some (.ref (y + 2)), some (.ref (y + 4)), some (.int (nI vv)), some (.int (nI way)), some (.int (nI (k))), some (.int (nI (to))), some (.long S9), none, some (.int (nI (ts + ts2)))] [.int (nI ((ts * we + ts2 * we2 + (ts + ts2) - 1) / (ts + ts2))), .int (nI 5 * nI to + nI 3), .ref (y + 4)] := by
  obtain ⟨hn6, hb4, hs12, en, eb, es⟩ := I.1
  have ek : nx (nI k) = k := nx_nI (by omega)
  have gk : gH (w 3) (nI k) := by rw [es]; exact gH_in (by omega) hk
  have eto : nx (nI to) = to := nx_nI (by omega)
  have gto : gH (w 3) (nI to) := by rw [es]; exact gH_in (by omega) hto
  refine v_stT (pc := 333) X (5 * to + 3) B1 (hd := dL_stacked_333) (hi := by first | rfl | (simp only [pk_mul, nI_add]; done)) (hj := by omega) (kk := fun h_1 v_1 e_1 B_1 => ?_)
  refine v_aload (pc := 334) X (hd := dL_stacked_334) (kk := ?_)
  refine v_iconst (pc := 336) X (v := nI 5) (hd := dL_stacked_336) (kk := ?_)
  refine v_iload (pc := 337) X (hd := dL_stacked_337) (kk := ?_)
  refine v_imul (pc := 339) X (hd := dL_stacked_339) (kk := ?_)
  refine v_iconst (pc := 340) X (v := nI 4) (hd := dL_stacked_340) (kk := ?_)
  refine v_iadd (pc := 341) X (hd := dL_stacked_341) (kk := ?_)
  refine v_aload (pc := 342) X (hd := dL_stacked_342) (kk := ?_)
  refine v_iconst (pc := 344) X (v := nI 5) (hd := dL_stacked_344) (kk := ?_)
  refine v_iload (pc := 345) X (hd := dL_stacked_345) (kk := ?_)
  refine v_imul (pc := 347) X (hd := dL_stacked_347) (kk := ?_)
  refine v_iconst (pc := 348) X (v := nI 4) (hd := dL_stacked_348) (kk := ?_)
  refine v_iadd (pc := 349) X (hd := dL_stacked_349) (kk := ?_)
  refine v_ldT (pc := 350) X (x := nI tn) (5 * k + 4) B_1.2.1 (hd := dL_stacked_350) (hi := by first | rfl | (simp only [pk_mul, nI_add]; done)) (hj := by omega) (hx := by rw [e_1, if_neg (by omega), e1, if_neg (by omega)]; exact u4) (kk := ?_)
  refine v_aload (pc := 351) X (hd := dL_stacked_351) (kk := ?_)
  refine v_iconst (pc := 353) X (v := nI 5) (hd := dL_stacked_353) (kk := ?_)
  refine v_iload (pc := 354) X (hd := dL_stacked_354) (kk := ?_)
  refine v_imul (pc := 356) X (hd := dL_stacked_356) (kk := ?_)
  refine v_iconst (pc := 357) X (v := nI 4) (hd := dL_stacked_357) (kk := ?_)
  refine v_iadd (pc := 358) X (hd := dL_stacked_358) (kk := ?_)
  refine v_ldT (pc := 359) X (x := nI tn2) (5 * to + 4) B_1.2.1 (hd := dL_stacked_359) (hi := by first | rfl | (simp only [pk_mul, nI_add]; done)) (hj := by omega) (hx := by rw [e_1, if_neg (by omega), e1, if_neg (by omega)]; exact y4) (kk := ?_)
  refine v_icmpge (pc := 360) X (tgt := 375) (hd := dL_stacked_360) (kt := fun c360 => ?_) (kf := fun c360 => ?_)
  · refine v_aload (pc := 375) X (hd := dL_stacked_375) (kk := ?_)
    refine v_iconst (pc := 377) X (v := nI 5) (hd := dL_stacked_377) (kk := ?_)
    refine v_iload (pc := 378) X (hd := dL_stacked_378) (kk := ?_)
    refine v_imul (pc := 380) X (hd := dL_stacked_380) (kk := ?_)
    refine v_iconst (pc := 381) X (v := nI 4) (hd := dL_stacked_381) (kk := ?_)
    refine v_iadd (pc := 382) X (hd := dL_stacked_382) (kk := ?_)
    refine v_ldT (pc := 383) X (x := nI tn2) (5 * to + 4) B_1.2.1 (hd := dL_stacked_383) (hi := by first | rfl | (simp only [pk_mul, nI_add]; done)) (hj := by omega) (hx := by rw [e_1, if_neg (by omega), e1, if_neg (by omega)]; exact y4) (kk := ?_)
    refine v_stT (pc := 384) X (5 * to + 4) B_1 (hd := dL_stacked_384) (hi := by first | rfl | (simp only [pk_mul, nI_add]; done)) (hj := by omega) (kk := fun h_2 v_2 e_2 B_2 => ?_)
    refine v_aload_n (pc := 385) X (hd := dL_stacked_385) (kk := ?_)
    refine v_aload (pc := 386) X (hd := dL_stacked_386) (kk := ?_)
    refine v_iload (pc := 388) X (hd := dL_stacked_388) (kk := ?_)
    refine v_callSv (pc := 390) X (hd := dL_stacked_390) (w := wv_L_29) (hC := c_L_goes l E y v_2 k ns) (hp := ⟨B_2.2.1, by rw [e_2, if_neg (by omega), e_1, if_neg (by omega), e1, if_neg (by omega)]; exact es, hk, hs12⟩) (kk := fun h390 q390 => ?_)
    have B_g : LB x y w (gGo v_2 k ns) h390 := ⟨B_2.1.off (fun q g1 g2 => q390.2 q (by have := B_2.2.2; omega)), q390.1, B_2.2.2⟩
    refine v_aload_n (pc := 393) X (hd := dL_stacked_393) (kk := ?_)
    refine v_iload (pc := 394) X (hd := dL_stacked_394) (kk := ?_)
    refine v_iload (pc := 396) X (hd := dL_stacked_396) (kk := ?_)
    refine v_act (pc := 398) X B_g I (hd := dL_stacked_398) (wv := wv_L_26) (hC := fun pa te nu np st en => c_X6_join l E x w pa np 0 te st en nu (nI k) (nI to) nh nb ns) (S := fun k0 => ⟨_, _, _, iJoin I k0⟩) (hhi := fun k0 => hiJoin I k0) (kk := fun h_3 D0_3 D1_3 => ?_)
    have B_3 := D1_3 (k0)
    refine v_topv (y := nI (ts + ts2)) (hx := by unfold rJoin; rw [if_pos k0.1, if_pos k0.2, ek, eto, u2, y2, nI_add]) (kk := ?_)
    refine v_iload (pc := 401) X (hd := dL_stacked_401) (kk := ?_)
    refine v_icmpne (pc := 403) X (tgt := 410) (hd := dL_stacked_403) (kt := fun c403 => ?_) (kf := fun c403 => ?_)
    · exact absurd rfl c403
    · refine v_iconst (pc := 406) X (v := nI 1) (hd := dL_stacked_406) (kk := ?_)
      refine v_goto (pc := 407) X (tgt := 411) (hd := dL_stacked_407) (kk := ?_)
      exact v_endbi (pc := 411) X hr hlk (hd := dL_stacked_411) (hn := by rw [nI_t]; rfl) (hf := ⟨rfl, LV.fin B_3 (fun q => eq_join (by omega) (by omega) hne u2 u3 u4 y2 y3 y4 s3 hTT s5 z5 ((if_neg (fun q => absurd ((nI_ltI (by omega) (by omega)).mp q) (by have := (nI_leI (by omega) (by omega)).mp c360; omega))).symm) e1 e_1 e_2 q) (iJoin I k0) (w2Join I W k0) (by unfold gJoin; rw [ek, eto, gGo_n (by omega) (by omega) hk, joC_n (by omega) (by omega) (by omega)]; exact Y.mono (by omega))⟩)
  · refine v_aload (pc := 363) X (hd := dL_stacked_363) (kk := ?_)
    refine v_iconst (pc := 365) X (v := nI 5) (hd := dL_stacked_365) (kk := ?_)
    refine v_iload (pc := 366) X (hd := dL_stacked_366) (kk := ?_)
    refine v_imul (pc := 368) X (hd := dL_stacked_368) (kk := ?_)
    refine v_iconst (pc := 369) X (v := nI 4) (hd := dL_stacked_369) (kk := ?_)
    refine v_iadd (pc := 370) X (hd := dL_stacked_370) (kk := ?_)
    refine v_ldT (pc := 371) X (x := nI tn) (5 * k + 4) B_1.2.1 (hd := dL_stacked_371) (hi := by first | rfl | (simp only [pk_mul, nI_add]; done)) (hj := by omega) (hx := by rw [e_1, if_neg (by omega), e1, if_neg (by omega)]; exact u4) (kk := ?_)
    refine v_goto (pc := 372) X (tgt := 384) (hd := dL_stacked_372) (kk := ?_)
    refine v_stT (pc := 384) X (5 * to + 4) B_1 (hd := dL_stacked_384) (hi := by first | rfl | (simp only [pk_mul, nI_add]; done)) (hj := by omega) (kk := fun h_4 v_4 e_4 B_4 => ?_)
    refine v_aload_n (pc := 385) X (hd := dL_stacked_385) (kk := ?_)
    refine v_aload (pc := 386) X (hd := dL_stacked_386) (kk := ?_)
    refine v_iload (pc := 388) X (hd := dL_stacked_388) (kk := ?_)
    refine v_callSv (pc := 390) X (hd := dL_stacked_390) (w := wv_L_29) (hC := c_L_goes l E y v_4 k ns) (hp := ⟨B_4.2.1, by rw [e_4, if_neg (by omega), e_1, if_neg (by omega), e1, if_neg (by omega)]; exact es, hk, hs12⟩) (kk := fun h390 q390 => ?_)
    have B_g : LB x y w (gGo v_4 k ns) h390 := ⟨B_4.1.off (fun q g1 g2 => q390.2 q (by have := B_4.2.2; omega)), q390.1, B_4.2.2⟩
    refine v_aload_n (pc := 393) X (hd := dL_stacked_393) (kk := ?_)
    refine v_iload (pc := 394) X (hd := dL_stacked_394) (kk := ?_)
    refine v_iload (pc := 396) X (hd := dL_stacked_396) (kk := ?_)
    refine v_act (pc := 398) X B_g I (hd := dL_stacked_398) (wv := wv_L_26) (hC := fun pa te nu np st en => c_X6_join l E x w pa np 0 te st en nu (nI k) (nI to) nh nb ns) (S := fun k0 => ⟨_, _, _, iJoin I k0⟩) (hhi := fun k0 => hiJoin I k0) (kk := fun h_5 D0_5 D1_5 => ?_)
    have B_5 := D1_5 (k0)
    refine v_topv (y := nI (ts + ts2)) (hx := by unfold rJoin; rw [if_pos k0.1, if_pos k0.2, ek, eto, u2, y2, nI_add]) (kk := ?_)
    refine v_iload (pc := 401) X (hd := dL_stacked_401) (kk := ?_)
    refine v_icmpne (pc := 403) X (tgt := 410) (hd := dL_stacked_403) (kt := fun c403 => ?_) (kf := fun c403 => ?_)
    · exact absurd rfl c403
    · refine v_iconst (pc := 406) X (v := nI 1) (hd := dL_stacked_406) (kk := ?_)
      refine v_goto (pc := 407) X (tgt := 411) (hd := dL_stacked_407) (kk := ?_)
      exact v_endbi (pc := 411) X hr hlk (hd := dL_stacked_411) (hn := by rw [nI_t]; rfl) (hf := ⟨rfl, LV.fin B_5 (fun q => eq_join (by omega) (by omega) hne u2 u3 u4 y2 y3 y4 s3 hTT s5 z5 ((if_pos (n_nle c360)).symm) e1 e_1 e_4 q) (iJoin I k0) (w2Join I W k0) (by unfold gJoin; rw [ek, eto, gGo_n (by omega) (by omega) hk, joC_n (by omega) (by omega) (by omega)]; exact Y.mono (by omega))⟩)
set_option maxRecDepth 100000 in
set_option maxHeartbeats 4000000 in
theorem c_L_stacked (l : Launch) (E : pE) (x y n vv way : Nat) : pC l E yL_stacked cL_stacked 12 (some .boolean) rmST 0 0 [.ref x, .ref y, .ref (y + 1), .ref (y + 2), .ref (y + 4), .int (nI vv), .int (nI way)] (fun h _ => LV x y n h ∧ n ≤ 900 ∧ vv < 10000000 ∧ way < 26) (pFi (fun h r h' => r = nI 1 ∧ LV x y (n + 1) h')) := by
  refine pC_of (by decide) (by simp [Value.category]) (Nat.le_of_ble_eq_true rfl) ?_
  intro h z hp p__ e__ s__ m__ args__ below__ meth__ c__ X hr hlk hname
  obtain ⟨⟨w, nh, nb, ns, B, I, W, Y⟩, hn9, hvv, hway⟩ := hp
  obtain ⟨hn6, hb4, hs12, en, eb, es⟩ := I.1
  refine v_aload_n (pc := 0) X (hd := dL_stacked_0) (kk := ?_)
  refine v_iconst (pc := 1) X (v := nI 3) (hd := dL_stacked_1) (kk := ?_)
  refine v_ldG (pc := 2) X (x := nI ns) (3) B.2.1 (hd := dL_stacked_2) (hi := by first | rfl | (simp only [pk_mul, nI_add]; done)) (hj := by omega) (hx := es) (kk := ?_)
  refine v_ifne (pc := 3) X (tgt := 41) (hd := dL_stacked_3) (kt := fun c3 => ?_) (kf := fun c3 => ?_)
  · have hns : 0 < ns := by
      rcases Nat.eq_zero_or_pos ns with q | q
      · exact absurd (by rw [q]; exact nI_z) c3
      · exact q
    refine v_iload (pc := 41) X (hd := dL_stacked_41) (kk := ?_)
    refine v_aload_n (pc := 43) X (hd := dL_stacked_43) (kk := ?_)
    refine v_iconst (pc := 44) X (v := nI 3) (hd := dL_stacked_44) (kk := ?_)
    refine v_ldG (pc := 45) X (x := nI ns) (3) B.2.1 (hd := dL_stacked_45) (hi := by first | rfl | (simp only [pk_mul, nI_add]; done)) (hj := by omega) (hx := es) (kk := ?_)
    refine v_iremN (pc := 46) X (a := vv) (d := ns) (hd := dL_stacked_46) (hx := by first | rfl | (simp only [pk_mul, nI_add]; done)) (hy := by first | rfl | (simp only [pk_mul, nI_add]; done)) (ha := by omega) (h0 := by omega) (hd2 := by omega) (kk := ?_)
    obtain ⟨k, hk, ek9⟩ : ∃ k, k < ns ∧ vv % ns = k := ⟨_, Nat.mod_lt _ hns, rfl⟩
    rw [ek9]
    have ek : nx (nI k) = k := nx_nI (by omega)
    have gk : gH (w 3) (nI k) := by rw [es]; exact gH_in (by omega) hk
    obtain ⟨o, bb, ts, we, tn, s1, s2, s3, s4, s5, s6, u0, u1, u2, u3, u4⟩ := I.2.2.2.2.2.2.2.2.1 k hk
    refine v_istore (pc := 47) X (hd := dL_stacked_47) (kk := ?_)
    refine v_iload (pc := 49) X (hd := dL_stacked_49) (kk := ?_)
    refine v_bipush (pc := 51) X (v := nI 13) (hd := dL_stacked_51) (kk := ?_)
    refine v_icmpge (pc := 53) X (tgt := 123) (hd := dL_stacked_53) (kt := fun c53 => ?_) (kf := fun c53 => ?_)
    · refine v_iload (pc := 123) X (hd := dL_stacked_123) (kk := ?_)
      refine v_bipush (pc := 125) X (v := nI 15) (hd := dL_stacked_125) (kk := ?_)
      refine v_icmpge (pc := 127) X (tgt := 412) (hd := dL_stacked_127) (kt := fun c127 => ?_) (kf := fun c127 => ?_)
      · refine v_iload (pc := 412) X (hd := dL_stacked_412) (kk := ?_)
        refine v_iconst (pc := 414) X (v := nI 4) (hd := dL_stacked_414) (kk := ?_)
        refine v_iremN (pc := 415) X (a := vv) (d := 4) (hd := dL_stacked_415) (hx := by first | rfl | (simp only [pk_mul, nI_add]; done)) (hy := by first | rfl | (simp only [pk_mul, nI_add]; done)) (ha := by omega) (h0 := by omega) (hd2 := by omega) (kk := ?_)
        refine v_ifne (pc := 416) X (tgt := 431) (hd := dL_stacked_416) (kt := fun c416 => ?_) (kf := fun c416 => ?_)
        · refine v_iconst (pc := 431) X (v := nI 1) (hd := dL_stacked_431) (kk := ?_)
          refine v_iload (pc := 432) X (hd := dL_stacked_432) (kk := ?_)
          refine v_bipush (pc := 434) X (v := nI 12) (hd := dL_stacked_434) (kk := ?_)
          refine v_idivN (pc := 436) X (a := vv) (d := 12) (hd := dL_stacked_436) (hx := by first | rfl | (simp only [pk_mul, nI_add]; done)) (hy := by first | rfl | (simp only [pk_mul, nI_add]; done)) (ha := by omega) (h0 := by omega) (hd2 := by omega) (kk := ?_)
          refine v_aload (pc := 437) X (hd := dL_stacked_437) (kk := ?_)
          refine v_iconst (pc := 439) X (v := nI 5) (hd := dL_stacked_439) (kk := ?_)
          refine v_iload (pc := 440) X (hd := dL_stacked_440) (kk := ?_)
          refine v_imul (pc := 442) X (hd := dL_stacked_442) (kk := ?_)
          refine v_iconst (pc := 443) X (v := nI 2) (hd := dL_stacked_443) (kk := ?_)
          refine v_iadd (pc := 444) X (hd := dL_stacked_444) (kk := ?_)
          refine v_ldT (pc := 445) X (x := nI ts) (5 * k + 2) B.2.1 (hd := dL_stacked_445) (hi := by first | rfl | (simp only [pk_mul, nI_add]; done)) (hj := by omega) (hx := u2) (kk := ?_)
          refine v_iremN (pc := 446) X (a := vv / 12) (d := ts) (hd := dL_stacked_446) (hx := by first | rfl | (simp only [pk_mul, nI_add]; done)) (hy := by first | rfl | (simp only [pk_mul, nI_add]; done)) (ha := by omega) (h0 := by omega) (hd2 := by omega) (kk := ?_)
          refine v_iadd (pc := 447) X (hd := dL_stacked_447) (kk := ?_)
          rw [nI_add]
          exact st_cart1 X hr hlk B I W Y hn9 hvv hk s1 s2 s4 s5 u0 u1 u2 u3 (by omega) (by have := Nat.mod_lt (vv / 12) (show 0 < ts by omega); omega)
        · refine v_aload (pc := 419) X (hd := dL_stacked_419) (kk := ?_)
          refine v_iconst (pc := 421) X (v := nI 5) (hd := dL_stacked_421) (kk := ?_)
          refine v_iload (pc := 422) X (hd := dL_stacked_422) (kk := ?_)
          refine v_imul (pc := 424) X (hd := dL_stacked_424) (kk := ?_)
          refine v_iconst (pc := 425) X (v := nI 2) (hd := dL_stacked_425) (kk := ?_)
          refine v_iadd (pc := 426) X (hd := dL_stacked_426) (kk := ?_)
          refine v_ldT (pc := 427) X (x := nI ts) (5 * k + 2) B.2.1 (hd := dL_stacked_427) (hi := by first | rfl | (simp only [pk_mul, nI_add]; done)) (hj := by omega) (hx := u2) (kk := ?_)
          refine v_goto (pc := 428) X (tgt := 448) (hd := dL_stacked_428) (kk := ?_)
          exact st_cart1 X hr hlk B I W Y hn9 hvv hk s1 s2 s4 s5 u0 u1 u2 u3 (by omega) (Nat.le_refl _)
      · refine v_iload (pc := 130) X (hd := dL_stacked_130) (kk := ?_)
        refine v_bipush (pc := 132) X (v := nI 12) (hd := dL_stacked_132) (kk := ?_)
        refine v_idivN (pc := 134) X (a := vv) (d := 12) (hd := dL_stacked_134) (hx := by first | rfl | (simp only [pk_mul, nI_add]; done)) (hy := by first | rfl | (simp only [pk_mul, nI_add]; done)) (ha := by omega) (h0 := by omega) (hd2 := by omega) (kk := ?_)
        refine v_aload_n (pc := 135) X (hd := dL_stacked_135) (kk := ?_)
        refine v_iconst (pc := 136) X (v := nI 3) (hd := dL_stacked_136) (kk := ?_)
        refine v_ldG (pc := 137) X (x := nI ns) (3) B.2.1 (hd := dL_stacked_137) (hi := by first | rfl | (simp only [pk_mul, nI_add]; done)) (hj := by omega) (hx := es) (kk := ?_)
        refine v_iremN (pc := 138) X (a := vv / 12) (d := ns) (hd := dL_stacked_138) (hx := by first | rfl | (simp only [pk_mul, nI_add]; done)) (hy := by first | rfl | (simp only [pk_mul, nI_add]; done)) (ha := by omega) (h0 := by omega) (hd2 := by omega) (kk := ?_)
        obtain ⟨to, hto, eto9⟩ : ∃ to, to < ns ∧ vv / 12 % ns = to := ⟨_, Nat.mod_lt _ hns, rfl⟩
        rw [eto9]
        have eto : nx (nI to) = to := nx_nI (by omega)
        have gto : gH (w 3) (nI to) := by rw [es]; exact gH_in (by omega) hto
        obtain ⟨o2, bb2, ts2, we2, tn2, z1, z2, z3, z4, z5, z6, y0, y1, y2, y3, y4⟩ := I.2.2.2.2.2.2.2.2.1 to hto
        refine v_istore (pc := 139) X (hd := dL_stacked_139) (kk := ?_)
        refine v_iload (pc := 141) X (hd := dL_stacked_141) (kk := ?_)
        refine v_iload (pc := 143) X (hd := dL_stacked_143) (kk := ?_)
        refine v_icmpne (pc := 145) X (tgt := 166) (hd := dL_stacked_145) (kt := fun c145 => ?_) (kf := fun c145 => ?_)
        · have hne : k ≠ to := fun q => c145 (by rw [q])
          refine v_aload (pc := 166) X (hd := dL_stacked_166) (kk := ?_)
          refine v_iconst (pc := 168) X (v := nI 5) (hd := dL_stacked_168) (kk := ?_)
          refine v_iload (pc := 169) X (hd := dL_stacked_169) (kk := ?_)
          refine v_imul (pc := 171) X (hd := dL_stacked_171) (kk := ?_)
          refine v_ldT (pc := 172) X (x := nI o) (5 * k) B.2.1 (hd := dL_stacked_172) (hi := by first | rfl | (simp only [pk_mul, nI_add]; done)) (hj := by omega) (hx := u0) (kk := ?_)
          refine v_aload (pc := 173) X (hd := dL_stacked_173) (kk := ?_)
          refine v_iconst (pc := 175) X (v := nI 5) (hd := dL_stacked_175) (kk := ?_)
          refine v_iload (pc := 176) X (hd := dL_stacked_176) (kk := ?_)
          refine v_imul (pc := 178) X (hd := dL_stacked_178) (kk := ?_)
          refine v_ldT (pc := 179) X (x := nI o2) (5 * to) B.2.1 (hd := dL_stacked_179) (hi := by first | rfl | (simp only [pk_mul, nI_add]; done)) (hj := by omega) (hx := y0) (kk := ?_)
          refine v_icmpne (pc := 180) X (tgt := 204) (hd := dL_stacked_180) (kt := fun c180 => ?_) (kf := fun c180 => ?_)
          · refine v_aload_n (pc := 204) X (hd := dL_stacked_204) (kk := ?_)
            refine v_iload (pc := 205) X (hd := dL_stacked_205) (kk := ?_)
            refine v_iload (pc := 207) X (hd := dL_stacked_207) (kk := ?_)
            have k1 : ¬ (w (76 + 5 * nx (nI k) + 0) = w (76 + 5 * nx (nI to) + 0) ∧ w (76 + 5 * nx (nI k) + 1) = w (76 + 5 * nx (nI to) + 1)) := fun q => by have q1 := q.1; have q2 := q.2; rw [ek, eto] at q1 q2; rw [u0, y0] at q1; rw [u1, y1] at q2; exact c180 q1
            refine v_act (pc := 209) X B I (hd := dL_stacked_209) (wv := wv_L_26) (hC := fun pa te nu np st en => c_X6_join l E x w pa np 0 te st en nu (nI k) (nI to) nh nb ns) (S := fun k0 => ⟨_, _, _, iJoin I k0⟩) (hhi := fun k0 => hiJoin I k0) (kk := fun h_1 D0_1 D1_1 => ?_)
            have B_1 := D0_1 (fun q => k1 q.2)
            refine v_topv (y := (-2)) (hx := by unfold rJoin; rw [if_pos ⟨gk, gto, fun q => c145 q⟩, if_neg k1]) (kk := ?_)
            refine v_bipush (pc := 212) X (v := (-2)) (hd := dL_stacked_212) (kk := ?_)
            refine v_icmpne (pc := 214) X (tgt := 221) (hd := dL_stacked_214) (kt := fun c214 => ?_) (kf := fun c214 => ?_)
            · exact absurd rfl c214
            · refine v_iconst (pc := 217) X (v := nI 1) (hd := dL_stacked_217) (kk := ?_)
              refine v_goto (pc := 218) X (tgt := 222) (hd := dL_stacked_218) (kk := ?_)
              exact v_endbi (pc := 222) X hr hlk (hd := dL_stacked_222) (hn := by rw [nI_t]; rfl) (hf := ⟨rfl, LV.fin B_1 (fun q => rfl) I W (Y.mono (by omega))⟩)
          · refine v_aload (pc := 183) X (hd := dL_stacked_183) (kk := ?_)
            refine v_iconst (pc := 185) X (v := nI 5) (hd := dL_stacked_185) (kk := ?_)
            refine v_iload (pc := 186) X (hd := dL_stacked_186) (kk := ?_)
            refine v_imul (pc := 188) X (hd := dL_stacked_188) (kk := ?_)
            refine v_iconst (pc := 189) X (v := nI 1) (hd := dL_stacked_189) (kk := ?_)
            refine v_iadd (pc := 190) X (hd := dL_stacked_190) (kk := ?_)
            refine v_ldT (pc := 191) X (x := nI bb) (5 * k + 1) B.2.1 (hd := dL_stacked_191) (hi := by first | rfl | (simp only [pk_mul, nI_add]; done)) (hj := by omega) (hx := u1) (kk := ?_)
            refine v_aload (pc := 192) X (hd := dL_stacked_192) (kk := ?_)
            refine v_iconst (pc := 194) X (v := nI 5) (hd := dL_stacked_194) (kk := ?_)
            refine v_iload (pc := 195) X (hd := dL_stacked_195) (kk := ?_)
            refine v_imul (pc := 197) X (hd := dL_stacked_197) (kk := ?_)
            refine v_iconst (pc := 198) X (v := nI 1) (hd := dL_stacked_198) (kk := ?_)
            refine v_iadd (pc := 199) X (hd := dL_stacked_199) (kk := ?_)
            refine v_ldT (pc := 200) X (x := nI bb2) (5 * to + 1) B.2.1 (hd := dL_stacked_200) (hi := by first | rfl | (simp only [pk_mul, nI_add]; done)) (hj := by omega) (hx := y1) (kk := ?_)
            refine v_icmpeq (pc := 201) X (tgt := 223) (hd := dL_stacked_201) (kt := fun c201 => ?_) (kf := fun c201 => ?_)
            · have k0 : kJoin w (nI k) (nI to) := ⟨⟨gk, gto, fun q => c145 q⟩, by rw [ek, eto, u0, y0]; exact Classical.not_not.mp c180, by rw [ek, eto, u1, y1]; exact c201⟩
              have hTT := I.tot hk hto hne
              rw [u2, y2, nx_nI s4, nx_nI z4] at hTT
              have b1 : ts * we ≤ ts * 100000 := Nat.mul_le_mul_left _ s5
              have b2 : ts2 * we2 ≤ ts2 * 100000 := Nat.mul_le_mul_left _ z5
              refine v_aload (pc := 223) X (hd := dL_stacked_223) (kk := ?_)
              refine v_iconst (pc := 225) X (v := nI 5) (hd := dL_stacked_225) (kk := ?_)
              refine v_iload (pc := 226) X (hd := dL_stacked_226) (kk := ?_)
              refine v_imul (pc := 228) X (hd := dL_stacked_228) (kk := ?_)
              refine v_iconst (pc := 229) X (v := nI 2) (hd := dL_stacked_229) (kk := ?_)
              refine v_iadd (pc := 230) X (hd := dL_stacked_230) (kk := ?_)
              refine v_ldT (pc := 231) X (x := nI ts) (5 * k + 2) B.2.1 (hd := dL_stacked_231) (hi := by first | rfl | (simp only [pk_mul, nI_add]; done)) (hj := by omega) (hx := u2) (kk := ?_)
              refine v_i2l (pc := 232) X (hd := dL_stacked_232) (kk := ?_)
              refine v_aload (pc := 233) X (hd := dL_stacked_233) (kk := ?_)
              refine v_iconst (pc := 235) X (v := nI 5) (hd := dL_stacked_235) (kk := ?_)
              refine v_iload (pc := 236) X (hd := dL_stacked_236) (kk := ?_)
              refine v_imul (pc := 238) X (hd := dL_stacked_238) (kk := ?_)
              refine v_iconst (pc := 239) X (v := nI 3) (hd := dL_stacked_239) (kk := ?_)
              refine v_iadd (pc := 240) X (hd := dL_stacked_240) (kk := ?_)
              refine v_ldT (pc := 241) X (x := nI we) (5 * k + 3) B.2.1 (hd := dL_stacked_241) (hi := by first | rfl | (simp only [pk_mul, nI_add]; done)) (hj := by omega) (hx := u3) (kk := ?_)
              refine v_i2l (pc := 242) X (hd := dL_stacked_242) (kk := ?_)
              refine v_lmul (pc := 243) X (hd := dL_stacked_243) (kk := ?_)
              refine v_aload (pc := 244) X (hd := dL_stacked_244) (kk := ?_)
              refine v_iconst (pc := 246) X (v := nI 5) (hd := dL_stacked_246) (kk := ?_)
              refine v_iload (pc := 247) X (hd := dL_stacked_247) (kk := ?_)
              refine v_imul (pc := 249) X (hd := dL_stacked_249) (kk := ?_)
              refine v_iconst (pc := 250) X (v := nI 2) (hd := dL_stacked_250) (kk := ?_)
              refine v_iadd (pc := 251) X (hd := dL_stacked_251) (kk := ?_)
              refine v_ldT (pc := 252) X (x := nI ts2) (5 * to + 2) B.2.1 (hd := dL_stacked_252) (hi := by first | rfl | (simp only [pk_mul, nI_add]; done)) (hj := by omega) (hx := y2) (kk := ?_)
              refine v_i2l (pc := 253) X (hd := dL_stacked_253) (kk := ?_)
              refine v_aload (pc := 254) X (hd := dL_stacked_254) (kk := ?_)
              refine v_iconst (pc := 256) X (v := nI 5) (hd := dL_stacked_256) (kk := ?_)
              refine v_iload (pc := 257) X (hd := dL_stacked_257) (kk := ?_)
              refine v_imul (pc := 259) X (hd := dL_stacked_259) (kk := ?_)
              refine v_iconst (pc := 260) X (v := nI 3) (hd := dL_stacked_260) (kk := ?_)
              refine v_iadd (pc := 261) X (hd := dL_stacked_261) (kk := ?_)
              refine v_ldT (pc := 262) X (x := nI we2) (5 * to + 3) B.2.1 (hd := dL_stacked_262) (hi := by first | rfl | (simp only [pk_mul, nI_add]; done)) (hj := by omega) (hx := y3) (kk := ?_)
              refine v_i2l (pc := 263) X (hd := dL_stacked_263) (kk := ?_)
              refine v_lmul (pc := 264) X (hd := dL_stacked_264) (kk := ?_)
              refine v_ladd (pc := 265) X (hd := dL_stacked_265) (kk := ?_)
              rw [nI_l (show ts < 2 ^ 31 by omega), nI_l (show we < 2 ^ 31 by omega), nI_l (show ts2 < 2 ^ 31 by omega), nI_l (show we2 < 2 ^ 31 by omega), lN_mul, lN_mul, lN_add]
              refine v_lstore (pc := 266) X (hd := dL_stacked_266) (kk := ?_)
              refine v_aload (pc := 268) X (hd := dL_stacked_268) (kk := ?_)
              refine v_iconst (pc := 270) X (v := nI 5) (hd := dL_stacked_270) (kk := ?_)
              refine v_iload (pc := 271) X (hd := dL_stacked_271) (kk := ?_)
              refine v_imul (pc := 273) X (hd := dL_stacked_273) (kk := ?_)
              refine v_iconst (pc := 274) X (v := nI 2) (hd := dL_stacked_274) (kk := ?_)
              refine v_iadd (pc := 275) X (hd := dL_stacked_275) (kk := ?_)
              refine v_ldT (pc := 276) X (x := nI ts) (5 * k + 2) B.2.1 (hd := dL_stacked_276) (hi := by first | rfl | (simp only [pk_mul, nI_add]; done)) (hj := by omega) (hx := u2) (kk := ?_)
              refine v_aload (pc := 277) X (hd := dL_stacked_277) (kk := ?_)
              refine v_iconst (pc := 279) X (v := nI 5) (hd := dL_stacked_279) (kk := ?_)
              refine v_iload (pc := 280) X (hd := dL_stacked_280) (kk := ?_)
              refine v_imul (pc := 282) X (hd := dL_stacked_282) (kk := ?_)
              refine v_iconst (pc := 283) X (v := nI 2) (hd := dL_stacked_283) (kk := ?_)
              refine v_iadd (pc := 284) X (hd := dL_stacked_284) (kk := ?_)
              refine v_ldT (pc := 285) X (x := nI ts2) (5 * to + 2) B.2.1 (hd := dL_stacked_285) (hi := by first | rfl | (simp only [pk_mul, nI_add]; done)) (hj := by omega) (hx := y2) (kk := ?_)
              refine v_iadd (pc := 286) X (hd := dL_stacked_286) (kk := ?_)
              rw [nI_add]
              refine v_istore (pc := 287) X (hd := dL_stacked_287) (kk := ?_)
              refine v_aload (pc := 289) X (hd := dL_stacked_289) (kk := ?_)
              refine v_iconst (pc := 291) X (v := nI 5) (hd := dL_stacked_291) (kk := ?_)
              refine v_iload (pc := 292) X (hd := dL_stacked_292) (kk := ?_)
              refine v_imul (pc := 294) X (hd := dL_stacked_294) (kk := ?_)
              refine v_iconst (pc := 295) X (v := nI 2) (hd := dL_stacked_295) (kk := ?_)
              refine v_iadd (pc := 296) X (hd := dL_stacked_296) (kk := ?_)
              refine v_iload (pc := 297) X (hd := dL_stacked_297) (kk := ?_)
              refine v_stT (pc := 299) X (5 * to + 2) B (hd := dL_stacked_299) (hi := by first | rfl | (simp only [pk_mul, nI_add]; done)) (hj := by omega) (kk := fun h_2 v_2 e_2 B_2 => ?_)
              have hA0 : ¬ lN (ts + ts2) = 0 := fun q => by have := (lN_eq (a := ts + ts2) (b := 0) (by omega) (by omega)).mp q; omega
              refine v_aload (pc := 300) X (hd := dL_stacked_300) (kk := ?_)
              refine v_iconst (pc := 302) X (v := nI 5) (hd := dL_stacked_302) (kk := ?_)
              refine v_iload (pc := 303) X (hd := dL_stacked_303) (kk := ?_)
              refine v_imul (pc := 305) X (hd := dL_stacked_305) (kk := ?_)
              refine v_iconst (pc := 306) X (v := nI 3) (hd := dL_stacked_306) (kk := ?_)
              refine v_iadd (pc := 307) X (hd := dL_stacked_307) (kk := ?_)
              refine v_lload (pc := 308) X (hd := dL_stacked_308) (kk := ?_)
              refine v_iload (pc := 310) X (hd := dL_stacked_310) (kk := ?_)
              refine v_i2l (pc := 312) X (hd := dL_stacked_312) (kk := ?_)
              rw [nI_l (show ts + ts2 < 2 ^ 31 by omega)]
              refine v_ldiv (pc := 313) X (hd := dL_stacked_313) (hne := hA0) (kk := ?_)
              rw [pk_lDiv (by omega) (by omega) (by omega)]
              refine v_lload (pc := 314) X (hd := dL_stacked_314) (kk := ?_)
              refine v_iload (pc := 316) X (hd := dL_stacked_316) (kk := ?_)
              refine v_i2l (pc := 318) X (hd := dL_stacked_318) (kk := ?_)
              rw [nI_l (show ts + ts2 < 2 ^ 31 by omega)]
              refine v_lrem (pc := 319) X (hd := dL_stacked_319) (hne := hA0) (kk := ?_)
              rw [pk_lRem (by omega) (by omega) (by omega)]
              refine v_lconst (pc := 320) X (v := lN 0) (hd := dL_stacked_320) (kk := ?_)
              refine v_lcmp (pc := 321) X (hd := dL_stacked_321) (kk := ?_)
              refine v_ifle (pc := 322) X (tgt := 329) (hd := dL_stacked_322) (kt := fun c322 => ?_) (kf := fun c322 => ?_)
              · have q322 : (ts * we + ts2 * we2) % (ts + ts2) = 0 := by
                  have := (pk_lLE (by have := Nat.mod_lt (ts * we + ts2 * we2) (show 0 < ts + ts2 by omega); omega) (by omega)).mp ((lg_cmp_le _ _).mp c322)
                  omega
                refine v_iconst (pc := 329) X (v := nI 0) (hd := dL_stacked_329) (kk := ?_)
                refine v_i2l (pc := 330) X (hd := dL_stacked_330) (kk := ?_)
                refine v_ladd (pc := 331) X (hd := dL_stacked_331) (kk := ?_)
                refine v_l2i (pc := 332) X (hd := dL_stacked_332) (kk := ?_)
                refine v_topv (y := nI ((ts * we + ts2 * we2 + (ts + ts2) - 1) / (ts + ts2))) (hx := by rw [nI_l (by omega), lN_add, lN_i]; exact congrArg nI (cd0 (by omega) q322)) (kk := ?_)
                exact st_join3 X hr hlk I W Y hn9 hvv hk hto hne s1 s2 s3 s4 s5 s6 z4 z5 z6 u2 u3 u4 y2 y3 y4 hTT k0 B_2 e_2
              · have q322 : 0 < (ts * we + ts2 * we2) % (ts + ts2) := by
                  rcases Nat.eq_zero_or_pos ((ts * we + ts2 * we2) % (ts + ts2)) with q | q
                  · exact absurd ((lg_cmp_le _ _).mpr (by rw [q]; exact Int64.le_refl _)) c322
                  · exact q
                refine v_iconst (pc := 325) X (v := nI 1) (hd := dL_stacked_325) (kk := ?_)
                refine v_goto (pc := 326) X (tgt := 330) (hd := dL_stacked_326) (kk := ?_)
                refine v_i2l (pc := 330) X (hd := dL_stacked_330) (kk := ?_)
                refine v_ladd (pc := 331) X (hd := dL_stacked_331) (kk := ?_)
                refine v_l2i (pc := 332) X (hd := dL_stacked_332) (kk := ?_)
                refine v_topv (y := nI ((ts * we + ts2 * we2 + (ts + ts2) - 1) / (ts + ts2))) (hx := by rw [nI_l (by omega), lN_add, lN_i]; exact congrArg nI (cd1 (by omega) q322)) (kk := ?_)
                exact st_join3 X hr hlk I W Y hn9 hvv hk hto hne s1 s2 s3 s4 s5 s6 z4 z5 z6 u2 u3 u4 y2 y3 y4 hTT k0 B_2 e_2
            · refine v_aload_n (pc := 204) X (hd := dL_stacked_204) (kk := ?_)
              refine v_iload (pc := 205) X (hd := dL_stacked_205) (kk := ?_)
              refine v_iload (pc := 207) X (hd := dL_stacked_207) (kk := ?_)
              have k1 : ¬ (w (76 + 5 * nx (nI k) + 0) = w (76 + 5 * nx (nI to) + 0) ∧ w (76 + 5 * nx (nI k) + 1) = w (76 + 5 * nx (nI to) + 1)) := fun q => by have q1 := q.1; have q2 := q.2; rw [ek, eto] at q1 q2; rw [u0, y0] at q1; rw [u1, y1] at q2; exact c201 q2
              refine v_act (pc := 209) X B I (hd := dL_stacked_209) (wv := wv_L_26) (hC := fun pa te nu np st en => c_X6_join l E x w pa np 0 te st en nu (nI k) (nI to) nh nb ns) (S := fun k0 => ⟨_, _, _, iJoin I k0⟩) (hhi := fun k0 => hiJoin I k0) (kk := fun h_3 D0_3 D1_3 => ?_)
              have B_3 := D0_3 (fun q => k1 q.2)
              refine v_topv (y := (-2)) (hx := by unfold rJoin; rw [if_pos ⟨gk, gto, fun q => c145 q⟩, if_neg k1]) (kk := ?_)
              refine v_bipush (pc := 212) X (v := (-2)) (hd := dL_stacked_212) (kk := ?_)
              refine v_icmpne (pc := 214) X (tgt := 221) (hd := dL_stacked_214) (kt := fun c214 => ?_) (kf := fun c214 => ?_)
              · exact absurd rfl c214
              · refine v_iconst (pc := 217) X (v := nI 1) (hd := dL_stacked_217) (kk := ?_)
                refine v_goto (pc := 218) X (tgt := 222) (hd := dL_stacked_218) (kk := ?_)
                exact v_endbi (pc := 222) X hr hlk (hd := dL_stacked_222) (hn := by rw [nI_t]; rfl) (hf := ⟨rfl, LV.fin B_3 (fun q => rfl) I W (Y.mono (by omega))⟩)
        · refine v_aload_n (pc := 148) X (hd := dL_stacked_148) (kk := ?_)
          refine v_iload (pc := 149) X (hd := dL_stacked_149) (kk := ?_)
          refine v_iload (pc := 151) X (hd := dL_stacked_151) (kk := ?_)
          refine v_act (pc := 153) X B I (hd := dL_stacked_153) (wv := wv_L_26) (hC := fun pa te nu np st en => c_X6_join l E x w pa np 0 te st en nu (nI k) (nI to) nh nb ns) (S := fun k0 => ⟨_, _, _, iJoin I k0⟩) (hhi := fun k0 => hiJoin I k0) (kk := fun h_4 D0_4 D1_4 => ?_)
          have B_4 := D0_4 (fun q => q.1.2.2 (Classical.not_not.mp c145))
          refine v_topv (y := (-1)) (hx := by unfold rJoin; exact if_neg (fun q => q.2.2 (Classical.not_not.mp c145))) (kk := ?_)
          refine v_iconst (pc := 156) X (v := (-1)) (hd := dL_stacked_156) (kk := ?_)
          refine v_icmpne (pc := 157) X (tgt := 164) (hd := dL_stacked_157) (kt := fun c157 => ?_) (kf := fun c157 => ?_)
          · exact absurd rfl c157
          · refine v_iconst (pc := 160) X (v := nI 1) (hd := dL_stacked_160) (kk := ?_)
            refine v_goto (pc := 161) X (tgt := 165) (hd := dL_stacked_161) (kk := ?_)
            exact v_endbi (pc := 165) X hr hlk (hd := dL_stacked_165) (hn := by rw [nI_t]; rfl) (hf := ⟨rfl, LV.fin B_4 (fun q => rfl) I W (Y.mono (by omega))⟩)
    · refine v_aload (pc := 56) X (hd := dL_stacked_56) (kk := ?_)
      refine v_iconst (pc := 58) X (v := nI 5) (hd := dL_stacked_58) (kk := ?_)
      refine v_iload (pc := 59) X (hd := dL_stacked_59) (kk := ?_)
      refine v_imul (pc := 61) X (hd := dL_stacked_61) (kk := ?_)
      refine v_iconst (pc := 62) X (v := nI 4) (hd := dL_stacked_62) (kk := ?_)
      refine v_iadd (pc := 63) X (hd := dL_stacked_63) (kk := ?_)
      refine v_ldT (pc := 64) X (x := nI tn) (5 * k + 4) B.2.1 (hd := dL_stacked_64) (hi := by first | rfl | (simp only [pk_mul, nI_add]; done)) (hj := by omega) (hx := u4) (kk := ?_)
      refine v_iconst (pc := 65) X (v := nI 3) (hd := dL_stacked_65) (kk := ?_)
      refine v_icmpne (pc := 66) X (tgt := 86) (hd := dL_stacked_66) (kt := fun c66 => ?_) (kf := fun c66 => ?_)
      · refine v_aload (pc := 86) X (hd := dL_stacked_86) (kk := ?_)
        refine v_iconst (pc := 88) X (v := nI 5) (hd := dL_stacked_88) (kk := ?_)
        refine v_iload (pc := 89) X (hd := dL_stacked_89) (kk := ?_)
        refine v_imul (pc := 91) X (hd := dL_stacked_91) (kk := ?_)
        refine v_iconst (pc := 92) X (v := nI 4) (hd := dL_stacked_92) (kk := ?_)
        refine v_iadd (pc := 93) X (hd := dL_stacked_93) (kk := ?_)
        refine v_dup2 (pc := 94) X (hd := dL_stacked_94) (kk := ?_)
        refine v_ldT (pc := 95) X (x := nI tn) (5 * k + 4) B.2.1 (hd := dL_stacked_95) (hi := by first | rfl | (simp only [pk_mul, nI_add]; done)) (hj := by omega) (hx := u4) (kk := ?_)
        refine v_iconst (pc := 96) X (v := nI 1) (hd := dL_stacked_96) (kk := ?_)
        refine v_iadd (pc := 97) X (hd := dL_stacked_97) (kk := ?_)
        refine v_stT (pc := 98) X (5 * k + 4) B (hd := dL_stacked_98) (hi := by first | rfl | (simp only [pk_mul, nI_add]; done)) (hj := by omega) (kk := fun h_5 v_5 e_5 B_5 => ?_)
        refine v_aload_n (pc := 99) X (hd := dL_stacked_99) (kk := ?_)
        refine v_iload (pc := 100) X (hd := dL_stacked_100) (kk := ?_)
        have k0 : kTurn w (nI k) := ⟨gk, by rw [ek, u4]; exact c66⟩
        refine v_act (pc := 102) X B_5 I (hd := dL_stacked_102) (wv := wv_L_16) (hC := fun pa te nu np st en => c_X6_turn l E x w pa np 0 te st en nu (nI k) nh nb ns) (S := fun k0 => ⟨_, _, _, iTurn I k0⟩) (hhi := fun k0 => hiTurn I k0) (kk := fun h_6 D0_6 D1_6 => ?_)
        have B_6 := D1_6 (k0)
        refine v_topv (y := nI tn + nI 1) (hx := by unfold rTurn; rw [if_pos k0.1, if_neg k0.2, ek, u4]) (kk := ?_)
        refine v_aload (pc := 105) X (hd := dL_stacked_105) (kk := ?_)
        refine v_iconst (pc := 107) X (v := nI 5) (hd := dL_stacked_107) (kk := ?_)
        refine v_iload (pc := 108) X (hd := dL_stacked_108) (kk := ?_)
        refine v_imul (pc := 110) X (hd := dL_stacked_110) (kk := ?_)
        refine v_iconst (pc := 111) X (v := nI 4) (hd := dL_stacked_111) (kk := ?_)
        refine v_iadd (pc := 112) X (hd := dL_stacked_112) (kk := ?_)
        refine v_ldT (pc := 113) X (x := nI tn + nI 1) (5 * k + 4) B_6.2.1 (hd := dL_stacked_113) (hi := by first | rfl | (simp only [pk_mul, nI_add]; done)) (hj := by omega) (hx := by rw [e_5, if_pos (by omega)]) (kk := ?_)
        refine v_icmpne (pc := 114) X (tgt := 121) (hd := dL_stacked_114) (kt := fun c114 => ?_) (kf := fun c114 => ?_)
        · exact absurd rfl c114
        · refine v_iconst (pc := 117) X (v := nI 1) (hd := dL_stacked_117) (kk := ?_)
          refine v_goto (pc := 118) X (tgt := 122) (hd := dL_stacked_118) (kk := ?_)
          exact v_endbi (pc := 122) X hr hlk (hd := dL_stacked_122) (hn := by rw [nI_t]; rfl) (hf := ⟨rfl, LV.fin B_6 (fun q => eq_turn u4 (by omega) e_5 q) (iTurn I k0) (w2Upd W (by omega) (by omega)) (by unfold gTurn; rw [pk_un (by omega)]; exact Y.mono (by omega))⟩)
      · refine v_aload_n (pc := 69) X (hd := dL_stacked_69) (kk := ?_)
        refine v_iload (pc := 70) X (hd := dL_stacked_70) (kk := ?_)
        refine v_act (pc := 72) X B I (hd := dL_stacked_72) (wv := wv_L_16) (hC := fun pa te nu np st en => c_X6_turn l E x w pa np 0 te st en nu (nI k) nh nb ns) (S := fun k0 => ⟨_, _, _, iTurn I k0⟩) (hhi := fun k0 => hiTurn I k0) (kk := fun h_7 D0_7 D1_7 => ?_)
        have B_7 := D0_7 (fun q => q.2 (by rw [ek, u4]; exact Classical.not_not.mp c66))
        refine v_topv (y := (-3)) (hx := by unfold rTurn; rw [if_pos gk, if_pos (by rw [ek, u4]; exact Classical.not_not.mp c66)]) (kk := ?_)
        refine v_bipush (pc := 75) X (v := (-3)) (hd := dL_stacked_75) (kk := ?_)
        refine v_icmpne (pc := 77) X (tgt := 84) (hd := dL_stacked_77) (kt := fun c77 => ?_) (kf := fun c77 => ?_)
        · exact absurd rfl c77
        · refine v_iconst (pc := 80) X (v := nI 1) (hd := dL_stacked_80) (kk := ?_)
          refine v_goto (pc := 81) X (tgt := 85) (hd := dL_stacked_81) (kk := ?_)
          exact v_endbi (pc := 85) X hr hlk (hd := dL_stacked_85) (hn := by rw [nI_t]; rfl) (hf := ⟨rfl, LV.fin B_7 (fun q => rfl) I W (Y.mono (by omega))⟩)
  · have hz : ∀ q, ¬ gH (w 3) q := fun q a => by rw [es, Classical.not_not.mp c3] at a; have a1 := a.1; have a2 := a.2; rw [n_le] at a1; rw [n_lt] at a2; omega
    refine v_aload_n (pc := 6) X (hd := dL_stacked_6) (kk := ?_)
    refine v_iconst (pc := 7) X (v := nI 0) (hd := dL_stacked_7) (kk := ?_)
    refine v_act (pc := 8) X B I (hd := dL_stacked_8) (wv := wv_L_16) (hC := fun pa te nu np st en => c_X6_turn l E x w pa np 0 te st en nu (nI 0) nh nb ns) (S := fun k0 => ⟨_, _, _, iTurn I k0⟩) (hhi := fun k0 => hiTurn I k0) (kk := fun h_8 D0_8 D1_8 => ?_)
    have B_8 := D0_8 (fun q => hz _ q.1)
    refine v_topv (y := (-1)) (hx := by unfold rTurn; exact if_neg (hz _)) (kk := ?_)
    refine v_iconst (pc := 11) X (v := (-1)) (hd := dL_stacked_11) (kk := ?_)
    refine v_icmpne (pc := 12) X (tgt := 39) (hd := dL_stacked_12) (kt := fun c12 => ?_) (kf := fun c12 => ?_)
    · exact absurd rfl c12
    · refine v_aload_n (pc := 15) X (hd := dL_stacked_15) (kk := ?_)
      refine v_iconst (pc := 16) X (v := nI 0) (hd := dL_stacked_16) (kk := ?_)
      refine v_iconst (pc := 17) X (v := nI 1) (hd := dL_stacked_17) (kk := ?_)
      refine v_act (pc := 18) X B_8 I (hd := dL_stacked_18) (wv := wv_L_22) (hC := fun pa te nu np st en => c_X6_cart l E x w pa np 0 te st en nu (nI 0) (nI 1) nh nb ns) (S := fun k0 => (iCart I k0).elim (fun n1 I1 => ⟨_, _, n1, I1⟩)) (hhi := fun k0 => hiCart I k0) (kk := fun h_9 D0_9 D1_9 => ?_)
      have B_9 := D0_9 (fun q => hz _ q.1.1)
      refine v_topv (y := (-1)) (hx := by unfold rCart; exact if_neg (fun q => hz _ q.1)) (kk := ?_)
      refine v_iconst (pc := 21) X (v := (-1)) (hd := dL_stacked_21) (kk := ?_)
      refine v_icmpne (pc := 22) X (tgt := 39) (hd := dL_stacked_22) (kt := fun c22 => ?_) (kf := fun c22 => ?_)
      · exact absurd rfl c22
      · refine v_aload_n (pc := 25) X (hd := dL_stacked_25) (kk := ?_)
        refine v_iconst (pc := 26) X (v := nI 0) (hd := dL_stacked_26) (kk := ?_)
        refine v_iconst (pc := 27) X (v := nI 1) (hd := dL_stacked_27) (kk := ?_)
        refine v_act (pc := 28) X B_9 I (hd := dL_stacked_28) (wv := wv_L_26) (hC := fun pa te nu np st en => c_X6_join l E x w pa np 0 te st en nu (nI 0) (nI 1) nh nb ns) (S := fun k0 => ⟨_, _, _, iJoin I k0⟩) (hhi := fun k0 => hiJoin I k0) (kk := fun h_10 D0_10 D1_10 => ?_)
        have B_10 := D0_10 (fun q => hz _ q.1.1)
        refine v_topv (y := (-1)) (hx := by unfold rJoin; exact if_neg (fun q => hz _ q.1)) (kk := ?_)
        refine v_iconst (pc := 31) X (v := (-1)) (hd := dL_stacked_31) (kk := ?_)
        refine v_icmpne (pc := 32) X (tgt := 39) (hd := dL_stacked_32) (kt := fun c32 => ?_) (kf := fun c32 => ?_)
        · exact absurd rfl c32
        · refine v_iconst (pc := 35) X (v := nI 1) (hd := dL_stacked_35) (kk := ?_)
          refine v_goto (pc := 36) X (tgt := 40) (hd := dL_stacked_36) (kk := ?_)
          exact v_endbi (pc := 40) X hr hlk (hd := dL_stacked_40) (hn := by rw [nI_t]; rfl) (hf := ⟨rfl, LV.fin B_10 (fun q => rfl) I W (Y.mono (by omega))⟩)
