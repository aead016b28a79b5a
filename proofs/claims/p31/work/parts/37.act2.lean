/-! the Parish's actions, second part -/
theorem pset_3 {h : pH} {p y : Nat} {a b c : va_E} (hne : p ≠ y) : pset (pset (pset h p a) y b) p c = pset (pset h y b) p c := by
  funext q
  unfold pset
  by_cases e : q = p
  · rw [if_pos e, if_pos e]
  · rw [if_neg e, if_neg e, if_neg e]
def rmF (f : Nat → Option Nat) (j i : Nat) : Nat → Option Nat := fun k => if j ≤ k ∧ k < j + i then f (k + 1) else f k
theorem rmF_s (f : Nat → Option Nat) (j i : Nat) (x : Option Nat) (hx : x = f (j + 1 + i)) : va_up (rmF f j i) (j + i) x = rmF f j (i + 1) := by
  funext k
  unfold va_up rmF
  by_cases e : k = j + i
  · rw [if_pos e, if_pos (by omega), hx, e]
    congr 1
    omega
  · rw [if_neg e]
    by_cases e2 : j ≤ k ∧ k < j + i
    · rw [if_pos e2, if_pos (by omega)]
    · rw [if_neg e2, if_neg (by omega)]
theorem rmF_0 (f : Nat → Option Nat) (j : Nat) : rmF f j 0 = f := by
  funext k
  unfold rmF
  rw [if_neg (by omega)]
def rmS (j ns k : Nat) : Nat := if k < j then k else if k < ns - 1 then k + 1 else if k = ns - 1 then j else k
theorem rmS_lt {j ns k : Nat} (hj : j < ns) (hn : ns ≤ 12) (hk : k < 12) : rmS j ns k < 12 := by
  unfold rmS
  split
  · omega
  · split
    · omega
    · split <;> omega
theorem rmS_inj {j ns k i : Nat} (hj : j < ns) (h : rmS j ns k = rmS j ns i) : k = i := by
  unfold rmS at h
  split at h <;> split at h <;> (try split at h) <;> (try split at h) <;> (try split at h) <;> (try split at h) <;> omega
theorem caD_at {v : Nat → Int32} {j b o d : Nat} {L t : Int32} (hb : b < 4) (ho : o < 6) (hd : d = 1 ∨ d = 2) (q : Nat) : caD v j b o L t d q = upd (upd (upd (upd v (6 + 3 * o + d) (v (6 + 3 * o + d) + t)) (24 + 7 * b + 5) (v (24 + 7 * b + 5) + t)) (24 + 7 * b + 2) (v (24 + 7 * b + 2) + fWear L)) (76 + 5 * j + 2) (v (76 + 5 * j + 2) - t) q := by
  unfold caD caB
  rw [pk_un (j := 6 + 3 * o + d) (by omega), pk_un (j := 6 + 3 * o + d) (by omega), pk_un (j := 24 + 7 * b + 5) (by omega), pk_un (j := 76 + 5 * j + 2) (by omega), pk_un (j := 76 + 5 * j + 2) (by omega), pk_un (j := 76 + 5 * j + 2) (by omega)]
  simp only [upd_at]
  by_cases e1 : q = 76 + 5 * j + 2
  · rw [if_pos e1, if_pos e1]
  · rw [if_neg e1, if_neg e1]
    by_cases e2 : q = 24 + 7 * b + 2
    · rw [if_neg (by omega), if_neg (by omega), if_pos e2, if_pos e2]
    · rw [if_neg e2, if_neg e2]
      by_cases e3 : q = 24 + 7 * b + 5
      · rw [if_neg (by omega), if_pos e3, if_pos e3]
      · rw [if_neg e3, if_neg e3]
set_option maxRecDepth 100000 in
set_option maxHeartbeats 4000000 in
theorem c_X5_takeAllOf (l : Launch) (E : pE) (a a2 : Nat) (o b w n o2 b2 w2 n2 : Int32) (t t2 : Nat) : pC l E yX5_takeAllOf cX5_takeAllOf 5 none { frames := 1, cells := 0, slots := 0, locals := 21 } 0 0 [.ref a, .ref a2] (fun h _ => h a = some (ob 5 [.int o, .int b, .int (nI t), .int w, .int n]) ∧ h a2 = some (ob 5 [.int o2, .int b2, .int (nI t2), .int w2, .int n2]) ∧ a2 ≠ a ∧ 1 ≤ t ∧ t + t2 < 2 ^ 31) (pFv (fun h h' => h' = pset h a (ob 5 [.int o, .int b, .int (nI t + nI t2), .int ((((nI t).toInt64 * w.toInt64 + (nI t2).toInt64 * w2.toInt64 + (nI t + nI t2).toInt64 - lN 1) / (nI t + nI t2).toInt64).toInt32), .int (if n2 < n then n2 else n)]))) := by
  refine pC_of (by decide) (by simp [Value.category]) (Nat.le_of_ble_eq_true rfl) ?_
  intro h z hp p__ e__ s__ m__ args__ below__ meth__ c__ X hr hlk hname
  obtain ⟨hp1, hp2, hne, ht, ht2⟩ := hp
  refine v_aload_n (pc := 0) X (hd := dX5_takeAllOf_0) (kk := ?_)
  refine g_X5_18 (pc := 1) X (hd := dX5_takeAllOf_1) (hh := by first | assumption | exact pset_s _ _ _ | exact (pset_n (by omega)).trans (by assumption)) (kk := ?_)
  refine v_aload_n (pc := 4) X (hd := dX5_takeAllOf_4) (kk := ?_)
  refine g_X5_18 (pc := 5) X (hd := dX5_takeAllOf_5) (hh := by first | assumption | exact pset_s _ _ _ | exact (pset_n (by omega)).trans (by assumption)) (kk := ?_)
  refine v_iadd (pc := 8) X (hd := dX5_takeAllOf_8) (kk := ?_)
  refine v_istore_n (pc := 9) X (hd := dX5_takeAllOf_9) (kk := ?_)
  refine v_iload_n (pc := 10) X (hd := dX5_takeAllOf_10) (kk := ?_)
  refine v_ifle (pc := 11) X (tgt := 52) (hd := dX5_takeAllOf_11) (kt := fun c11 => ?_) (kf := fun c11 => ?_)
  · exact absurd c11 (by rw [nI_add, ← nI_z]; exact nI_ge (by omega) (by omega))
  · refine v_aload_n (pc := 14) X (hd := dX5_takeAllOf_14) (kk := ?_)
    refine g_X5_18 (pc := 15) X (hd := dX5_takeAllOf_15) (hh := by first | assumption | exact pset_s _ _ _ | exact (pset_n (by omega)).trans (by assumption)) (kk := ?_)
    refine v_i2l (pc := 18) X (hd := dX5_takeAllOf_18) (kk := ?_)
    refine v_aload_n (pc := 19) X (hd := dX5_takeAllOf_19) (kk := ?_)
    refine g_X5_21 (pc := 20) X (hd := dX5_takeAllOf_20) (hh := by first | assumption | exact pset_s _ _ _ | exact (pset_n (by omega)).trans (by assumption)) (kk := ?_)
    refine v_i2l (pc := 23) X (hd := dX5_takeAllOf_23) (kk := ?_)
    refine v_lmul (pc := 24) X (hd := dX5_takeAllOf_24) (kk := ?_)
    refine v_aload_n (pc := 25) X (hd := dX5_takeAllOf_25) (kk := ?_)
    refine g_X5_18 (pc := 26) X (hd := dX5_takeAllOf_26) (hh := by first | assumption | exact pset_s _ _ _ | exact (pset_n (by omega)).trans (by assumption)) (kk := ?_)
    refine v_i2l (pc := 29) X (hd := dX5_takeAllOf_29) (kk := ?_)
    refine v_aload_n (pc := 30) X (hd := dX5_takeAllOf_30) (kk := ?_)
    refine g_X5_21 (pc := 31) X (hd := dX5_takeAllOf_31) (hh := by first | assumption | exact pset_s _ _ _ | exact (pset_n (by omega)).trans (by assumption)) (kk := ?_)
    refine v_i2l (pc := 34) X (hd := dX5_takeAllOf_34) (kk := ?_)
    refine v_lmul (pc := 35) X (hd := dX5_takeAllOf_35) (kk := ?_)
    refine v_ladd (pc := 36) X (hd := dX5_takeAllOf_36) (kk := ?_)
    refine v_lstore_n (pc := 37) X (hd := dX5_takeAllOf_37) (kk := ?_)
    refine v_aload_n (pc := 38) X (hd := dX5_takeAllOf_38) (kk := ?_)
    refine v_lload_n (pc := 39) X (hd := dX5_takeAllOf_39) (kk := ?_)
    refine v_iload_n (pc := 40) X (hd := dX5_takeAllOf_40) (kk := ?_)
    refine v_i2l (pc := 41) X (hd := dX5_takeAllOf_41) (kk := ?_)
    refine v_ladd (pc := 42) X (hd := dX5_takeAllOf_42) (kk := ?_)
    refine v_lconst (pc := 43) X (v := lN 1) (hd := dX5_takeAllOf_43) (kk := ?_)
    refine v_lsub (pc := 44) X (hd := dX5_takeAllOf_44) (kk := ?_)
    refine v_iload_n (pc := 45) X (hd := dX5_takeAllOf_45) (kk := ?_)
    refine v_i2l (pc := 46) X (hd := dX5_takeAllOf_46) (kk := ?_)
    refine v_ldiv (pc := 47) X (hd := dX5_takeAllOf_47) (hne := by rw [nI_add, nI_l (by omega)]; exact fun q => by have := (lN_eq (a := t + t2) (b := 0) (by omega) (by omega)).mp q; omega) (kk := ?_)
    refine v_l2i (pc := 48) X (hd := dX5_takeAllOf_48) (kk := ?_)
    refine p_X5_21 (pc := 49) X (hd := dX5_takeAllOf_49) (hh := by first | assumption | exact pset_s _ _ _ | exact (pset_n (by omega)).trans (by assumption)) (kk := ?_)
    refine v_aload_n (pc := 52) X (hd := dX5_takeAllOf_52) (kk := ?_)
    refine v_iload_n (pc := 53) X (hd := dX5_takeAllOf_53) (kk := ?_)
    refine p_X5_18 (pc := 54) X (hd := dX5_takeAllOf_54) (hh := by first | assumption | exact pset_s _ _ _ | exact (pset_n (by omega)).trans (by assumption)) (kk := ?_)
    rw [pset_pset]
    refine v_aload_n (pc := 57) X (hd := dX5_takeAllOf_57) (kk := ?_)
    refine v_aload_n (pc := 58) X (hd := dX5_takeAllOf_58) (kk := ?_)
    refine g_X5_24 (pc := 59) X (hd := dX5_takeAllOf_59) (hh := by first | assumption | exact pset_s _ _ _ | exact (pset_n (by omega)).trans (by assumption)) (kk := ?_)
    refine v_aload_n (pc := 62) X (hd := dX5_takeAllOf_62) (kk := ?_)
    refine g_X5_24 (pc := 63) X (hd := dX5_takeAllOf_63) (hh := by first | assumption | exact pset_s _ _ _ | exact (pset_n (by omega)).trans (by assumption)) (kk := ?_)
    refine v_min (pc := 66) X (hd := dX5_takeAllOf_66) (hw1 := wm_X5_31) (hw2 := wt_min) (hw3 := wi_Math) (hw4 := wc_min) (kk := ?_)
    refine p_X5_24 (pc := 69) X (hd := dX5_takeAllOf_69) (hh := by first | assumption | exact pset_s _ _ _ | exact (pset_n (by omega)).trans (by assumption)) (kk := ?_)
    rw [pset_pset]
    exact v_endv (pc := 72) X hr hlk (hd := dX5_takeAllOf_72) (hf := rfl)
set_option maxRecDepth 100000 in
set_option maxHeartbeats 4000000 in
theorem c_X2_removeStack (l : Launch) (E : pE) (a : Nat) (v : Nat → Int32) (j ns : Nat) : pC l E yX2_removeStack cX2_removeStack 4 none { frames := 0, cells := 0, slots := 0, locals := 0 } 0 0 [.ref a, .int (nI j)] (fun h _ => PA a v h ∧ v 3 = nI ns ∧ j < ns ∧ ns ≤ 12) (pFv (fun h h' => PA a (gGo v j ns) h' ∧ ∀ q, q ≠ a → q ≠ a + 3 → h' q = h q)) := by
  refine pC_of (by decide) (by simp [Value.category]) (Nat.le_of_ble_eq_true rfl) ?_
  intro h z hp p__ e__ s__ m__ args__ below__ meth__ c__ X hr hlk hname
  obtain ⟨hP0, es, hj, hs12⟩ := hp
  obtain ⟨f1, f2, f3, pi, g, c, P⟩ := hP0
  have P0 := P
  obtain ⟨T0, T1, T2, T3, ⟨F1, F2, F3, pl, pj⟩, Hh, Hb, Hg, Hc, Gg, Gc, Hk, Hs⟩ := P
  rw [es] at T0
  have eS : nx (v 3) = ns := by rw [es]; exact nx_nI (by omega)
  have Hs2 : ∀ k, k < ns → _ := fun k hk => Hs k (by omega) (by rw [eS]; exact hk)
  have hpl := pl j (by omega)
  refine v_aload_n (pc := 0) X (hd := dX2_removeStack_0) (kk := ?_)
  refine g_X2_44 (pc := 1) X (hd := dX2_removeStack_1) (hh := by first | assumption | exact pset_s _ _ _ | exact (pset_n (by omega)).trans (by assumption)) (kk := ?_)
  refine v_iload_n (pc := 4) X (hd := dX2_removeStack_4) (kk := ?_)
  refine v_aaldN (pc := 5) X (j := j) (hd := dX2_removeStack_5) (hh := by first | assumption | exact pset_s _ _ _ | exact (pset_n (by omega)).trans (by assumption)) (hi := by first | rfl | (simp only [pk_mul, nI_add]; done)) (hj := by omega) (hf := F3 j (by omega)) (kk := ?_)
  refine v_astore_n (pc := 6) X (hd := dX2_removeStack_6) (kk := ?_)
  refine v_iload_n (pc := 7) X (hd := dX2_removeStack_7) (kk := ?_)
  refine v_iconst (pc := 8) X (v := nI 1) (hd := dX2_removeStack_8) (kk := ?_)
  refine v_iadd (pc := 9) X (hd := dX2_removeStack_9) (kk := ?_)
  rw [nI_add]
  refine v_istore_n (pc := 10) X (hd := dX2_removeStack_10) (kk := ?_)
  refine v_for (pc := 11) (M := (ns - (j + 1))) (Lf := fun i => [some (.ref a), some (.int (nI j)), some (.ref (a + 22 + pi j)), some (.int (nI (j + 1 + i)))]) (I := fun i h1 => h1 = pset h (a + 3) (ar 5 12 (rmF f3 j i))) (h0 := by rw [rmF_0]; exact pset_id T3) (hL := by rfl) (step := ?_) (out := ?_)
  · intro i h1 hi hI kk
    subst hI
    have hpi := pl (j + 1 + i) (by omega)
    refine v_iload_n (pc := 11) X (hd := dX2_removeStack_11) (kk := ?_)
    refine v_aload_n (pc := 12) X (hd := dX2_removeStack_12) (kk := ?_)
    refine g_X2_27 (pc := 13) X (hd := dX2_removeStack_13) (hh := by first | assumption | exact pset_s _ _ _ | exact (pset_n (by omega)).trans (by assumption)) (kk := ?_)
    refine v_icmpge (pc := 16) X (tgt := 39) (hd := dX2_removeStack_16) (kt := fun c16 => ?_) (kf := fun c16 => ?_)
    · exact absurd c16 (nI_ge (by omega) (by omega))
    · refine v_aload_n (pc := 19) X (hd := dX2_removeStack_19) (kk := ?_)
      refine g_X2_44 (pc := 20) X (hd := dX2_removeStack_20) (hh := by first | assumption | exact pset_s _ _ _ | exact (pset_n (by omega)).trans (by assumption)) (kk := ?_)
      refine v_iload_n (pc := 23) X (hd := dX2_removeStack_23) (kk := ?_)
      refine v_iconst (pc := 24) X (v := nI 1) (hd := dX2_removeStack_24) (kk := ?_)
      refine v_isub (pc := 25) X (hd := dX2_removeStack_25) (kk := ?_)
      rw [show nI (j + 1 + i) - nI 1 = nI (j + i) from by rw [pk_sub (by omega)]; congr 1; omega]
      refine v_aload_n (pc := 26) X (hd := dX2_removeStack_26) (kk := ?_)
      refine g_X2_44 (pc := 27) X (hd := dX2_removeStack_27) (hh := by first | assumption | exact pset_s _ _ _ | exact (pset_n (by omega)).trans (by assumption)) (kk := ?_)
      refine v_iload_n (pc := 30) X (hd := dX2_removeStack_30) (kk := ?_)
      refine v_aaldN (pc := 31) X (j := (j + 1 + i)) (hd := dX2_removeStack_31) (hh := pset_s _ _ _) (hi := by first | rfl | (simp only [pk_mul, nI_add]; done)) (hj := by omega) (hf := by unfold rmF; rw [if_neg (by omega)]; exact F3 _ (by omega)) (kk := ?_)
      refine v_aastN (pc := 32) X (j := (j + i)) (hd := dX2_removeStack_32) (hh := pset_s _ _ _) (hv := (pset_n (by omega)).trans (Hs2 (j + 1 + i) (by omega))) (hi := by first | rfl | (simp only [pk_mul, nI_add]; done)) (hj := by omega) (kk := ?_)
      rw [pset_pset]
      refine v_iincN (pc := 33) X (hd := dX2_removeStack_33) (kk := ?_)
      refine v_goto (pc := 36) X (tgt := 11) (hd := dX2_removeStack_36) (kk := ?_)
      refine kk _ ?_
      rw [rmF_s _ _ _ _ (F3 (j + 1 + i) (by omega)).symm]
  · intro h1 hI
    subst hI
    refine v_iload_n (pc := 11) X (hd := dX2_removeStack_11) (kk := ?_)
    refine v_aload_n (pc := 12) X (hd := dX2_removeStack_12) (kk := ?_)
    refine g_X2_27 (pc := 13) X (hd := dX2_removeStack_13) (hh := by first | assumption | exact pset_s _ _ _ | exact (pset_n (by omega)).trans (by assumption)) (kk := ?_)
    refine v_icmpge (pc := 16) X (tgt := 39) (hd := dX2_removeStack_16) (kt := fun c16 => ?_) (kf := fun c16 => ?_)
    · refine v_aload_n (pc := 39) X (hd := dX2_removeStack_39) (kk := ?_)
      refine v_dup (pc := 40) X (hd := dX2_removeStack_40) (kk := ?_)
      refine g_X2_27 (pc := 41) X (hd := dX2_removeStack_41) (hh := by first | assumption | exact pset_s _ _ _ | exact (pset_n (by omega)).trans (by assumption)) (kk := ?_)
      refine v_iconst (pc := 44) X (v := nI 1) (hd := dX2_removeStack_44) (kk := ?_)
      refine v_isub (pc := 45) X (hd := dX2_removeStack_45) (kk := ?_)
      refine p_X2_27 (pc := 46) X (hd := dX2_removeStack_46) (hh := by first | assumption | exact pset_s _ _ _ | exact (pset_n (by omega)).trans (by assumption)) (kk := ?_)
      refine v_aload_n (pc := 49) X (hd := dX2_removeStack_49) (kk := ?_)
      refine g_X2_44 (pc := 50) X (hd := dX2_removeStack_50) (hh := by first | assumption | exact pset_s _ _ _ | exact (pset_n (by omega)).trans (by assumption)) (kk := ?_)
      refine v_aload_n (pc := 53) X (hd := dX2_removeStack_53) (kk := ?_)
      refine g_X2_27 (pc := 54) X (hd := dX2_removeStack_54) (hh := pset_s _ _ _) (kk := ?_)
      refine v_aload_n (pc := 57) X (hd := dX2_removeStack_57) (kk := ?_)
      rw [pk_sub (show 1 ≤ ns by omega)]
      refine v_aastN (pc := 58) X (j := (ns - 1)) (hd := dX2_removeStack_58) (hh := (pset_n (by omega)).trans (pset_s _ _ _)) (hv := (pset_n (by omega)).trans ((pset_n (by omega)).trans (Hs2 j hj))) (hi := by first | rfl | (simp only [pk_mul, nI_add]; done)) (hj := by omega) (kk := ?_)
      exact v_endv (pc := 59) X hr hlk (hd := dX2_removeStack_59) (hf := by
    rw [pset_3 (by omega)]
    have P1 := P0.topF (v1 := upd v 3 (nI (ns - 1))) (fun q hq => pk_un (by omega)) (fun k hk hk2 => Hs2 k (by rw [pk_us, nx_nI (by omega)] at hk2; omega)) (pk_un (by omega)).symm (pk_un (by omega)).symm (pk_un (by omega)).symm (pk_un (by omega)).symm (pk_un (by omega)).symm pk_us.symm
    have P2 := P1.perm (pi1 := fun k => pi (rmS j ns k)) (v1 := gGo v j ns) (f4 := va_up (rmF f3 j (ns - (j + 1))) (ns - 1) (some (a + 22 + pi j))) (fun k hk => pl _ (rmS_lt hj hs12 hk)) (fun i k hi hk hq => rmS_inj hj (pj _ _ (rmS_lt hj hs12 hi) (rmS_lt hj hs12 hk) hq)) (fun k hk => by
      unfold va_up rmF rmS
      by_cases e1 : k = ns - 1
      · rw [if_pos e1, if_neg (by omega), if_neg (by omega), if_pos e1]
      · rw [if_neg e1]
        by_cases e2 : k < j
        · rw [if_pos e2, if_neg (by omega)]; exact F3 k hk
        · rw [if_neg e2]
          by_cases e3 : k < ns - 1
          · rw [if_pos e3, if_pos (by omega)]; exact F3 (k + 1) (by omega)
          · rw [if_neg e3, if_neg e1, if_neg (by omega)]; exact F3 k hk)
      (fun q hq => by
        by_cases e : q = 3
        · rw [e, pk_us]; exact gGo_3 es hj
        · rw [pk_un e]; exact gGo_n e (by omega) hj)
      (fun k hk hk2 => by
        rw [gGo_3 es hj, nx_nI (by omega)] at hk2
        unfold rmS
        by_cases e2 : k < j
        · have hpk := pl k hk
          rw [if_pos e2, gGo_n (by omega) (by omega) hj, gGo_n (by omega) (by omega) hj, gGo_n (by omega) (by omega) hj, gGo_n (by omega) (by omega) hj, gGo_n (by omega) (by omega) hj]
          exact (pset_n (by omega)).trans (Hs2 k (by omega))
        · have hpk := pl (k + 1) (by omega)
          rw [if_neg e2, if_pos hk2, gGo_s (by omega), gGo_s (by omega), gGo_s (by omega), gGo_s (by omega), gGo_s (by omega)]
          exact (pset_n (by omega)).trans (Hs2 (k + 1) (by omega)))
    exact ⟨⟨_, _, _, _, _, _, P2⟩, fun q h1 h2 => (pset_n h2).trans (pset_n h1)⟩)
    · exact absurd (nI_le (by omega) (by omega)) c16
set_option maxRecDepth 100000 in
set_option maxHeartbeats 4000000 in
theorem c_X2_joinStacks (l : Launch) (E : pE) (a : Nat) (v : Nat → Int32) (x y : Int32) (nh nb ns : Nat) : pC l E yX2_joinStacks cX2_joinStacks 5 (some .int) { frames := 2, cells := 0, slots := 0, locals := 45 } 0 0 [.ref a, .int x, .int y] (fun h _ => PA a v h ∧ Iv v nh nb ns) (pFi (cP a (kJoin v x y) (rJoin v x y) (gJoin v x y ns))) := by
  refine pC_of (by decide) (by simp [Value.category]) (Nat.le_of_ble_eq_true rfl) ?_
  intro h z hp p__ e__ s__ m__ args__ below__ meth__ c__ X hr hlk hname
  obtain ⟨hP0, I⟩ := hp
  obtain ⟨f1, f2, f3, pi, g, c, P⟩ := hP0
  have hpp : PA a v h ∧ Iv v nh nb ns := ⟨⟨f1, f2, f3, pi, g, c, P⟩, I⟩
  obtain ⟨hn6, hb4, hs12, en, eb, es⟩ := I.1
  have eS : nx (v 3) = ns := by rw [es]; exact nx_nI (by omega)
  have P0 := P
  obtain ⟨T0, T1, T2, T3, ⟨F1, F2, F3, pl, pj⟩, Hh, Hb, Hg, Hc, Gg, Gc, Hk, Hs⟩ := P
  rw [en, eb, es] at T0
  have Hs2 : ∀ k, k < ns → _ := fun k hk => Hs k (by omega) (by rw [eS]; exact hk)
  refine v_aload_n (pc := 0) X (hd := dX2_joinStacks_0) (kk := ?_)
  refine v_iload_n (pc := 1) X (hd := dX2_joinStacks_1) (kk := ?_)
  refine v_callVp (pc := 2) X (hd := dX2_joinStacks_2) (w := wv_X2_129) (hC := c_X2_hasStack l E a v x nh nb ns) (hp := hpp) (hb := by first | assumption | exact pset_s _ _ _ | exact (pset_n (by omega)).trans (by assumption)) (kk := ?_)
  refine v_ifeqB (pc := 5) X (tgt := 21) (hd := dX2_joinStacks_5) (kt := fun c5 => ?_) (kf := fun c5 => ?_)
  · refine v_iconst (pc := 21) X (v := (-1)) (hd := dX2_joinStacks_21) (kk := ?_)
    exact v_endi (pc := 22) X hr hlk (hd := dX2_joinStacks_22) (hf := ⟨by unfold rJoin; rw [if_neg (fun q => c5 q.1)], Or.inl ⟨fun q => c5 q.1.1, rfl⟩⟩)
  · refine v_aload_n (pc := 8) X (hd := dX2_joinStacks_8) (kk := ?_)
    refine v_iload_n (pc := 9) X (hd := dX2_joinStacks_9) (kk := ?_)
    refine v_callVp (pc := 10) X (hd := dX2_joinStacks_10) (w := wv_X2_129) (hC := c_X2_hasStack l E a v y nh nb ns) (hp := hpp) (hb := by first | assumption | exact pset_s _ _ _ | exact (pset_n (by omega)).trans (by assumption)) (kk := ?_)
    refine v_ifeqB (pc := 13) X (tgt := 21) (hd := dX2_joinStacks_13) (kt := fun c13 => ?_) (kf := fun c13 => ?_)
    · refine v_iconst (pc := 21) X (v := (-1)) (hd := dX2_joinStacks_21) (kk := ?_)
      exact v_endi (pc := 22) X hr hlk (hd := dX2_joinStacks_22) (hf := ⟨by unfold rJoin; rw [if_neg (fun q => c13 q.2.1)], Or.inl ⟨fun q => c13 q.1.2.1, rfl⟩⟩)
    · refine v_iload_n (pc := 16) X (hd := dX2_joinStacks_16) (kk := ?_)
      refine v_iload_n (pc := 17) X (hd := dX2_joinStacks_17) (kk := ?_)
      refine v_icmpne (pc := 18) X (tgt := 23) (hd := dX2_joinStacks_18) (kt := fun c18 => ?_) (kf := fun c18 => ?_)
      · obtain ⟨j, hj, rfl, ej⟩ := gH_j es (by omega) c5
        obtain ⟨o, ho, rfl, eo⟩ := gH_j es (by omega) c13
        have hne : j ≠ o := fun q => c18 (by rw [q])
        obtain ⟨o1, b1, t1, we1, tn1, s1, s2, s3, s4, s5, s6, u0, u1, u2, u3, u4⟩ := I.2.2.2.2.2.2.2.2.1 j hj
        obtain ⟨o2, b2, t2, we2, tn2, z1, z2, z3, z4, z5, z6, y0, y1, y2, y3, y4⟩ := I.2.2.2.2.2.2.2.2.1 o ho
        have hTT := I.tot hj ho hne
        rw [u2, y2, nx_nI s4, nx_nI z4] at hTT
        have hsj := Hs2 j hj
        have hso := Hs2 o ho
        rw [u2] at hsj
        rw [y2] at hso
        have hpj := pl j (by omega)
        have hpo := pl o (by omega)
        have hpne : pi j ≠ pi o := fun q => hne (pj j o (by omega) (by omega) q)
        refine v_aload_n (pc := 23) X (hd := dX2_joinStacks_23) (kk := ?_)
        refine g_X2_44 (pc := 24) X (hd := dX2_joinStacks_24) (hh := by first | assumption | exact pset_s _ _ _ | exact (pset_n (by omega)).trans (by assumption)) (kk := ?_)
        refine v_iload_n (pc := 27) X (hd := dX2_joinStacks_27) (kk := ?_)
        refine v_aaldN (pc := 28) X (j := j) (hd := dX2_joinStacks_28) (hh := by first | assumption | exact pset_s _ _ _ | exact (pset_n (by omega)).trans (by assumption)) (hi := by first | rfl | (simp only [pk_mul, nI_add]; done)) (hj := by omega) (hf := F3 j (by omega)) (kk := ?_)
        refine v_astore_n (pc := 29) X (hd := dX2_joinStacks_29) (kk := ?_)
        refine v_aload_n (pc := 30) X (hd := dX2_joinStacks_30) (kk := ?_)
        refine g_X2_44 (pc := 31) X (hd := dX2_joinStacks_31) (hh := by first | assumption | exact pset_s _ _ _ | exact (pset_n (by omega)).trans (by assumption)) (kk := ?_)
        refine v_iload_n (pc := 34) X (hd := dX2_joinStacks_34) (kk := ?_)
        refine v_aaldN (pc := 35) X (j := o) (hd := dX2_joinStacks_35) (hh := by first | assumption | exact pset_s _ _ _ | exact (pset_n (by omega)).trans (by assumption)) (hi := by first | rfl | (simp only [pk_mul, nI_add]; done)) (hj := by omega) (hf := F3 o (by omega)) (kk := ?_)
        refine v_astore (pc := 36) X (hd := dX2_joinStacks_36) (kk := ?_)
        refine v_aload_n (pc := 38) X (hd := dX2_joinStacks_38) (kk := ?_)
        refine g_X2_113 (pc := 39) X (hd := dX2_joinStacks_39) (hh := hsj) (kk := ?_)
        refine v_aload (pc := 42) X (hd := dX2_joinStacks_42) (kk := ?_)
        refine g_X2_113 (pc := 44) X (hd := dX2_joinStacks_44) (hh := hso) (kk := ?_)
        refine v_icmpne (pc := 47) X (tgt := 62) (hd := dX2_joinStacks_47) (kt := fun c47 => ?_) (kf := fun c47 => ?_)
        · refine v_bipush (pc := 62) X (v := (-2)) (hd := dX2_joinStacks_62) (kk := ?_)
          exact v_endi (pc := 64) X hr hlk (hd := dX2_joinStacks_64) (hf := ⟨by unfold rJoin; rw [if_pos ⟨c5, c13, c18⟩, ej, eo, if_neg (fun q => c47 q.1)], Or.inl ⟨fun q => c47 (by have := q.2.1; rw [ej, eo] at this; exact this), rfl⟩⟩)
        · refine v_aload_n (pc := 50) X (hd := dX2_joinStacks_50) (kk := ?_)
          refine g_X2_116 (pc := 51) X (hd := dX2_joinStacks_51) (hh := hsj) (kk := ?_)
          refine v_aload (pc := 54) X (hd := dX2_joinStacks_54) (kk := ?_)
          refine g_X2_116 (pc := 56) X (hd := dX2_joinStacks_56) (hh := hso) (kk := ?_)
          refine v_icmpeq (pc := 59) X (tgt := 65) (hd := dX2_joinStacks_59) (kt := fun c59 => ?_) (kf := fun c59 => ?_)
          · refine v_aload (pc := 65) X (hd := dX2_joinStacks_65) (kk := ?_)
            refine v_aload_n (pc := 67) X (hd := dX2_joinStacks_67) (kk := ?_)
            refine v_callVv (pc := 68) X (hd := dX2_joinStacks_68) (w := wv_X2_132) (hC := c_X5_takeAllOf l E _ _ _ _ _ _ _ _ _ _ t2 t1) (hp := ⟨hso, hsj, by omega, z3, by omega⟩) (hb := hso) (kk := fun h68 q68 => ?_)
            have hq68 := pset_s h (a + 22 + pi o) (ob 5 [.int (v (76 + 5 * o + 0)), .int (v (76 + 5 * o + 1)), .int (nI t2 + nI t1), .int ((((nI t2).toInt64 * (v (76 + 5 * o + 3)).toInt64 + (nI t1).toInt64 * (v (76 + 5 * j + 3)).toInt64 + (nI t2 + nI t1).toInt64 - lN 1) / (nI t2 + nI t1).toInt64).toInt32), .int (if v (76 + 5 * j + 4) < v (76 + 5 * o + 4) then v (76 + 5 * j + 4) else v (76 + 5 * o + 4))])
            rw [← q68] at hq68
            have hB : ∀ q, q ≠ 76 + 5 * o + 2 → q ≠ 76 + 5 * o + 3 → joB v j o q = v q := fun q h1 h2 => by unfold joB; rw [pk_un h2, pk_un h1]
            have hC : ∀ q, q ≠ 76 + 5 * o + 2 → q ≠ 76 + 5 * o + 3 → q ≠ 76 + 5 * o + 4 → joC v j o q = v q := fun q h1 h2 h3 => by unfold joC; rw [pk_un h3, hB q h1 h2]
            have P68 : PX a (joC v j o) f1 f2 f3 pi g c h68 := by
              rw [q68]
              refine P0.stackF (v1 := joC v j o) (by omega) (fun q hq => hC q (by omega) (by omega) (by omega)) (hC _ (by omega) (by omega) (by omega)).symm (hC _ (by omega) (by omega) (by omega)).symm ?_ ?_ ?_
              · unfold joC joB; rw [pk_un (by omega), pk_un (by omega), pk_us, u2, y2]; exact Int32.add_comm _ _
              · unfold joC joB; rw [pk_un (by omega), pk_us, u2, y2, Int64.mul_comm (v (76 + 5 * j + 3)).toInt64, Int64.mul_comm (v (76 + 5 * o + 3)).toInt64, Int64.add_comm ((nI t1).toInt64 * _), Int32.add_comm (nI t1)]
              · unfold joC; rw [pk_us, hB _ (by omega) (by omega), hB _ (by omega) (by omega)]
            refine v_aload_n (pc := 71) X (hd := dX2_joinStacks_71) (kk := ?_)
            refine v_iload_n (pc := 72) X (hd := dX2_joinStacks_72) (kk := ?_)
            refine v_callVv (pc := 73) X (hd := dX2_joinStacks_73) (w := wv_X2_135) (hC := c_X2_removeStack l E a (joC v j o) j ns) (hp := ⟨⟨_, _, _, _, _, _, P68⟩, (hC 3 (by omega) (by omega) (by omega)).trans es, hj, hs12⟩) (hb := P68.1) (kk := fun h73 q73 => ?_)
            refine v_aload (pc := 76) X (hd := dX2_joinStacks_76) (kk := ?_)
            refine g_X2_119 (pc := 78) X (hd := dX2_joinStacks_78) (hh := (q73.2 _ (by omega) (by omega)).trans hq68) (kk := ?_)
            exact v_endi (pc := 81) X hr hlk (hd := dX2_joinStacks_81) (hf := ⟨by unfold rJoin; rw [if_pos ⟨c5, c13, c18⟩, ej, eo, if_pos ⟨Classical.not_not.mp c47, c59⟩, u2, y2]; exact Int32.add_comm _ _, Or.inr ⟨⟨⟨c5, c13, c18⟩, by rw [ej, eo]; exact ⟨Classical.not_not.mp c47, c59⟩⟩, by unfold gJoin; rw [ej, eo]; exact q73.1, fun q hq => (q73.2 q (by omega) (by omega)).trans (by rw [q68]; exact pset_n (by omega))⟩⟩)
          · refine v_bipush (pc := 62) X (v := (-2)) (hd := dX2_joinStacks_62) (kk := ?_)
            exact v_endi (pc := 64) X hr hlk (hd := dX2_joinStacks_64) (hf := ⟨by unfold rJoin; rw [if_pos ⟨c5, c13, c18⟩, ej, eo, if_neg (fun q => c59 q.2)], Or.inl ⟨fun q => c59 (by have := q.2.2; rw [ej, eo] at this; exact this), rfl⟩⟩)
      · refine v_iconst (pc := 21) X (v := (-1)) (hd := dX2_joinStacks_21) (kk := ?_)
        exact v_endi (pc := 22) X hr hlk (hd := dX2_joinStacks_22) (hf := ⟨by unfold rJoin; rw [if_neg (fun q => q.2.2 (Classical.not_not.mp c18))], Or.inl ⟨fun q => q.1.2.2 (Classical.not_not.mp c18), rfl⟩⟩)
set_option maxRecDepth 100000 in
set_option maxHeartbeats 4000000 in
theorem c_X2_cutTurfs (l : Launch) (E : pE) (a : Nat) (v : Nat → Int32) (x y t : Int32) (nh nb ns : Nat) : pC l E yX2_cutTurfs cX2_cutTurfs 6 (some .int) { frames := 2, cells := 0, slots := 0, locals := 49 } 0 0 [.ref a, .int x, .int y, .int t] (fun h _ => PA a v h ∧ Iv v nh nb ns) (pFi (cP a (kCut v nh x y t) (rCut v nh x y t) (gCut v ns x y t))) := by
  refine pC_of (by decide) (by simp [Value.category]) (Nat.le_of_ble_eq_true rfl) ?_
  intro h z hp p__ e__ s__ m__ args__ below__ meth__ c__ X hr hlk hname
  obtain ⟨hP0, I⟩ := hp
  obtain ⟨f1, f2, f3, pi, g, c, P⟩ := hP0
  have hpp : PA a v h ∧ Iv v nh nb ns := ⟨⟨f1, f2, f3, pi, g, c, P⟩, I⟩
  obtain ⟨hn6, hb4, hs12, en, eb, es⟩ := I.1
  have eS : nx (v 3) = ns := by rw [es]; exact nx_nI (by omega)
  have P0 := P
  obtain ⟨T0, T1, T2, T3, ⟨F1, F2, F3, pl, pj⟩, Hh, Hb, Hg, Hc, Gg, Gc, Hk, Hs⟩ := P
  rw [en, eb, es] at T0
  have Hs2 : ∀ k, k < ns → _ := fun k hk => Hs k (by omega) (by rw [eS]; exact hk)
  refine v_aload_n (pc := 0) X (hd := dX2_cutTurfs_0) (kk := ?_)
  refine v_iload_n (pc := 1) X (hd := dX2_cutTurfs_1) (kk := ?_)
  refine v_callVp (pc := 2) X (hd := dX2_cutTurfs_2) (w := wv_X2_68) (hC := c_X2_hasHousehold l E a v x nh nb ns) (hp := hpp) (hb := by first | assumption | exact pset_s _ _ _ | exact (pset_n (by omega)).trans (by assumption)) (kk := ?_)
  refine v_ifeqB (pc := 5) X (tgt := 27) (hd := dX2_cutTurfs_5) (kt := fun c5 => ?_) (kf := fun c5 => ?_)
  · refine v_iconst (pc := 27) X (v := (-1)) (hd := dX2_cutTurfs_27) (kk := ?_)
    exact v_endi (pc := 28) X hr hlk (hd := dX2_cutTurfs_28) (hf := ⟨by unfold rCut; rw [if_neg (fun q => c5 q.1)], Or.inl ⟨fun q => c5 q.1.1, rfl⟩⟩)
  · refine v_aload_n (pc := 8) X (hd := dX2_cutTurfs_8) (kk := ?_)
    refine v_iload_n (pc := 9) X (hd := dX2_cutTurfs_9) (kk := ?_)
    refine v_callVp (pc := 10) X (hd := dX2_cutTurfs_10) (w := wv_X2_78) (hC := c_X2_hasBank l E a v y nh nb ns) (hp := hpp) (hb := by first | assumption | exact pset_s _ _ _ | exact (pset_n (by omega)).trans (by assumption)) (kk := ?_)
    refine v_ifeqB (pc := 13) X (tgt := 27) (hd := dX2_cutTurfs_13) (kt := fun c13 => ?_) (kf := fun c13 => ?_)
    · refine v_iconst (pc := 27) X (v := (-1)) (hd := dX2_cutTurfs_27) (kk := ?_)
      exact v_endi (pc := 28) X hr hlk (hd := dX2_cutTurfs_28) (hf := ⟨by unfold rCut; rw [if_neg (fun q => c13 q.2.1)], Or.inl ⟨fun q => c13 q.1.2.1, rfl⟩⟩)
    · refine v_iload_n (pc := 16) X (hd := dX2_cutTurfs_16) (kk := ?_)
      refine v_iconst (pc := 17) X (v := nI 1) (hd := dX2_cutTurfs_17) (kk := ?_)
      refine v_sipush (pc := 18) X (v := nI 1000) (hd := dX2_cutTurfs_18) (kk := ?_)
      refine v_callSNp (pc := 21) X (hd := dX2_cutTurfs_21) (w := wv_X2_61) (hC := c_X6_isWithin l E _ _ _) (hp := by first | assumption | exact trivial) (kk := ?_)
      refine v_ifneB (pc := 24) X (tgt := 29) (hd := dX2_cutTurfs_24) (kt := fun c24 => ?_) (kf := fun c24 => ?_)
      · obtain ⟨j, hj, rfl, ej⟩ := gH_j en (by omega) c5
        obtain ⟨b, hb, rfl, ebx⟩ := gH_j eb (by omega) c13
        obtain ⟨tt, t1, t2, rfl, ett⟩ := gI_j (by omega) (by omega) c24
        obtain ⟨S, S1, S2⟩ := I.share hj hb
        obtain ⟨⟨c0, -, c2, c3⟩, -⟩ := I.2.2.2.2.2.2.2.1 j b (by omega) (by omega)
        have hmay : nI tt ≤ fMay v nh j b ↔ v (52 + 4 * j + b) + nI tt ≤ fShare v nh j b := by
          unfold fMay
          rw [S2, c3]
          exact (cut_iff c2 t1 t2 S1).symm
        refine v_aload_n (pc := 29) X (hd := dX2_cutTurfs_29) (kk := ?_)
        refine g_X2_38 (pc := 30) X (hd := dX2_cutTurfs_30) (hh := by first | assumption | exact pset_s _ _ _ | exact (pset_n (by omega)).trans (by assumption)) (kk := ?_)
        refine v_iload_n (pc := 33) X (hd := dX2_cutTurfs_33) (kk := ?_)
        refine v_aaldN (pc := 34) X (j := b) (hd := dX2_cutTurfs_34) (hh := by first | assumption | exact pset_s _ _ _ | exact (pset_n (by omega)).trans (by assumption)) (hi := by first | rfl | (simp only [pk_mul, nI_add]; done)) (hj := by omega) (hf := F2 b (by omega)) (kk := ?_)
        refine v_astore (pc := 35) X (hd := dX2_cutTurfs_35) (kk := ?_)
        refine v_aload (pc := 37) X (hd := dX2_cutTurfs_37) (kk := ?_)
        refine g_X2_97 (pc := 39) X (hd := dX2_cutTurfs_39) (hh := Hb b (by omega)) (kk := ?_)
        refine v_iload_n (pc := 42) X (hd := dX2_cutTurfs_42) (kk := ?_)
        refine v_ialdN (pc := 43) X (j := j) (hd := dX2_cutTurfs_43) (hh := Hc b (by omega)) (hi := by first | rfl | (simp only [pk_mul, nI_add]; done)) (hj := by omega) (kk := ?_)
        rw [Gc b (by omega) j (by omega)]
        refine v_iload_n (pc := 44) X (hd := dX2_cutTurfs_44) (kk := ?_)
        refine v_iadd (pc := 45) X (hd := dX2_cutTurfs_45) (kk := ?_)
        refine v_aload_n (pc := 46) X (hd := dX2_cutTurfs_46) (kk := ?_)
        refine v_iload_n (pc := 47) X (hd := dX2_cutTurfs_47) (kk := ?_)
        refine v_aload (pc := 48) X (hd := dX2_cutTurfs_48) (kk := ?_)
        refine v_callVp (pc := 50) X (hd := dX2_cutTurfs_50) (w := wv_X2_93) (hC := c_X2_shareOf l E a v j b nh nb ns) (hp := ⟨hpp.1, I, hj, by omega⟩) (hb := by first | assumption | exact pset_s _ _ _ | exact (pset_n (by omega)).trans (by assumption)) (kk := ?_)
        refine v_icmple (pc := 53) X (tgt := 59) (hd := dX2_cutTurfs_53) (kt := fun c53 => ?_) (kf := fun c53 => ?_)
        · refine v_aload_n (pc := 59) X (hd := dX2_cutTurfs_59) (kk := ?_)
          refine g_X2_27 (pc := 60) X (hd := dX2_cutTurfs_60) (hh := by first | assumption | exact pset_s _ _ _ | exact (pset_n (by omega)).trans (by assumption)) (kk := ?_)
          refine v_bipush (pc := 63) X (v := nI 12) (hd := dX2_cutTurfs_63) (kk := ?_)
          refine v_icmplt (pc := 65) X (tgt := 71) (hd := dX2_cutTurfs_65) (kt := fun c65 => ?_) (kf := fun c65 => ?_)
          · have hlt : ns < 12 := (nI_ltI (by omega) (by omega)).mp c65
            have hpn := pl ns hlt
            obtain ⟨x0, x1, x2, x3, x4, hx⟩ := Hk (pi ns) hpn
            refine v_aload (pc := 71) X (hd := dX2_cutTurfs_71) (kk := ?_)
            refine g_X2_97 (pc := 73) X (hd := dX2_cutTurfs_73) (hh := Hb b (by omega)) (kk := ?_)
            refine v_iload_n (pc := 76) X (hd := dX2_cutTurfs_76) (kk := ?_)
            refine v_dup2 (pc := 77) X (hd := dX2_cutTurfs_77) (kk := ?_)
            refine v_ialdN (pc := 78) X (j := j) (hd := dX2_cutTurfs_78) (hh := Hc b (by omega)) (hi := by first | rfl | (simp only [pk_mul, nI_add]; done)) (hj := by omega) (kk := ?_)
            rw [Gc b (by omega) j (by omega)]
            refine v_iload_n (pc := 79) X (hd := dX2_cutTurfs_79) (kk := ?_)
            refine v_iadd (pc := 80) X (hd := dX2_cutTurfs_80) (kk := ?_)
            refine v_iastN (pc := 81) X (j := j) (hd := dX2_cutTurfs_81) (hh := Hc b (by omega)) (hi := by first | rfl | (simp only [pk_mul, nI_add]; done)) (hj := by omega) (kk := ?_)
            refine v_gen (P := fun h9 => PX a (upd v (52 + 4 * j + b) (v (52 + 4 * j + b) + nI tt)) f1 f2 f3 pi g (fun i => if i = b then upd (c b) j (v (52 + 4 * j + b) + nI tt) else c i) h9 ∧ pO a (a + 34) h h9 ∧ h9 a = some (ob 2 [.int (v 0), .int (v 5), .int (v 4), .int (nI nh), .int (nI nb), .int (nI ns), .ref (a + 1), .ref (a + 2), .ref (a + 3)]) ∧ h9 (a + 3) = some (ar 5 12 f3) ∧ h9 (a + 10 + 3 * b) = some (ob 0 [.int (v (24 + 7 * b + 0)), .int (v (24 + 7 * b + 1)), .int (v (24 + 7 * b + 2)), .int (v (24 + 7 * b + 4)), .int (v (24 + 7 * b + 5)), .int (v (24 + 7 * b + 6)), .ref (a + 11 + 3 * b), .ref (a + 12 + 3 * b)]) ∧ h9 (a + 22 + pi ns) = some (ob 5 [.int x0, .int x1, .int x2, .int x3, .int x4])) ⟨P0.cuts (v1 := upd v (52 + 4 * j + b) (v (52 + 4 * j + b) + nI tt)) (y := upd (c b) j (v (52 + 4 * j + b) + nI tt)) (by omega) (fun q hq => pk_un (by omega)) (fun k hk => by
                by_cases e : k = j
                · rw [e, pk_us, pk_us]
                · rw [pk_un e, pk_un (by omega)]; exact Gc b (by omega) k hk), pO.rf.set (by omega) (by omega), (pset_n (by omega)).trans T0, (pset_n (by omega)).trans T3, (pset_n (by omega)).trans (Hb b (by omega)), (pset_n (by omega)).trans hx⟩ (fun h81 q81 => ?_)
            obtain ⟨P81, O81, U81⟩ := q81
            obtain ⟨U81a, U81b, U81c, U81d⟩ := U81
            refine v_aload (pc := 82) X (hd := dX2_cutTurfs_82) (kk := ?_)
            refine v_dup (pc := 84) X (hd := dX2_cutTurfs_84) (kk := ?_)
            refine g_X2_110 (pc := 85) X (hd := dX2_cutTurfs_85) (hh := U81c) (kk := ?_)
            refine v_iload_n (pc := 88) X (hd := dX2_cutTurfs_88) (kk := ?_)
            refine v_iadd (pc := 89) X (hd := dX2_cutTurfs_89) (kk := ?_)
            refine p_X2_110 (pc := 90) X (hd := dX2_cutTurfs_90) (hh := U81c) (kk := ?_)
            refine v_gen (P := fun h9 => PX a (cuA v j b (nI tt)) f1 f2 f3 pi g (fun i => if i = b then upd (c b) j (v (52 + 4 * j + b) + nI tt) else c i) h9 ∧ pO a (a + 34) h h9 ∧ h9 a = some (ob 2 [.int (v 0), .int (v 5), .int (v 4), .int (nI nh), .int (nI nb), .int (nI ns), .ref (a + 1), .ref (a + 2), .ref (a + 3)]) ∧ h9 (a + 3) = some (ar 5 12 f3) ∧ h9 (a + 22 + pi ns) = some (ob 5 [.int x0, .int x1, .int x2, .int x3, .int x4])) ⟨P81.bankF (v1 := cuA v j b (nI tt)) (by omega) (fun q hq => by unfold cuA; exact pk_un (by omega)) (by unfold cuA; rw [pk_un (by omega), pk_un (by omega)]) (by unfold cuA; rw [pk_un (by omega), pk_un (by omega)]) (by unfold cuA; rw [pk_un (by omega), pk_un (by omega)]) (by unfold cuA; rw [pk_us, pk_un (by omega)]) (by unfold cuA; rw [pk_un (by omega), pk_un (by omega)]) (by unfold cuA; rw [pk_un (by omega), pk_un (by omega)]), O81.set (by omega) (by omega), (pset_n (by omega)).trans U81a, (pset_n (by omega)).trans U81b, (pset_n (by omega)).trans U81d⟩ (fun h90 q90 => ?_)
            obtain ⟨P90, O90, U90⟩ := q90
            obtain ⟨U90a, U90b, U90c⟩ := U90
            refine v_aload_n (pc := 93) X (hd := dX2_cutTurfs_93) (kk := ?_)
            refine g_X2_44 (pc := 94) X (hd := dX2_cutTurfs_94) (hh := U90a) (kk := ?_)
            refine v_aload_n (pc := 97) X (hd := dX2_cutTurfs_97) (kk := ?_)
            refine g_X2_27 (pc := 98) X (hd := dX2_cutTurfs_98) (hh := U90a) (kk := ?_)
            refine v_aaldN (pc := 101) X (j := ns) (hd := dX2_cutTurfs_101) (hh := U90b) (hi := by first | rfl | (simp only [pk_mul, nI_add]; done)) (hj := by omega) (hf := F3 ns (by omega)) (kk := ?_)
            refine v_astore (pc := 102) X (hd := dX2_cutTurfs_102) (kk := ?_)
            refine v_aload (pc := 104) X (hd := dX2_cutTurfs_104) (kk := ?_)
            refine v_iload_n (pc := 106) X (hd := dX2_cutTurfs_106) (kk := ?_)
            refine p_X2_113 (pc := 107) X (hd := dX2_cutTurfs_107) (hh := U90c) (kk := ?_)
            refine v_aload (pc := 110) X (hd := dX2_cutTurfs_110) (kk := ?_)
            refine v_iload_n (pc := 112) X (hd := dX2_cutTurfs_112) (kk := ?_)
            refine p_X2_116 (pc := 113) X (hd := dX2_cutTurfs_113) (hh := pset_s _ _ _) (kk := ?_)
            rw [pset_pset]
            refine v_aload (pc := 116) X (hd := dX2_cutTurfs_116) (kk := ?_)
            refine v_iload_n (pc := 118) X (hd := dX2_cutTurfs_118) (kk := ?_)
            refine p_X2_119 (pc := 119) X (hd := dX2_cutTurfs_119) (hh := pset_s _ _ _) (kk := ?_)
            rw [pset_pset]
            refine v_aload (pc := 122) X (hd := dX2_cutTurfs_122) (kk := ?_)
            refine v_ldc (v := nI 100000) (pc := 124) X (hw := wq_X2_122) (hd := dX2_cutTurfs_124) (kk := ?_)
            refine p_X2_123 (pc := 126) X (hd := dX2_cutTurfs_126) (hh := pset_s _ _ _) (kk := ?_)
            rw [pset_pset]
            refine v_aload (pc := 129) X (hd := dX2_cutTurfs_129) (kk := ?_)
            refine v_iconst (pc := 131) X (v := nI 0) (hd := dX2_cutTurfs_131) (kk := ?_)
            refine p_X2_126 (pc := 132) X (hd := dX2_cutTurfs_132) (hh := pset_s _ _ _) (kk := ?_)
            rw [pset_pset]
            refine v_gen (P := fun h9 => PX a (cuB (cuA v j b (nI tt)) ns j b (nI tt)) f1 f2 f3 pi g (fun i => if i = b then upd (c b) j (v (52 + 4 * j + b) + nI tt) else c i) h9 ∧ pO a (a + 34) h h9 ∧ h9 a = some (ob 2 [.int (v 0), .int (v 5), .int (v 4), .int (nI nh), .int (nI nb), .int (nI ns), .ref (a + 1), .ref (a + 2), .ref (a + 3)]) ∧ h9 (a + 22 + pi ns) = some (ob 5 [.int (nI j), .int (nI b), .int (nI tt), .int (nI 100000), .int (nI 0)])) ⟨P90.stackF (v1 := cuB (cuA v j b (nI tt)) ns j b (nI tt)) (i := ns) (by omega) (fun q hq => by unfold cuB; rw [pk_un (by omega), pk_un (by omega), pk_un (by omega), pk_un (by omega), pk_un (by omega)]) (by unfold cuB; rw [pk_un (by omega), pk_un (by omega), pk_un (by omega), pk_un (by omega), pk_us]) (by unfold cuB; rw [pk_un (by omega), pk_un (by omega), pk_un (by omega), pk_us]) (by unfold cuB; rw [pk_un (by omega), pk_un (by omega), pk_us]) (by unfold cuB; rw [pk_un (by omega), pk_us]) (by unfold cuB; rw [pk_us]), O90.set (by omega) (by omega), (pset_n (by omega)).trans U90a, pset_s _ _ _⟩ (fun h132 q132 => ?_)
            obtain ⟨P132, O132, U132⟩ := q132
            obtain ⟨U132a, U132b⟩ := U132
            refine v_aload_n (pc := 135) X (hd := dX2_cutTurfs_135) (kk := ?_)
            refine v_dup (pc := 136) X (hd := dX2_cutTurfs_136) (kk := ?_)
            refine g_X2_27 (pc := 137) X (hd := dX2_cutTurfs_137) (hh := U132a) (kk := ?_)
            refine v_iconst (pc := 140) X (v := nI 1) (hd := dX2_cutTurfs_140) (kk := ?_)
            refine v_iadd (pc := 141) X (hd := dX2_cutTurfs_141) (kk := ?_)
            refine p_X2_27 (pc := 142) X (hd := dX2_cutTurfs_142) (hh := U132a) (kk := ?_)
            refine v_aload_n (pc := 145) X (hd := dX2_cutTurfs_145) (kk := ?_)
            refine g_X2_27 (pc := 146) X (hd := dX2_cutTurfs_146) (hh := pset_s _ _ _) (kk := ?_)
            refine v_iconst (pc := 149) X (v := nI 1) (hd := dX2_cutTurfs_149) (kk := ?_)
            refine v_isub (pc := 150) X (hd := dX2_cutTurfs_150) (kk := ?_)
            exact v_endi (pc := 151) X hr hlk (hd := dX2_cutTurfs_151) (hf := by
    have h3 : cuB (cuA v j b (nI tt)) ns j b (nI tt) 3 = nI ns := by unfold cuB cuA; rw [pk_un (by omega), pk_un (by omega), pk_un (by omega), pk_un (by omega), pk_un (by omega), pk_un (by omega), pk_un (by omega)]; exact es
    have hL : ∀ q, q < 24 → cuB (cuA v j b (nI tt)) ns j b (nI tt) q = v q := fun q hq => by unfold cuB cuA; rw [pk_un (by omega), pk_un (by omega), pk_un (by omega), pk_un (by omega), pk_un (by omega), pk_un (by omega), pk_un (by omega)]
    have hn12 : ¬ v 3 = nI 12 := by rw [es]; exact fun q => absurd ((nI_eq (by omega) (by omega)).mp q) (by omega)
    refine ⟨by unfold rCut; rw [if_pos ⟨c5, c13, c24⟩, ej, ebx, if_pos (hmay.mpr c53), if_neg hn12, es, nI_add, pk_sub (by omega)]; rfl, Or.inr ⟨⟨⟨c5, c13, c24⟩, by rw [ej, ebx]; exact hmay.mpr c53, hn12⟩, ?_, O132.set (by omega) (by omega)⟩⟩
    unfold gCut
    rw [ej, ebx]
    refine (P132.topF (v1 := upd (cuB (cuA v j b (nI tt)) ns j b (nI tt)) 3 (cuB (cuA v j b (nI tt)) ns j b (nI tt) 3 + nI 1)) (fun q hq => pk_un (by omega)) (fun k hk hk2 => ?_) ?_ ?_ ?_ ?_ ?_ ?_).pa (fun _ => rfl)
    · rw [pk_us, h3, nI_add, nx_nI (by omega)] at hk2
      by_cases e : k = ns
      · rw [e, U132b]; unfold cuB; rw [pk_us, pk_un (show 76 + 5 * ns + 3 ≠ 76 + 5 * ns + 4 by omega), pk_us, pk_un (show 76 + 5 * ns + 2 ≠ 76 + 5 * ns + 4 by omega), pk_un (show 76 + 5 * ns + 2 ≠ 76 + 5 * ns + 3 by omega), pk_us, pk_un (show 76 + 5 * ns + 1 ≠ 76 + 5 * ns + 4 by omega), pk_un (show 76 + 5 * ns + 1 ≠ 76 + 5 * ns + 3 by omega), pk_un (show 76 + 5 * ns + 1 ≠ 76 + 5 * ns + 2 by omega), pk_us, pk_un (show 76 + 5 * ns + 0 ≠ 76 + 5 * ns + 4 by omega), pk_un (show 76 + 5 * ns + 0 ≠ 76 + 5 * ns + 3 by omega), pk_un (show 76 + 5 * ns + 0 ≠ 76 + 5 * ns + 2 by omega), pk_un (show 76 + 5 * ns + 0 ≠ 76 + 5 * ns + 1 by omega), pk_us]
      · exact P132.2.2.2.2.2.2.2.2.2.2.2.2 k hk (by rw [h3, nx_nI (by omega)]; omega)
    · rw [pk_un (by omega), hL _ (by omega)]
    · rw [pk_un (by omega), hL _ (by omega)]
    · rw [pk_un (by omega), hL _ (by omega)]
    · rw [pk_un (by omega), hL _ (by omega), en]
    · rw [pk_un (by omega), hL _ (by omega), eb]
    · rw [pk_us, h3])
          · have hge : ns = 12 := by
              rcases Nat.lt_or_ge ns 12 with q | q
              · exact absurd (nI_lt q (by omega)) c65
              · omega
            refine v_bipush (pc := 68) X (v := (-3)) (hd := dX2_cutTurfs_68) (kk := ?_)
            exact v_endi (pc := 70) X hr hlk (hd := dX2_cutTurfs_70) (hf := ⟨by unfold rCut; rw [if_pos ⟨c5, c13, c24⟩, ej, ebx, if_pos (hmay.mpr c53), if_pos (by rw [es, hge])], Or.inl ⟨fun q => q.2.2 (by rw [es, hge]), rfl⟩⟩)
        · refine v_bipush (pc := 56) X (v := (-2)) (hd := dX2_cutTurfs_56) (kk := ?_)
          exact v_endi (pc := 58) X hr hlk (hd := dX2_cutTurfs_58) (hf := ⟨by unfold rCut; rw [if_pos ⟨c5, c13, c24⟩, ej, ebx, if_neg (fun q => c53 (hmay.mp q))], Or.inl ⟨fun q => c53 (hmay.mp (by have := q.2.1; rw [ej, ebx] at this; exact this)), rfl⟩⟩)
      · refine v_iconst (pc := 27) X (v := (-1)) (hd := dX2_cutTurfs_27) (kk := ?_)
        exact v_endi (pc := 28) X hr hlk (hd := dX2_cutTurfs_28) (hf := ⟨by unfold rCut; rw [if_neg (fun q => c24 q.2.2)], Or.inl ⟨fun q => c24 q.1.2.2, rfl⟩⟩)
