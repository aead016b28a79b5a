/-! the class's actions and lookings -/
def cK (x : Nat) (w pa : Nat → Int32) (np : Nat) (tn : Nat) (te : Nat → Int32) (st en : Int32) (nu : Nat → Int32) (ok : Prop) (r0 : Int32) (w1 : Nat → Int32) : pH → Int32 → pH → Prop := fun h r h' => r = r0 ∧ ((¬ ok ∧ KY x w pa np tn te st en nu h') ∨ (ok ∧ KY x w1 (aPa false np w pa) (aNp false np) tn te st en nu h')) ∧ pO x (x + 740) h h'
theorem act_fin {x : Nat} {A : Nat → Nat} {hf : Nat → Option Nat} {w w1 g pa : Nat → Int32} {np tn : Nat} {te nu : Nat → Int32} {st en r : Int32} {ok : Prop} {h h9 h' : pH} (S : Sg ok r) (D : (¬ ok ∧ w1 = w) ∨ (ok ∧ w1 = g)) (G : KG x A hf np tn te st en nu h9) (N : SA (A 0) w1 h9) (R : ∀ k, k < np → SA (A (2 + k)) (row pa k) h9) (O : pO x (x + 740) h h9) (Z : (r < 0 ∧ h' = h9) ∨ (¬ r < 0 ∧ KY x w1 (aPa false np w pa) (aNp false np) tn te st en nu h' ∧ pO x (x + 740) h9 h')) : ((¬ ok ∧ KY x w pa np tn te st en nu h') ∨ (ok ∧ KY x g (aPa false np w pa) (aNp false np) tn te st en nu h')) ∧ pO x (x + 740) h h' := by
  rcases D with ⟨k, rfl⟩ | ⟨k, rfl⟩
  · rcases Z with ⟨z, rfl⟩ | ⟨z, -⟩
    · exact ⟨Or.inl ⟨k, A, hf, G, N, R⟩, O⟩
    · exact absurd (S.2 k) z
  · rcases Z with ⟨z, -⟩ | ⟨z, z1, z2⟩
    · exact absurd z (S.1 k)
    · exact ⟨Or.inr ⟨k, z1⟩, O.tr z2⟩
set_option maxRecDepth 100000 in
set_option maxHeartbeats 4000000 in
theorem c_X6_come (l : Launch) (E : pE) (x : Nat) (w pa : Nat → Int32) (np : Nat) (tn : Nat) (te : Nat → Int32) (st en : Int32) (nu : Nat → Int32) (sp : Int32) (nh nb ns : Nat) : pC l E yX6_come cX6_come 2 (some .int) { frames := 3, cells := 0, slots := 0, locals := 66 } 0 0 [.ref x, .int sp] (fun h _ => KY x w pa np tn te st en nu h ∧ KI w pa np ∧ Iv w nh nb ns) (pFi (cK x w pa np tn te st en nu (kCome w sp) (rCome w sp) (gCome w sp nh))) := by
  refine pC_of (by decide) (by simp [Value.category]) (Nat.le_of_ble_eq_true rfl) ?_
  intro h z hp p__ e__ s__ m__ args__ below__ meth__ c__ X hr hlk hname
  obtain ⟨hY, hI, I⟩ := hp
  obtain ⟨A, hf, G, hN, hR⟩ := hY
  have G0 := G
  obtain ⟨T0, T1, Hf, hG, hKP, hall⟩ := G
  obtain ⟨ub, hB⟩ := hall 1 (by omega)
  obtain ⟨hnp, hSI, hRI⟩ := hI
  refine v_aload_n (pc := 0) X (hd := dX6_come_0) (kk := ?_)
  refine g_X6_16 (pc := 1) X (hd := dX6_come_1) (hh := by first | assumption | exact pset_s _ _ _ | exact (pset_n (by omega)).trans (by assumption)) (kk := ?_)
  refine v_aload_n (pc := 4) X (hd := dX6_come_4) (kk := ?_)
  refine g_X6_10 (pc := 5) X (hd := dX6_come_5) (hh := by first | assumption | exact pset_s _ _ _ | exact (pset_n (by omega)).trans (by assumption)) (kk := ?_)
  refine v_callVv (pc := 8) X (hd := dX6_come_8) (w := wv_X6_34) (hC := c_X4_copyFrom l E (A 1) (A 0) ub w) (hp := ⟨hB, hN, hG.dis (r := 1) (s := 0) (by omega) (by omega) (by omega)⟩) (hb := hB.ob) (kk := fun h8 q8 => ?_)
  obtain ⟨B8, O8⟩ := q8
  have G8 := G0.chg (r := 1) (by omega) B8 O8
  have N8 := G0.sa (r := 1) (s := 0) (by omega) (by omega) (by omega) hN O8
  have R8 : ∀ k, k < np → SA (A (2 + k)) (row pa k) h8 := fun k hk => G0.sa (r := 1) (s := 2 + k) (by omega) (by omega) (by omega) (hR k hk) O8
  refine v_aload_n (pc := 11) X (hd := dX6_come_11) (kk := ?_)
  refine v_aload_n (pc := 12) X (hd := dX6_come_12) (kk := ?_)
  refine g_X6_10 (pc := 13) X (hd := dX6_come_13) (hh := G8.1) (kk := ?_)
  refine g_X6_38 (pc := 16) X (hd := dX6_come_16) (hh := N8.ob) (kk := ?_)
  refine v_iload_n (pc := 19) X (hd := dX6_come_19) (kk := ?_)
  refine v_callVi (pc := 20) X (hd := dX6_come_20) (w := wv_X6_42) (hC := c_X2_addHousehold l E (A 0 + 1) w sp nh nb ns) (hp := ⟨N8.pa, I⟩) (hb := N8.pa.ob) (kk := fun r20 h20 q20 => ?_)
  obtain ⟨rfl, D20⟩ := q20
  have Q : ∃ w1, SA (A 0) w1 h20 ∧ pO (A 0) (A 0 + 105) h8 h20 ∧ ((¬ kCome w sp ∧ w1 = w) ∨ (kCome w sp ∧ w1 = gCome w sp nh)) := by
    rcases D20 with ⟨k0, rfl⟩ | ⟨k0, P, O⟩
    · exact ⟨w, N8, pO.rf, Or.inl ⟨k0, rfl⟩⟩
    · exact ⟨gCome w sp nh, N8.parish (fun p hp => hiCome I k0 p hp) P O, O.mono (by omega) (by omega), Or.inr ⟨k0, rfl⟩⟩
  obtain ⟨w1, N9, O9, D9⟩ := Q
  have G9 := G8.chg (r := 0) (by omega) N9 O9
  have B9 := G8.sa (r := 0) (s := 1) (by omega) (by omega) (by omega) B8 O9
  have R9 : ∀ k, k < np → SA (A (2 + k)) (row pa k) h20 := fun k hk => G8.sa (r := 0) (s := 2 + k) (by omega) (by omega) (by omega) (R8 k hk) O9
  refine v_callVi (pc := 23) X (hd := dX6_come_23) (w := wv_X6_48) (hC := c_X6_recorded l E x A hf np tn te st en nu w1 w pa _) (hp := ⟨G9, N9, ⟨B9, hSI⟩, R9, hRI, hnp⟩) (hb := G9.1) (kk := fun r23 h23 q23 => ?_)
  obtain ⟨rfl, Z⟩ := q23
  exact v_endi (pc := 26) X hr hlk (hd := dX6_come_26) (hf := ⟨rfl, act_fin (sgCome I) D9 G9 N9 R9 ((G0.mono (r := 1) (by omega) O8).tr (G8.mono (r := 0) (by omega) O9)) Z⟩)
set_option maxRecDepth 100000 in
set_option maxHeartbeats 4000000 in
theorem c_X6_setSpades (l : Launch) (E : pE) (x : Nat) (w pa : Nat → Int32) (np : Nat) (tn : Nat) (te : Nat → Int32) (st en : Int32) (nu : Nat → Int32) (y sp : Int32) (nh nb ns : Nat) : pC l E yX6_setSpades cX6_setSpades 3 (some .int) { frames := 3, cells := 0, slots := 0, locals := 66 } 0 0 [.ref x, .int y, .int sp] (fun h _ => KY x w pa np tn te st en nu h ∧ KI w pa np ∧ Iv w nh nb ns) (pFi (cK x w pa np tn te st en nu (kSet w y sp) (rSet w y sp) (gSet w y sp))) := by
  refine pC_of (by decide) (by simp [Value.category]) (Nat.le_of_ble_eq_true rfl) ?_
  intro h z hp p__ e__ s__ m__ args__ below__ meth__ c__ X hr hlk hname
  obtain ⟨hY, hI, I⟩ := hp
  obtain ⟨A, hf, G, hN, hR⟩ := hY
  have G0 := G
  obtain ⟨T0, T1, Hf, hG, hKP, hall⟩ := G
  obtain ⟨ub, hB⟩ := hall 1 (by omega)
  obtain ⟨hnp, hSI, hRI⟩ := hI
  refine v_aload_n (pc := 0) X (hd := dX6_setSpades_0) (kk := ?_)
  refine g_X6_16 (pc := 1) X (hd := dX6_setSpades_1) (hh := by first | assumption | exact pset_s _ _ _ | exact (pset_n (by omega)).trans (by assumption)) (kk := ?_)
  refine v_aload_n (pc := 4) X (hd := dX6_setSpades_4) (kk := ?_)
  refine g_X6_10 (pc := 5) X (hd := dX6_setSpades_5) (hh := by first | assumption | exact pset_s _ _ _ | exact (pset_n (by omega)).trans (by assumption)) (kk := ?_)
  refine v_callVv (pc := 8) X (hd := dX6_setSpades_8) (w := wv_X6_34) (hC := c_X4_copyFrom l E (A 1) (A 0) ub w) (hp := ⟨hB, hN, hG.dis (r := 1) (s := 0) (by omega) (by omega) (by omega)⟩) (hb := hB.ob) (kk := fun h8 q8 => ?_)
  obtain ⟨B8, O8⟩ := q8
  have G8 := G0.chg (r := 1) (by omega) B8 O8
  have N8 := G0.sa (r := 1) (s := 0) (by omega) (by omega) (by omega) hN O8
  have R8 : ∀ k, k < np → SA (A (2 + k)) (row pa k) h8 := fun k hk => G0.sa (r := 1) (s := 2 + k) (by omega) (by omega) (by omega) (hR k hk) O8
  refine v_aload_n (pc := 11) X (hd := dX6_setSpades_11) (kk := ?_)
  refine v_aload_n (pc := 12) X (hd := dX6_setSpades_12) (kk := ?_)
  refine g_X6_10 (pc := 13) X (hd := dX6_setSpades_13) (hh := G8.1) (kk := ?_)
  refine g_X6_38 (pc := 16) X (hd := dX6_setSpades_16) (hh := N8.ob) (kk := ?_)
  refine v_iload_n (pc := 19) X (hd := dX6_setSpades_19) (kk := ?_)
  refine v_iload_n (pc := 20) X (hd := dX6_setSpades_20) (kk := ?_)
  refine v_callVi (pc := 21) X (hd := dX6_setSpades_21) (w := wv_X6_51) (hC := c_X2_changeSpades l E (A 0 + 1) w y sp nh nb ns) (hp := ⟨N8.pa, I⟩) (hb := N8.pa.ob) (kk := fun r21 h21 q21 => ?_)
  obtain ⟨rfl, D21⟩ := q21
  have Q : ∃ w1, SA (A 0) w1 h21 ∧ pO (A 0) (A 0 + 105) h8 h21 ∧ ((¬ kSet w y sp ∧ w1 = w) ∨ (kSet w y sp ∧ w1 = gSet w y sp)) := by
    rcases D21 with ⟨k0, rfl⟩ | ⟨k0, P, O⟩
    · exact ⟨w, N8, pO.rf, Or.inl ⟨k0, rfl⟩⟩
    · exact ⟨gSet w y sp, N8.parish (fun p hp => hiSet I k0 p hp) P O, O.mono (by omega) (by omega), Or.inr ⟨k0, rfl⟩⟩
  obtain ⟨w1, N9, O9, D9⟩ := Q
  have G9 := G8.chg (r := 0) (by omega) N9 O9
  have B9 := G8.sa (r := 0) (s := 1) (by omega) (by omega) (by omega) B8 O9
  have R9 : ∀ k, k < np → SA (A (2 + k)) (row pa k) h21 := fun k hk => G8.sa (r := 0) (s := 2 + k) (by omega) (by omega) (by omega) (R8 k hk) O9
  refine v_callVi (pc := 24) X (hd := dX6_setSpades_24) (w := wv_X6_48) (hC := c_X6_recorded l E x A hf np tn te st en nu w1 w pa _) (hp := ⟨G9, N9, ⟨B9, hSI⟩, R9, hRI, hnp⟩) (hb := G9.1) (kk := fun r24 h24 q24 => ?_)
  obtain ⟨rfl, Z⟩ := q24
  exact v_endi (pc := 27) X hr hlk (hd := dX6_setSpades_27) (hf := ⟨rfl, act_fin (sgSet I) D9 G9 N9 R9 ((G0.mono (r := 1) (by omega) O8).tr (G8.mono (r := 0) (by omega) O9)) Z⟩)
set_option maxRecDepth 100000 in
set_option maxHeartbeats 4000000 in
theorem c_X6_addBank (l : Launch) (E : pE) (x : Nat) (w pa : Nat → Int32) (np : Nat) (tn : Nat) (te : Nat → Int32) (st en : Int32) (nu : Nat → Int32) (al str : Int32) (nh nb ns : Nat) : pC l E yX6_addBank cX6_addBank 3 (some .int) { frames := 3, cells := 0, slots := 0, locals := 66 } 0 0 [.ref x, .int al, .int str] (fun h _ => KY x w pa np tn te st en nu h ∧ KI w pa np ∧ Iv w nh nb ns) (pFi (cK x w pa np tn te st en nu (kAdd w al str) (rAdd w al str) (gAdd w al str nb))) := by
  refine pC_of (by decide) (by simp [Value.category]) (Nat.le_of_ble_eq_true rfl) ?_
  intro h z hp p__ e__ s__ m__ args__ below__ meth__ c__ X hr hlk hname
  obtain ⟨hY, hI, I⟩ := hp
  obtain ⟨A, hf, G, hN, hR⟩ := hY
  have G0 := G
  obtain ⟨T0, T1, Hf, hG, hKP, hall⟩ := G
  obtain ⟨ub, hB⟩ := hall 1 (by omega)
  obtain ⟨hnp, hSI, hRI⟩ := hI
  refine v_aload_n (pc := 0) X (hd := dX6_addBank_0) (kk := ?_)
  refine g_X6_16 (pc := 1) X (hd := dX6_addBank_1) (hh := by first | assumption | exact pset_s _ _ _ | exact (pset_n (by omega)).trans (by assumption)) (kk := ?_)
  refine v_aload_n (pc := 4) X (hd := dX6_addBank_4) (kk := ?_)
  refine g_X6_10 (pc := 5) X (hd := dX6_addBank_5) (hh := by first | assumption | exact pset_s _ _ _ | exact (pset_n (by omega)).trans (by assumption)) (kk := ?_)
  refine v_callVv (pc := 8) X (hd := dX6_addBank_8) (w := wv_X6_34) (hC := c_X4_copyFrom l E (A 1) (A 0) ub w) (hp := ⟨hB, hN, hG.dis (r := 1) (s := 0) (by omega) (by omega) (by omega)⟩) (hb := hB.ob) (kk := fun h8 q8 => ?_)
  obtain ⟨B8, O8⟩ := q8
  have G8 := G0.chg (r := 1) (by omega) B8 O8
  have N8 := G0.sa (r := 1) (s := 0) (by omega) (by omega) (by omega) hN O8
  have R8 : ∀ k, k < np → SA (A (2 + k)) (row pa k) h8 := fun k hk => G0.sa (r := 1) (s := 2 + k) (by omega) (by omega) (by omega) (hR k hk) O8
  refine v_aload_n (pc := 11) X (hd := dX6_addBank_11) (kk := ?_)
  refine v_aload_n (pc := 12) X (hd := dX6_addBank_12) (kk := ?_)
  refine g_X6_10 (pc := 13) X (hd := dX6_addBank_13) (hh := G8.1) (kk := ?_)
  refine g_X6_38 (pc := 16) X (hd := dX6_addBank_16) (hh := N8.ob) (kk := ?_)
  refine v_iload_n (pc := 19) X (hd := dX6_addBank_19) (kk := ?_)
  refine v_iload_n (pc := 20) X (hd := dX6_addBank_20) (kk := ?_)
  refine v_callVi (pc := 21) X (hd := dX6_addBank_21) (w := wv_X6_55) (hC := c_X2_openBank l E (A 0 + 1) w al str nh nb ns) (hp := ⟨N8.pa, I⟩) (hb := N8.pa.ob) (kk := fun r21 h21 q21 => ?_)
  obtain ⟨rfl, D21⟩ := q21
  have Q : ∃ w1, SA (A 0) w1 h21 ∧ pO (A 0) (A 0 + 105) h8 h21 ∧ ((¬ kAdd w al str ∧ w1 = w) ∨ (kAdd w al str ∧ w1 = gAdd w al str nb)) := by
    rcases D21 with ⟨k0, rfl⟩ | ⟨k0, P, O⟩
    · exact ⟨w, N8, pO.rf, Or.inl ⟨k0, rfl⟩⟩
    · exact ⟨gAdd w al str nb, N8.parish (fun p hp => hiAdd I k0 p hp) P O, O.mono (by omega) (by omega), Or.inr ⟨k0, rfl⟩⟩
  obtain ⟨w1, N9, O9, D9⟩ := Q
  have G9 := G8.chg (r := 0) (by omega) N9 O9
  have B9 := G8.sa (r := 0) (s := 1) (by omega) (by omega) (by omega) B8 O9
  have R9 : ∀ k, k < np → SA (A (2 + k)) (row pa k) h21 := fun k hk => G8.sa (r := 0) (s := 2 + k) (by omega) (by omega) (by omega) (R8 k hk) O9
  refine v_callVi (pc := 24) X (hd := dX6_addBank_24) (w := wv_X6_48) (hC := c_X6_recorded l E x A hf np tn te st en nu w1 w pa _) (hp := ⟨G9, N9, ⟨B9, hSI⟩, R9, hRI, hnp⟩) (hb := G9.1) (kk := fun r24 h24 q24 => ?_)
  obtain ⟨rfl, Z⟩ := q24
  exact v_endi (pc := 27) X hr hlk (hd := dX6_addBank_27) (hf := ⟨rfl, act_fin (sgAdd I) D9 G9 N9 R9 ((G0.mono (r := 1) (by omega) O8).tr (G8.mono (r := 0) (by omega) O9)) Z⟩)
set_option maxRecDepth 100000 in
set_option maxHeartbeats 4000000 in
theorem c_X6_setAllowance (l : Launch) (E : pE) (x : Nat) (w pa : Nat → Int32) (np : Nat) (tn : Nat) (te : Nat → Int32) (st en : Int32) (nu : Nat → Int32) (y al : Int32) (nh nb ns : Nat) : pC l E yX6_setAllowance cX6_setAllowance 3 (some .int) { frames := 3, cells := 0, slots := 0, locals := 66 } 0 0 [.ref x, .int y, .int al] (fun h _ => KY x w pa np tn te st en nu h ∧ KI w pa np ∧ Iv w nh nb ns) (pFi (cK x w pa np tn te st en nu (kAllow w y al) (rAllow w y al) (gAllow w y al))) := by
  refine pC_of (by decide) (by simp [Value.category]) (Nat.le_of_ble_eq_true rfl) ?_
  intro h z hp p__ e__ s__ m__ args__ below__ meth__ c__ X hr hlk hname
  obtain ⟨hY, hI, I⟩ := hp
  obtain ⟨A, hf, G, hN, hR⟩ := hY
  have G0 := G
  obtain ⟨T0, T1, Hf, hG, hKP, hall⟩ := G
  obtain ⟨ub, hB⟩ := hall 1 (by omega)
  obtain ⟨hnp, hSI, hRI⟩ := hI
  refine v_aload_n (pc := 0) X (hd := dX6_setAllowance_0) (kk := ?_)
  refine g_X6_16 (pc := 1) X (hd := dX6_setAllowance_1) (hh := by first | assumption | exact pset_s _ _ _ | exact (pset_n (by omega)).trans (by assumption)) (kk := ?_)
  refine v_aload_n (pc := 4) X (hd := dX6_setAllowance_4) (kk := ?_)
  refine g_X6_10 (pc := 5) X (hd := dX6_setAllowance_5) (hh := by first | assumption | exact pset_s _ _ _ | exact (pset_n (by omega)).trans (by assumption)) (kk := ?_)
  refine v_callVv (pc := 8) X (hd := dX6_setAllowance_8) (w := wv_X6_34) (hC := c_X4_copyFrom l E (A 1) (A 0) ub w) (hp := ⟨hB, hN, hG.dis (r := 1) (s := 0) (by omega) (by omega) (by omega)⟩) (hb := hB.ob) (kk := fun h8 q8 => ?_)
  obtain ⟨B8, O8⟩ := q8
  have G8 := G0.chg (r := 1) (by omega) B8 O8
  have N8 := G0.sa (r := 1) (s := 0) (by omega) (by omega) (by omega) hN O8
  have R8 : ∀ k, k < np → SA (A (2 + k)) (row pa k) h8 := fun k hk => G0.sa (r := 1) (s := 2 + k) (by omega) (by omega) (by omega) (hR k hk) O8
  refine v_aload_n (pc := 11) X (hd := dX6_setAllowance_11) (kk := ?_)
  refine v_aload_n (pc := 12) X (hd := dX6_setAllowance_12) (kk := ?_)
  refine g_X6_10 (pc := 13) X (hd := dX6_setAllowance_13) (hh := G8.1) (kk := ?_)
  refine g_X6_38 (pc := 16) X (hd := dX6_setAllowance_16) (hh := N8.ob) (kk := ?_)
  refine v_iload_n (pc := 19) X (hd := dX6_setAllowance_19) (kk := ?_)
  refine v_iload_n (pc := 20) X (hd := dX6_setAllowance_20) (kk := ?_)
  refine v_callVi (pc := 21) X (hd := dX6_setAllowance_21) (w := wv_X6_58) (hC := c_X2_changeAllowance l E (A 0 + 1) w y al nh nb ns) (hp := ⟨N8.pa, I⟩) (hb := N8.pa.ob) (kk := fun r21 h21 q21 => ?_)
  obtain ⟨rfl, D21⟩ := q21
  have Q : ∃ w1, SA (A 0) w1 h21 ∧ pO (A 0) (A 0 + 105) h8 h21 ∧ ((¬ kAllow w y al ∧ w1 = w) ∨ (kAllow w y al ∧ w1 = gAllow w y al)) := by
    rcases D21 with ⟨k0, rfl⟩ | ⟨k0, P, O⟩
    · exact ⟨w, N8, pO.rf, Or.inl ⟨k0, rfl⟩⟩
    · exact ⟨gAllow w y al, N8.parish (fun p hp => hiAllow I k0 p hp) P O, O.mono (by omega) (by omega), Or.inr ⟨k0, rfl⟩⟩
  obtain ⟨w1, N9, O9, D9⟩ := Q
  have G9 := G8.chg (r := 0) (by omega) N9 O9
  have B9 := G8.sa (r := 0) (s := 1) (by omega) (by omega) (by omega) B8 O9
  have R9 : ∀ k, k < np → SA (A (2 + k)) (row pa k) h21 := fun k hk => G8.sa (r := 0) (s := 2 + k) (by omega) (by omega) (by omega) (R8 k hk) O9
  refine v_callVi (pc := 24) X (hd := dX6_setAllowance_24) (w := wv_X6_48) (hC := c_X6_recorded l E x A hf np tn te st en nu w1 w pa _) (hp := ⟨G9, N9, ⟨B9, hSI⟩, R9, hRI, hnp⟩) (hb := G9.1) (kk := fun r24 h24 q24 => ?_)
  obtain ⟨rfl, Z⟩ := q24
  exact v_endi (pc := 27) X hr hlk (hd := dX6_setAllowance_27) (hf := ⟨rfl, act_fin (sgAllow I) D9 G9 N9 R9 ((G0.mono (r := 1) (by omega) O8).tr (G8.mono (r := 0) (by omega) O9)) Z⟩)
set_option maxRecDepth 100000 in
set_option maxHeartbeats 4000000 in
theorem c_X6_grant (l : Launch) (E : pE) (x : Nat) (w pa : Nat → Int32) (np : Nat) (tn : Nat) (te : Nat → Int32) (st en : Int32) (nu : Nat → Int32) (y b is : Int32) (nh nb ns : Nat) : pC l E yX6_grant cX6_grant 4 (some .int) { frames := 3, cells := 0, slots := 0, locals := 66 } 0 0 [.ref x, .int y, .int b, .int is] (fun h _ => KY x w pa np tn te st en nu h ∧ KI w pa np ∧ Iv w nh nb ns) (pFi (cK x w pa np tn te st en nu (kGrant w y b is) (rGrant w y b is) (gGrant w y b is))) := by
  refine pC_of (by decide) (by simp [Value.category]) (Nat.le_of_ble_eq_true rfl) ?_
  intro h z hp p__ e__ s__ m__ args__ below__ meth__ c__ X hr hlk hname
  obtain ⟨hY, hI, I⟩ := hp
  obtain ⟨A, hf, G, hN, hR⟩ := hY
  have G0 := G
  obtain ⟨T0, T1, Hf, hG, hKP, hall⟩ := G
  obtain ⟨ub, hB⟩ := hall 1 (by omega)
  obtain ⟨hnp, hSI, hRI⟩ := hI
  refine v_aload_n (pc := 0) X (hd := dX6_grant_0) (kk := ?_)
  refine g_X6_16 (pc := 1) X (hd := dX6_grant_1) (hh := by first | assumption | exact pset_s _ _ _ | exact (pset_n (by omega)).trans (by assumption)) (kk := ?_)
  refine v_aload_n (pc := 4) X (hd := dX6_grant_4) (kk := ?_)
  refine g_X6_10 (pc := 5) X (hd := dX6_grant_5) (hh := by first | assumption | exact pset_s _ _ _ | exact (pset_n (by omega)).trans (by assumption)) (kk := ?_)
  refine v_callVv (pc := 8) X (hd := dX6_grant_8) (w := wv_X6_34) (hC := c_X4_copyFrom l E (A 1) (A 0) ub w) (hp := ⟨hB, hN, hG.dis (r := 1) (s := 0) (by omega) (by omega) (by omega)⟩) (hb := hB.ob) (kk := fun h8 q8 => ?_)
  obtain ⟨B8, O8⟩ := q8
  have G8 := G0.chg (r := 1) (by omega) B8 O8
  have N8 := G0.sa (r := 1) (s := 0) (by omega) (by omega) (by omega) hN O8
  have R8 : ∀ k, k < np → SA (A (2 + k)) (row pa k) h8 := fun k hk => G0.sa (r := 1) (s := 2 + k) (by omega) (by omega) (by omega) (hR k hk) O8
  refine v_aload_n (pc := 11) X (hd := dX6_grant_11) (kk := ?_)
  refine v_aload_n (pc := 12) X (hd := dX6_grant_12) (kk := ?_)
  refine g_X6_10 (pc := 13) X (hd := dX6_grant_13) (hh := G8.1) (kk := ?_)
  refine g_X6_38 (pc := 16) X (hd := dX6_grant_16) (hh := N8.ob) (kk := ?_)
  refine v_iload_n (pc := 19) X (hd := dX6_grant_19) (kk := ?_)
  refine v_iload_n (pc := 20) X (hd := dX6_grant_20) (kk := ?_)
  refine v_iload_n (pc := 21) X (hd := dX6_grant_21) (kk := ?_)
  refine v_callVi (pc := 22) X (hd := dX6_grant_22) (w := wv_X6_61) (hC := c_X2_changeRight l E (A 0 + 1) w y b is nh nb ns) (hp := ⟨N8.pa, I⟩) (hb := N8.pa.ob) (kk := fun r22 h22 q22 => ?_)
  obtain ⟨rfl, D22⟩ := q22
  have Q : ∃ w1, SA (A 0) w1 h22 ∧ pO (A 0) (A 0 + 105) h8 h22 ∧ ((¬ kGrant w y b is ∧ w1 = w) ∨ (kGrant w y b is ∧ w1 = gGrant w y b is)) := by
    rcases D22 with ⟨k0, rfl⟩ | ⟨k0, P, O⟩
    · exact ⟨w, N8, pO.rf, Or.inl ⟨k0, rfl⟩⟩
    · exact ⟨gGrant w y b is, N8.parish (fun p hp => hiGrant I k0 p hp) P O, O.mono (by omega) (by omega), Or.inr ⟨k0, rfl⟩⟩
  obtain ⟨w1, N9, O9, D9⟩ := Q
  have G9 := G8.chg (r := 0) (by omega) N9 O9
  have B9 := G8.sa (r := 0) (s := 1) (by omega) (by omega) (by omega) B8 O9
  have R9 : ∀ k, k < np → SA (A (2 + k)) (row pa k) h22 := fun k hk => G8.sa (r := 0) (s := 2 + k) (by omega) (by omega) (by omega) (R8 k hk) O9
  refine v_callVi (pc := 25) X (hd := dX6_grant_25) (w := wv_X6_48) (hC := c_X6_recorded l E x A hf np tn te st en nu w1 w pa _) (hp := ⟨G9, N9, ⟨B9, hSI⟩, R9, hRI, hnp⟩) (hb := G9.1) (kk := fun r25 h25 q25 => ?_)
  obtain ⟨rfl, Z⟩ := q25
  exact v_endi (pc := 28) X hr hlk (hd := dX6_grant_28) (hf := ⟨rfl, act_fin (sgGrant I) D9 G9 N9 R9 ((G0.mono (r := 1) (by omega) O8).tr (G8.mono (r := 0) (by omega) O9)) Z⟩)
set_option maxRecDepth 100000 in
set_option maxHeartbeats 4000000 in
theorem c_X6_cut (l : Launch) (E : pE) (x : Nat) (w pa : Nat → Int32) (np : Nat) (tn : Nat) (te : Nat → Int32) (st en : Int32) (nu : Nat → Int32) (y b t : Int32) (nh nb ns : Nat) : pC l E yX6_cut cX6_cut 4 (some .int) { frames := 3, cells := 0, slots := 0, locals := 74 } 0 0 [.ref x, .int y, .int b, .int t] (fun h _ => KY x w pa np tn te st en nu h ∧ KI w pa np ∧ Iv w nh nb ns) (pFi (cK x w pa np tn te st en nu (kCut w nh y b t) (rCut w nh y b t) (gCut w ns y b t))) := by
  refine pC_of (by decide) (by simp [Value.category]) (Nat.le_of_ble_eq_true rfl) ?_
  intro h z hp p__ e__ s__ m__ args__ below__ meth__ c__ X hr hlk hname
  obtain ⟨hY, hI, I⟩ := hp
  obtain ⟨A, hf, G, hN, hR⟩ := hY
  have G0 := G
  obtain ⟨T0, T1, Hf, hG, hKP, hall⟩ := G
  obtain ⟨ub, hB⟩ := hall 1 (by omega)
  obtain ⟨hnp, hSI, hRI⟩ := hI
  refine v_aload_n (pc := 0) X (hd := dX6_cut_0) (kk := ?_)
  refine g_X6_16 (pc := 1) X (hd := dX6_cut_1) (hh := by first | assumption | exact pset_s _ _ _ | exact (pset_n (by omega)).trans (by assumption)) (kk := ?_)
  refine v_aload_n (pc := 4) X (hd := dX6_cut_4) (kk := ?_)
  refine g_X6_10 (pc := 5) X (hd := dX6_cut_5) (hh := by first | assumption | exact pset_s _ _ _ | exact (pset_n (by omega)).trans (by assumption)) (kk := ?_)
  refine v_callVv (pc := 8) X (hd := dX6_cut_8) (w := wv_X6_34) (hC := c_X4_copyFrom l E (A 1) (A 0) ub w) (hp := ⟨hB, hN, hG.dis (r := 1) (s := 0) (by omega) (by omega) (by omega)⟩) (hb := hB.ob) (kk := fun h8 q8 => ?_)
  obtain ⟨B8, O8⟩ := q8
  have G8 := G0.chg (r := 1) (by omega) B8 O8
  have N8 := G0.sa (r := 1) (s := 0) (by omega) (by omega) (by omega) hN O8
  have R8 : ∀ k, k < np → SA (A (2 + k)) (row pa k) h8 := fun k hk => G0.sa (r := 1) (s := 2 + k) (by omega) (by omega) (by omega) (hR k hk) O8
  refine v_aload_n (pc := 11) X (hd := dX6_cut_11) (kk := ?_)
  refine v_aload_n (pc := 12) X (hd := dX6_cut_12) (kk := ?_)
  refine g_X6_10 (pc := 13) X (hd := dX6_cut_13) (hh := G8.1) (kk := ?_)
  refine g_X6_38 (pc := 16) X (hd := dX6_cut_16) (hh := N8.ob) (kk := ?_)
  refine v_iload_n (pc := 19) X (hd := dX6_cut_19) (kk := ?_)
  refine v_iload_n (pc := 20) X (hd := dX6_cut_20) (kk := ?_)
  refine v_iload_n (pc := 21) X (hd := dX6_cut_21) (kk := ?_)
  refine v_callVi (pc := 22) X (hd := dX6_cut_22) (w := wv_X6_65) (hC := c_X2_cutTurfs l E (A 0 + 1) w y b t nh nb ns) (hp := ⟨N8.pa, I⟩) (hb := N8.pa.ob) (kk := fun r22 h22 q22 => ?_)
  obtain ⟨rfl, D22⟩ := q22
  have Q : ∃ w1, SA (A 0) w1 h22 ∧ pO (A 0) (A 0 + 105) h8 h22 ∧ ((¬ kCut w nh y b t ∧ w1 = w) ∨ (kCut w nh y b t ∧ w1 = gCut w ns y b t)) := by
    rcases D22 with ⟨k0, rfl⟩ | ⟨k0, P, O⟩
    · exact ⟨w, N8, pO.rf, Or.inl ⟨k0, rfl⟩⟩
    · exact ⟨gCut w ns y b t, N8.parish (fun p hp => hiCut I k0 p hp) P O, O.mono (by omega) (by omega), Or.inr ⟨k0, rfl⟩⟩
  obtain ⟨w1, N9, O9, D9⟩ := Q
  have G9 := G8.chg (r := 0) (by omega) N9 O9
  have B9 := G8.sa (r := 0) (s := 1) (by omega) (by omega) (by omega) B8 O9
  have R9 : ∀ k, k < np → SA (A (2 + k)) (row pa k) h22 := fun k hk => G8.sa (r := 0) (s := 2 + k) (by omega) (by omega) (by omega) (R8 k hk) O9
  refine v_callVi (pc := 25) X (hd := dX6_cut_25) (w := wv_X6_48) (hC := c_X6_recorded l E x A hf np tn te st en nu w1 w pa _) (hp := ⟨G9, N9, ⟨B9, hSI⟩, R9, hRI, hnp⟩) (hb := G9.1) (kk := fun r25 h25 q25 => ?_)
  obtain ⟨rfl, Z⟩ := q25
  exact v_endi (pc := 28) X hr hlk (hd := dX6_cut_28) (hf := ⟨rfl, act_fin (sgCut I) D9 G9 N9 R9 ((G0.mono (r := 1) (by omega) O8).tr (G8.mono (r := 0) (by omega) O9)) Z⟩)
set_option maxRecDepth 100000 in
set_option maxHeartbeats 4000000 in
theorem c_X6_turn (l : Launch) (E : pE) (x : Nat) (w pa : Nat → Int32) (np : Nat) (tn : Nat) (te : Nat → Int32) (st en : Int32) (nu : Nat → Int32) (y : Int32) (nh nb ns : Nat) : pC l E yX6_turn cX6_turn 2 (some .int) { frames := 3, cells := 0, slots := 0, locals := 66 } 0 0 [.ref x, .int y] (fun h _ => KY x w pa np tn te st en nu h ∧ KI w pa np ∧ Iv w nh nb ns) (pFi (cK x w pa np tn te st en nu (kTurn w y) (rTurn w y) (gTurn w y))) := by
  refine pC_of (by decide) (by simp [Value.category]) (Nat.le_of_ble_eq_true rfl) ?_
  intro h z hp p__ e__ s__ m__ args__ below__ meth__ c__ X hr hlk hname
  obtain ⟨hY, hI, I⟩ := hp
  obtain ⟨A, hf, G, hN, hR⟩ := hY
  have G0 := G
  obtain ⟨T0, T1, Hf, hG, hKP, hall⟩ := G
  obtain ⟨ub, hB⟩ := hall 1 (by omega)
  obtain ⟨hnp, hSI, hRI⟩ := hI
  refine v_aload_n (pc := 0) X (hd := dX6_turn_0) (kk := ?_)
  refine g_X6_16 (pc := 1) X (hd := dX6_turn_1) (hh := by first | assumption | exact pset_s _ _ _ | exact (pset_n (by omega)).trans (by assumption)) (kk := ?_)
  refine v_aload_n (pc := 4) X (hd := dX6_turn_4) (kk := ?_)
  refine g_X6_10 (pc := 5) X (hd := dX6_turn_5) (hh := by first | assumption | exact pset_s _ _ _ | exact (pset_n (by omega)).trans (by assumption)) (kk := ?_)
  refine v_callVv (pc := 8) X (hd := dX6_turn_8) (w := wv_X6_34) (hC := c_X4_copyFrom l E (A 1) (A 0) ub w) (hp := ⟨hB, hN, hG.dis (r := 1) (s := 0) (by omega) (by omega) (by omega)⟩) (hb := hB.ob) (kk := fun h8 q8 => ?_)
  obtain ⟨B8, O8⟩ := q8
  have G8 := G0.chg (r := 1) (by omega) B8 O8
  have N8 := G0.sa (r := 1) (s := 0) (by omega) (by omega) (by omega) hN O8
  have R8 : ∀ k, k < np → SA (A (2 + k)) (row pa k) h8 := fun k hk => G0.sa (r := 1) (s := 2 + k) (by omega) (by omega) (by omega) (hR k hk) O8
  refine v_aload_n (pc := 11) X (hd := dX6_turn_11) (kk := ?_)
  refine v_aload_n (pc := 12) X (hd := dX6_turn_12) (kk := ?_)
  refine g_X6_10 (pc := 13) X (hd := dX6_turn_13) (hh := G8.1) (kk := ?_)
  refine g_X6_38 (pc := 16) X (hd := dX6_turn_16) (hh := N8.ob) (kk := ?_)
  refine v_iload_n (pc := 19) X (hd := dX6_turn_19) (kk := ?_)
  refine v_callVi (pc := 20) X (hd := dX6_turn_20) (w := wv_X6_68) (hC := c_X2_turnStack l E (A 0 + 1) w y nh nb ns) (hp := ⟨N8.pa, I⟩) (hb := N8.pa.ob) (kk := fun r20 h20 q20 => ?_)
  obtain ⟨rfl, D20⟩ := q20
  have Q : ∃ w1, SA (A 0) w1 h20 ∧ pO (A 0) (A 0 + 105) h8 h20 ∧ ((¬ kTurn w y ∧ w1 = w) ∨ (kTurn w y ∧ w1 = gTurn w y)) := by
    rcases D20 with ⟨k0, rfl⟩ | ⟨k0, P, O⟩
    · exact ⟨w, N8, pO.rf, Or.inl ⟨k0, rfl⟩⟩
    · exact ⟨gTurn w y, N8.parish (fun p hp => hiTurn I k0 p hp) P O, O.mono (by omega) (by omega), Or.inr ⟨k0, rfl⟩⟩
  obtain ⟨w1, N9, O9, D9⟩ := Q
  have G9 := G8.chg (r := 0) (by omega) N9 O9
  have B9 := G8.sa (r := 0) (s := 1) (by omega) (by omega) (by omega) B8 O9
  have R9 : ∀ k, k < np → SA (A (2 + k)) (row pa k) h20 := fun k hk => G8.sa (r := 0) (s := 2 + k) (by omega) (by omega) (by omega) (R8 k hk) O9
  refine v_callVi (pc := 23) X (hd := dX6_turn_23) (w := wv_X6_48) (hC := c_X6_recorded l E x A hf np tn te st en nu w1 w pa _) (hp := ⟨G9, N9, ⟨B9, hSI⟩, R9, hRI, hnp⟩) (hb := G9.1) (kk := fun r23 h23 q23 => ?_)
  obtain ⟨rfl, Z⟩ := q23
  exact v_endi (pc := 26) X hr hlk (hd := dX6_turn_26) (hf := ⟨rfl, act_fin (sgTurn I) D9 G9 N9 R9 ((G0.mono (r := 1) (by omega) O8).tr (G8.mono (r := 0) (by omega) O9)) Z⟩)
set_option maxRecDepth 100000 in
set_option maxHeartbeats 4000000 in
theorem c_X6_join (l : Launch) (E : pE) (x : Nat) (w pa : Nat → Int32) (np : Nat) (tn : Nat) (te : Nat → Int32) (st en : Int32) (nu : Nat → Int32) (y b : Int32) (nh nb ns : Nat) : pC l E yX6_join cX6_join 3 (some .int) { frames := 3, cells := 0, slots := 0, locals := 69 } 0 0 [.ref x, .int y, .int b] (fun h _ => KY x w pa np tn te st en nu h ∧ KI w pa np ∧ Iv w nh nb ns) (pFi (cK x w pa np tn te st en nu (kJoin w y b) (rJoin w y b) (gJoin w y b ns))) := by
  refine pC_of (by decide) (by simp [Value.category]) (Nat.le_of_ble_eq_true rfl) ?_
  intro h z hp p__ e__ s__ m__ args__ below__ meth__ c__ X hr hlk hname
  obtain ⟨hY, hI, I⟩ := hp
  obtain ⟨A, hf, G, hN, hR⟩ := hY
  have G0 := G
  obtain ⟨T0, T1, Hf, hG, hKP, hall⟩ := G
  obtain ⟨ub, hB⟩ := hall 1 (by omega)
  obtain ⟨hnp, hSI, hRI⟩ := hI
  refine v_aload_n (pc := 0) X (hd := dX6_join_0) (kk := ?_)
  refine g_X6_16 (pc := 1) X (hd := dX6_join_1) (hh := by first | assumption | exact pset_s _ _ _ | exact (pset_n (by omega)).trans (by assumption)) (kk := ?_)
  refine v_aload_n (pc := 4) X (hd := dX6_join_4) (kk := ?_)
  refine g_X6_10 (pc := 5) X (hd := dX6_join_5) (hh := by first | assumption | exact pset_s _ _ _ | exact (pset_n (by omega)).trans (by assumption)) (kk := ?_)
  refine v_callVv (pc := 8) X (hd := dX6_join_8) (w := wv_X6_34) (hC := c_X4_copyFrom l E (A 1) (A 0) ub w) (hp := ⟨hB, hN, hG.dis (r := 1) (s := 0) (by omega) (by omega) (by omega)⟩) (hb := hB.ob) (kk := fun h8 q8 => ?_)
  obtain ⟨B8, O8⟩ := q8
  have G8 := G0.chg (r := 1) (by omega) B8 O8
  have N8 := G0.sa (r := 1) (s := 0) (by omega) (by omega) (by omega) hN O8
  have R8 : ∀ k, k < np → SA (A (2 + k)) (row pa k) h8 := fun k hk => G0.sa (r := 1) (s := 2 + k) (by omega) (by omega) (by omega) (hR k hk) O8
  refine v_aload_n (pc := 11) X (hd := dX6_join_11) (kk := ?_)
  refine v_aload_n (pc := 12) X (hd := dX6_join_12) (kk := ?_)
  refine g_X6_10 (pc := 13) X (hd := dX6_join_13) (hh := G8.1) (kk := ?_)
  refine g_X6_38 (pc := 16) X (hd := dX6_join_16) (hh := N8.ob) (kk := ?_)
  refine v_iload_n (pc := 19) X (hd := dX6_join_19) (kk := ?_)
  refine v_iload_n (pc := 20) X (hd := dX6_join_20) (kk := ?_)
  refine v_callVi (pc := 21) X (hd := dX6_join_21) (w := wv_X6_71) (hC := c_X2_joinStacks l E (A 0 + 1) w y b nh nb ns) (hp := ⟨N8.pa, I⟩) (hb := N8.pa.ob) (kk := fun r21 h21 q21 => ?_)
  obtain ⟨rfl, D21⟩ := q21
  have Q : ∃ w1, SA (A 0) w1 h21 ∧ pO (A 0) (A 0 + 105) h8 h21 ∧ ((¬ kJoin w y b ∧ w1 = w) ∨ (kJoin w y b ∧ w1 = gJoin w y b ns)) := by
    rcases D21 with ⟨k0, rfl⟩ | ⟨k0, P, O⟩
    · exact ⟨w, N8, pO.rf, Or.inl ⟨k0, rfl⟩⟩
    · exact ⟨gJoin w y b ns, N8.parish (fun p hp => hiJoin I k0 p hp) P O, O.mono (by omega) (by omega), Or.inr ⟨k0, rfl⟩⟩
  obtain ⟨w1, N9, O9, D9⟩ := Q
  have G9 := G8.chg (r := 0) (by omega) N9 O9
  have B9 := G8.sa (r := 0) (s := 1) (by omega) (by omega) (by omega) B8 O9
  have R9 : ∀ k, k < np → SA (A (2 + k)) (row pa k) h21 := fun k hk => G8.sa (r := 0) (s := 2 + k) (by omega) (by omega) (by omega) (R8 k hk) O9
  refine v_callVi (pc := 24) X (hd := dX6_join_24) (w := wv_X6_48) (hC := c_X6_recorded l E x A hf np tn te st en nu w1 w pa _) (hp := ⟨G9, N9, ⟨B9, hSI⟩, R9, hRI, hnp⟩) (hb := G9.1) (kk := fun r24 h24 q24 => ?_)
  obtain ⟨rfl, Z⟩ := q24
  exact v_endi (pc := 27) X hr hlk (hd := dX6_join_27) (hf := ⟨rfl, act_fin (sgJoin I) D9 G9 N9 R9 ((G0.mono (r := 1) (by omega) O8).tr (G8.mono (r := 0) (by omega) O9)) Z⟩)
set_option maxRecDepth 100000 in
set_option maxHeartbeats 4000000 in
theorem c_X6_cart (l : Launch) (E : pE) (x : Nat) (w pa : Nat → Int32) (np : Nat) (tn : Nat) (te : Nat → Int32) (st en : Int32) (nu : Nat → Int32) (y t : Int32) (nh nb ns : Nat) : pC l E yX6_cart cX6_cart 3 (some .int) { frames := 4, cells := 0, slots := 0, locals := 90 } 0 0 [.ref x, .int y, .int t] (fun h _ => KY x w pa np tn te st en nu h ∧ KI w pa np ∧ Iv w nh nb ns) (pFi (cK x w pa np tn te st en nu (kCart w y t) (rCart w y t) (hCart w y t ns))) := by
  refine pC_of (by decide) (by simp [Value.category]) (Nat.le_of_ble_eq_true rfl) ?_
  intro h z hp p__ e__ s__ m__ args__ below__ meth__ c__ X hr hlk hname
  obtain ⟨hY, hI, I⟩ := hp
  obtain ⟨A, hf, G, hN, hR⟩ := hY
  have G0 := G
  obtain ⟨T0, T1, Hf, hG, hKP, hall⟩ := G
  obtain ⟨ub, hB⟩ := hall 1 (by omega)
  obtain ⟨hnp, hSI, hRI⟩ := hI
  refine v_aload_n (pc := 0) X (hd := dX6_cart_0) (kk := ?_)
  refine g_X6_16 (pc := 1) X (hd := dX6_cart_1) (hh := by first | assumption | exact pset_s _ _ _ | exact (pset_n (by omega)).trans (by assumption)) (kk := ?_)
  refine v_aload_n (pc := 4) X (hd := dX6_cart_4) (kk := ?_)
  refine g_X6_10 (pc := 5) X (hd := dX6_cart_5) (hh := by first | assumption | exact pset_s _ _ _ | exact (pset_n (by omega)).trans (by assumption)) (kk := ?_)
  refine v_callVv (pc := 8) X (hd := dX6_cart_8) (w := wv_X6_34) (hC := c_X4_copyFrom l E (A 1) (A 0) ub w) (hp := ⟨hB, hN, hG.dis (r := 1) (s := 0) (by omega) (by omega) (by omega)⟩) (hb := hB.ob) (kk := fun h8 q8 => ?_)
  obtain ⟨B8, O8⟩ := q8
  have G8 := G0.chg (r := 1) (by omega) B8 O8
  have N8 := G0.sa (r := 1) (s := 0) (by omega) (by omega) (by omega) hN O8
  have R8 : ∀ k, k < np → SA (A (2 + k)) (row pa k) h8 := fun k hk => G0.sa (r := 1) (s := 2 + k) (by omega) (by omega) (by omega) (hR k hk) O8
  refine v_aload_n (pc := 11) X (hd := dX6_cart_11) (kk := ?_)
  refine v_aload_n (pc := 12) X (hd := dX6_cart_12) (kk := ?_)
  refine g_X6_10 (pc := 13) X (hd := dX6_cart_13) (hh := G8.1) (kk := ?_)
  refine g_X6_38 (pc := 16) X (hd := dX6_cart_16) (hh := N8.ob) (kk := ?_)
  refine v_iload_n (pc := 19) X (hd := dX6_cart_19) (kk := ?_)
  refine v_iload_n (pc := 20) X (hd := dX6_cart_20) (kk := ?_)
  refine v_callVi (pc := 21) X (hd := dX6_cart_21) (w := wv_X6_74) (hC := c_X2_cartTurfs l E (A 0 + 1) w y t nh nb ns) (hp := ⟨N8.pa, I⟩) (hb := N8.pa.ob) (kk := fun r21 h21 q21 => ?_)
  obtain ⟨rfl, D21⟩ := q21
  have Q : ∃ w1, SA (A 0) w1 h21 ∧ pO (A 0) (A 0 + 105) h8 h21 ∧ ((¬ kCart w y t ∧ w1 = w) ∨ (kCart w y t ∧ w1 = hCart w y t ns)) := by
    rcases D21 with ⟨k0, rfl⟩ | ⟨k0, P, O⟩
    · exact ⟨w, N8, pO.rf, Or.inl ⟨k0, rfl⟩⟩
    · exact ⟨hCart w y t ns, N8.parish (fun p hp => hiCart I k0 p hp) P O, O.mono (by omega) (by omega), Or.inr ⟨k0, rfl⟩⟩
  obtain ⟨w1, N9, O9, D9⟩ := Q
  have G9 := G8.chg (r := 0) (by omega) N9 O9
  have B9 := G8.sa (r := 0) (s := 1) (by omega) (by omega) (by omega) B8 O9
  have R9 : ∀ k, k < np → SA (A (2 + k)) (row pa k) h21 := fun k hk => G8.sa (r := 0) (s := 2 + k) (by omega) (by omega) (by omega) (R8 k hk) O9
  refine v_callVi (pc := 24) X (hd := dX6_cart_24) (w := wv_X6_48) (hC := c_X6_recorded l E x A hf np tn te st en nu w1 w pa _) (hp := ⟨G9, N9, ⟨B9, hSI⟩, R9, hRI, hnp⟩) (hb := G9.1) (kk := fun r24 h24 q24 => ?_)
  obtain ⟨rfl, Z⟩ := q24
  exact v_endi (pc := 27) X hr hlk (hd := dX6_cart_27) (hf := ⟨rfl, act_fin (sgCart I) D9 G9 N9 R9 ((G0.mono (r := 1) (by omega) O8).tr (G8.mono (r := 0) (by omega) O9)) Z⟩)
set_option maxRecDepth 100000 in
set_option maxHeartbeats 4000000 in
theorem c_X6_repair (l : Launch) (E : pE) (x : Nat) (w pa : Nat → Int32) (np : Nat) (tn : Nat) (te : Nat → Int32) (st en : Int32) (nu : Nat → Int32) (y : Int32) (nh nb ns : Nat) : pC l E yX6_repair cX6_repair 2 (some .int) { frames := 3, cells := 0, slots := 0, locals := 66 } 0 0 [.ref x, .int y] (fun h _ => KY x w pa np tn te st en nu h ∧ KI w pa np ∧ Iv w nh nb ns) (pFi (cK x w pa np tn te st en nu (kRep w y) (rRep w y) (gRep w y))) := by
  refine pC_of (by decide) (by simp [Value.category]) (Nat.le_of_ble_eq_true rfl) ?_
  intro h z hp p__ e__ s__ m__ args__ below__ meth__ c__ X hr hlk hname
  obtain ⟨hY, hI, I⟩ := hp
  obtain ⟨A, hf, G, hN, hR⟩ := hY
  have G0 := G
  obtain ⟨T0, T1, Hf, hG, hKP, hall⟩ := G
  obtain ⟨ub, hB⟩ := hall 1 (by omega)
  obtain ⟨hnp, hSI, hRI⟩ := hI
  refine v_aload_n (pc := 0) X (hd := dX6_repair_0) (kk := ?_)
  refine g_X6_16 (pc := 1) X (hd := dX6_repair_1) (hh := by first | assumption | exact pset_s _ _ _ | exact (pset_n (by omega)).trans (by assumption)) (kk := ?_)
  refine v_aload_n (pc := 4) X (hd := dX6_repair_4) (kk := ?_)
  refine g_X6_10 (pc := 5) X (hd := dX6_repair_5) (hh := by first | assumption | exact pset_s _ _ _ | exact (pset_n (by omega)).trans (by assumption)) (kk := ?_)
  refine v_callVv (pc := 8) X (hd := dX6_repair_8) (w := wv_X6_34) (hC := c_X4_copyFrom l E (A 1) (A 0) ub w) (hp := ⟨hB, hN, hG.dis (r := 1) (s := 0) (by omega) (by omega) (by omega)⟩) (hb := hB.ob) (kk := fun h8 q8 => ?_)
  obtain ⟨B8, O8⟩ := q8
  have G8 := G0.chg (r := 1) (by omega) B8 O8
  have N8 := G0.sa (r := 1) (s := 0) (by omega) (by omega) (by omega) hN O8
  have R8 : ∀ k, k < np → SA (A (2 + k)) (row pa k) h8 := fun k hk => G0.sa (r := 1) (s := 2 + k) (by omega) (by omega) (by omega) (hR k hk) O8
  refine v_aload_n (pc := 11) X (hd := dX6_repair_11) (kk := ?_)
  refine v_aload_n (pc := 12) X (hd := dX6_repair_12) (kk := ?_)
  refine g_X6_10 (pc := 13) X (hd := dX6_repair_13) (hh := G8.1) (kk := ?_)
  refine g_X6_38 (pc := 16) X (hd := dX6_repair_16) (hh := N8.ob) (kk := ?_)
  refine v_iload_n (pc := 19) X (hd := dX6_repair_19) (kk := ?_)
  refine v_callVi (pc := 20) X (hd := dX6_repair_20) (w := wv_X6_77) (hC := c_X2_repairRoad l E (A 0 + 1) w y nh nb ns) (hp := ⟨N8.pa, I⟩) (hb := N8.pa.ob) (kk := fun r20 h20 q20 => ?_)
  obtain ⟨rfl, D20⟩ := q20
  have Q : ∃ w1, SA (A 0) w1 h20 ∧ pO (A 0) (A 0 + 105) h8 h20 ∧ ((¬ kRep w y ∧ w1 = w) ∨ (kRep w y ∧ w1 = gRep w y)) := by
    rcases D20 with ⟨k0, rfl⟩ | ⟨k0, P, O⟩
    · exact ⟨w, N8, pO.rf, Or.inl ⟨k0, rfl⟩⟩
    · exact ⟨gRep w y, N8.parish (fun p hp => hiRep I k0 p hp) P O, O.mono (by omega) (by omega), Or.inr ⟨k0, rfl⟩⟩
  obtain ⟨w1, N9, O9, D9⟩ := Q
  have G9 := G8.chg (r := 0) (by omega) N9 O9
  have B9 := G8.sa (r := 0) (s := 1) (by omega) (by omega) (by omega) B8 O9
  have R9 : ∀ k, k < np → SA (A (2 + k)) (row pa k) h20 := fun k hk => G8.sa (r := 0) (s := 2 + k) (by omega) (by omega) (by omega) (R8 k hk) O9
  refine v_callVi (pc := 23) X (hd := dX6_repair_23) (w := wv_X6_48) (hC := c_X6_recorded l E x A hf np tn te st en nu w1 w pa _) (hp := ⟨G9, N9, ⟨B9, hSI⟩, R9, hRI, hnp⟩) (hb := G9.1) (kk := fun r23 h23 q23 => ?_)
  obtain ⟨rfl, Z⟩ := q23
  exact v_endi (pc := 26) X hr hlk (hd := dX6_repair_26) (hf := ⟨rfl, act_fin (sgRep I) D9 G9 N9 R9 ((G0.mono (r := 1) (by omega) O8).tr (G8.mono (r := 0) (by omega) O9)) Z⟩)
set_option maxRecDepth 100000 in
set_option maxHeartbeats 4000000 in
theorem c_X6_day (l : Launch) (E : pE) (x : Nat) (w pa : Nat → Int32) (np : Nat) (tn : Nat) (te : Nat → Int32) (st en : Int32) (nu : Nat → Int32) (wi ra : Int32) (nh nb ns : Nat) : pC l E yX6_day cX6_day 3 (some .int) { frames := 3, cells := 0, slots := 0, locals := 70 } 0 0 [.ref x, .int wi, .int ra] (fun h _ => KY x w pa np tn te st en nu h ∧ KI w pa np ∧ Iv w nh nb ns) (pFi (cK x w pa np tn te st en nu (kDay wi ra) (rDay w wi ra ns) (gDay w wi ra ns))) := by
  refine pC_of (by decide) (by simp [Value.category]) (Nat.le_of_ble_eq_true rfl) ?_
  intro h z hp p__ e__ s__ m__ args__ below__ meth__ c__ X hr hlk hname
  obtain ⟨hY, hI, I⟩ := hp
  obtain ⟨A, hf, G, hN, hR⟩ := hY
  have G0 := G
  obtain ⟨T0, T1, Hf, hG, hKP, hall⟩ := G
  obtain ⟨ub, hB⟩ := hall 1 (by omega)
  obtain ⟨hnp, hSI, hRI⟩ := hI
  refine v_aload_n (pc := 0) X (hd := dX6_day_0) (kk := ?_)
  refine g_X6_16 (pc := 1) X (hd := dX6_day_1) (hh := by first | assumption | exact pset_s _ _ _ | exact (pset_n (by omega)).trans (by assumption)) (kk := ?_)
  refine v_aload_n (pc := 4) X (hd := dX6_day_4) (kk := ?_)
  refine g_X6_10 (pc := 5) X (hd := dX6_day_5) (hh := by first | assumption | exact pset_s _ _ _ | exact (pset_n (by omega)).trans (by assumption)) (kk := ?_)
  refine v_callVv (pc := 8) X (hd := dX6_day_8) (w := wv_X6_34) (hC := c_X4_copyFrom l E (A 1) (A 0) ub w) (hp := ⟨hB, hN, hG.dis (r := 1) (s := 0) (by omega) (by omega) (by omega)⟩) (hb := hB.ob) (kk := fun h8 q8 => ?_)
  obtain ⟨B8, O8⟩ := q8
  have G8 := G0.chg (r := 1) (by omega) B8 O8
  have N8 := G0.sa (r := 1) (s := 0) (by omega) (by omega) (by omega) hN O8
  have R8 : ∀ k, k < np → SA (A (2 + k)) (row pa k) h8 := fun k hk => G0.sa (r := 1) (s := 2 + k) (by omega) (by omega) (by omega) (hR k hk) O8
  refine v_aload_n (pc := 11) X (hd := dX6_day_11) (kk := ?_)
  refine v_aload_n (pc := 12) X (hd := dX6_day_12) (kk := ?_)
  refine g_X6_10 (pc := 13) X (hd := dX6_day_13) (hh := G8.1) (kk := ?_)
  refine g_X6_38 (pc := 16) X (hd := dX6_day_16) (hh := N8.ob) (kk := ?_)
  refine v_iload_n (pc := 19) X (hd := dX6_day_19) (kk := ?_)
  refine v_iload_n (pc := 20) X (hd := dX6_day_20) (kk := ?_)
  refine v_callVi (pc := 21) X (hd := dX6_day_21) (w := wv_X6_80) (hC := c_X2_passDay l E (A 0 + 1) w wi ra nh nb ns) (hp := ⟨N8.pa, I⟩) (hb := N8.pa.ob) (kk := fun r21 h21 q21 => ?_)
  obtain ⟨rfl, D21⟩ := q21
  have Q : ∃ w1, SA (A 0) w1 h21 ∧ pO (A 0) (A 0 + 105) h8 h21 ∧ ((¬ kDay wi ra ∧ w1 = w) ∨ (kDay wi ra ∧ w1 = gDay w wi ra ns)) := by
    rcases D21 with ⟨k0, rfl⟩ | ⟨k0, P, O⟩
    · exact ⟨w, N8, pO.rf, Or.inl ⟨k0, rfl⟩⟩
    · exact ⟨gDay w wi ra ns, N8.parish (fun p hp => hiDay I p hp) P O, O.mono (by omega) (by omega), Or.inr ⟨k0, rfl⟩⟩
  obtain ⟨w1, N9, O9, D9⟩ := Q
  have G9 := G8.chg (r := 0) (by omega) N9 O9
  have B9 := G8.sa (r := 0) (s := 1) (by omega) (by omega) (by omega) B8 O9
  have R9 : ∀ k, k < np → SA (A (2 + k)) (row pa k) h21 := fun k hk => G8.sa (r := 0) (s := 2 + k) (by omega) (by omega) (by omega) (R8 k hk) O9
  refine v_callVi (pc := 24) X (hd := dX6_day_24) (w := wv_X6_48) (hC := c_X6_recorded l E x A hf np tn te st en nu w1 w pa _) (hp := ⟨G9, N9, ⟨B9, hSI⟩, R9, hRI, hnp⟩) (hb := G9.1) (kk := fun r24 h24 q24 => ?_)
  obtain ⟨rfl, Z⟩ := q24
  exact v_endi (pc := 27) X hr hlk (hd := dX6_day_27) (hf := ⟨rfl, act_fin (sgDay I) D9 G9 N9 R9 ((G0.mono (r := 1) (by omega) O8).tr (G8.mono (r := 0) (by omega) O9)) Z⟩)
set_option maxRecDepth 100000 in
set_option maxHeartbeats 4000000 in
theorem c_X6_endYear (l : Launch) (E : pE) (x : Nat) (w pa : Nat → Int32) (np : Nat) (tn : Nat) (te : Nat → Int32) (st en : Int32) (nu : Nat → Int32) (nh nb ns : Nat) : pC l E yX6_endYear cX6_endYear 1 (some .int) { frames := 3, cells := 0, slots := 0, locals := 66 } 0 0 [.ref x] (fun h _ => KY x w pa np tn te st en nu h ∧ KI w pa np ∧ Iv w nh nb ns) (pFi (cK x w pa np tn te st en nu (kEnd w) (rEnd w ns) (gEnd w ns))) := by
  refine pC_of (by decide) (by simp [Value.category]) (Nat.le_of_ble_eq_true rfl) ?_
  intro h z hp p__ e__ s__ m__ args__ below__ meth__ c__ X hr hlk hname
  obtain ⟨hY, hI, I⟩ := hp
  obtain ⟨A, hf, G, hN, hR⟩ := hY
  have G0 := G
  obtain ⟨T0, T1, Hf, hG, hKP, hall⟩ := G
  obtain ⟨ub, hB⟩ := hall 1 (by omega)
  obtain ⟨hnp, hSI, hRI⟩ := hI
  refine v_aload_n (pc := 0) X (hd := dX6_endYear_0) (kk := ?_)
  refine g_X6_16 (pc := 1) X (hd := dX6_endYear_1) (hh := by first | assumption | exact pset_s _ _ _ | exact (pset_n (by omega)).trans (by assumption)) (kk := ?_)
  refine v_aload_n (pc := 4) X (hd := dX6_endYear_4) (kk := ?_)
  refine g_X6_10 (pc := 5) X (hd := dX6_endYear_5) (hh := by first | assumption | exact pset_s _ _ _ | exact (pset_n (by omega)).trans (by assumption)) (kk := ?_)
  refine v_callVv (pc := 8) X (hd := dX6_endYear_8) (w := wv_X6_34) (hC := c_X4_copyFrom l E (A 1) (A 0) ub w) (hp := ⟨hB, hN, hG.dis (r := 1) (s := 0) (by omega) (by omega) (by omega)⟩) (hb := hB.ob) (kk := fun h8 q8 => ?_)
  obtain ⟨B8, O8⟩ := q8
  have G8 := G0.chg (r := 1) (by omega) B8 O8
  have N8 := G0.sa (r := 1) (s := 0) (by omega) (by omega) (by omega) hN O8
  have R8 : ∀ k, k < np → SA (A (2 + k)) (row pa k) h8 := fun k hk => G0.sa (r := 1) (s := 2 + k) (by omega) (by omega) (by omega) (hR k hk) O8
  refine v_aload_n (pc := 11) X (hd := dX6_endYear_11) (kk := ?_)
  refine v_aload_n (pc := 12) X (hd := dX6_endYear_12) (kk := ?_)
  refine g_X6_10 (pc := 13) X (hd := dX6_endYear_13) (hh := G8.1) (kk := ?_)
  refine g_X6_38 (pc := 16) X (hd := dX6_endYear_16) (hh := N8.ob) (kk := ?_)
  refine v_callVi (pc := 19) X (hd := dX6_endYear_19) (w := wv_X6_83) (hC := c_X2_closeYear l E (A 0 + 1) w nh nb ns) (hp := ⟨N8.pa, I⟩) (hb := N8.pa.ob) (kk := fun r19 h19 q19 => ?_)
  obtain ⟨rfl, D19⟩ := q19
  have Q : ∃ w1, SA (A 0) w1 h19 ∧ pO (A 0) (A 0 + 105) h8 h19 ∧ ((¬ kEnd w ∧ w1 = w) ∨ (kEnd w ∧ w1 = gEnd w ns)) := by
    rcases D19 with ⟨k0, rfl⟩ | ⟨k0, P, O⟩
    · exact ⟨w, N8, pO.rf, Or.inl ⟨k0, rfl⟩⟩
    · exact ⟨gEnd w ns, N8.parish (fun p hp => hiEnd I p hp) P O, O.mono (by omega) (by omega), Or.inr ⟨k0, rfl⟩⟩
  obtain ⟨w1, N9, O9, D9⟩ := Q
  have G9 := G8.chg (r := 0) (by omega) N9 O9
  have B9 := G8.sa (r := 0) (s := 1) (by omega) (by omega) (by omega) B8 O9
  have R9 : ∀ k, k < np → SA (A (2 + k)) (row pa k) h19 := fun k hk => G8.sa (r := 0) (s := 2 + k) (by omega) (by omega) (by omega) (R8 k hk) O9
  refine v_callVi (pc := 22) X (hd := dX6_endYear_22) (w := wv_X6_48) (hC := c_X6_recorded l E x A hf np tn te st en nu w1 w pa _) (hp := ⟨G9, N9, ⟨B9, hSI⟩, R9, hRI, hnp⟩) (hb := G9.1) (kk := fun r22 h22 q22 => ?_)
  obtain ⟨rfl, Z⟩ := q22
  exact v_endi (pc := 25) X hr hlk (hd := dX6_endYear_25) (hf := ⟨rfl, act_fin (sgEnd I) D9 G9 N9 R9 ((G0.mono (r := 1) (by omega) O8).tr (G8.mono (r := 0) (by omega) O9)) Z⟩)
set_option maxRecDepth 100000 in
set_option maxHeartbeats 4000000 in
theorem c_X6_household (l : Launch) (E : pE) (x : Nat) (w pa : Nat → Int32) (np : Nat) (tn : Nat) (te : Nat → Int32) (st en : Int32) (nu : Nat → Int32) (y z9 : Int32) (nh nb ns : Nat) : pC l E yX6_household cX6_household 3 (some .int) { frames := 3, cells := 0, slots := 0, locals := 65 } 0 0 [.ref x, .int y, .int z9] (fun h _ => KY x w pa np tn te st en nu h ∧ Iv w nh nb ns) (pFp ((qHouse w nb ns y z9))) := by
  refine pC_of (by decide) (by simp [Value.category]) (Nat.le_of_ble_eq_true rfl) ?_
  intro h z hp p__ e__ s__ m__ args__ below__ meth__ c__ X hr hlk hname
  obtain ⟨hY, I⟩ := hp
  obtain ⟨A, hf, G, hN, hR⟩ := hY
  have G0 := G
  obtain ⟨T0, T1, Hf, hG, hKP, hall⟩ := G
  refine v_aload_n (pc := 0) X (hd := dX6_household_0) (kk := ?_)
  refine g_X6_10 (pc := 1) X (hd := dX6_household_1) (hh := T0) (kk := ?_)
  refine g_X6_38 (pc := 4) X (hd := dX6_household_4) (hh := hN.ob) (kk := ?_)
  refine v_iload_n (pc := 7) X (hd := dX6_household_7) (kk := ?_)
  refine v_iload_n (pc := 8) X (hd := dX6_household_8) (kk := ?_)
  refine v_callVp (pc := 9) X (hd := dX6_household_9) (w := wv_X6_130) (hC := c_X2_householdProperty l E (A 0 + 1) w y z9 nh nb ns) (hp := ⟨hN.pa, I⟩) (hb := hN.pa.ob) (kk := ?_)
  exact v_endp (pc := 12) X hr hlk (hd := dX6_household_12) (hf := rfl)
set_option maxRecDepth 100000 in
set_option maxHeartbeats 4000000 in
theorem c_X6_bank (l : Launch) (E : pE) (x : Nat) (w pa : Nat → Int32) (np : Nat) (tn : Nat) (te : Nat → Int32) (st en : Int32) (nu : Nat → Int32) (y z9 : Int32) (nh nb ns : Nat) : pC l E yX6_bank cX6_bank 3 (some .int) { frames := 4, cells := 0, slots := 0, locals := 87 } 0 0 [.ref x, .int y, .int z9] (fun h _ => KY x w pa np tn te st en nu h ∧ Iv w nh nb ns) (pFp ((qBank w ns y z9))) := by
  refine pC_of (by decide) (by simp [Value.category]) (Nat.le_of_ble_eq_true rfl) ?_
  intro h z hp p__ e__ s__ m__ args__ below__ meth__ c__ X hr hlk hname
  obtain ⟨hY, I⟩ := hp
  obtain ⟨A, hf, G, hN, hR⟩ := hY
  have G0 := G
  obtain ⟨T0, T1, Hf, hG, hKP, hall⟩ := G
  refine v_aload_n (pc := 0) X (hd := dX6_bank_0) (kk := ?_)
  refine g_X6_10 (pc := 1) X (hd := dX6_bank_1) (hh := T0) (kk := ?_)
  refine g_X6_38 (pc := 4) X (hd := dX6_bank_4) (hh := hN.ob) (kk := ?_)
  refine v_iload_n (pc := 7) X (hd := dX6_bank_7) (kk := ?_)
  refine v_iload_n (pc := 8) X (hd := dX6_bank_8) (kk := ?_)
  refine v_callVp (pc := 9) X (hd := dX6_bank_9) (w := wv_X6_133) (hC := c_X2_bankProperty l E (A 0 + 1) w y z9 nh nb ns) (hp := ⟨hN.pa, I⟩) (hb := hN.pa.ob) (kk := ?_)
  exact v_endp (pc := 12) X hr hlk (hd := dX6_bank_12) (hf := rfl)
set_option maxRecDepth 100000 in
set_option maxHeartbeats 4000000 in
theorem c_X6_right (l : Launch) (E : pE) (x : Nat) (w pa : Nat → Int32) (np : Nat) (tn : Nat) (te : Nat → Int32) (st en : Int32) (nu : Nat → Int32) (y b t : Int32) (nh nb ns : Nat) : pC l E yX6_right cX6_right 4 (some .int) { frames := 4, cells := 0, slots := 0, locals := 94 } 0 0 [.ref x, .int y, .int b, .int t] (fun h _ => KY x w pa np tn te st en nu h ∧ Iv w nh nb ns) (pFp ((qRight w nh y b t))) := by
  refine pC_of (by decide) (by simp [Value.category]) (Nat.le_of_ble_eq_true rfl) ?_
  intro h z hp p__ e__ s__ m__ args__ below__ meth__ c__ X hr hlk hname
  obtain ⟨hY, I⟩ := hp
  obtain ⟨A, hf, G, hN, hR⟩ := hY
  have G0 := G
  obtain ⟨T0, T1, Hf, hG, hKP, hall⟩ := G
  refine v_aload_n (pc := 0) X (hd := dX6_right_0) (kk := ?_)
  refine g_X6_10 (pc := 1) X (hd := dX6_right_1) (hh := T0) (kk := ?_)
  refine g_X6_38 (pc := 4) X (hd := dX6_right_4) (hh := hN.ob) (kk := ?_)
  refine v_iload_n (pc := 7) X (hd := dX6_right_7) (kk := ?_)
  refine v_iload_n (pc := 8) X (hd := dX6_right_8) (kk := ?_)
  refine v_iload_n (pc := 9) X (hd := dX6_right_9) (kk := ?_)
  refine v_callVp (pc := 10) X (hd := dX6_right_10) (w := wv_X6_136) (hC := c_X2_rightPart l E (A 0 + 1) w y b t nh nb ns) (hp := ⟨hN.pa, I⟩) (hb := hN.pa.ob) (kk := ?_)
  exact v_endp (pc := 13) X hr hlk (hd := dX6_right_13) (hf := rfl)
set_option maxRecDepth 100000 in
set_option maxHeartbeats 4000000 in
theorem c_X6_stack (l : Launch) (E : pE) (x : Nat) (w pa : Nat → Int32) (np : Nat) (tn : Nat) (te : Nat → Int32) (st en : Int32) (nu : Nat → Int32) (y z9 : Int32) (nh nb ns : Nat) : pC l E yX6_stack cX6_stack 3 (some .int) { frames := 3, cells := 0, slots := 0, locals := 66 } 0 0 [.ref x, .int y, .int z9] (fun h _ => KY x w pa np tn te st en nu h ∧ Iv w nh nb ns) (pFp ((qStack w y z9))) := by
  refine pC_of (by decide) (by simp [Value.category]) (Nat.le_of_ble_eq_true rfl) ?_
  intro h z hp p__ e__ s__ m__ args__ below__ meth__ c__ X hr hlk hname
  obtain ⟨hY, I⟩ := hp
  obtain ⟨A, hf, G, hN, hR⟩ := hY
  have G0 := G
  obtain ⟨T0, T1, Hf, hG, hKP, hall⟩ := G
  refine v_aload_n (pc := 0) X (hd := dX6_stack_0) (kk := ?_)
  refine g_X6_10 (pc := 1) X (hd := dX6_stack_1) (hh := T0) (kk := ?_)
  refine g_X6_38 (pc := 4) X (hd := dX6_stack_4) (hh := hN.ob) (kk := ?_)
  refine v_iload_n (pc := 7) X (hd := dX6_stack_7) (kk := ?_)
  refine v_iload_n (pc := 8) X (hd := dX6_stack_8) (kk := ?_)
  refine v_callVp (pc := 9) X (hd := dX6_stack_9) (w := wv_X6_139) (hC := c_X2_stackProperty l E (A 0 + 1) w y z9 nh nb ns) (hp := ⟨hN.pa, I⟩) (hb := hN.pa.ob) (kk := ?_)
  exact v_endp (pc := 12) X hr hlk (hd := dX6_stack_12) (hf := rfl)
set_option maxRecDepth 100000 in
set_option maxHeartbeats 4000000 in
theorem c_X6_count (l : Launch) (E : pE) (x : Nat) (w pa : Nat → Int32) (np : Nat) (tn : Nat) (te : Nat → Int32) (st en : Int32) (nu : Nat → Int32) (y : Int32) (nh nb ns : Nat) : pC l E yX6_count cX6_count 2 (some .int) { frames := 2, cells := 0, slots := 0, locals := 42 } 0 0 [.ref x, .int y] (fun h _ => KY x w pa np tn te st en nu h ∧ Iv w nh nb ns) (pFp ((qCount w (nI np) (nI tn) y ns))) := by
  refine pC_of (by decide) (by simp [Value.category]) (Nat.le_of_ble_eq_true rfl) ?_
  intro h z hp p__ e__ s__ m__ args__ below__ meth__ c__ X hr hlk hname
  obtain ⟨hY, I⟩ := hp
  obtain ⟨A, hf, G, hN, hR⟩ := hY
  have G0 := G
  obtain ⟨T0, T1, Hf, hG, hKP, hall⟩ := G
  refine v_iload_n (pc := 0) X (hd := dX6_count_0) (kk := ?_)
  by_cases hw : gI y (nI 0) (nI 9)
  · obtain ⟨q, -, hq, rfl, eq⟩ := gI_j (by omega) (by omega) hw
    have hq2 : q = 0 ∨ q = 1 ∨ q = 2 ∨ q = 3 ∨ q = 4 ∨ q = 5 ∨ q = 6 ∨ q = 7 ∨ q = 8 ∨ q = 9 := by omega
    rcases hq2 with rfl | rfl | rfl | rfl | rfl | rfl | rfl | rfl | rfl | rfl
    · refine v_tabIn (pc := 1) (tgt := 56) X (hd := dX6_count_1) 0 (by decide +kernel) (kk := ?_)
      refine v_aload_n (pc := 56) X (hd := dX6_count_56) (kk := ?_)
      refine g_X6_10 (pc := 57) X (hd := dX6_count_57) (hh := T0) (kk := ?_)
      refine g_X6_38 (pc := 60) X (hd := dX6_count_60) (hh := hN.ob) (kk := ?_)
      refine g_X6_103 (pc := 63) X (hd := dX6_count_63) (hh := hN.pa.ob) (kk := ?_)
      exact v_endp (pc := 66) X hr hlk (hd := dX6_count_66) (hf := by unfold qCount; first | (rw [if_pos hw, eq]; done) | (rw [if_pos hw, eq]; rfl))
    · refine v_tabIn (pc := 1) (tgt := 67) X (hd := dX6_count_1) 1 (by decide +kernel) (kk := ?_)
      refine v_aload_n (pc := 67) X (hd := dX6_count_67) (kk := ?_)
      refine g_X6_10 (pc := 68) X (hd := dX6_count_68) (hh := T0) (kk := ?_)
      refine g_X6_38 (pc := 71) X (hd := dX6_count_71) (hh := hN.ob) (kk := ?_)
      refine g_X6_106 (pc := 74) X (hd := dX6_count_74) (hh := hN.pa.ob) (kk := ?_)
      exact v_endp (pc := 77) X hr hlk (hd := dX6_count_77) (hf := by unfold qCount; first | (rw [if_pos hw, eq]; done) | (rw [if_pos hw, eq]; rfl))
    · refine v_tabIn (pc := 1) (tgt := 78) X (hd := dX6_count_1) 2 (by decide +kernel) (kk := ?_)
      refine v_aload_n (pc := 78) X (hd := dX6_count_78) (kk := ?_)
      refine g_X6_10 (pc := 79) X (hd := dX6_count_79) (hh := T0) (kk := ?_)
      refine g_X6_38 (pc := 82) X (hd := dX6_count_82) (hh := hN.ob) (kk := ?_)
      refine g_X6_109 (pc := 85) X (hd := dX6_count_85) (hh := hN.pa.ob) (kk := ?_)
      exact v_endp (pc := 88) X hr hlk (hd := dX6_count_88) (hf := by unfold qCount; first | (rw [if_pos hw, eq]; done) | (rw [if_pos hw, eq]; rfl))
    · refine v_tabIn (pc := 1) (tgt := 89) X (hd := dX6_count_1) 3 (by decide +kernel) (kk := ?_)
      refine v_aload_n (pc := 89) X (hd := dX6_count_89) (kk := ?_)
      refine g_X6_10 (pc := 90) X (hd := dX6_count_90) (hh := T0) (kk := ?_)
      refine g_X6_38 (pc := 93) X (hd := dX6_count_93) (hh := hN.ob) (kk := ?_)
      refine g_X6_112 (pc := 96) X (hd := dX6_count_96) (hh := hN.pa.ob) (kk := ?_)
      exact v_endp (pc := 99) X hr hlk (hd := dX6_count_99) (hf := by unfold qCount; first | (rw [if_pos hw, eq]; done) | (rw [if_pos hw, eq]; rfl))
    · refine v_tabIn (pc := 1) (tgt := 100) X (hd := dX6_count_1) 4 (by decide +kernel) (kk := ?_)
      refine v_aload_n (pc := 100) X (hd := dX6_count_100) (kk := ?_)
      refine g_X6_10 (pc := 101) X (hd := dX6_count_101) (hh := T0) (kk := ?_)
      refine g_X6_38 (pc := 104) X (hd := dX6_count_104) (hh := hN.ob) (kk := ?_)
      refine v_callVp (pc := 107) X (hd := dX6_count_107) (w := wv_X6_115) (hC := c_X2_dryStacks l E (A 0 + 1) w nh nb ns) (hp := ⟨hN.pa, I⟩) (hb := hN.pa.ob) (kk := ?_)
      exact v_endp (pc := 110) X hr hlk (hd := dX6_count_110) (hf := by unfold qCount; first | (rw [if_pos hw, eq]; done) | (rw [if_pos hw, eq]; rfl))
    · refine v_tabIn (pc := 1) (tgt := 111) X (hd := dX6_count_1) 5 (by decide +kernel) (kk := ?_)
      refine v_aload_n (pc := 111) X (hd := dX6_count_111) (kk := ?_)
      refine g_X6_10 (pc := 112) X (hd := dX6_count_112) (hh := T0) (kk := ?_)
      refine g_X6_38 (pc := 115) X (hd := dX6_count_115) (hh := hN.ob) (kk := ?_)
      refine g_X6_118 (pc := 118) X (hd := dX6_count_118) (hh := hN.pa.ob) (kk := ?_)
      exact v_endp (pc := 121) X hr hlk (hd := dX6_count_121) (hf := by unfold qCount; first | (rw [if_pos hw, eq]; done) | (rw [if_pos hw, eq]; rfl))
    · refine v_tabIn (pc := 1) (tgt := 122) X (hd := dX6_count_1) 6 (by decide +kernel) (kk := ?_)
      refine v_aload_n (pc := 122) X (hd := dX6_count_122) (kk := ?_)
      refine g_X6_10 (pc := 123) X (hd := dX6_count_123) (hh := T0) (kk := ?_)
      refine g_X6_38 (pc := 126) X (hd := dX6_count_126) (hh := hN.ob) (kk := ?_)
      refine g_X6_121 (pc := 129) X (hd := dX6_count_129) (hh := hN.pa.ob) (kk := ?_)
      exact v_endp (pc := 132) X hr hlk (hd := dX6_count_132) (hf := by unfold qCount; first | (rw [if_pos hw, eq]; done) | (rw [if_pos hw, eq]; rfl))
    · refine v_tabIn (pc := 1) (tgt := 133) X (hd := dX6_count_1) 7 (by decide +kernel) (kk := ?_)
      refine v_aload_n (pc := 133) X (hd := dX6_count_133) (kk := ?_)
      refine g_X6_10 (pc := 134) X (hd := dX6_count_134) (hh := T0) (kk := ?_)
      refine v_callVp (pc := 137) X (hd := dX6_count_137) (w := wv_X6_124) (hC := c_X4_snapshots l E (A 0) w) (hp := hN) (hb := hN.ob) (kk := ?_)
      exact v_endp (pc := 140) X hr hlk (hd := dX6_count_140) (hf := by unfold qCount; first | (rw [if_pos hw, eq]; done) | (rw [if_pos hw, eq]; rfl))
    · refine v_tabIn (pc := 1) (tgt := 141) X (hd := dX6_count_1) 8 (by decide +kernel) (kk := ?_)
      refine v_aload_n (pc := 141) X (hd := dX6_count_141) (kk := ?_)
      refine g_X6_23 (pc := 142) X (hd := dX6_count_142) (hh := T0) (kk := ?_)
      exact v_endp (pc := 145) X hr hlk (hd := dX6_count_145) (hf := by unfold qCount; first | (rw [if_pos hw, eq]; done) | (rw [if_pos hw, eq]; rfl))
    · refine v_tabIn (pc := 1) (tgt := 146) X (hd := dX6_count_1) 9 (by decide +kernel) (kk := ?_)
      refine v_aload_n (pc := 146) X (hd := dX6_count_146) (kk := ?_)
      refine g_X6_30 (pc := 147) X (hd := dX6_count_147) (hh := T0) (kk := ?_)
      refine g_X6_127 (pc := 150) X (hd := dX6_count_150) (hh := hKP.1) (kk := ?_)
      exact v_endp (pc := 153) X hr hlk (hd := dX6_count_153) (hf := by unfold qCount; first | (rw [if_pos hw, eq]; done) | (rw [if_pos hw, eq]; rfl))
  · refine v_tabOut (pc := 1) (tgt := 154) X (hd := dX6_count_1) (by rcases Int.lt_or_le y.toInt 0 with q | q; exact Or.inl q; exact Or.inr (by rcases Int.lt_or_le 9 y.toInt with q2 | q2; exact q2; exact absurd ⟨by rw [n_le]; exact q, by rw [n_le]; exact q2⟩ hw)) (kk := ?_)
    refine v_iconst (pc := 154) X (v := (-1)) (hd := dX6_count_154) (kk := ?_)
    exact v_endp (pc := 155) X hr hlk (hd := dX6_count_155) (hf := by unfold qCount; rw [if_neg hw])
