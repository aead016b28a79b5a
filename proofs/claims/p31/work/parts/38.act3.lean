/-! the Parish's actions, third part -/
def zcF (w : Nat → Int32) (i : Nat) : Nat → Int32 := fun q => if 52 ≤ q ∧ q < 76 ∧ (q - 52) % 4 < i then nI 0 else w q
set_option maxRecDepth 100000 in
set_option maxHeartbeats 4000000 in
theorem c_X2_cartTurfs (l : Launch) (E : pE) (a : Nat) (v : Nat → Int32) (x t : Int32) (nh nb ns : Nat) : pC l E yX2_cartTurfs cX2_cartTurfs 7 (some .int) { frames := 3, cells := 0, slots := 0, locals := 64 } 0 0 [.ref a, .int x, .int t] (fun h _ => PA a v h ∧ Iv v nh nb ns) (pFi (cP a (kCart v x t) (rCart v x t) (hCart v x t ns))) := by
  refine pC_of (by decide) (by simp [Value.category]) (Nat.le_of_ble_eq_true rfl) ?_
  intro h z hp p__ e__ s__ m__ args__ below__ meth__ c__ X hr hlk hname
  obtain ⟨hP0, I⟩ := hp
  obtain ⟨f1, f2, f3, pi, g, c, P⟩ := hP0
  have hpp : PA a v h ∧ Iv v nh nb ns := ⟨⟨f1, f2, f3, pi, g, c, P⟩, I⟩
  obtain ⟨hn6, hb4, hs12, en, eb, es⟩ := I.1
  have eS : nx (v 3) = ns := by rw [es]; exact nx_nI (by omega)
  have P0 := P
  obtain ⟨T0, T1, T2, T3, ⟨F1, F2, F3, pl, pj⟩, Hh, Hb, Hg, Hc, Gg, Gc, Hk, Hs⟩ := P
  rw [en, eb, es] at T0
  have Hs2 : ∀ k, k < ns → _ := fun k hk => Hs k (by omega) (by rw [eS]; exact hk)
  refine v_aload_n (pc := 0) X (hd := dX2_cartTurfs_0) (kk := ?_)
  refine v_iload_n (pc := 1) X (hd := dX2_cartTurfs_1) (kk := ?_)
  refine v_callVp (pc := 2) X (hd := dX2_cartTurfs_2) (w := wv_X2_129) (hC := c_X2_hasStack l E a v x nh nb ns) (hp := hpp) (hb := by first | assumption | exact pset_s _ _ _ | exact (pset_n (by omega)).trans (by assumption)) (kk := ?_)
  refine v_ifeqB (pc := 5) X (tgt := 19) (hd := dX2_cartTurfs_5) (kt := fun c5 => ?_) (kf := fun c5 => ?_)
  · refine v_iconst (pc := 19) X (v := (-1)) (hd := dX2_cartTurfs_19) (kk := ?_)
    exact v_endi (pc := 20) X hr hlk (hd := dX2_cartTurfs_20) (hf := ⟨by unfold rCart; rw [if_neg (fun q => c5 q.1)], Or.inl ⟨fun q => c5 q.1.1, rfl⟩⟩)
  · refine v_iload_n (pc := 8) X (hd := dX2_cartTurfs_8) (kk := ?_)
    refine v_iconst (pc := 9) X (v := nI 1) (hd := dX2_cartTurfs_9) (kk := ?_)
    refine v_sipush (pc := 10) X (v := nI 1000) (hd := dX2_cartTurfs_10) (kk := ?_)
    refine v_callSNp (pc := 13) X (hd := dX2_cartTurfs_13) (w := wv_X2_61) (hC := c_X6_isWithin l E _ _ _) (hp := by first | assumption | exact trivial) (kk := ?_)
    refine v_ifneB (pc := 16) X (tgt := 21) (hd := dX2_cartTurfs_16) (kt := fun c16 => ?_) (kf := fun c16 => ?_)
    · obtain ⟨j, hj, rfl, ej⟩ := gH_j es (by omega) c5
      obtain ⟨o, b, t1, we1, tn1, s1, s2, s3, s4, s5, s6, e0, e1, e2, e3, e4⟩ := I.2.2.2.2.2.2.2.2.1 j hj
      have eb1 : nx (nI b) = b := nx_nI (by omega)
      have eo1 : nx (nI o) = o := nx_nI (by omega)
      have hpj := pl j (by omega)
      refine v_aload_n (pc := 21) X (hd := dX2_cartTurfs_21) (kk := ?_)
      refine g_X2_44 (pc := 22) X (hd := dX2_cartTurfs_22) (hh := by first | assumption | exact pset_s _ _ _ | exact (pset_n (by omega)).trans (by assumption)) (kk := ?_)
      refine v_iload_n (pc := 25) X (hd := dX2_cartTurfs_25) (kk := ?_)
      refine v_aaldN (pc := 26) X (j := j) (hd := dX2_cartTurfs_26) (hh := by first | assumption | exact pset_s _ _ _ | exact (pset_n (by omega)).trans (by assumption)) (hi := by first | rfl | (simp only [pk_mul, nI_add]; done)) (hj := by omega) (hf := F3 j (by omega)) (kk := ?_)
      refine v_astore_n (pc := 27) X (hd := dX2_cartTurfs_27) (kk := ?_)
      refine v_aload_n (pc := 28) X (hd := dX2_cartTurfs_28) (kk := ?_)
      refine g_X2_38 (pc := 29) X (hd := dX2_cartTurfs_29) (hh := by first | assumption | exact pset_s _ _ _ | exact (pset_n (by omega)).trans (by assumption)) (kk := ?_)
      refine v_aload_n (pc := 32) X (hd := dX2_cartTurfs_32) (kk := ?_)
      refine g_X2_116 (pc := 33) X (hd := dX2_cartTurfs_33) (hh := Hs2 j (by omega)) (kk := ?_)
      refine v_topi (fun y33 e33 => ?_)
      obtain rfl : y33 = nI b := e33.trans e1
      refine v_aaldN (pc := 36) X (j := b) (hd := dX2_cartTurfs_36) (hh := by first | assumption | exact pset_s _ _ _ | exact (pset_n (by omega)).trans (by assumption)) (hi := by first | rfl | (simp only [pk_mul, nI_add]; done)) (hj := by omega) (hf := F2 b (by omega)) (kk := ?_)
      refine v_astore (pc := 37) X (hd := dX2_cartTurfs_37) (kk := ?_)
      refine v_aload_n (pc := 39) X (hd := dX2_cartTurfs_39) (kk := ?_)
      refine v_iload_n (pc := 40) X (hd := dX2_cartTurfs_40) (kk := ?_)
      refine v_callVp (pc := 41) X (hd := dX2_cartTurfs_41) (w := wv_X2_165) (hC := c_X5_loadOf l E _ _ _ _ _ _ _) (hp := Hs2 j hj) (hb := Hs2 j hj) (kk := ?_)
      refine v_istore (pc := 44) X (hd := dX2_cartTurfs_44) (kk := ?_)
      refine v_aload_n (pc := 46) X (hd := dX2_cartTurfs_46) (kk := ?_)
      refine g_X2_119 (pc := 47) X (hd := dX2_cartTurfs_47) (hh := Hs2 j (by omega)) (kk := ?_)
      refine v_iload_n (pc := 50) X (hd := dX2_cartTurfs_50) (kk := ?_)
      refine v_icmplt (pc := 51) X (tgt := 65) (hd := dX2_cartTurfs_51) (kt := fun c51 => ?_) (kf := fun c51 => ?_)
      · refine v_bipush (pc := 65) X (v := (-2)) (hd := dX2_cartTurfs_65) (kk := ?_)
        exact v_endi (pc := 67) X hr hlk (hd := dX2_cartTurfs_67) (hf := ⟨by unfold rCart; rw [if_pos ⟨c5, c16⟩, ej, e1, eb1, if_neg (fun q => q.1 c51)], Or.inl ⟨fun q => by have := q.2.1; rw [ej] at this; exact this c51, rfl⟩⟩)
      · refine v_iload (pc := 54) X (hd := dX2_cartTurfs_54) (kk := ?_)
        refine v_aload_n (pc := 56) X (hd := dX2_cartTurfs_56) (kk := ?_)
        refine v_aload (pc := 57) X (hd := dX2_cartTurfs_57) (kk := ?_)
        refine v_callVp (pc := 59) X (hd := dX2_cartTurfs_59) (w := wv_X2_169) (hC := c_X2_bearingToday l E a v b nh nb ns) (hp := ⟨hpp.1, I, by omega⟩) (hb := by first | assumption | exact pset_s _ _ _ | exact (pset_n (by omega)).trans (by assumption)) (kk := ?_)
        refine v_icmple (pc := 62) X (tgt := 68) (hd := dX2_cartTurfs_62) (kt := fun c62 => ?_) (kf := fun c62 => ?_)
        · refine v_aload_n (pc := 68) X (hd := dX2_cartTurfs_68) (kk := ?_)
          refine g_X2_32 (pc := 69) X (hd := dX2_cartTurfs_69) (hh := by first | assumption | exact pset_s _ _ _ | exact (pset_n (by omega)).trans (by assumption)) (kk := ?_)
          refine v_aload_n (pc := 72) X (hd := dX2_cartTurfs_72) (kk := ?_)
          refine g_X2_113 (pc := 73) X (hd := dX2_cartTurfs_73) (hh := Hs2 j (by omega)) (kk := ?_)
          refine v_topi (fun y73 e73 => ?_)
          obtain rfl : y73 = nI o := e73.trans e0
          refine v_aaldN (pc := 76) X (j := o) (hd := dX2_cartTurfs_76) (hh := by first | assumption | exact pset_s _ _ _ | exact (pset_n (by omega)).trans (by assumption)) (hi := by first | rfl | (simp only [pk_mul, nI_add]; done)) (hj := by omega) (hf := F1 o (by omega)) (kk := ?_)
          refine v_astore (pc := 77) X (hd := dX2_cartTurfs_77) (kk := ?_)
          refine v_aload_n (pc := 79) X (hd := dX2_cartTurfs_79) (kk := ?_)
          refine v_callVp (pc := 80) X (hd := dX2_cartTurfs_80) (w := wv_X2_139) (hC := c_X5_isDry l E _ _ _ _ _ _) (hp := Hs2 j hj) (hb := Hs2 j hj) (kk := ?_)
          refine v_ifeqB (pc := 83) X (tgt := 100) (hd := dX2_cartTurfs_83) (kt := fun c83 => ?_) (kf := fun c83 => ?_)
          · refine v_aload (pc := 100) X (hd := dX2_cartTurfs_100) (kk := ?_)
            refine v_dup (pc := 102) X (hd := dX2_cartTurfs_102) (kk := ?_)
            refine g_X2_175 (pc := 103) X (hd := dX2_cartTurfs_103) (hh := Hh o (by omega)) (kk := ?_)
            refine v_iload_n (pc := 106) X (hd := dX2_cartTurfs_106) (kk := ?_)
            refine v_iadd (pc := 107) X (hd := dX2_cartTurfs_107) (kk := ?_)
            refine p_X2_175 (pc := 108) X (hd := dX2_cartTurfs_108) (hh := Hh o (by omega)) (kk := ?_)
            refine v_gen (P := fun h9 => PX a (upd v (6 + 3 * o + 2) (v (6 + 3 * o + 2) + t)) f1 f2 f3 pi g c h9 ∧ pO a (a + 34) h h9 ∧ h9 a = some (ob 2 [.int (v 0), .int (v 5), .int (v 4), .int (nI nh), .int (nI nb), .int (nI ns), .ref (a + 1), .ref (a + 2), .ref (a + 3)]) ∧ h9 (a + 10 + 3 * b) = some (ob 0 [.int (v (24 + 7 * b + 0)), .int (v (24 + 7 * b + 1)), .int (v (24 + 7 * b + 2)), .int (v (24 + 7 * b + 4)), .int (v (24 + 7 * b + 5)), .int (v (24 + 7 * b + 6)), .ref (a + 11 + 3 * b), .ref (a + 12 + 3 * b)]) ∧ h9 (a + 22 + pi j) = some (ob 5 [.int (v (76 + 5 * j + 0)), .int (v (76 + 5 * j + 1)), .int (v (76 + 5 * j + 2)), .int (v (76 + 5 * j + 3)), .int (v (76 + 5 * j + 4))])) ⟨P0.houseF (v1 := upd v (6 + 3 * o + 2) (v (6 + 3 * o + 2) + t)) (by omega) (fun q hq => pk_un (by omega)) (by rw [pk_un (by omega)]) (by rw [pk_un (by omega)]) pk_us.symm, pO.rf.set (by omega) (by omega), (pset_n (by omega)).trans T0, (pset_n (by omega)).trans (Hb b (by omega)), (pset_n (by omega)).trans (Hs2 j hj)⟩ (fun h1 q1 => ?_)
            obtain ⟨P1, O1, U1⟩ := q1
            obtain ⟨U1a, U1b, U1c⟩ := U1
            refine v_aload (pc := 111) X (hd := dX2_cartTurfs_111) (kk := ?_)
            refine v_dup (pc := 113) X (hd := dX2_cartTurfs_113) (kk := ?_)
            refine g_X2_178 (pc := 114) X (hd := dX2_cartTurfs_114) (hh := U1b) (kk := ?_)
            refine v_iload_n (pc := 117) X (hd := dX2_cartTurfs_117) (kk := ?_)
            refine v_iadd (pc := 118) X (hd := dX2_cartTurfs_118) (kk := ?_)
            refine p_X2_178 (pc := 119) X (hd := dX2_cartTurfs_119) (hh := U1b) (kk := ?_)
            refine v_gen (P := fun h9 => PX a (upd (upd v (6 + 3 * o + 2) (v (6 + 3 * o + 2) + t)) (24 + 7 * b + 5) (v (24 + 7 * b + 5) + t)) f1 f2 f3 pi g c h9 ∧ pO a (a + 34) h h9 ∧ h9 a = some (ob 2 [.int (v 0), .int (v 5), .int (v 4), .int (nI nh), .int (nI nb), .int (nI ns), .ref (a + 1), .ref (a + 2), .ref (a + 3)]) ∧ h9 (a + 10 + 3 * b) = some (ob 0 [.int (v (24 + 7 * b + 0)), .int (v (24 + 7 * b + 1)), .int (v (24 + 7 * b + 2)), .int (v (24 + 7 * b + 4)), .int (v (24 + 7 * b + 5) + t), .int (v (24 + 7 * b + 6)), .ref (a + 11 + 3 * b), .ref (a + 12 + 3 * b)]) ∧ h9 (a + 22 + pi j) = some (ob 5 [.int (v (76 + 5 * j + 0)), .int (v (76 + 5 * j + 1)), .int (v (76 + 5 * j + 2)), .int (v (76 + 5 * j + 3)), .int (v (76 + 5 * j + 4))])) ⟨P1.bankF (v1 := upd (upd v (6 + 3 * o + 2) (v (6 + 3 * o + 2) + t)) (24 + 7 * b + 5) (v (24 + 7 * b + 5) + t)) (by omega) (fun q hq => pk_un (by omega)) (by rw [pk_un (by omega), pk_un (by omega)]) (by rw [pk_un (by omega), pk_un (by omega)]) (by rw [pk_un (by omega), pk_un (by omega)]) (by rw [pk_un (by omega), pk_un (by omega)]) pk_us.symm (by rw [pk_un (by omega), pk_un (by omega)]), O1.set (by omega) (by omega), (pset_n (by omega)).trans U1a, pset_s _ _ _, (pset_n (by omega)).trans U1c⟩ (fun h2 q2 => ?_)
            obtain ⟨P2, O2, U2⟩ := q2
            obtain ⟨U2a, U2b, U2c⟩ := U2
            refine v_aload (pc := 122) X (hd := dX2_cartTurfs_122) (kk := ?_)
            refine v_dup (pc := 124) X (hd := dX2_cartTurfs_124) (kk := ?_)
            refine g_X2_159 (pc := 125) X (hd := dX2_cartTurfs_125) (hh := U2b) (kk := ?_)
            refine v_iload (pc := 128) X (hd := dX2_cartTurfs_128) (kk := ?_)
            refine v_callSp (pc := 130) X (hd := dX2_cartTurfs_130) (w := wv_X2_181) (hC := c_X0_wearBy l E _) (hp := by first | assumption | exact trivial) (kk := ?_)
            refine v_iadd (pc := 133) X (hd := dX2_cartTurfs_133) (kk := ?_)
            refine p_X2_159 (pc := 134) X (hd := dX2_cartTurfs_134) (hh := U2b) (kk := ?_)
            refine v_gen (P := fun h9 => PX a (upd (upd (upd v (6 + 3 * o + 2) (v (6 + 3 * o + 2) + t)) (24 + 7 * b + 5) (v (24 + 7 * b + 5) + t)) (24 + 7 * b + 2) (v (24 + 7 * b + 2) + fWear (fLoad (v (76 + 5 * j + 3)) t))) f1 f2 f3 pi g c h9 ∧ pO a (a + 34) h h9 ∧ h9 a = some (ob 2 [.int (v 0), .int (v 5), .int (v 4), .int (nI nh), .int (nI nb), .int (nI ns), .ref (a + 1), .ref (a + 2), .ref (a + 3)]) ∧ h9 (a + 22 + pi j) = some (ob 5 [.int (v (76 + 5 * j + 0)), .int (v (76 + 5 * j + 1)), .int (v (76 + 5 * j + 2)), .int (v (76 + 5 * j + 3)), .int (v (76 + 5 * j + 4))])) ⟨P2.bankF (v1 := upd (upd (upd v (6 + 3 * o + 2) (v (6 + 3 * o + 2) + t)) (24 + 7 * b + 5) (v (24 + 7 * b + 5) + t)) (24 + 7 * b + 2) (v (24 + 7 * b + 2) + fWear (fLoad (v (76 + 5 * j + 3)) t))) (by omega) (fun q hq => pk_un (by omega)) (by rw [pk_un (by omega), pk_un (by omega), pk_un (by omega)]) (by rw [pk_un (by omega), pk_un (by omega), pk_un (by omega)]) pk_us.symm (by rw [pk_un (by omega), pk_un (by omega), pk_un (by omega)]) (by rw [pk_un (by omega), pk_us]) (by rw [pk_un (by omega), pk_un (by omega), pk_un (by omega)]), O2.set (by omega) (by omega), (pset_n (by omega)).trans U2a, (pset_n (by omega)).trans U2c⟩ (fun h3 q3 => ?_)
            obtain ⟨P3, O3, U3⟩ := q3
            obtain ⟨U3a, U3b⟩ := U3
            refine v_aload_n (pc := 137) X (hd := dX2_cartTurfs_137) (kk := ?_)
            refine v_dup (pc := 138) X (hd := dX2_cartTurfs_138) (kk := ?_)
            refine g_X2_119 (pc := 139) X (hd := dX2_cartTurfs_139) (hh := U3b) (kk := ?_)
            refine v_iload_n (pc := 142) X (hd := dX2_cartTurfs_142) (kk := ?_)
            refine v_isub (pc := 143) X (hd := dX2_cartTurfs_143) (kk := ?_)
            refine p_X2_119 (pc := 144) X (hd := dX2_cartTurfs_144) (hh := U3b) (kk := ?_)
            refine v_gen (P := fun h9 => PX a (upd (upd (upd (upd v (6 + 3 * o + 2) (v (6 + 3 * o + 2) + t)) (24 + 7 * b + 5) (v (24 + 7 * b + 5) + t)) (24 + 7 * b + 2) (v (24 + 7 * b + 2) + fWear (fLoad (v (76 + 5 * j + 3)) t))) (76 + 5 * j + 2) (v (76 + 5 * j + 2) - t)) f1 f2 f3 pi g c h9 ∧ pO a (a + 34) h h9 ∧ h9 (a + 22 + pi j) = some (ob 5 [.int (v (76 + 5 * j + 0)), .int (v (76 + 5 * j + 1)), .int (v (76 + 5 * j + 2) - t), .int (v (76 + 5 * j + 3)), .int (v (76 + 5 * j + 4))])) ⟨P3.stackF (v1 := upd (upd (upd (upd v (6 + 3 * o + 2) (v (6 + 3 * o + 2) + t)) (24 + 7 * b + 5) (v (24 + 7 * b + 5) + t)) (24 + 7 * b + 2) (v (24 + 7 * b + 2) + fWear (fLoad (v (76 + 5 * j + 3)) t))) (76 + 5 * j + 2) (v (76 + 5 * j + 2) - t)) (i := j) (by omega) (fun q hq => pk_un (by omega)) (by rw [pk_un (by omega), pk_un (by omega), pk_un (by omega), pk_un (by omega)]) (by rw [pk_un (by omega), pk_un (by omega), pk_un (by omega), pk_un (by omega)]) pk_us.symm (by rw [pk_un (by omega), pk_un (by omega), pk_un (by omega), pk_un (by omega)]) (by rw [pk_un (by omega), pk_un (by omega), pk_un (by omega), pk_un (by omega)]), O3.set (by omega) (by omega), pset_s _ _ _⟩ (fun h4 q4 => ?_)
            obtain ⟨P4, O4, U4⟩ := q4
            refine v_aload_n (pc := 147) X (hd := dX2_cartTurfs_147) (kk := ?_)
            refine g_X2_119 (pc := 148) X (hd := dX2_cartTurfs_148) (hh := U4) (kk := ?_)
            refine v_ifne (pc := 151) X (tgt := 159) (hd := dX2_cartTurfs_151) (kt := fun c151 => ?_) (kf := fun c151 => ?_)
            · refine v_iload (pc := 159) X (hd := dX2_cartTurfs_159) (kk := ?_)
              exact v_endi (pc := 161) X hr hlk (hd := dX2_cartTurfs_161) (hf := by
    have hB3 : caB v b (fLoad (v (76 + 5 * j + 3)) t) t (76 + 5 * j + 3) = v (76 + 5 * j + 3) := by unfold caB; rw [pk_un (by omega), pk_un (by omega)]
    refine ⟨by unfold rCart; rw [if_pos ⟨c5, c16⟩, ej, e1, eb1, if_pos ⟨c51, c62⟩], Or.inr ⟨⟨⟨c5, c16⟩, by rw [ej, e1, eb1]; exact ⟨c51, c62⟩⟩, ?_⟩⟩
    unfold hCart
    rw [ej, e1, e0, eb1, eo1]
    unfold gCart
    rw [if_neg (show ¬ caB v b (fLoad (v (76 + 5 * j + 3)) t) t (76 + 5 * j + 3) ≤ nI 30000 from by rw [hB3]; exact c83), if_neg (by rw [caD_at (by omega) (by omega) (by omega), pk_us]; exact c151)]
    exact ⟨P4.pa (fun q => caD_at (by omega) (by omega) (by omega) q), O4⟩)
            · refine v_aload_n (pc := 154) X (hd := dX2_cartTurfs_154) (kk := ?_)
              refine v_iload_n (pc := 155) X (hd := dX2_cartTurfs_155) (kk := ?_)
              refine v_callVv (pc := 156) X (hd := dX2_cartTurfs_156) (w := wv_X2_135) (hC := c_X2_removeStack l E a (upd (upd (upd (upd v (6 + 3 * o + 2) (v (6 + 3 * o + 2) + t)) (24 + 7 * b + 5) (v (24 + 7 * b + 5) + t)) (24 + 7 * b + 2) (v (24 + 7 * b + 2) + fWear (fLoad (v (76 + 5 * j + 3)) t))) (76 + 5 * j + 2) (v (76 + 5 * j + 2) - t)) j ns) (hp := ⟨⟨_, _, _, _, _, _, P4⟩, (by rw [pk_un (by omega), pk_un (by omega), pk_un (by omega), pk_un (by omega), es]), hj, hs12⟩) (hb := P4.1) (kk := fun h156 q156 => ?_)
              refine v_iload (pc := 159) X (hd := dX2_cartTurfs_159) (kk := ?_)
              exact v_endi (pc := 161) X hr hlk (hd := dX2_cartTurfs_161) (hf := by
    have hB3 : caB v b (fLoad (v (76 + 5 * j + 3)) t) t (76 + 5 * j + 3) = v (76 + 5 * j + 3) := by unfold caB; rw [pk_un (by omega), pk_un (by omega)]
    refine ⟨by unfold rCart; rw [if_pos ⟨c5, c16⟩, ej, e1, eb1, if_pos ⟨c51, c62⟩], Or.inr ⟨⟨⟨c5, c16⟩, by rw [ej, e1, eb1]; exact ⟨c51, c62⟩⟩, ?_⟩⟩
    unfold hCart
    rw [ej, e1, e0, eb1, eo1]
    unfold gCart
    rw [if_neg (show ¬ caB v b (fLoad (v (76 + 5 * j + 3)) t) t (76 + 5 * j + 3) ≤ nI 30000 from by rw [hB3]; exact c83), if_pos (by rw [caD_at (by omega) (by omega) (by omega), pk_us]; exact Classical.not_not.mp c151)]
    rw [show caD v j b o (fLoad (v (76 + 5 * j + 3)) t) t 2 = upd (upd (upd (upd v (6 + 3 * o + 2) (v (6 + 3 * o + 2) + t)) (24 + 7 * b + 5) (v (24 + 7 * b + 5) + t)) (24 + 7 * b + 2) (v (24 + 7 * b + 2) + fWear (fLoad (v (76 + 5 * j + 3)) t))) (76 + 5 * j + 2) (v (76 + 5 * j + 2) - t) from funext (fun q => caD_at (by omega) (by omega) (by omega) q)]
    exact ⟨q156.1, O4.tr (fun q hq => q156.2 q (by omega) (by omega))⟩)
          · refine v_aload (pc := 86) X (hd := dX2_cartTurfs_86) (kk := ?_)
            refine v_dup (pc := 88) X (hd := dX2_cartTurfs_88) (kk := ?_)
            refine g_X2_172 (pc := 89) X (hd := dX2_cartTurfs_89) (hh := Hh o (by omega)) (kk := ?_)
            refine v_iload_n (pc := 92) X (hd := dX2_cartTurfs_92) (kk := ?_)
            refine v_iadd (pc := 93) X (hd := dX2_cartTurfs_93) (kk := ?_)
            refine p_X2_172 (pc := 94) X (hd := dX2_cartTurfs_94) (hh := Hh o (by omega)) (kk := ?_)
            refine v_gen (P := fun h9 => PX a (upd v (6 + 3 * o + 1) (v (6 + 3 * o + 1) + t)) f1 f2 f3 pi g c h9 ∧ pO a (a + 34) h h9 ∧ h9 a = some (ob 2 [.int (v 0), .int (v 5), .int (v 4), .int (nI nh), .int (nI nb), .int (nI ns), .ref (a + 1), .ref (a + 2), .ref (a + 3)]) ∧ h9 (a + 10 + 3 * b) = some (ob 0 [.int (v (24 + 7 * b + 0)), .int (v (24 + 7 * b + 1)), .int (v (24 + 7 * b + 2)), .int (v (24 + 7 * b + 4)), .int (v (24 + 7 * b + 5)), .int (v (24 + 7 * b + 6)), .ref (a + 11 + 3 * b), .ref (a + 12 + 3 * b)]) ∧ h9 (a + 22 + pi j) = some (ob 5 [.int (v (76 + 5 * j + 0)), .int (v (76 + 5 * j + 1)), .int (v (76 + 5 * j + 2)), .int (v (76 + 5 * j + 3)), .int (v (76 + 5 * j + 4))])) ⟨P0.houseF (v1 := upd v (6 + 3 * o + 1) (v (6 + 3 * o + 1) + t)) (by omega) (fun q hq => pk_un (by omega)) (by rw [pk_un (by omega)]) pk_us.symm (by rw [pk_un (by omega)]), pO.rf.set (by omega) (by omega), (pset_n (by omega)).trans T0, (pset_n (by omega)).trans (Hb b (by omega)), (pset_n (by omega)).trans (Hs2 j hj)⟩ (fun h1 q1 => ?_)
            obtain ⟨P1, O1, U1⟩ := q1
            obtain ⟨U1a, U1b, U1c⟩ := U1
            refine v_goto (pc := 97) X (tgt := 111) (hd := dX2_cartTurfs_97) (kk := ?_)
            refine v_aload (pc := 111) X (hd := dX2_cartTurfs_111) (kk := ?_)
            refine v_dup (pc := 113) X (hd := dX2_cartTurfs_113) (kk := ?_)
            refine g_X2_178 (pc := 114) X (hd := dX2_cartTurfs_114) (hh := U1b) (kk := ?_)
            refine v_iload_n (pc := 117) X (hd := dX2_cartTurfs_117) (kk := ?_)
            refine v_iadd (pc := 118) X (hd := dX2_cartTurfs_118) (kk := ?_)
            refine p_X2_178 (pc := 119) X (hd := dX2_cartTurfs_119) (hh := U1b) (kk := ?_)
            refine v_gen (P := fun h9 => PX a (upd (upd v (6 + 3 * o + 1) (v (6 + 3 * o + 1) + t)) (24 + 7 * b + 5) (v (24 + 7 * b + 5) + t)) f1 f2 f3 pi g c h9 ∧ pO a (a + 34) h h9 ∧ h9 a = some (ob 2 [.int (v 0), .int (v 5), .int (v 4), .int (nI nh), .int (nI nb), .int (nI ns), .ref (a + 1), .ref (a + 2), .ref (a + 3)]) ∧ h9 (a + 10 + 3 * b) = some (ob 0 [.int (v (24 + 7 * b + 0)), .int (v (24 + 7 * b + 1)), .int (v (24 + 7 * b + 2)), .int (v (24 + 7 * b + 4)), .int (v (24 + 7 * b + 5) + t), .int (v (24 + 7 * b + 6)), .ref (a + 11 + 3 * b), .ref (a + 12 + 3 * b)]) ∧ h9 (a + 22 + pi j) = some (ob 5 [.int (v (76 + 5 * j + 0)), .int (v (76 + 5 * j + 1)), .int (v (76 + 5 * j + 2)), .int (v (76 + 5 * j + 3)), .int (v (76 + 5 * j + 4))])) ⟨P1.bankF (v1 := upd (upd v (6 + 3 * o + 1) (v (6 + 3 * o + 1) + t)) (24 + 7 * b + 5) (v (24 + 7 * b + 5) + t)) (by omega) (fun q hq => pk_un (by omega)) (by rw [pk_un (by omega), pk_un (by omega)]) (by rw [pk_un (by omega), pk_un (by omega)]) (by rw [pk_un (by omega), pk_un (by omega)]) (by rw [pk_un (by omega), pk_un (by omega)]) pk_us.symm (by rw [pk_un (by omega), pk_un (by omega)]), O1.set (by omega) (by omega), (pset_n (by omega)).trans U1a, pset_s _ _ _, (pset_n (by omega)).trans U1c⟩ (fun h2 q2 => ?_)
            obtain ⟨P2, O2, U2⟩ := q2
            obtain ⟨U2a, U2b, U2c⟩ := U2
            refine v_aload (pc := 122) X (hd := dX2_cartTurfs_122) (kk := ?_)
            refine v_dup (pc := 124) X (hd := dX2_cartTurfs_124) (kk := ?_)
            refine g_X2_159 (pc := 125) X (hd := dX2_cartTurfs_125) (hh := U2b) (kk := ?_)
            refine v_iload (pc := 128) X (hd := dX2_cartTurfs_128) (kk := ?_)
            refine v_callSp (pc := 130) X (hd := dX2_cartTurfs_130) (w := wv_X2_181) (hC := c_X0_wearBy l E _) (hp := by first | assumption | exact trivial) (kk := ?_)
            refine v_iadd (pc := 133) X (hd := dX2_cartTurfs_133) (kk := ?_)
            refine p_X2_159 (pc := 134) X (hd := dX2_cartTurfs_134) (hh := U2b) (kk := ?_)
            refine v_gen (P := fun h9 => PX a (upd (upd (upd v (6 + 3 * o + 1) (v (6 + 3 * o + 1) + t)) (24 + 7 * b + 5) (v (24 + 7 * b + 5) + t)) (24 + 7 * b + 2) (v (24 + 7 * b + 2) + fWear (fLoad (v (76 + 5 * j + 3)) t))) f1 f2 f3 pi g c h9 ∧ pO a (a + 34) h h9 ∧ h9 a = some (ob 2 [.int (v 0), .int (v 5), .int (v 4), .int (nI nh), .int (nI nb), .int (nI ns), .ref (a + 1), .ref (a + 2), .ref (a + 3)]) ∧ h9 (a + 22 + pi j) = some (ob 5 [.int (v (76 + 5 * j + 0)), .int (v (76 + 5 * j + 1)), .int (v (76 + 5 * j + 2)), .int (v (76 + 5 * j + 3)), .int (v (76 + 5 * j + 4))])) ⟨P2.bankF (v1 := upd (upd (upd v (6 + 3 * o + 1) (v (6 + 3 * o + 1) + t)) (24 + 7 * b + 5) (v (24 + 7 * b + 5) + t)) (24 + 7 * b + 2) (v (24 + 7 * b + 2) + fWear (fLoad (v (76 + 5 * j + 3)) t))) (by omega) (fun q hq => pk_un (by omega)) (by rw [pk_un (by omega), pk_un (by omega), pk_un (by omega)]) (by rw [pk_un (by omega), pk_un (by omega), pk_un (by omega)]) pk_us.symm (by rw [pk_un (by omega), pk_un (by omega), pk_un (by omega)]) (by rw [pk_un (by omega), pk_us]) (by rw [pk_un (by omega), pk_un (by omega), pk_un (by omega)]), O2.set (by omega) (by omega), (pset_n (by omega)).trans U2a, (pset_n (by omega)).trans U2c⟩ (fun h3 q3 => ?_)
            obtain ⟨P3, O3, U3⟩ := q3
            obtain ⟨U3a, U3b⟩ := U3
            refine v_aload_n (pc := 137) X (hd := dX2_cartTurfs_137) (kk := ?_)
            refine v_dup (pc := 138) X (hd := dX2_cartTurfs_138) (kk := ?_)
            refine g_X2_119 (pc := 139) X (hd := dX2_cartTurfs_139) (hh := U3b) (kk := ?_)
            refine v_iload_n (pc := 142) X (hd := dX2_cartTurfs_142) (kk := ?_)
            refine v_isub (pc := 143) X (hd := dX2_cartTurfs_143) (kk := ?_)
            refine p_X2_119 (pc := 144) X (hd := dX2_cartTurfs_144) (hh := U3b) (kk := ?_)
            refine v_gen (P := fun h9 => PX a (upd (upd (upd (upd v (6 + 3 * o + 1) (v (6 + 3 * o + 1) + t)) (24 + 7 * b + 5) (v (24 + 7 * b + 5) + t)) (24 + 7 * b + 2) (v (24 + 7 * b + 2) + fWear (fLoad (v (76 + 5 * j + 3)) t))) (76 + 5 * j + 2) (v (76 + 5 * j + 2) - t)) f1 f2 f3 pi g c h9 ∧ pO a (a + 34) h h9 ∧ h9 (a + 22 + pi j) = some (ob 5 [.int (v (76 + 5 * j + 0)), .int (v (76 + 5 * j + 1)), .int (v (76 + 5 * j + 2) - t), .int (v (76 + 5 * j + 3)), .int (v (76 + 5 * j + 4))])) ⟨P3.stackF (v1 := upd (upd (upd (upd v (6 + 3 * o + 1) (v (6 + 3 * o + 1) + t)) (24 + 7 * b + 5) (v (24 + 7 * b + 5) + t)) (24 + 7 * b + 2) (v (24 + 7 * b + 2) + fWear (fLoad (v (76 + 5 * j + 3)) t))) (76 + 5 * j + 2) (v (76 + 5 * j + 2) - t)) (i := j) (by omega) (fun q hq => pk_un (by omega)) (by rw [pk_un (by omega), pk_un (by omega), pk_un (by omega), pk_un (by omega)]) (by rw [pk_un (by omega), pk_un (by omega), pk_un (by omega), pk_un (by omega)]) pk_us.symm (by rw [pk_un (by omega), pk_un (by omega), pk_un (by omega), pk_un (by omega)]) (by rw [pk_un (by omega), pk_un (by omega), pk_un (by omega), pk_un (by omega)]), O3.set (by omega) (by omega), pset_s _ _ _⟩ (fun h4 q4 => ?_)
            obtain ⟨P4, O4, U4⟩ := q4
            refine v_aload_n (pc := 147) X (hd := dX2_cartTurfs_147) (kk := ?_)
            refine g_X2_119 (pc := 148) X (hd := dX2_cartTurfs_148) (hh := U4) (kk := ?_)
            refine v_ifne (pc := 151) X (tgt := 159) (hd := dX2_cartTurfs_151) (kt := fun c151 => ?_) (kf := fun c151 => ?_)
            · refine v_iload (pc := 159) X (hd := dX2_cartTurfs_159) (kk := ?_)
              exact v_endi (pc := 161) X hr hlk (hd := dX2_cartTurfs_161) (hf := by
    have hB3 : caB v b (fLoad (v (76 + 5 * j + 3)) t) t (76 + 5 * j + 3) = v (76 + 5 * j + 3) := by unfold caB; rw [pk_un (by omega), pk_un (by omega)]
    refine ⟨by unfold rCart; rw [if_pos ⟨c5, c16⟩, ej, e1, eb1, if_pos ⟨c51, c62⟩], Or.inr ⟨⟨⟨c5, c16⟩, by rw [ej, e1, eb1]; exact ⟨c51, c62⟩⟩, ?_⟩⟩
    unfold hCart
    rw [ej, e1, e0, eb1, eo1]
    unfold gCart
    rw [if_pos (show caB v b (fLoad (v (76 + 5 * j + 3)) t) t (76 + 5 * j + 3) ≤ nI 30000 from by rw [hB3]; exact c83), if_neg (by rw [caD_at (by omega) (by omega) (by omega), pk_us]; exact c151)]
    exact ⟨P4.pa (fun q => caD_at (by omega) (by omega) (by omega) q), O4⟩)
            · refine v_aload_n (pc := 154) X (hd := dX2_cartTurfs_154) (kk := ?_)
              refine v_iload_n (pc := 155) X (hd := dX2_cartTurfs_155) (kk := ?_)
              refine v_callVv (pc := 156) X (hd := dX2_cartTurfs_156) (w := wv_X2_135) (hC := c_X2_removeStack l E a (upd (upd (upd (upd v (6 + 3 * o + 1) (v (6 + 3 * o + 1) + t)) (24 + 7 * b + 5) (v (24 + 7 * b + 5) + t)) (24 + 7 * b + 2) (v (24 + 7 * b + 2) + fWear (fLoad (v (76 + 5 * j + 3)) t))) (76 + 5 * j + 2) (v (76 + 5 * j + 2) - t)) j ns) (hp := ⟨⟨_, _, _, _, _, _, P4⟩, (by rw [pk_un (by omega), pk_un (by omega), pk_un (by omega), pk_un (by omega), es]), hj, hs12⟩) (hb := P4.1) (kk := fun h156 q156 => ?_)
              refine v_iload (pc := 159) X (hd := dX2_cartTurfs_159) (kk := ?_)
              exact v_endi (pc := 161) X hr hlk (hd := dX2_cartTurfs_161) (hf := by
    have hB3 : caB v b (fLoad (v (76 + 5 * j + 3)) t) t (76 + 5 * j + 3) = v (76 + 5 * j + 3) := by unfold caB; rw [pk_un (by omega), pk_un (by omega)]
    refine ⟨by unfold rCart; rw [if_pos ⟨c5, c16⟩, ej, e1, eb1, if_pos ⟨c51, c62⟩], Or.inr ⟨⟨⟨c5, c16⟩, by rw [ej, e1, eb1]; exact ⟨c51, c62⟩⟩, ?_⟩⟩
    unfold hCart
    rw [ej, e1, e0, eb1, eo1]
    unfold gCart
    rw [if_pos (show caB v b (fLoad (v (76 + 5 * j + 3)) t) t (76 + 5 * j + 3) ≤ nI 30000 from by rw [hB3]; exact c83), if_pos (by rw [caD_at (by omega) (by omega) (by omega), pk_us]; exact Classical.not_not.mp c151)]
    rw [show caD v j b o (fLoad (v (76 + 5 * j + 3)) t) t 1 = upd (upd (upd (upd v (6 + 3 * o + 1) (v (6 + 3 * o + 1) + t)) (24 + 7 * b + 5) (v (24 + 7 * b + 5) + t)) (24 + 7 * b + 2) (v (24 + 7 * b + 2) + fWear (fLoad (v (76 + 5 * j + 3)) t))) (76 + 5 * j + 2) (v (76 + 5 * j + 2) - t) from funext (fun q => caD_at (by omega) (by omega) (by omega) q)]
    exact ⟨q156.1, O4.tr (fun q hq => q156.2 q (by omega) (by omega))⟩)
        · refine v_bipush (pc := 65) X (v := (-2)) (hd := dX2_cartTurfs_65) (kk := ?_)
          exact v_endi (pc := 67) X hr hlk (hd := dX2_cartTurfs_67) (hf := ⟨by unfold rCart; rw [if_pos ⟨c5, c16⟩, ej, e1, eb1, if_neg (fun q => c62 q.2)], Or.inl ⟨fun q => by have := q.2.2; rw [ej, e1, eb1] at this; exact c62 this, rfl⟩⟩)
    · refine v_iconst (pc := 19) X (v := (-1)) (hd := dX2_cartTurfs_19) (kk := ?_)
      exact v_endi (pc := 20) X hr hlk (hd := dX2_cartTurfs_20) (hf := ⟨by unfold rCart; rw [if_neg (fun q => c16 q.2)], Or.inl ⟨fun q => c16 q.1.2, rfl⟩⟩)
set_option maxRecDepth 100000 in
set_option maxHeartbeats 4000000 in
theorem c_X2_passDay (l : Launch) (E : pE) (a : Nat) (v : Nat → Int32) (wi ra : Int32) (nh nb ns : Nat) : pC l E yX2_passDay cX2_passDay 5 (some .int) { frames := 2, cells := 0, slots := 0, locals := 46 } 0 0 [.ref a, .int wi, .int ra] (fun h _ => PA a v h ∧ Iv v nh nb ns) (pFi (cP a (kDay wi ra) (rDay v wi ra ns) (gDay v wi ra ns))) := by
  refine pC_of (by decide) (by simp [Value.category]) (Nat.le_of_ble_eq_true rfl) ?_
  intro h z hp p__ e__ s__ m__ args__ below__ meth__ c__ X hr hlk hname
  obtain ⟨hP0, I⟩ := hp
  obtain ⟨f1, f2, f3, pi, g, c, P⟩ := hP0
  have hpp : PA a v h ∧ Iv v nh nb ns := ⟨⟨f1, f2, f3, pi, g, c, P⟩, I⟩
  obtain ⟨hn6, hb4, hs12, en, eb, es⟩ := I.1
  have eS : nx (v 3) = ns := by rw [es]; exact nx_nI (by omega)
  have P0 := P
  obtain ⟨T0, T1, T2, T3, ⟨F1, F2, F3, pl, pj⟩, Hh, Hb, Hg, Hc, Gg, Gc, Hk, Hs⟩ := P
  rw [en, eb, es] at T0
  have Hs2 : ∀ k, k < ns → _ := fun k hk => Hs k (by omega) (by rw [eS]; exact hk)
  refine v_iload_n (pc := 0) X (hd := dX2_passDay_0) (kk := ?_)
  refine v_iconst (pc := 1) X (v := nI 0) (hd := dX2_passDay_1) (kk := ?_)
  refine v_bipush (pc := 2) X (v := nI 9) (hd := dX2_passDay_2) (kk := ?_)
  refine v_callSNp (pc := 4) X (hd := dX2_passDay_4) (w := wv_X2_61) (hC := c_X6_isWithin l E _ _ _) (hp := by first | assumption | exact trivial) (kk := ?_)
  refine v_ifeqB (pc := 7) X (tgt := 20) (hd := dX2_passDay_7) (kt := fun c7 => ?_) (kf := fun c7 => ?_)
  · refine v_iconst (pc := 20) X (v := (-1)) (hd := dX2_passDay_20) (kk := ?_)
    exact v_endi (pc := 21) X hr hlk (hd := dX2_passDay_21) (hf := ⟨by unfold rDay; rw [if_neg (fun q => c7 q.1)], Or.inl ⟨fun q => c7 q.1, rfl⟩⟩)
  · refine v_iload_n (pc := 10) X (hd := dX2_passDay_10) (kk := ?_)
    refine v_iconst (pc := 11) X (v := nI 0) (hd := dX2_passDay_11) (kk := ?_)
    refine v_bipush (pc := 12) X (v := nI 9) (hd := dX2_passDay_12) (kk := ?_)
    refine v_callSNp (pc := 14) X (hd := dX2_passDay_14) (w := wv_X2_61) (hC := c_X6_isWithin l E _ _ _) (hp := by first | assumption | exact trivial) (kk := ?_)
    refine v_ifneB (pc := 17) X (tgt := 22) (hd := dX2_passDay_17) (kt := fun c17 => ?_) (kf := fun c17 => ?_)
    · obtain ⟨wn, -, hwn, rfl, ewn⟩ := gI_j (by omega) (by omega) c7
      obtain ⟨rn, -, hrn, rfl, ern⟩ := gI_j (by omega) (by omega) c17
      have go : ∀ i q, (∀ k, q ≠ 76 + 5 * k + 3) → dyF v (nI wn) (nI rn) i q = v q := fun i q hq => dyF_o _ _ _ _ _ hq
      refine v_iconst (pc := 22) X (v := nI 0) (hd := dX2_passDay_22) (kk := ?_)
      refine v_istore_n (pc := 23) X (hd := dX2_passDay_23) (kk := ?_)
      refine v_for (pc := 24) (M := ns) (Lf := fun i => [some (.ref a), some (.int (nI wn)), some (.int (nI rn)), some (.int (nI i)), none]) (I := fun i h1 => PX a (dyF v (nI wn) (nI rn) i) f1 f2 f3 pi g c h1 ∧ pO a (a + 34) h h1 ∧ h1 a = some (ob 2 [.int (v 0), .int (v 5), .int (v 4), .int (nI nh), .int (nI nb), .int (nI ns), .ref (a + 1), .ref (a + 2), .ref (a + 3)]) ∧ h1 (a + 3) = some (ar 5 12 f3)) (h0 := ⟨P0, pO.rf, T0, T3⟩) (hL := by rfl) (step := ?_) (out := ?_)
      · intro i h1 hi hI kk
        obtain ⟨Pd, Od, U1, U3⟩ := hI
        obtain ⟨o, b, t1, we1, tn1, s1, s2, s3, s4, s5, s6, e0, e1, e2, e3, e4⟩ := I.2.2.2.2.2.2.2.2.1 i hi
        have hpi := pl i (by omega)
        have hsi := Pd.2.2.2.2.2.2.2.2.2.2.2.2 i (by omega) (by rw [go _ _ (fun k => by omega), eS]; exact hi)
        rw [go _ (76 + 5 * i + 0) (fun k => by omega), go _ (76 + 5 * i + 1) (fun k => by omega), go _ (76 + 5 * i + 2) (fun k => by omega), go _ (76 + 5 * i + 4) (fun k => by omega), dyF_at, if_neg (by omega), e3, e4] at hsi
        refine v_iload_n (pc := 24) X (hd := dX2_passDay_24) (kk := ?_)
        refine v_aload_n (pc := 25) X (hd := dX2_passDay_25) (kk := ?_)
        refine g_X2_27 (pc := 26) X (hd := dX2_passDay_26) (hh := U1) (kk := ?_)
        refine v_icmpge (pc := 29) X (tgt := 63) (hd := dX2_passDay_29) (kt := fun c29 => ?_) (kf := fun c29 => ?_)
        · exact absurd c29 (nI_ge hi (by omega))
        · refine v_aload_n (pc := 32) X (hd := dX2_passDay_32) (kk := ?_)
          refine g_X2_44 (pc := 33) X (hd := dX2_passDay_33) (hh := U1) (kk := ?_)
          refine v_iload_n (pc := 36) X (hd := dX2_passDay_36) (kk := ?_)
          refine v_aaldN (pc := 37) X (j := i) (hd := dX2_passDay_37) (hh := U3) (hi := by first | rfl | (simp only [pk_mul, nI_add]; done)) (hj := by omega) (hf := F3 i (by omega)) (kk := ?_)
          refine v_astore (pc := 38) X (hd := dX2_passDay_38) (kk := ?_)
          refine v_aload (pc := 40) X (hd := dX2_passDay_40) (kk := ?_)
          refine v_aload (pc := 42) X (hd := dX2_passDay_42) (kk := ?_)
          refine v_aload (pc := 44) X (hd := dX2_passDay_44) (kk := ?_)
          refine g_X2_123 (pc := 46) X (hd := dX2_passDay_46) (hh := hsi) (kk := ?_)
          refine v_iload_n (pc := 49) X (hd := dX2_passDay_49) (kk := ?_)
          refine v_iload_n (pc := 50) X (hd := dX2_passDay_50) (kk := ?_)
          refine v_callVp (pc := 51) X (hd := dX2_passDay_51) (w := wv_X2_146) (hC := c_X5_wetnessAfterDay l E _ _ _ _ _ (nI rn) we1 tn1 wn) (hp := ⟨hsi, s5, s6, hwn⟩) (hb := hsi) (kk := ?_)
          refine p_X2_123 (pc := 54) X (hd := dX2_passDay_54) (hh := hsi) (kk := ?_)
          refine v_iincN (pc := 57) X (hd := dX2_passDay_57) (kk := ?_)
          refine v_goto (pc := 60) X (tgt := 24) (hd := dX2_passDay_60) (kk := ?_)
          refine v_sub [some (.ref a), some (.int (nI wn)), some (.int (nI rn)), some (.int (nI (i + 1))), none] (by intro i v hv; match i, hv with | 0, hv => exact hv | 1, hv => exact hv | 2, hv => exact hv | 3, hv => exact hv | 4, hv => simp at hv) (kk _ ⟨?_, Od.set (by omega) (by omega), (pset_n (by omega)).trans U1, (pset_n (by omega)).trans U3⟩)
          refine Pd.stackF (v1 := dyF v (nI wn) (nI rn) (i + 1)) (i := i) (by omega) (fun q hq => pk_un (by omega)) ?_ ?_ ?_ ?_ ?_
          · exact (go _ _ (fun k => by omega)).symm
          · exact (go _ _ (fun k => by omega)).symm
          · exact (go _ _ (fun k => by omega)).symm
          · rw [dyF_at, if_pos (by omega), e3, e4]
          · exact ((go _ _ (fun k => by omega)).trans e4).symm
      · intro h1 hI
        obtain ⟨Pd, Od, U1, U3⟩ := hI
        refine v_iload_n (pc := 24) X (hd := dX2_passDay_24) (kk := ?_)
        refine v_aload_n (pc := 25) X (hd := dX2_passDay_25) (kk := ?_)
        refine g_X2_27 (pc := 26) X (hd := dX2_passDay_26) (hh := U1) (kk := ?_)
        refine v_icmpge (pc := 29) X (tgt := 63) (hd := dX2_passDay_29) (kt := fun c29 => ?_) (kf := fun c29 => ?_)
        · refine v_aload_n (pc := 63) X (hd := dX2_passDay_63) (kk := ?_)
          refine v_iload_n (pc := 64) X (hd := dX2_passDay_64) (kk := ?_)
          refine p_X2_18 (pc := 65) X (hd := dX2_passDay_65) (hh := U1) (kk := ?_)
          refine v_aload_n (pc := 68) X (hd := dX2_passDay_68) (kk := ?_)
          refine v_dup (pc := 69) X (hd := dX2_passDay_69) (kk := ?_)
          refine g_X2_15 (pc := 70) X (hd := dX2_passDay_70) (hh := pset_s _ _ _) (kk := ?_)
          refine v_iconst (pc := 73) X (v := nI 1) (hd := dX2_passDay_73) (kk := ?_)
          refine v_iadd (pc := 74) X (hd := dX2_passDay_74) (kk := ?_)
          refine p_X2_15 (pc := 75) X (hd := dX2_passDay_75) (hh := pset_s _ _ _) (kk := ?_)
          rw [pset_pset]
          refine v_gen (P := fun h9 => PX a (gDay v (nI wn) (nI rn) ns) f1 f2 f3 pi g c h9 ∧ pO a (a + 34) h h9) ⟨Pd.topF (v1 := gDay v (nI wn) (nI rn) ns) (fun q hq => by unfold gDay; rw [pk_un (by omega), pk_un (by omega)]) (fun k hk hk2 => Pd.2.2.2.2.2.2.2.2.2.2.2.2 k hk (by unfold gDay at hk2; rw [pk_un (by omega), pk_un (by omega)] at hk2; exact hk2)) (by unfold gDay; rw [pk_un (by omega), pk_un (by omega), go _ _ (fun k => by omega)]) (by unfold gDay; rw [pk_us, pk_un (by omega), go _ _ (fun k => by omega)]) (by unfold gDay; rw [pk_un (by omega), pk_us]) (by unfold gDay; rw [pk_un (by omega), pk_un (by omega), go _ _ (fun k => by omega), en]) (by unfold gDay; rw [pk_un (by omega), pk_un (by omega), go _ _ (fun k => by omega), eb]) (by unfold gDay; rw [pk_un (by omega), pk_un (by omega), go _ _ (fun k => by omega), es]), Od.set (by omega) (by omega)⟩ (fun h75 q75 => ?_)
          obtain ⟨P75, O75⟩ := q75
          refine v_aload_n (pc := 78) X (hd := dX2_passDay_78) (kk := ?_)
          refine v_callVp (pc := 79) X (hd := dX2_passDay_79) (w := wv_X2_150) (hC := c_X2_dryStacks l E a (gDay v (nI wn) (nI rn) ns) nh nb ns) (hp := ⟨⟨_, _, _, _, _, _, P75⟩, iDay I ⟨c7, c17⟩⟩) (hb := P75.1) (kk := ?_)
          exact v_endi (pc := 82) X hr hlk (hd := dX2_passDay_82) (hf := ⟨by unfold rDay; rw [if_pos ⟨c7, c17⟩], Or.inr ⟨⟨c7, c17⟩, ⟨_, _, _, _, _, _, P75⟩, O75⟩⟩)
        · exact absurd (Int32.le_refl _) c29
    · refine v_iconst (pc := 20) X (v := (-1)) (hd := dX2_passDay_20) (kk := ?_)
      exact v_endi (pc := 21) X hr hlk (hd := dX2_passDay_21) (hf := ⟨by unfold rDay; rw [if_neg (fun q => c17 q.2)], Or.inl ⟨fun q => c17 q.2, rfl⟩⟩)
set_option maxRecDepth 100000 in
set_option maxHeartbeats 4000000 in
theorem c_X2_closeYear (l : Launch) (E : pE) (a : Nat) (v : Nat → Int32) (nh nb ns : Nat) : pC l E yX2_closeYear cX2_closeYear 3 (some .int) { frames := 1, cells := 0, slots := 0, locals := 21 } 0 0 [.ref a] (fun h _ => PA a v h ∧ Iv v nh nb ns) (pFi (cP a (kEnd v) (rEnd v ns) (gEnd v ns))) := by
  refine pC_of (by decide) (by simp [Value.category]) (Nat.le_of_ble_eq_true rfl) ?_
  intro h z hp p__ e__ s__ m__ args__ below__ meth__ c__ X hr hlk hname
  obtain ⟨hP0, I⟩ := hp
  obtain ⟨f1, f2, f3, pi, g, c, P⟩ := hP0
  have hpp : PA a v h ∧ Iv v nh nb ns := ⟨⟨f1, f2, f3, pi, g, c, P⟩, I⟩
  obtain ⟨hn6, hb4, hs12, en, eb, es⟩ := I.1
  have eS : nx (v 3) = ns := by rw [es]; exact nx_nI (by omega)
  have P0 := P
  obtain ⟨T0, T1, T2, T3, ⟨F1, F2, F3, pl, pj⟩, Hh, Hb, Hg, Hc, Gg, Gc, Hk, Hs⟩ := P
  rw [en, eb, es] at T0
  have Hs2 : ∀ k, k < ns → _ := fun k hk => Hs k (by omega) (by rw [eS]; exact hk)
  refine v_aload_n (pc := 0) X (hd := dX2_closeYear_0) (kk := ?_)
  refine g_X2_9 (pc := 1) X (hd := dX2_closeYear_1) (hh := by first | assumption | exact pset_s _ _ _ | exact (pset_n (by omega)).trans (by assumption)) (kk := ?_)
  refine v_sipush (pc := 4) X (v := nI 999) (hd := dX2_closeYear_4) (kk := ?_)
  refine v_icmplt (pc := 7) X (tgt := 13) (hd := dX2_closeYear_7) (kt := fun c7 => ?_) (kf := fun c7 => ?_)
  · have k9 : kEnd v := fun q => by rw [q] at c7; exact absurd c7 (by decide)
    refine v_iconst (pc := 13) X (v := nI 0) (hd := dX2_closeYear_13) (kk := ?_)
    refine v_istore_n (pc := 14) X (hd := dX2_closeYear_14) (kk := ?_)
    refine v_iconst (pc := 15) X (v := nI 0) (hd := dX2_closeYear_15) (kk := ?_)
    refine v_istore_n (pc := 16) X (hd := dX2_closeYear_16) (kk := ?_)
    refine v_for (pc := 17) (M := ns) (Lf := fun i => [some (.ref a), some (.int (eyS v i)), some (.int (nI i))]) (I := fun i h1 => PX a (eyF v i) f1 f2 f3 pi g c h1 ∧ pO a (a + 34) h h1 ∧ h1 a = some (ob 2 [.int (v 0), .int (v 5), .int (v 4), .int (nI nh), .int (nI nb), .int (nI ns), .ref (a + 1), .ref (a + 2), .ref (a + 3)]) ∧ h1 (a + 2) = some (ar 4 4 f2) ∧ h1 (a + 3) = some (ar 5 12 f3)) (h0 := ⟨P0, pO.rf, T0, T2, T3⟩) (hL := by rfl) (step := ?_) (out := ?_)
    · intro i h1 hi hI kk
      obtain ⟨Pd, Od, U1, U2, U3⟩ := hI
      obtain ⟨o, b, t1, we1, tn1, s1, s2, s3, s4, s5, s6, e0, e1, e2, e3, e4⟩ := I.2.2.2.2.2.2.2.2.1 i hi
      have hpi := pl i (by omega)
      have ebb : nx (eyF v i (76 + 5 * i + 1)) = b := by rw [eyF_o I i (by omega) _ (by omega), e1]; exact nx_nI (by omega)
      have hsi := Pd.2.2.2.2.2.2.2.2.2.2.2.2 i (by omega) (by rw [eyF_o I i (by omega) _ (by omega), eS]; exact hi)
      have hbi := Pd.2.2.2.2.2.2.1 b (by omega)
      refine v_iload_n (pc := 17) X (hd := dX2_closeYear_17) (kk := ?_)
      refine v_aload_n (pc := 18) X (hd := dX2_closeYear_18) (kk := ?_)
      refine g_X2_27 (pc := 19) X (hd := dX2_closeYear_19) (hh := U1) (kk := ?_)
      refine v_icmpge (pc := 22) X (tgt := 74) (hd := dX2_closeYear_22) (kt := fun c22 => ?_) (kf := fun c22 => ?_)
      · exact absurd c22 (nI_ge hi (by omega))
      · refine v_aload_n (pc := 25) X (hd := dX2_closeYear_25) (kk := ?_)
        refine g_X2_38 (pc := 26) X (hd := dX2_closeYear_26) (hh := U1) (kk := ?_)
        refine v_aload_n (pc := 29) X (hd := dX2_closeYear_29) (kk := ?_)
        refine g_X2_44 (pc := 30) X (hd := dX2_closeYear_30) (hh := U1) (kk := ?_)
        refine v_iload_n (pc := 33) X (hd := dX2_closeYear_33) (kk := ?_)
        refine v_aaldN (pc := 34) X (j := i) (hd := dX2_closeYear_34) (hh := U3) (hi := by first | rfl | (simp only [pk_mul, nI_add]; done)) (hj := by omega) (hf := F3 i (by omega)) (kk := ?_)
        refine g_X2_116 (pc := 35) X (hd := dX2_closeYear_35) (hh := hsi) (kk := ?_)
        refine v_topi (fun y35 e35 => ?_)
        obtain rfl : y35 = nI b := e35.trans ((eyF_o I i (by omega) _ (by omega)).trans e1)
        refine v_aaldN (pc := 38) X (j := b) (hd := dX2_closeYear_38) (hh := U2) (hi := by first | rfl | (simp only [pk_mul, nI_add]; done)) (hj := by omega) (hf := F2 b (by omega)) (kk := ?_)
        refine v_dup (pc := 39) X (hd := dX2_closeYear_39) (kk := ?_)
        refine g_X2_153 (pc := 40) X (hd := dX2_closeYear_40) (hh := hbi) (kk := ?_)
        refine v_aload_n (pc := 43) X (hd := dX2_closeYear_43) (kk := ?_)
        refine g_X2_44 (pc := 44) X (hd := dX2_closeYear_44) (hh := U1) (kk := ?_)
        refine v_iload_n (pc := 47) X (hd := dX2_closeYear_47) (kk := ?_)
        refine v_aaldN (pc := 48) X (j := i) (hd := dX2_closeYear_48) (hh := U3) (hi := by first | rfl | (simp only [pk_mul, nI_add]; done)) (hj := by omega) (hf := F3 i (by omega)) (kk := ?_)
        refine g_X2_119 (pc := 49) X (hd := dX2_closeYear_49) (hh := hsi) (kk := ?_)
        refine v_iadd (pc := 52) X (hd := dX2_closeYear_52) (kk := ?_)
        refine p_X2_153 (pc := 53) X (hd := dX2_closeYear_53) (hh := hbi) (kk := ?_)
        refine v_iload_n (pc := 56) X (hd := dX2_closeYear_56) (kk := ?_)
        refine v_aload_n (pc := 57) X (hd := dX2_closeYear_57) (kk := ?_)
        refine g_X2_44 (pc := 58) X (hd := dX2_closeYear_58) (hh := (pset_n (by omega)).trans U1) (kk := ?_)
        refine v_iload_n (pc := 61) X (hd := dX2_closeYear_61) (kk := ?_)
        refine v_aaldN (pc := 62) X (j := i) (hd := dX2_closeYear_62) (hh := (pset_n (by omega)).trans U3) (hi := by first | rfl | (simp only [pk_mul, nI_add]; done)) (hj := by omega) (hf := F3 i (by omega)) (kk := ?_)
        refine g_X2_119 (pc := 63) X (hd := dX2_closeYear_63) (hh := (pset_n (by omega)).trans hsi) (kk := ?_)
        refine v_iadd (pc := 66) X (hd := dX2_closeYear_66) (kk := ?_)
        refine v_istore_n (pc := 67) X (hd := dX2_closeYear_67) (kk := ?_)
        refine v_iincN (pc := 68) X (hd := dX2_closeYear_68) (kk := ?_)
        refine v_goto (pc := 71) X (tgt := 17) (hd := dX2_closeYear_71) (kk := ?_)
        refine kk _ ⟨?_, Od.set (by omega) (by omega), (pset_n (by omega)).trans U1, (pset_n (by omega)).trans U2, (pset_n (by omega)).trans U3⟩
        have hst : eyF v (i + 1) = upd (eyF v i) (24 + 7 * b + 6) (eyF v i (24 + 7 * b + 6) + eyF v i (76 + 5 * i + 2)) := by show upd _ _ _ = _; rw [ebb]
        rw [hst]
        exact Pd.bankF (by omega) (fun q hq => pk_un (by omega)) (pk_un (by omega)).symm (pk_un (by omega)).symm (pk_un (by omega)).symm (pk_un (by omega)).symm (pk_un (by omega)).symm pk_us.symm
    · intro h1 hI
      obtain ⟨Pd, Od, U1, U2, U3⟩ := hI
      refine v_iload_n (pc := 17) X (hd := dX2_closeYear_17) (kk := ?_)
      refine v_aload_n (pc := 18) X (hd := dX2_closeYear_18) (kk := ?_)
      refine g_X2_27 (pc := 19) X (hd := dX2_closeYear_19) (hh := U1) (kk := ?_)
      refine v_icmpge (pc := 22) X (tgt := 74) (hd := dX2_closeYear_22) (kt := fun c22 => ?_) (kf := fun c22 => ?_)
      · refine v_aload_n (pc := 74) X (hd := dX2_closeYear_74) (kk := ?_)
        refine v_iconst (pc := 75) X (v := nI 0) (hd := dX2_closeYear_75) (kk := ?_)
        refine p_X2_27 (pc := 76) X (hd := dX2_closeYear_76) (hh := U1) (kk := ?_)
        refine v_gen (P := fun h9 => PX a (upd (eyF v ns) 3 (nI 0)) f1 f2 f3 pi g c h9 ∧ pO a (a + 34) h h9 ∧ h9 a = some (ob 2 [.int (v 0), .int (v 5), .int (v 4), .int (nI nh), .int (nI nb), .int (nI 0), .ref (a + 1), .ref (a + 2), .ref (a + 3)]) ∧ h9 (a + 2) = some (ar 4 4 f2)) ⟨Pd.topF (v1 := upd (eyF v ns) 3 (nI 0)) (fun q hq => pk_un (by omega)) (fun k hk hk2 => by rw [pk_us, nx_nI (by omega)] at hk2; omega) (by rw [pk_un (by omega), eyF_o I ns (Nat.le_refl _) _ (by omega)]) (by rw [pk_un (by omega), eyF_o I ns (Nat.le_refl _) _ (by omega)]) (by rw [pk_un (by omega), eyF_o I ns (Nat.le_refl _) _ (by omega)]) (by rw [pk_un (by omega), eyF_o I ns (Nat.le_refl _) _ (by omega), en]) (by rw [pk_un (by omega), eyF_o I ns (Nat.le_refl _) _ (by omega), eb]) (by rw [pk_us]), Od.set (by omega) (by omega), pset_s _ _ _, (pset_n (by omega)).trans U2⟩ (fun h76 q76 => ?_)
        obtain ⟨P76, O76, U76⟩ := q76
        refine v_iconst (pc := 79) X (v := nI 0) (hd := dX2_closeYear_79) (kk := ?_)
        refine v_istore_n (pc := 80) X (hd := dX2_closeYear_80) (kk := ?_)
        refine v_for (pc := 81) (M := nb) (Lf := fun i => [some (.ref a), some (.int (eyS v ns)), some (.int (nI i))]) (I := fun i h1 => (∃ c1, PX a (zcF (upd (eyF v ns) 3 (nI 0)) i) f1 f2 f3 pi g c1 h1) ∧ pO a (a + 34) h h1 ∧ h1 a = some (ob 2 [.int (v 0), .int (v 5), .int (v 4), .int (nI nh), .int (nI nb), .int (nI 0), .ref (a + 1), .ref (a + 2), .ref (a + 3)]) ∧ h1 (a + 2) = some (ar 4 4 f2)) (h0 := ⟨⟨c, P76.congr (fun q hq => if_neg (by omega)) (fun q hq hq2 => if_neg (by omega))⟩, O76, U76.1, U76.2⟩) (hL := by rfl) (step := ?_) (out := ?_)
        · intro i h2 hi hI kk
          obtain ⟨⟨c1, Pz⟩, Oz, V1, V2⟩ := hI
          have hbz := Pz.2.2.2.2.2.2.1 i (by omega)
          have hcz := Pz.2.2.2.2.2.2.2.2.1 i (by omega)
          refine v_iload_n (pc := 81) X (hd := dX2_closeYear_81) (kk := ?_)
          refine v_aload_n (pc := 82) X (hd := dX2_closeYear_82) (kk := ?_)
          refine g_X2_24 (pc := 83) X (hd := dX2_closeYear_83) (hh := V1) (kk := ?_)
          refine v_icmpge (pc := 86) X (tgt := 104) (hd := dX2_closeYear_86) (kt := fun c86 => ?_) (kf := fun c86 => ?_)
          · exact absurd c86 (nI_ge hi (by omega))
          · refine v_aload_n (pc := 89) X (hd := dX2_closeYear_89) (kk := ?_)
            refine g_X2_38 (pc := 90) X (hd := dX2_closeYear_90) (hh := V1) (kk := ?_)
            refine v_iload_n (pc := 93) X (hd := dX2_closeYear_93) (kk := ?_)
            refine v_aaldN (pc := 94) X (j := i) (hd := dX2_closeYear_94) (hh := V2) (hi := by first | rfl | (simp only [pk_mul, nI_add]; done)) (hj := by omega) (hf := F2 i (by omega)) (kk := ?_)
            refine v_callVv (pc := 95) X (hd := dX2_closeYear_95) (w := wv_X2_156) (hC := c_X0_forgetYear l E (a + 10 + 3 * i) (a + 11 + 3 * i) (a + 12 + 3 * i) _ _ _ _ _ _ (c1 i)) (hp := ⟨hbz, hcz, by omega⟩) (hb := hbz) (kk := fun h95 q95 => ?_)
            obtain ⟨f95, rfl, z95⟩ := q95
            refine v_iincN (pc := 98) X (hd := dX2_closeYear_98) (kk := ?_)
            refine v_goto (pc := 101) X (tgt := 81) (hd := dX2_closeYear_101) (kk := ?_)
            refine kk _ ⟨⟨fun j => if j = i then f95 else c1 j, ?_⟩, Oz.set (by omega) (by omega), (pset_n (by omega)).trans V1, (pset_n (by omega)).trans V2⟩
            exact Pz.cuts (v1 := zcF (upd (eyF v ns) 3 (nI 0)) (i + 1)) (by omega) (fun q hq => by
              unfold zcF
              by_cases e : 52 ≤ q ∧ q < 76 ∧ (q - 52) % 4 < i
              · rw [if_pos e, if_pos (by omega)]
              · rw [if_neg e, if_neg (by omega)]) (fun k hk => by rw [z95 k hk]; unfold zcF; rw [if_pos (by omega)])
        · intro h2 hI
          obtain ⟨⟨c1, Pz⟩, Oz, V1, V2⟩ := hI
          refine v_iload_n (pc := 81) X (hd := dX2_closeYear_81) (kk := ?_)
          refine v_aload_n (pc := 82) X (hd := dX2_closeYear_82) (kk := ?_)
          refine g_X2_24 (pc := 83) X (hd := dX2_closeYear_83) (hh := V1) (kk := ?_)
          refine v_icmpge (pc := 86) X (tgt := 104) (hd := dX2_closeYear_86) (kt := fun c86 => ?_) (kf := fun c86 => ?_)
          · refine v_aload_n (pc := 104) X (hd := dX2_closeYear_104) (kk := ?_)
            refine v_iconst (pc := 105) X (v := nI 0) (hd := dX2_closeYear_105) (kk := ?_)
            refine p_X2_18 (pc := 106) X (hd := dX2_closeYear_106) (hh := V1) (kk := ?_)
            refine v_aload_n (pc := 109) X (hd := dX2_closeYear_109) (kk := ?_)
            refine v_dup (pc := 110) X (hd := dX2_closeYear_110) (kk := ?_)
            refine g_X2_9 (pc := 111) X (hd := dX2_closeYear_111) (hh := pset_s _ _ _) (kk := ?_)
            refine v_iconst (pc := 114) X (v := nI 1) (hd := dX2_closeYear_114) (kk := ?_)
            refine v_iadd (pc := 115) X (hd := dX2_closeYear_115) (kk := ?_)
            refine p_X2_9 (pc := 116) X (hd := dX2_closeYear_116) (hh := pset_s _ _ _) (kk := ?_)
            rw [pset_pset]
            refine v_iload_n (pc := 119) X (hd := dX2_closeYear_119) (kk := ?_)
            exact v_endi (pc := 120) X hr hlk (hd := dX2_closeYear_120) (hf := by
    refine ⟨by unfold rEnd; rw [if_pos k9], Or.inr ⟨k9, ?_, Oz.set (by omega) (by omega)⟩⟩
    have hz : ∀ q, zcF (upd (eyF v ns) 3 (nI 0)) nb q = if 52 ≤ q ∧ q < 76 then nI 0 else upd (eyF v ns) 3 (nI 0) q := fun q => by
      unfold zcF
      by_cases e : 52 ≤ q ∧ q < 76
      · rw [if_pos e]
        by_cases e2 : (q - 52) % 4 < nb
        · rw [if_pos ⟨e.1, e.2, e2⟩]
        · rw [if_neg (fun w => e2 w.2.2), pk_un (by omega), eyF_o I ns (Nat.le_refl _) _ (by omega)]
          have := (I.2.2.2.2.2.2.2.1 ((q - 52) / 4) ((q - 52) % 4) (by omega) (by omega)).2 (Or.inr (by omega))
          rw [show 52 + 4 * ((q - 52) / 4) + (q - 52) % 4 = q by omega] at this
          exact this
      · rw [if_neg e, if_neg (fun w => e ⟨w.1, w.2.1⟩)]
    have ge := gEnd_at I
    have he : ∀ q, q < 24 → eyF v ns q = v q := fun q hq => eyF_o I ns (Nat.le_refl _) q (by omega)
    refine (Pz.topF (v1 := gEnd v ns) (fun q hq => ?_) (fun k hk hk2 => ?_) ?_ ?_ ?_ ?_ ?_ ?_).pa (fun _ => rfl)
    · rw [ge, hz, if_neg (show ¬ q = 0 by omega), if_neg (show ¬ q = 4 by omega)]
      by_cases e : 52 ≤ q ∧ q < 76
      · rw [if_pos e, if_pos e]
      · rw [if_neg e, if_neg e, if_neg (show ¬ q = 3 by omega), pk_un (by omega)]
    · rw [ge, if_neg (by omega), if_neg (by omega), if_neg (by omega), if_pos rfl, nx_nI (by omega)] at hk2
      omega
    · rw [ge, if_pos rfl]
    · rw [ge, if_neg (by omega), if_neg (by omega), if_neg (by omega), if_neg (by omega), he _ (by omega)]
    · rw [ge, if_neg (by omega), if_pos rfl]
    · rw [ge, if_neg (by omega), if_neg (by omega), if_neg (by omega), if_neg (by omega), he _ (by omega), en]
    · rw [ge, if_neg (by omega), if_neg (by omega), if_neg (by omega), if_neg (by omega), he _ (by omega), eb]
    · rw [ge, if_neg (by omega), if_neg (by omega), if_neg (by omega), if_pos rfl])
          · exact absurd (Int32.le_refl _) c86
      · exact absurd (Int32.le_refl _) c22
  · have k9 : v 0 = nI 999 := by
      obtain ⟨y, -, y2, y3⟩ := I.2.1.1
      rw [y3] at c7 ⊢
      rcases Nat.lt_or_ge y 999 with q | q
      · exact absurd (nI_lt q (by omega)) c7
      · rw [show y = 999 by omega]
    refine v_bipush (pc := 10) X (v := (-2)) (hd := dX2_closeYear_10) (kk := ?_)
    exact v_endi (pc := 12) X hr hlk (hd := dX2_closeYear_12) (hf := ⟨by unfold rEnd; rw [if_neg (fun q => q k9)], Or.inl ⟨fun q => q k9, rfl⟩⟩)
