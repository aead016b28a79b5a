/-! the Parish's actions, first part -/
theorem fBear_of {S r wr : Nat} (h1 : S ≤ 3000) (h2 : r ≤ 9) (h3 : wr < 2 ^ 29) : fBear (nI S) (nI r) (nI wr) = nI (S - 40 * r - wr) := by
  unfold fBear
  rw [pk_mul]
  have t1 : (nI S - nI (40 * r) - nI wr).toInt = (S : Int) - 40 * r - wr := by
    rw [Int32.toInt_sub, Int32.toInt_sub, nI_toInt (by omega), nI_toInt (by omega), nI_toInt (by omega)]
    simp only [Int.bmod_def]
    omega
  by_cases h : nI S - nI (40 * r) - nI wr < 0
  · rw [if_pos h]
    rw [n_lt, t1, Int32.toInt_zero] at h
    rw [show S - 40 * r - wr = 0 by omega]
  · rw [if_neg h]
    rw [n_lt, t1, Int32.toInt_zero] at h
    exact n_eq (by rw [t1, nI_toInt (by omega)]; omega)
theorem wN_le {W t : Nat} (h1 : W ≤ 2000) (h2 : t ≤ 1000) : wN W t ≤ 41 := by
  unfold wN
  have := Nat.mul_le_mul h2 h1
  omega
section PXF
variable {a : Nat} {v v1 : Nat → Int32} {f1 f2 f3 : Nat → Option Nat} {pi : Nat → Nat} {g c : Nat → Nat → Int32} {h : pH} {x0 x1 x2 x3 x4 x5 : Int32}
theorem PX.topF (P : PX a v f1 f2 f3 pi g c h) (hv : ∀ q, 6 ≤ q → v1 q = v q) (hs : ∀ k, k < 12 → k < nx (v1 3) → h (a + 22 + pi k) = some (ob 5 [.int (v (76 + 5 * k + 0)), .int (v (76 + 5 * k + 1)), .int (v (76 + 5 * k + 2)), .int (v (76 + 5 * k + 3)), .int (v (76 + 5 * k + 4))])) (e0 : x0 = v1 0) (e5 : x5 = v1 5) (e4 : x4 = v1 4) (e1 : x1 = v1 1) (e2 : x2 = v1 2) (e3 : x3 = v1 3) : PX a v1 f1 f2 f3 pi g c (pset h a (ob 2 [.int x0, .int x5, .int x4, .int x1, .int x2, .int x3, .ref (a + 1), .ref (a + 2), .ref (a + 3)])) := by
  rw [e0, e1, e2, e3, e4, e5]; exact P.top hv hs
theorem PX.houseF {i : Nat} (P : PX a v f1 f2 f3 pi g c h) (hi : i < 6) (hv : ∀ q, q < 6 + 3 * i ∨ 9 + 3 * i ≤ q → v1 q = v q) (e0 : x0 = v1 (6 + 3 * i + 0)) (e1 : x1 = v1 (6 + 3 * i + 1)) (e2 : x2 = v1 (6 + 3 * i + 2)) : PX a v1 f1 f2 f3 pi g c (pset h (a + 4 + i) (ob 1 [.int x0, .int x1, .int x2])) := by
  rw [e0, e1, e2]; exact P.house hi hv
theorem PX.bankF {i : Nat} (P : PX a v f1 f2 f3 pi g c h) (hi : i < 4) (hv : ∀ q, q < 24 + 7 * i ∨ 31 + 7 * i ≤ q ∨ q = 24 + 7 * i + 3 → v1 q = v q) (e0 : x0 = v1 (24 + 7 * i + 0)) (e1 : x1 = v1 (24 + 7 * i + 1)) (e2 : x2 = v1 (24 + 7 * i + 2)) (e3 : x3 = v1 (24 + 7 * i + 4)) (e4 : x4 = v1 (24 + 7 * i + 5)) (e5 : x5 = v1 (24 + 7 * i + 6)) : PX a v1 f1 f2 f3 pi g c (pset h (a + 10 + 3 * i) (ob 0 [.int x0, .int x1, .int x2, .int x3, .int x4, .int x5, .ref (a + 11 + 3 * i), .ref (a + 12 + 3 * i)])) := by
  rw [e0, e1, e2, e3, e4, e5]; exact P.bank hi hv
theorem PX.stackF {i : Nat} (P : PX a v f1 f2 f3 pi g c h) (hi : i < 12) (hv : ∀ q, q < 76 + 5 * i ∨ 81 + 5 * i ≤ q → v1 q = v q) (e0 : x0 = v1 (76 + 5 * i + 0)) (e1 : x1 = v1 (76 + 5 * i + 1)) (e2 : x2 = v1 (76 + 5 * i + 2)) (e3 : x3 = v1 (76 + 5 * i + 3)) (e4 : x4 = v1 (76 + 5 * i + 4)) : PX a v1 f1 f2 f3 pi g c (pset h (a + 22 + pi i) (ob 5 [.int x0, .int x1, .int x2, .int x3, .int x4])) := by
  rw [e0, e1, e2, e3, e4]; exact P.stack hi hv
end PXF
theorem upd_at (w : Nat → Int32) (k : Nat) (x : Int32) (q : Nat) : upd w k x q = if q = k then x else w q := rfl
theorem zc_at (w : Nat → Int32) (j : Nat) : ∀ i q, zc w j i q = if 52 + 4 * j ≤ q ∧ q < 52 + 4 * j + i then nI 0 else w q := by
  intro i
  induction i with
  | zero => intro q; rw [if_neg (by omega)]; rfl
  | succ i ih =>
    intro q
    show upd _ _ _ q = _
    rw [upd_at, ih]
    by_cases e : q = 52 + 4 * j + i
    · rw [if_pos e, if_pos (by omega)]
    · rw [if_neg e]
      by_cases e2 : 52 + 4 * j ≤ q ∧ q < 52 + 4 * j + i
      · rw [if_pos e2, if_pos (by omega)]
      · rw [if_neg e2, if_neg (by omega)]
theorem gCome_eq {v : Nat → Int32} {nh nb ns : Nat} (I : Iv v nh nb ns) (sp : Int32) (hn : nh < 6) (q : Nat) : gCome v sp nh q = upd (upd v (6 + 3 * nh + 0) sp) 1 (nI nh + nI 1) q := by
  have z1 := I.2.2.2.1 nh (Nat.le_refl _) hn
  unfold gCome
  have e1 : zc (upd (upd (upd v (6 + 3 * nh) sp) (6 + 3 * nh + 1) (nI 0)) (6 + 3 * nh + 2) (nI 0)) nh 4 1 = nI nh := by
    rw [zc_at, if_neg (by omega), pk_un (by omega), pk_un (by omega), pk_un (by omega), I.1.2.2.2.1]
  rw [e1, upd_at, upd_at]
  by_cases e : q = 1
  · rw [if_pos e, if_pos e]
  · rw [if_neg e, if_neg e, zc_at]
    by_cases e2 : 52 + 4 * nh ≤ q ∧ q < 52 + 4 * nh + 4
    · rw [if_pos e2, pk_un (by omega)]
      have := (I.2.2.2.2.2.2.2.1 nh (q - 52 - 4 * nh) hn (by omega)).2 (Or.inl (Nat.le_refl _))
      rw [show 52 + 4 * nh + (q - 52 - 4 * nh) = q by omega] at this
      exact this.symm
    · rw [if_neg e2, upd_at, upd_at, upd_at, upd_at]
      by_cases e3 : q = 6 + 3 * nh + 2
      · rw [if_pos e3, if_neg (by omega), e3]; exact z1.2.2.symm
      · rw [if_neg e3]
        by_cases e4 : q = 6 + 3 * nh + 1
        · rw [if_pos e4, if_neg (by omega), e4]; exact z1.2.1.symm
        · rw [if_neg e4]
          rfl
theorem abF_at (w : Nat → Int32) (al st : Int32) (b : Nat) : ∀ i q, abF w al st b i q = if 24 + 7 * b ≤ q ∧ q < 24 + 7 * b + i then (if q = 24 + 7 * b then al else if q = 24 + 7 * b + 1 then st else nI 0) else w q := by
  intro i
  induction i with
  | zero => intro q; rw [if_neg (by omega)]; rfl
  | succ i ih =>
    intro q
    show upd _ _ _ q = _
    rw [upd_at, ih]
    by_cases e : q = 24 + 7 * b + i
    · rw [if_pos e, if_pos (show 24 + 7 * b ≤ q ∧ q < 24 + 7 * b + (i + 1) by omega)]
      by_cases e2 : i = 0
      · rw [if_pos e2, if_pos (show q = 24 + 7 * b by omega)]
      · rw [if_neg e2, if_neg (show ¬ q = 24 + 7 * b by omega)]
        by_cases e3 : i = 1
        · rw [if_pos e3, if_pos (show q = 24 + 7 * b + 1 by omega)]
        · rw [if_neg e3, if_neg (show ¬ q = 24 + 7 * b + 1 by omega)]
    · rw [if_neg e]
      by_cases e2 : 24 + 7 * b ≤ q ∧ q < 24 + 7 * b + i
      · rw [if_pos e2, if_pos (show 24 + 7 * b ≤ q ∧ q < 24 + 7 * b + (i + 1) by omega)]
      · rw [if_neg e2, if_neg (show ¬ (24 + 7 * b ≤ q ∧ q < 24 + 7 * b + (i + 1)) by omega)]
theorem gAdd_eq {v : Nat → Int32} {nh nb ns : Nat} (I : Iv v nh nb ns) (al st : Int32) (hn : nb < 4) (q : Nat) : gAdd v al st nb q = upd (upd (upd v (24 + 7 * nb + 0) al) (24 + 7 * nb + 1) st) 2 (nI nb + nI 1) q := by
  have z1 := I.2.2.2.2.2.2.1 nb (Nat.le_refl _) hn
  unfold gAdd
  have e1 : abF v al st nb 7 2 = nI nb := by rw [abF_at, if_neg (by omega), I.1.2.2.2.2.1]
  rw [e1, upd_at, upd_at]
  by_cases e : q = 2
  · rw [if_pos e, if_pos e]
  · rw [if_neg e, if_neg e, abF_at, upd_at, upd_at]
    by_cases e2 : 24 + 7 * nb ≤ q ∧ q < 24 + 7 * nb + 7
    · rw [if_pos e2]
      by_cases e3 : q = 24 + 7 * nb
      · rw [if_pos e3, if_neg (show ¬ q = 24 + 7 * nb + 1 by omega), if_pos (show q = 24 + 7 * nb + 0 by omega)]
      · rw [if_neg e3]
        by_cases e4 : q = 24 + 7 * nb + 1
        · rw [if_pos e4, if_pos e4]
        · rw [if_neg e4, if_neg e4, if_neg (by omega)]
          have := z1 (q - 24 - 7 * nb) (by omega)
          rw [show 24 + 7 * nb + (q - 24 - 7 * nb) = q by omega] at this
          exact this.symm
    · rw [if_neg e2, if_neg (by omega), if_neg (by omega)]
theorem fCnt_of {f : Nat → Int32} {x : Int32} : ∀ n, (∀ i, i < n → f i = bt x i) → fCnt f n = fOnes x n := by
  intro n
  induction n with
  | zero => intro _; rfl
  | succ n ih => intro h; show fCnt f n + f n = fOnes x n + bt x n; rw [ih (fun i hi => h i (by omega)), h n (by omega)]
def cP (a : Nat) (ok : Prop) (r0 : Int32) (w1 : Nat → Int32) : pH → Int32 → pH → Prop := fun h r h' => r = r0 ∧ ((¬ ok ∧ h' = h) ∨ (ok ∧ PA a w1 h' ∧ pO a (a + 34) h h'))
theorem PX.pa {a : Nat} {v v1 : Nat → Int32} {f1 f2 f3 : Nat → Option Nat} {pi : Nat → Nat} {g c : Nat → Nat → Int32} {h : pH} (P : PX a v f1 f2 f3 pi g c h) (hv : ∀ q, v1 q = v q) : PA a v1 h := ⟨f1, f2, f3, pi, g, c, P.congr (fun q _ => hv q) (fun q _ _ => hv q)⟩
set_option maxRecDepth 100000 in
set_option maxHeartbeats 4000000 in
theorem c_X2_addHousehold (l : Launch) (E : pE) (a : Nat) (v : Nat → Int32) (sp : Int32) (nh nb ns : Nat) : pC l E yX2_addHousehold cX2_addHousehold 2 (some .int) { frames := 1, cells := 0, slots := 0, locals := 22 } 0 0 [.ref a, .int sp] (fun h _ => PA a v h ∧ Iv v nh nb ns) (pFi (cP a (kCome v sp) (rCome v sp) (gCome v sp nh))) := by
  refine pC_of (by decide) (by simp [Value.category]) (Nat.le_of_ble_eq_true rfl) ?_
  intro h z hp p__ e__ s__ m__ args__ below__ meth__ c__ X hr hlk hname
  obtain ⟨hP0, I⟩ := hp
  obtain ⟨f1, f2, f3, pi, g, c, P⟩ := hP0
  have hpp : PA a v h ∧ Iv v nh nb ns := ⟨⟨f1, f2, f3, pi, g, c, P⟩, I⟩
  obtain ⟨hn6, hb4, hs12, en, eb, es⟩ := I.1
  have eS : nx (v 3) = ns := by rw [es]; exact nx_nI (by omega)
  have P0 := P
  obtain ⟨T0, T1, T2, T3, ⟨F1, F2, F3, pl, pj⟩, Hh, Hb, Hg, Hc, Gg, Gc, Hk, Hs⟩ := P
  rw [en, eb, es] at T0
  have Hs2 : ∀ k, k < ns → _ := fun k hk => Hs k (by omega) (by rw [eS]; exact hk)
  refine v_iload_n (pc := 0) X (hd := dX2_addHousehold_0) (kk := ?_)
  refine v_iconst (pc := 1) X (v := nI 1) (hd := dX2_addHousehold_1) (kk := ?_)
  refine v_bipush (pc := 2) X (v := nI 9) (hd := dX2_addHousehold_2) (kk := ?_)
  refine v_callSNp (pc := 4) X (hd := dX2_addHousehold_4) (w := wv_X2_61) (hC := c_X6_isWithin l E _ _ _) (hp := by first | assumption | exact trivial) (kk := ?_)
  refine v_ifneB (pc := 7) X (tgt := 12) (hd := dX2_addHousehold_7) (kt := fun c7 => ?_) (kf := fun c7 => ?_)
  · refine v_aload_n (pc := 12) X (hd := dX2_addHousehold_12) (kk := ?_)
    refine g_X2_21 (pc := 13) X (hd := dX2_addHousehold_13) (hh := by first | assumption | exact pset_s _ _ _ | exact (pset_n (by omega)).trans (by assumption)) (kk := ?_)
    refine v_bipush (pc := 16) X (v := nI 6) (hd := dX2_addHousehold_16) (kk := ?_)
    refine v_icmplt (pc := 18) X (tgt := 24) (hd := dX2_addHousehold_18) (kt := fun c18 => ?_) (kf := fun c18 => ?_)
    · have hlt : nh < 6 := (nI_ltI (by omega) (by omega)).mp c18
      refine v_aload_n (pc := 24) X (hd := dX2_addHousehold_24) (kk := ?_)
      refine g_X2_32 (pc := 25) X (hd := dX2_addHousehold_25) (hh := by first | assumption | exact pset_s _ _ _ | exact (pset_n (by omega)).trans (by assumption)) (kk := ?_)
      refine v_aload_n (pc := 28) X (hd := dX2_addHousehold_28) (kk := ?_)
      refine g_X2_21 (pc := 29) X (hd := dX2_addHousehold_29) (hh := by first | assumption | exact pset_s _ _ _ | exact (pset_n (by omega)).trans (by assumption)) (kk := ?_)
      refine v_aaldN (pc := 32) X (j := nh) (hd := dX2_addHousehold_32) (hh := by first | assumption | exact pset_s _ _ _ | exact (pset_n (by omega)).trans (by assumption)) (hi := by first | rfl | (simp only [pk_mul, nI_add]; done)) (hj := by omega) (hf := F1 nh (by omega)) (kk := ?_)
      refine v_iload_n (pc := 33) X (hd := dX2_addHousehold_33) (kk := ?_)
      refine p_X2_65 (pc := 34) X (hd := dX2_addHousehold_34) (hh := Hh nh hlt) (kk := ?_)
      refine v_gen (P := fun h9 => PX a (upd v (6 + 3 * nh + 0) sp) f1 f2 f3 pi g c h9 ∧ pO a (a + 34) h h9 ∧ h9 a = some (ob 2 [.int (v 0), .int (v 5), .int (v 4), .int (nI nh), .int (nI nb), .int (nI ns), .ref (a + 1), .ref (a + 2), .ref (a + 3)])) ⟨P0.houseF hlt (fun q hq => pk_un (by omega)) pk_us.symm (pk_un (by omega)).symm (pk_un (by omega)).symm, pO.rf.set (by omega) (by omega), (pset_n (by omega)).trans T0⟩ (fun h34 q34 => ?_)
      obtain ⟨P34, O34, U34⟩ := q34
      refine v_aload_n (pc := 37) X (hd := dX2_addHousehold_37) (kk := ?_)
      refine v_dup (pc := 38) X (hd := dX2_addHousehold_38) (kk := ?_)
      refine g_X2_21 (pc := 39) X (hd := dX2_addHousehold_39) (hh := U34) (kk := ?_)
      refine v_iconst (pc := 42) X (v := nI 1) (hd := dX2_addHousehold_42) (kk := ?_)
      refine v_iadd (pc := 43) X (hd := dX2_addHousehold_43) (kk := ?_)
      refine p_X2_21 (pc := 44) X (hd := dX2_addHousehold_44) (hh := U34) (kk := ?_)
      refine v_aload_n (pc := 47) X (hd := dX2_addHousehold_47) (kk := ?_)
      refine g_X2_21 (pc := 48) X (hd := dX2_addHousehold_48) (hh := by first | assumption | exact pset_s _ _ _ | exact (pset_n (by omega)).trans (by assumption)) (kk := ?_)
      refine v_iconst (pc := 51) X (v := nI 1) (hd := dX2_addHousehold_51) (kk := ?_)
      refine v_isub (pc := 52) X (hd := dX2_addHousehold_52) (kk := ?_)
      exact v_endi (pc := 53) X hr hlk (hd := dX2_addHousehold_53) (hf := ⟨by unfold rCome; rw [if_pos c7, if_neg (by rw [en]; exact fun q => absurd ((nI_eq (by omega) (by omega)).mp q) (by omega)), en, nI_add, pk_sub (by omega)]; rfl, Or.inr ⟨⟨c7, by rw [en]; exact fun q => absurd ((nI_eq (by omega) (by omega)).mp q) (by omega)⟩, (P34.topF (v1 := upd (upd v (6 + 3 * nh + 0) sp) 1 (nI nh + nI 1)) (fun q hq => pk_un (by omega)) (fun k hk hk2 => P34.2.2.2.2.2.2.2.2.2.2.2.2 k hk (by rw [pk_un (by omega)] at hk2; exact hk2)) (by rw [pk_un (by omega), pk_un (by omega)]) (by rw [pk_un (by omega), pk_un (by omega)]) (by rw [pk_un (by omega), pk_un (by omega)]) pk_us.symm (by rw [pk_un (by omega), pk_un (by omega), eb]) (by rw [pk_un (by omega), pk_un (by omega), es])).pa (gCome_eq I sp hlt), O34.set (by omega) (by omega)⟩⟩)
    · have hge : nh = 6 := by
        rcases Nat.lt_or_ge nh 6 with q | q
        · exact absurd (nI_lt q (by omega)) c18
        · omega
      refine v_bipush (pc := 21) X (v := (-3)) (hd := dX2_addHousehold_21) (kk := ?_)
      exact v_endi (pc := 23) X hr hlk (hd := dX2_addHousehold_23) (hf := ⟨by unfold rCome; rw [if_pos c7, if_pos (by rw [en, hge])], Or.inl ⟨fun q => q.2 (by rw [en, hge]), rfl⟩⟩)
  · refine v_iconst (pc := 10) X (v := (-1)) (hd := dX2_addHousehold_10) (kk := ?_)
    exact v_endi (pc := 11) X hr hlk (hd := dX2_addHousehold_11) (hf := ⟨by unfold rCome; rw [if_neg c7], Or.inl ⟨fun q => c7 q.1, rfl⟩⟩)
set_option maxRecDepth 100000 in
set_option maxHeartbeats 4000000 in
theorem c_X2_changeSpades (l : Launch) (E : pE) (a : Nat) (v : Nat → Int32) (x sp : Int32) (nh nb ns : Nat) : pC l E yX2_changeSpades cX2_changeSpades 4 (some .int) { frames := 2, cells := 0, slots := 0, locals := 43 } 0 0 [.ref a, .int x, .int sp] (fun h _ => PA a v h ∧ Iv v nh nb ns) (pFi (cP a (kSet v x sp) (rSet v x sp) (gSet v x sp))) := by
  refine pC_of (by decide) (by simp [Value.category]) (Nat.le_of_ble_eq_true rfl) ?_
  intro h z hp p__ e__ s__ m__ args__ below__ meth__ c__ X hr hlk hname
  obtain ⟨hP0, I⟩ := hp
  obtain ⟨f1, f2, f3, pi, g, c, P⟩ := hP0
  have hpp : PA a v h ∧ Iv v nh nb ns := ⟨⟨f1, f2, f3, pi, g, c, P⟩, I⟩
  obtain ⟨hn6, hb4, hs12, en, eb, es⟩ := I.1
  have eS : nx (v 3) = ns := by rw [es]; exact nx_nI (by omega)
  have P0 := P
  obtain ⟨T0, T1, T2, T3, ⟨F1, F2, F3, pl, pj⟩, Hh, Hb, Hg, Hc, Gg, Gc, Hk, Hs⟩ := P
  rw [en, eb, es] at T0
  have Hs2 : ∀ k, k < ns → _ := fun k hk => Hs k (by omega) (by rw [eS]; exact hk)
  refine v_aload_n (pc := 0) X (hd := dX2_changeSpades_0) (kk := ?_)
  refine v_iload_n (pc := 1) X (hd := dX2_changeSpades_1) (kk := ?_)
  refine v_callVp (pc := 2) X (hd := dX2_changeSpades_2) (w := wv_X2_68) (hC := c_X2_hasHousehold l E a v x nh nb ns) (hp := hpp) (hb := by first | assumption | exact pset_s _ _ _ | exact (pset_n (by omega)).trans (by assumption)) (kk := ?_)
  refine v_ifeqB (pc := 5) X (tgt := 18) (hd := dX2_changeSpades_5) (kt := fun c5 => ?_) (kf := fun c5 => ?_)
  · refine v_iconst (pc := 18) X (v := (-1)) (hd := dX2_changeSpades_18) (kk := ?_)
    exact v_endi (pc := 19) X hr hlk (hd := dX2_changeSpades_19) (hf := ⟨by unfold rSet; rw [if_neg (fun q => c5 q.1)], Or.inl ⟨fun q => c5 q.1, rfl⟩⟩)
  · refine v_iload_n (pc := 8) X (hd := dX2_changeSpades_8) (kk := ?_)
    refine v_iconst (pc := 9) X (v := nI 1) (hd := dX2_changeSpades_9) (kk := ?_)
    refine v_bipush (pc := 10) X (v := nI 9) (hd := dX2_changeSpades_10) (kk := ?_)
    refine v_callSNp (pc := 12) X (hd := dX2_changeSpades_12) (w := wv_X2_61) (hC := c_X6_isWithin l E _ _ _) (hp := by first | assumption | exact trivial) (kk := ?_)
    refine v_ifneB (pc := 15) X (tgt := 20) (hd := dX2_changeSpades_15) (kt := fun c15 => ?_) (kf := fun c15 => ?_)
    · obtain ⟨j, hj, rfl, ej⟩ := gH_j en (by omega) c5
      refine v_aload_n (pc := 20) X (hd := dX2_changeSpades_20) (kk := ?_)
      refine g_X2_32 (pc := 21) X (hd := dX2_changeSpades_21) (hh := by first | assumption | exact pset_s _ _ _ | exact (pset_n (by omega)).trans (by assumption)) (kk := ?_)
      refine v_iload_n (pc := 24) X (hd := dX2_changeSpades_24) (kk := ?_)
      refine v_aaldN (pc := 25) X (j := j) (hd := dX2_changeSpades_25) (hh := by first | assumption | exact pset_s _ _ _ | exact (pset_n (by omega)).trans (by assumption)) (hi := by first | rfl | (simp only [pk_mul, nI_add]; done)) (hj := by omega) (hf := F1 j (by omega)) (kk := ?_)
      refine g_X2_65 (pc := 26) X (hd := dX2_changeSpades_26) (hh := Hh j (by omega)) (kk := ?_)
      refine v_istore_n (pc := 29) X (hd := dX2_changeSpades_29) (kk := ?_)
      refine v_aload_n (pc := 30) X (hd := dX2_changeSpades_30) (kk := ?_)
      refine g_X2_32 (pc := 31) X (hd := dX2_changeSpades_31) (hh := by first | assumption | exact pset_s _ _ _ | exact (pset_n (by omega)).trans (by assumption)) (kk := ?_)
      refine v_iload_n (pc := 34) X (hd := dX2_changeSpades_34) (kk := ?_)
      refine v_aaldN (pc := 35) X (j := j) (hd := dX2_changeSpades_35) (hh := by first | assumption | exact pset_s _ _ _ | exact (pset_n (by omega)).trans (by assumption)) (hi := by first | rfl | (simp only [pk_mul, nI_add]; done)) (hj := by omega) (hf := F1 j (by omega)) (kk := ?_)
      refine v_iload_n (pc := 36) X (hd := dX2_changeSpades_36) (kk := ?_)
      refine p_X2_65 (pc := 37) X (hd := dX2_changeSpades_37) (hh := Hh j (by omega)) (kk := ?_)
      refine v_iload_n (pc := 40) X (hd := dX2_changeSpades_40) (kk := ?_)
      exact v_endi (pc := 41) X hr hlk (hd := dX2_changeSpades_41) (hf := ⟨by unfold rSet; rw [if_pos ⟨c5, c15⟩, ej], Or.inr ⟨⟨c5, c15⟩, by unfold gSet; rw [ej]; exact (P0.houseF (v1 := upd v (6 + 3 * j) sp) (by omega) (fun q hq => pk_un (by omega)) pk_us.symm (pk_un (by omega)).symm (pk_un (by omega)).symm).pa (fun _ => rfl), pO.rf.set (by omega) (by omega)⟩⟩)
    · refine v_iconst (pc := 18) X (v := (-1)) (hd := dX2_changeSpades_18) (kk := ?_)
      exact v_endi (pc := 19) X hr hlk (hd := dX2_changeSpades_19) (hf := ⟨by unfold rSet; rw [if_neg (fun q => c15 q.2)], Or.inl ⟨fun q => c15 q.2, rfl⟩⟩)
set_option maxRecDepth 100000 in
set_option maxHeartbeats 4000000 in
theorem c_X2_openBank (l : Launch) (E : pE) (a : Nat) (v : Nat → Int32) (al str : Int32) (nh nb ns : Nat) : pC l E yX2_openBank cX2_openBank 3 (some .int) { frames := 1, cells := 0, slots := 0, locals := 22 } 0 0 [.ref a, .int al, .int str] (fun h _ => PA a v h ∧ Iv v nh nb ns) (pFi (cP a (kAdd v al str) (rAdd v al str) (gAdd v al str nb))) := by
  refine pC_of (by decide) (by simp [Value.category]) (Nat.le_of_ble_eq_true rfl) ?_
  intro h z hp p__ e__ s__ m__ args__ below__ meth__ c__ X hr hlk hname
  obtain ⟨hP0, I⟩ := hp
  obtain ⟨f1, f2, f3, pi, g, c, P⟩ := hP0
  have hpp : PA a v h ∧ Iv v nh nb ns := ⟨⟨f1, f2, f3, pi, g, c, P⟩, I⟩
  obtain ⟨hn6, hb4, hs12, en, eb, es⟩ := I.1
  have eS : nx (v 3) = ns := by rw [es]; exact nx_nI (by omega)
  have P0 := P
  obtain ⟨T0, T1, T2, T3, ⟨F1, F2, F3, pl, pj⟩, Hh, Hb, Hg, Hc, Gg, Gc, Hk, Hs⟩ := P
  rw [en, eb, es] at T0
  have Hs2 : ∀ k, k < ns → _ := fun k hk => Hs k (by omega) (by rw [eS]; exact hk)
  refine v_iload_n (pc := 0) X (hd := dX2_openBank_0) (kk := ?_)
  refine v_iconst (pc := 1) X (v := nI 0) (hd := dX2_openBank_1) (kk := ?_)
  refine v_sipush (pc := 2) X (v := nI 5000) (hd := dX2_openBank_2) (kk := ?_)
  refine v_callSNp (pc := 5) X (hd := dX2_openBank_5) (w := wv_X2_61) (hC := c_X6_isWithin l E _ _ _) (hp := by first | assumption | exact trivial) (kk := ?_)
  refine v_ifeqB (pc := 8) X (tgt := 23) (hd := dX2_openBank_8) (kt := fun c8 => ?_) (kf := fun c8 => ?_)
  · refine v_iconst (pc := 23) X (v := (-1)) (hd := dX2_openBank_23) (kk := ?_)
    exact v_endi (pc := 24) X hr hlk (hd := dX2_openBank_24) (hf := ⟨by unfold rAdd; rw [if_neg (fun q => c8 q.1)], Or.inl ⟨fun q => c8 q.1.1, rfl⟩⟩)
  · refine v_iload_n (pc := 11) X (hd := dX2_openBank_11) (kk := ?_)
    refine v_bipush (pc := 12) X (v := nI 100) (hd := dX2_openBank_12) (kk := ?_)
    refine v_sipush (pc := 14) X (v := nI 3000) (hd := dX2_openBank_14) (kk := ?_)
    refine v_callSNp (pc := 17) X (hd := dX2_openBank_17) (w := wv_X2_61) (hC := c_X6_isWithin l E _ _ _) (hp := by first | assumption | exact trivial) (kk := ?_)
    refine v_ifneB (pc := 20) X (tgt := 25) (hd := dX2_openBank_20) (kt := fun c20 => ?_) (kf := fun c20 => ?_)
    · refine v_aload_n (pc := 25) X (hd := dX2_openBank_25) (kk := ?_)
      refine g_X2_24 (pc := 26) X (hd := dX2_openBank_26) (hh := by first | assumption | exact pset_s _ _ _ | exact (pset_n (by omega)).trans (by assumption)) (kk := ?_)
      refine v_iconst (pc := 29) X (v := nI 4) (hd := dX2_openBank_29) (kk := ?_)
      refine v_icmplt (pc := 30) X (tgt := 36) (hd := dX2_openBank_30) (kt := fun c30 => ?_) (kf := fun c30 => ?_)
      · have hlt : nb < 4 := (nI_ltI (by omega) (by omega)).mp c30
        refine v_aload_n (pc := 36) X (hd := dX2_openBank_36) (kk := ?_)
        refine g_X2_38 (pc := 37) X (hd := dX2_openBank_37) (hh := by first | assumption | exact pset_s _ _ _ | exact (pset_n (by omega)).trans (by assumption)) (kk := ?_)
        refine v_aload_n (pc := 40) X (hd := dX2_openBank_40) (kk := ?_)
        refine g_X2_24 (pc := 41) X (hd := dX2_openBank_41) (hh := by first | assumption | exact pset_s _ _ _ | exact (pset_n (by omega)).trans (by assumption)) (kk := ?_)
        refine v_aaldN (pc := 44) X (j := nb) (hd := dX2_openBank_44) (hh := by first | assumption | exact pset_s _ _ _ | exact (pset_n (by omega)).trans (by assumption)) (hi := by first | rfl | (simp only [pk_mul, nI_add]; done)) (hj := by omega) (hf := F2 nb (by omega)) (kk := ?_)
        refine v_iload_n (pc := 45) X (hd := dX2_openBank_45) (kk := ?_)
        refine p_X2_72 (pc := 46) X (hd := dX2_openBank_46) (hh := Hb nb hlt) (kk := ?_)
        refine v_aload_n (pc := 49) X (hd := dX2_openBank_49) (kk := ?_)
        refine g_X2_38 (pc := 50) X (hd := dX2_openBank_50) (hh := by first | assumption | exact pset_s _ _ _ | exact (pset_n (by omega)).trans (by assumption)) (kk := ?_)
        refine v_aload_n (pc := 53) X (hd := dX2_openBank_53) (kk := ?_)
        refine g_X2_24 (pc := 54) X (hd := dX2_openBank_54) (hh := by first | assumption | exact pset_s _ _ _ | exact (pset_n (by omega)).trans (by assumption)) (kk := ?_)
        refine v_aaldN (pc := 57) X (j := nb) (hd := dX2_openBank_57) (hh := by first | assumption | exact pset_s _ _ _ | exact (pset_n (by omega)).trans (by assumption)) (hi := by first | rfl | (simp only [pk_mul, nI_add]; done)) (hj := by omega) (hf := F2 nb hlt) (kk := ?_)
        refine v_iload_n (pc := 58) X (hd := dX2_openBank_58) (kk := ?_)
        refine p_X2_75 (pc := 59) X (hd := dX2_openBank_59) (hh := by first | assumption | exact pset_s _ _ _ | exact (pset_n (by omega)).trans (by assumption)) (kk := ?_)
        rw [pset_pset]
        refine v_gen (P := fun h9 => PX a (upd (upd v (24 + 7 * nb + 0) al) (24 + 7 * nb + 1) str) f1 f2 f3 pi g c h9 ∧ pO a (a + 34) h h9 ∧ h9 a = some (ob 2 [.int (v 0), .int (v 5), .int (v 4), .int (nI nh), .int (nI nb), .int (nI ns), .ref (a + 1), .ref (a + 2), .ref (a + 3)])) ⟨P0.bankF hlt (fun q hq => (pk_un (by omega)).trans (pk_un (by omega))) ((pk_un (by omega)).trans pk_us).symm pk_us.symm (by rw [pk_un (by omega), pk_un (by omega)]) (by rw [pk_un (by omega), pk_un (by omega)]) (by rw [pk_un (by omega), pk_un (by omega)]) (by rw [pk_un (by omega), pk_un (by omega)]), pO.rf.set (by omega) (by omega), (pset_n (by omega)).trans T0⟩ (fun h59 q59 => ?_)
        obtain ⟨P59, O59, U59⟩ := q59
        refine v_aload_n (pc := 62) X (hd := dX2_openBank_62) (kk := ?_)
        refine v_dup (pc := 63) X (hd := dX2_openBank_63) (kk := ?_)
        refine g_X2_24 (pc := 64) X (hd := dX2_openBank_64) (hh := U59) (kk := ?_)
        refine v_iconst (pc := 67) X (v := nI 1) (hd := dX2_openBank_67) (kk := ?_)
        refine v_iadd (pc := 68) X (hd := dX2_openBank_68) (kk := ?_)
        refine p_X2_24 (pc := 69) X (hd := dX2_openBank_69) (hh := U59) (kk := ?_)
        refine v_aload_n (pc := 72) X (hd := dX2_openBank_72) (kk := ?_)
        refine g_X2_24 (pc := 73) X (hd := dX2_openBank_73) (hh := by first | assumption | exact pset_s _ _ _ | exact (pset_n (by omega)).trans (by assumption)) (kk := ?_)
        refine v_iconst (pc := 76) X (v := nI 1) (hd := dX2_openBank_76) (kk := ?_)
        refine v_isub (pc := 77) X (hd := dX2_openBank_77) (kk := ?_)
        exact v_endi (pc := 78) X hr hlk (hd := dX2_openBank_78) (hf := ⟨by unfold rAdd; rw [if_pos ⟨c8, c20⟩, if_neg (by rw [eb]; exact fun q => absurd ((nI_eq (by omega) (by omega)).mp q) (by omega)), eb, nI_add, pk_sub (by omega)]; rfl, Or.inr ⟨⟨⟨c8, c20⟩, by rw [eb]; exact fun q => absurd ((nI_eq (by omega) (by omega)).mp q) (by omega)⟩, (P59.topF (v1 := upd (upd (upd v (24 + 7 * nb + 0) al) (24 + 7 * nb + 1) str) 2 (nI nb + nI 1)) (fun q hq => pk_un (by omega)) (fun k hk hk2 => P59.2.2.2.2.2.2.2.2.2.2.2.2 k hk (by rw [pk_un (by omega)] at hk2; exact hk2)) (by rw [pk_un (by omega), pk_un (by omega), pk_un (by omega)]) (by rw [pk_un (by omega), pk_un (by omega), pk_un (by omega)]) (by rw [pk_un (by omega), pk_un (by omega), pk_un (by omega)]) (by rw [pk_un (by omega), pk_un (by omega), pk_un (by omega), en]) pk_us.symm (by rw [pk_un (by omega), pk_un (by omega), pk_un (by omega), es])).pa (gAdd_eq I al str hlt), O59.set (by omega) (by omega)⟩⟩)
      · have hge : nb = 4 := by
          rcases Nat.lt_or_ge nb 4 with q | q
          · exact absurd (nI_lt q (by omega)) c30
          · omega
        refine v_bipush (pc := 33) X (v := (-3)) (hd := dX2_openBank_33) (kk := ?_)
        exact v_endi (pc := 35) X hr hlk (hd := dX2_openBank_35) (hf := ⟨by unfold rAdd; rw [if_pos ⟨c8, c20⟩, if_pos (by rw [eb, hge])], Or.inl ⟨fun q => q.2 (by rw [eb, hge]), rfl⟩⟩)
    · refine v_iconst (pc := 23) X (v := (-1)) (hd := dX2_openBank_23) (kk := ?_)
      exact v_endi (pc := 24) X hr hlk (hd := dX2_openBank_24) (hf := ⟨by unfold rAdd; rw [if_neg (fun q => c20 q.2)], Or.inl ⟨fun q => c20 q.1.2, rfl⟩⟩)
set_option maxRecDepth 100000 in
set_option maxHeartbeats 4000000 in
theorem c_X2_changeAllowance (l : Launch) (E : pE) (a : Nat) (v : Nat → Int32) (x al : Int32) (nh nb ns : Nat) : pC l E yX2_changeAllowance cX2_changeAllowance 4 (some .int) { frames := 2, cells := 0, slots := 0, locals := 43 } 0 0 [.ref a, .int x, .int al] (fun h _ => PA a v h ∧ Iv v nh nb ns) (pFi (cP a (kAllow v x al) (rAllow v x al) (gAllow v x al))) := by
  refine pC_of (by decide) (by simp [Value.category]) (Nat.le_of_ble_eq_true rfl) ?_
  intro h z hp p__ e__ s__ m__ args__ below__ meth__ c__ X hr hlk hname
  obtain ⟨hP0, I⟩ := hp
  obtain ⟨f1, f2, f3, pi, g, c, P⟩ := hP0
  have hpp : PA a v h ∧ Iv v nh nb ns := ⟨⟨f1, f2, f3, pi, g, c, P⟩, I⟩
  obtain ⟨hn6, hb4, hs12, en, eb, es⟩ := I.1
  have eS : nx (v 3) = ns := by rw [es]; exact nx_nI (by omega)
  have P0 := P
  obtain ⟨T0, T1, T2, T3, ⟨F1, F2, F3, pl, pj⟩, Hh, Hb, Hg, Hc, Gg, Gc, Hk, Hs⟩ := P
  rw [en, eb, es] at T0
  have Hs2 : ∀ k, k < ns → _ := fun k hk => Hs k (by omega) (by rw [eS]; exact hk)
  refine v_aload_n (pc := 0) X (hd := dX2_changeAllowance_0) (kk := ?_)
  refine v_iload_n (pc := 1) X (hd := dX2_changeAllowance_1) (kk := ?_)
  refine v_callVp (pc := 2) X (hd := dX2_changeAllowance_2) (w := wv_X2_78) (hC := c_X2_hasBank l E a v x nh nb ns) (hp := hpp) (hb := by first | assumption | exact pset_s _ _ _ | exact (pset_n (by omega)).trans (by assumption)) (kk := ?_)
  refine v_ifeqB (pc := 5) X (tgt := 19) (hd := dX2_changeAllowance_5) (kt := fun c5 => ?_) (kf := fun c5 => ?_)
  · refine v_iconst (pc := 19) X (v := (-1)) (hd := dX2_changeAllowance_19) (kk := ?_)
    exact v_endi (pc := 20) X hr hlk (hd := dX2_changeAllowance_20) (hf := ⟨by unfold rAllow; rw [if_neg (fun q => c5 q.1)], Or.inl ⟨fun q => c5 q.1, rfl⟩⟩)
  · refine v_iload_n (pc := 8) X (hd := dX2_changeAllowance_8) (kk := ?_)
    refine v_iconst (pc := 9) X (v := nI 0) (hd := dX2_changeAllowance_9) (kk := ?_)
    refine v_sipush (pc := 10) X (v := nI 5000) (hd := dX2_changeAllowance_10) (kk := ?_)
    refine v_callSNp (pc := 13) X (hd := dX2_changeAllowance_13) (w := wv_X2_61) (hC := c_X6_isWithin l E _ _ _) (hp := by first | assumption | exact trivial) (kk := ?_)
    refine v_ifneB (pc := 16) X (tgt := 21) (hd := dX2_changeAllowance_16) (kt := fun c16 => ?_) (kf := fun c16 => ?_)
    · obtain ⟨j, hj, rfl, ej⟩ := gH_j eb (by omega) c5
      refine v_aload_n (pc := 21) X (hd := dX2_changeAllowance_21) (kk := ?_)
      refine g_X2_38 (pc := 22) X (hd := dX2_changeAllowance_22) (hh := by first | assumption | exact pset_s _ _ _ | exact (pset_n (by omega)).trans (by assumption)) (kk := ?_)
      refine v_iload_n (pc := 25) X (hd := dX2_changeAllowance_25) (kk := ?_)
      refine v_aaldN (pc := 26) X (j := j) (hd := dX2_changeAllowance_26) (hh := by first | assumption | exact pset_s _ _ _ | exact (pset_n (by omega)).trans (by assumption)) (hi := by first | rfl | (simp only [pk_mul, nI_add]; done)) (hj := by omega) (hf := F2 j (by omega)) (kk := ?_)
      refine g_X2_72 (pc := 27) X (hd := dX2_changeAllowance_27) (hh := Hb j (by omega)) (kk := ?_)
      refine v_istore_n (pc := 30) X (hd := dX2_changeAllowance_30) (kk := ?_)
      refine v_aload_n (pc := 31) X (hd := dX2_changeAllowance_31) (kk := ?_)
      refine g_X2_38 (pc := 32) X (hd := dX2_changeAllowance_32) (hh := by first | assumption | exact pset_s _ _ _ | exact (pset_n (by omega)).trans (by assumption)) (kk := ?_)
      refine v_iload_n (pc := 35) X (hd := dX2_changeAllowance_35) (kk := ?_)
      refine v_aaldN (pc := 36) X (j := j) (hd := dX2_changeAllowance_36) (hh := by first | assumption | exact pset_s _ _ _ | exact (pset_n (by omega)).trans (by assumption)) (hi := by first | rfl | (simp only [pk_mul, nI_add]; done)) (hj := by omega) (hf := F2 j (by omega)) (kk := ?_)
      refine v_iload_n (pc := 37) X (hd := dX2_changeAllowance_37) (kk := ?_)
      refine p_X2_72 (pc := 38) X (hd := dX2_changeAllowance_38) (hh := Hb j (by omega)) (kk := ?_)
      refine v_iload_n (pc := 41) X (hd := dX2_changeAllowance_41) (kk := ?_)
      exact v_endi (pc := 42) X hr hlk (hd := dX2_changeAllowance_42) (hf := ⟨by unfold rAllow; rw [if_pos ⟨c5, c16⟩, ej], Or.inr ⟨⟨c5, c16⟩, by unfold gAllow; rw [ej]; exact (P0.bankF (v1 := upd v (24 + 7 * j) al) (by omega) (fun q hq => pk_un (by omega)) pk_us.symm (pk_un (by omega)).symm (pk_un (by omega)).symm (pk_un (by omega)).symm (pk_un (by omega)).symm (pk_un (by omega)).symm).pa (fun _ => rfl), pO.rf.set (by omega) (by omega)⟩⟩)
    · refine v_iconst (pc := 19) X (v := (-1)) (hd := dX2_changeAllowance_19) (kk := ?_)
      exact v_endi (pc := 20) X hr hlk (hd := dX2_changeAllowance_20) (hf := ⟨by unfold rAllow; rw [if_neg (fun q => c16 q.2)], Or.inl ⟨fun q => c16 q.2, rfl⟩⟩)
set_option maxRecDepth 100000 in
set_option maxHeartbeats 4000000 in
theorem c_X2_changeRight (l : Launch) (E : pE) (a : Nat) (v : Nat → Int32) (x y is : Int32) (nh nb ns : Nat) : pC l E yX2_changeRight cX2_changeRight 4 (some .int) { frames := 2, cells := 0, slots := 0, locals := 43 } 0 0 [.ref a, .int x, .int y, .int is] (fun h _ => PA a v h ∧ Iv v nh nb ns) (pFi (cP a (kGrant v x y is) (rGrant v x y is) (gGrant v x y is))) := by
  refine pC_of (by decide) (by simp [Value.category]) (Nat.le_of_ble_eq_true rfl) ?_
  intro h z hp p__ e__ s__ m__ args__ below__ meth__ c__ X hr hlk hname
  obtain ⟨hP0, I⟩ := hp
  obtain ⟨f1, f2, f3, pi, g, c, P⟩ := hP0
  have hpp : PA a v h ∧ Iv v nh nb ns := ⟨⟨f1, f2, f3, pi, g, c, P⟩, I⟩
  obtain ⟨hn6, hb4, hs12, en, eb, es⟩ := I.1
  have eS : nx (v 3) = ns := by rw [es]; exact nx_nI (by omega)
  have P0 := P
  obtain ⟨T0, T1, T2, T3, ⟨F1, F2, F3, pl, pj⟩, Hh, Hb, Hg, Hc, Gg, Gc, Hk, Hs⟩ := P
  rw [en, eb, es] at T0
  have Hs2 : ∀ k, k < ns → _ := fun k hk => Hs k (by omega) (by rw [eS]; exact hk)
  refine v_aload_n (pc := 0) X (hd := dX2_changeRight_0) (kk := ?_)
  refine v_iload_n (pc := 1) X (hd := dX2_changeRight_1) (kk := ?_)
  refine v_callVp (pc := 2) X (hd := dX2_changeRight_2) (w := wv_X2_68) (hC := c_X2_hasHousehold l E a v x nh nb ns) (hp := hpp) (hb := by first | assumption | exact pset_s _ _ _ | exact (pset_n (by omega)).trans (by assumption)) (kk := ?_)
  refine v_ifeqB (pc := 5) X (tgt := 25) (hd := dX2_changeRight_5) (kt := fun c5 => ?_) (kf := fun c5 => ?_)
  · refine v_iconst (pc := 25) X (v := (-1)) (hd := dX2_changeRight_25) (kk := ?_)
    exact v_endi (pc := 26) X hr hlk (hd := dX2_changeRight_26) (hf := ⟨by unfold rGrant; rw [if_neg (fun q => c5 q.1)], Or.inl ⟨fun q => c5 q.1, rfl⟩⟩)
  · refine v_aload_n (pc := 8) X (hd := dX2_changeRight_8) (kk := ?_)
    refine v_iload_n (pc := 9) X (hd := dX2_changeRight_9) (kk := ?_)
    refine v_callVp (pc := 10) X (hd := dX2_changeRight_10) (w := wv_X2_78) (hC := c_X2_hasBank l E a v y nh nb ns) (hp := hpp) (hb := by first | assumption | exact pset_s _ _ _ | exact (pset_n (by omega)).trans (by assumption)) (kk := ?_)
    refine v_ifeqB (pc := 13) X (tgt := 25) (hd := dX2_changeRight_13) (kt := fun c13 => ?_) (kf := fun c13 => ?_)
    · refine v_iconst (pc := 25) X (v := (-1)) (hd := dX2_changeRight_25) (kk := ?_)
      exact v_endi (pc := 26) X hr hlk (hd := dX2_changeRight_26) (hf := ⟨by unfold rGrant; rw [if_neg (fun q => c13 q.2.1)], Or.inl ⟨fun q => c13 q.2.1, rfl⟩⟩)
    · refine v_iload_n (pc := 16) X (hd := dX2_changeRight_16) (kk := ?_)
      refine v_iconst (pc := 17) X (v := nI 0) (hd := dX2_changeRight_17) (kk := ?_)
      refine v_iconst (pc := 18) X (v := nI 1) (hd := dX2_changeRight_18) (kk := ?_)
      refine v_callSNp (pc := 19) X (hd := dX2_changeRight_19) (w := wv_X2_61) (hC := c_X6_isWithin l E _ _ _) (hp := by first | assumption | exact trivial) (kk := ?_)
      refine v_ifneB (pc := 22) X (tgt := 27) (hd := dX2_changeRight_22) (kt := fun c22 => ?_) (kf := fun c22 => ?_)
      · obtain ⟨j, hj, rfl, ej⟩ := gH_j en (by omega) c5
        obtain ⟨b, hb, rfl, eb_⟩ := gH_j eb (by omega) c13
        obtain ⟨rx, -, rx2, rx3⟩ := I.2.2.2.2.2.1 b (by omega)
        have i0 : ¬ is = nI 1 → is = nI 0 := fun q => by
          obtain ⟨i, -, hi, e, -⟩ := gI_j (by omega) (by omega) c22
          rw [e] at q ⊢
          have : ¬ i = 1 := fun w => q (by rw [w])
          rw [show i = 0 by omega]
        refine v_aload_n (pc := 27) X (hd := dX2_changeRight_27) (kk := ?_)
        refine g_X2_38 (pc := 28) X (hd := dX2_changeRight_28) (hh := by first | assumption | exact pset_s _ _ _ | exact (pset_n (by omega)).trans (by assumption)) (kk := ?_)
        refine v_iload_n (pc := 31) X (hd := dX2_changeRight_31) (kk := ?_)
        refine v_aaldN (pc := 32) X (j := b) (hd := dX2_changeRight_32) (hh := by first | assumption | exact pset_s _ _ _ | exact (pset_n (by omega)).trans (by assumption)) (hi := by first | rfl | (simp only [pk_mul, nI_add]; done)) (hj := by omega) (hf := F2 b (by omega)) (kk := ?_)
        refine g_X2_81 (pc := 33) X (hd := dX2_changeRight_33) (hh := Hb b (by omega)) (kk := ?_)
        refine v_iload_n (pc := 36) X (hd := dX2_changeRight_36) (kk := ?_)
        refine v_iload_n (pc := 37) X (hd := dX2_changeRight_37) (kk := ?_)
        refine v_iconst (pc := 38) X (v := nI 1) (hd := dX2_changeRight_38) (kk := ?_)
        refine v_icmpne (pc := 39) X (tgt := 46) (hd := dX2_changeRight_39) (kt := fun c39 => ?_) (kf := fun c39 => ?_)
        · refine v_iconst (pc := 46) X (v := nI 0) (hd := dX2_changeRight_46) (kk := ?_)
          refine v_zastN (pc := 47) X (j := j) (hd := dX2_changeRight_47) (hh := Hg b (by omega)) (hi := by first | rfl | (simp only [pk_mul, nI_add]; done)) (hj := by omega) (hx := (show vp_nar FieldType.boolean (nI 0) = nI 0 by decide +kernel)) (kk := ?_)
          have Z47 : ∀ i, i < 6 → upd (g b) j (nI 0) i = bt (sGrant (v (24 + 7 * b + 3)) j is) i := fun i hi => by
            rw [rx3, show is = nI 0 from i0 c39, sGrant_bt rx (by omega) j (by omega) 0 (by omega) i hi, upd_at, Gg b (by omega) i hi, rx3]
          refine v_gen (P := fun h9 => PX a (upd v (24 + 7 * b + 3) (sGrant (v (24 + 7 * b + 3)) j is)) f1 f2 f3 pi (fun i => if i = b then upd (g b) j (nI 0) else g i) c h9 ∧ pO a (a + 34) h h9 ∧ h9 a = some (ob 2 [.int (v 0), .int (v 5), .int (v 4), .int (nI nh), .int (nI nb), .int (nI ns), .ref (a + 1), .ref (a + 2), .ref (a + 3)]) ∧ h9 (a + 2) = some (ar 4 4 f2) ∧ h9 (a + 10 + 3 * b) = some (ob 0 [.int (v (24 + 7 * b + 0)), .int (v (24 + 7 * b + 1)), .int (v (24 + 7 * b + 2)), .int (v (24 + 7 * b + 4)), .int (v (24 + 7 * b + 5)), .int (v (24 + 7 * b + 6)), .ref (a + 11 + 3 * b), .ref (a + 12 + 3 * b)]) ∧ h9 (a + 11 + 3 * b) = some (ai 2 6 (upd (g b) j (nI 0)))) ⟨P0.right (y := upd (g b) j (nI 0)) (by omega) (fun q hq => pk_un hq) (fun k hk => (Z47 k hk).trans (congrArg (fun s => bt s k) pk_us.symm)), pO.rf.set (by omega) (by omega), ⟨(pset_n (by omega)).trans T0, (pset_n (by omega)).trans T2, (pset_n (by omega)).trans (Hb b (by omega)), pset_s _ _ _⟩⟩ (fun h47 q47 => ?_)
          obtain ⟨P47, O47, U47⟩ := q47
          obtain ⟨U1, U2, U3, U4⟩ := U47
          refine v_aload_n (pc := 48) X (hd := dX2_changeRight_48) (kk := ?_)
          refine g_X2_38 (pc := 49) X (hd := dX2_changeRight_49) (hh := U1) (kk := ?_)
          refine v_iload_n (pc := 52) X (hd := dX2_changeRight_52) (kk := ?_)
          refine v_aaldN (pc := 53) X (j := b) (hd := dX2_changeRight_53) (hh := U2) (hi := by first | rfl | (simp only [pk_mul, nI_add]; done)) (hj := by omega) (hf := F2 b (by omega)) (kk := ?_)
          refine v_callVp (pc := 54) X (hd := dX2_changeRight_54) (w := wv_X2_85) (hC := c_X0_holders l E _ _ _ _ _ _ _ _ _ _) (hp := ⟨U3, U4, fun i hi => by rw [Z47 i hi]; exact bt_b _ _⟩) (hb := U3) (kk := ?_)
          exact v_endi (pc := 57) X hr hlk (hd := dX2_changeRight_57) (hf := ⟨by unfold rGrant; rw [if_pos ⟨c5, c13, c22⟩, ej, eb_]; exact fCnt_of 6 (fun i hi => Z47 i hi), Or.inr ⟨⟨c5, c13, c22⟩, by unfold gGrant; rw [ej, eb_]; exact P47.pa (fun _ => rfl), O47⟩⟩)
        · refine v_iconst (pc := 42) X (v := nI 1) (hd := dX2_changeRight_42) (kk := ?_)
          refine v_goto (pc := 43) X (tgt := 47) (hd := dX2_changeRight_43) (kk := ?_)
          refine v_zastN (pc := 47) X (j := j) (hd := dX2_changeRight_47) (hh := Hg b (by omega)) (hi := by first | rfl | (simp only [pk_mul, nI_add]; done)) (hj := by omega) (hx := (show vp_nar FieldType.boolean (nI 1) = nI 1 by decide +kernel)) (kk := ?_)
          have Z47 : ∀ i, i < 6 → upd (g b) j (nI 1) i = bt (sGrant (v (24 + 7 * b + 3)) j is) i := fun i hi => by
            rw [rx3, show is = nI 1 from Classical.not_not.mp c39, sGrant_bt rx (by omega) j (by omega) 1 (by omega) i hi, upd_at, Gg b (by omega) i hi, rx3]
          refine v_gen (P := fun h9 => PX a (upd v (24 + 7 * b + 3) (sGrant (v (24 + 7 * b + 3)) j is)) f1 f2 f3 pi (fun i => if i = b then upd (g b) j (nI 1) else g i) c h9 ∧ pO a (a + 34) h h9 ∧ h9 a = some (ob 2 [.int (v 0), .int (v 5), .int (v 4), .int (nI nh), .int (nI nb), .int (nI ns), .ref (a + 1), .ref (a + 2), .ref (a + 3)]) ∧ h9 (a + 2) = some (ar 4 4 f2) ∧ h9 (a + 10 + 3 * b) = some (ob 0 [.int (v (24 + 7 * b + 0)), .int (v (24 + 7 * b + 1)), .int (v (24 + 7 * b + 2)), .int (v (24 + 7 * b + 4)), .int (v (24 + 7 * b + 5)), .int (v (24 + 7 * b + 6)), .ref (a + 11 + 3 * b), .ref (a + 12 + 3 * b)]) ∧ h9 (a + 11 + 3 * b) = some (ai 2 6 (upd (g b) j (nI 1)))) ⟨P0.right (y := upd (g b) j (nI 1)) (by omega) (fun q hq => pk_un hq) (fun k hk => (Z47 k hk).trans (congrArg (fun s => bt s k) pk_us.symm)), pO.rf.set (by omega) (by omega), ⟨(pset_n (by omega)).trans T0, (pset_n (by omega)).trans T2, (pset_n (by omega)).trans (Hb b (by omega)), pset_s _ _ _⟩⟩ (fun h47 q47 => ?_)
          obtain ⟨P47, O47, U47⟩ := q47
          obtain ⟨U1, U2, U3, U4⟩ := U47
          refine v_aload_n (pc := 48) X (hd := dX2_changeRight_48) (kk := ?_)
          refine g_X2_38 (pc := 49) X (hd := dX2_changeRight_49) (hh := U1) (kk := ?_)
          refine v_iload_n (pc := 52) X (hd := dX2_changeRight_52) (kk := ?_)
          refine v_aaldN (pc := 53) X (j := b) (hd := dX2_changeRight_53) (hh := U2) (hi := by first | rfl | (simp only [pk_mul, nI_add]; done)) (hj := by omega) (hf := F2 b (by omega)) (kk := ?_)
          refine v_callVp (pc := 54) X (hd := dX2_changeRight_54) (w := wv_X2_85) (hC := c_X0_holders l E _ _ _ _ _ _ _ _ _ _) (hp := ⟨U3, U4, fun i hi => by rw [Z47 i hi]; exact bt_b _ _⟩) (hb := U3) (kk := ?_)
          exact v_endi (pc := 57) X hr hlk (hd := dX2_changeRight_57) (hf := ⟨by unfold rGrant; rw [if_pos ⟨c5, c13, c22⟩, ej, eb_]; exact fCnt_of 6 (fun i hi => Z47 i hi), Or.inr ⟨⟨c5, c13, c22⟩, by unfold gGrant; rw [ej, eb_]; exact P47.pa (fun _ => rfl), O47⟩⟩)
      · refine v_iconst (pc := 25) X (v := (-1)) (hd := dX2_changeRight_25) (kk := ?_)
        exact v_endi (pc := 26) X hr hlk (hd := dX2_changeRight_26) (hf := ⟨by unfold rGrant; rw [if_neg (fun q => c22 q.2.2)], Or.inl ⟨fun q => c22 q.2.2, rfl⟩⟩)
set_option maxRecDepth 100000 in
set_option maxHeartbeats 4000000 in
theorem c_X2_turnStack (l : Launch) (E : pE) (a : Nat) (v : Nat → Int32) (x : Int32) (nh nb ns : Nat) : pC l E yX2_turnStack cX2_turnStack 3 (some .int) { frames := 2, cells := 0, slots := 0, locals := 43 } 0 0 [.ref a, .int x] (fun h _ => PA a v h ∧ Iv v nh nb ns) (pFi (cP a (kTurn v x) (rTurn v x) (gTurn v x))) := by
  refine pC_of (by decide) (by simp [Value.category]) (Nat.le_of_ble_eq_true rfl) ?_
  intro h z hp p__ e__ s__ m__ args__ below__ meth__ c__ X hr hlk hname
  obtain ⟨hP0, I⟩ := hp
  obtain ⟨f1, f2, f3, pi, g, c, P⟩ := hP0
  have hpp : PA a v h ∧ Iv v nh nb ns := ⟨⟨f1, f2, f3, pi, g, c, P⟩, I⟩
  obtain ⟨hn6, hb4, hs12, en, eb, es⟩ := I.1
  have eS : nx (v 3) = ns := by rw [es]; exact nx_nI (by omega)
  have P0 := P
  obtain ⟨T0, T1, T2, T3, ⟨F1, F2, F3, pl, pj⟩, Hh, Hb, Hg, Hc, Gg, Gc, Hk, Hs⟩ := P
  rw [en, eb, es] at T0
  have Hs2 : ∀ k, k < ns → _ := fun k hk => Hs k (by omega) (by rw [eS]; exact hk)
  refine v_aload_n (pc := 0) X (hd := dX2_turnStack_0) (kk := ?_)
  refine v_iload_n (pc := 1) X (hd := dX2_turnStack_1) (kk := ?_)
  refine v_callVp (pc := 2) X (hd := dX2_turnStack_2) (w := wv_X2_129) (hC := c_X2_hasStack l E a v x nh nb ns) (hp := hpp) (hb := by first | assumption | exact pset_s _ _ _ | exact (pset_n (by omega)).trans (by assumption)) (kk := ?_)
  refine v_ifneB (pc := 5) X (tgt := 10) (hd := dX2_turnStack_5) (kt := fun c5 => ?_) (kf := fun c5 => ?_)
  · obtain ⟨j, hj, rfl, ej⟩ := gH_j es (by omega) c5
    obtain ⟨o, b, t1, we1, tn1, s1, s2, s3, s4, s5, s6, e0, e1, e2, e3, e4⟩ := I.2.2.2.2.2.2.2.2.1 j hj
    refine v_aload_n (pc := 10) X (hd := dX2_turnStack_10) (kk := ?_)
    refine g_X2_44 (pc := 11) X (hd := dX2_turnStack_11) (hh := by first | assumption | exact pset_s _ _ _ | exact (pset_n (by omega)).trans (by assumption)) (kk := ?_)
    refine v_iload_n (pc := 14) X (hd := dX2_turnStack_14) (kk := ?_)
    refine v_aaldN (pc := 15) X (j := j) (hd := dX2_turnStack_15) (hh := by first | assumption | exact pset_s _ _ _ | exact (pset_n (by omega)).trans (by assumption)) (hi := by first | rfl | (simp only [pk_mul, nI_add]; done)) (hj := by omega) (hf := F3 j (by omega)) (kk := ?_)
    refine v_astore_n (pc := 16) X (hd := dX2_turnStack_16) (kk := ?_)
    refine v_aload_n (pc := 17) X (hd := dX2_turnStack_17) (kk := ?_)
    refine g_X2_126 (pc := 18) X (hd := dX2_turnStack_18) (hh := Hs2 j (by omega)) (kk := ?_)
    refine v_iconst (pc := 21) X (v := nI 3) (hd := dX2_turnStack_21) (kk := ?_)
    refine v_icmplt (pc := 22) X (tgt := 28) (hd := dX2_turnStack_22) (kt := fun c22 => ?_) (kf := fun c22 => ?_)
    · have hn3 : ¬ v (76 + 5 * j + 4) = nI 3 := fun q => by rw [q] at c22; exact absurd c22 (by decide +kernel)
      refine v_aload_n (pc := 28) X (hd := dX2_turnStack_28) (kk := ?_)
      refine v_dup (pc := 29) X (hd := dX2_turnStack_29) (kk := ?_)
      refine g_X2_126 (pc := 30) X (hd := dX2_turnStack_30) (hh := Hs2 j (by omega)) (kk := ?_)
      refine v_iconst (pc := 33) X (v := nI 1) (hd := dX2_turnStack_33) (kk := ?_)
      refine v_iadd (pc := 34) X (hd := dX2_turnStack_34) (kk := ?_)
      refine p_X2_126 (pc := 35) X (hd := dX2_turnStack_35) (hh := Hs2 j (by omega)) (kk := ?_)
      refine v_aload_n (pc := 38) X (hd := dX2_turnStack_38) (kk := ?_)
      refine g_X2_126 (pc := 39) X (hd := dX2_turnStack_39) (hh := by first | assumption | exact pset_s _ _ _ | exact (pset_n (by omega)).trans (by assumption)) (kk := ?_)
      exact v_endi (pc := 42) X hr hlk (hd := dX2_turnStack_42) (hf := ⟨by unfold rTurn; rw [if_pos c5, ej, if_neg hn3], Or.inr ⟨⟨c5, by rw [ej]; exact hn3⟩, by unfold gTurn; rw [ej]; exact (P0.stackF (v1 := upd v (76 + 5 * j + 4) (v (76 + 5 * j + 4) + nI 1)) (by omega) (fun q hq => pk_un (by omega)) (pk_un (by omega)).symm (pk_un (by omega)).symm (pk_un (by omega)).symm (pk_un (by omega)).symm pk_us.symm).pa (fun _ => rfl), pO.rf.set (by have := pl j (by omega); omega) (by have := pl j (by omega); omega)⟩⟩)
    · have hn3 : v (76 + 5 * j + 4) = nI 3 := by
        rw [e4] at c22 ⊢
        rcases Nat.lt_or_ge tn1 3 with q | q
        · exact absurd (nI_lt q (by omega)) c22
        · rw [show tn1 = 3 by omega]
      refine v_bipush (pc := 25) X (v := (-3)) (hd := dX2_turnStack_25) (kk := ?_)
      exact v_endi (pc := 27) X hr hlk (hd := dX2_turnStack_27) (hf := ⟨by unfold rTurn; rw [if_pos c5, ej, if_pos hn3], Or.inl ⟨fun q => q.2 (by rw [ej]; exact hn3), rfl⟩⟩)
  · refine v_iconst (pc := 8) X (v := (-1)) (hd := dX2_turnStack_8) (kk := ?_)
    exact v_endi (pc := 9) X hr hlk (hd := dX2_turnStack_9) (hf := ⟨by unfold rTurn; rw [if_neg c5], Or.inl ⟨fun q => c5 q.1, rfl⟩⟩)
set_option maxRecDepth 100000 in
set_option maxHeartbeats 4000000 in
theorem c_X2_repairRoad (l : Launch) (E : pE) (a : Nat) (v : Nat → Int32) (x : Int32) (nh nb ns : Nat) : pC l E yX2_repairRoad cX2_repairRoad 3 (some .int) { frames := 2, cells := 0, slots := 0, locals := 43 } 0 0 [.ref a, .int x] (fun h _ => PA a v h ∧ Iv v nh nb ns) (pFi (cP a (kRep v x) (rRep v x) (gRep v x))) := by
  refine pC_of (by decide) (by simp [Value.category]) (Nat.le_of_ble_eq_true rfl) ?_
  intro h z hp p__ e__ s__ m__ args__ below__ meth__ c__ X hr hlk hname
  obtain ⟨hP0, I⟩ := hp
  obtain ⟨f1, f2, f3, pi, g, c, P⟩ := hP0
  have hpp : PA a v h ∧ Iv v nh nb ns := ⟨⟨f1, f2, f3, pi, g, c, P⟩, I⟩
  obtain ⟨hn6, hb4, hs12, en, eb, es⟩ := I.1
  have eS : nx (v 3) = ns := by rw [es]; exact nx_nI (by omega)
  have P0 := P
  obtain ⟨T0, T1, T2, T3, ⟨F1, F2, F3, pl, pj⟩, Hh, Hb, Hg, Hc, Gg, Gc, Hk, Hs⟩ := P
  rw [en, eb, es] at T0
  have Hs2 : ∀ k, k < ns → _ := fun k hk => Hs k (by omega) (by rw [eS]; exact hk)
  refine v_aload_n (pc := 0) X (hd := dX2_repairRoad_0) (kk := ?_)
  refine v_iload_n (pc := 1) X (hd := dX2_repairRoad_1) (kk := ?_)
  refine v_callVp (pc := 2) X (hd := dX2_repairRoad_2) (w := wv_X2_78) (hC := c_X2_hasBank l E a v x nh nb ns) (hp := hpp) (hb := by first | assumption | exact pset_s _ _ _ | exact (pset_n (by omega)).trans (by assumption)) (kk := ?_)
  refine v_ifneB (pc := 5) X (tgt := 10) (hd := dX2_repairRoad_5) (kt := fun c5 => ?_) (kf := fun c5 => ?_)
  · obtain ⟨j, hj, rfl, ej⟩ := gH_j eb (by omega) c5
    refine v_aload_n (pc := 10) X (hd := dX2_repairRoad_10) (kk := ?_)
    refine g_X2_38 (pc := 11) X (hd := dX2_repairRoad_11) (hh := by first | assumption | exact pset_s _ _ _ | exact (pset_n (by omega)).trans (by assumption)) (kk := ?_)
    refine v_iload_n (pc := 14) X (hd := dX2_repairRoad_14) (kk := ?_)
    refine v_aaldN (pc := 15) X (j := j) (hd := dX2_repairRoad_15) (hh := by first | assumption | exact pset_s _ _ _ | exact (pset_n (by omega)).trans (by assumption)) (hi := by first | rfl | (simp only [pk_mul, nI_add]; done)) (hj := by omega) (hf := F2 j (by omega)) (kk := ?_)
    refine g_X2_159 (pc := 16) X (hd := dX2_repairRoad_16) (hh := Hb j (by omega)) (kk := ?_)
    refine v_istore_n (pc := 19) X (hd := dX2_repairRoad_19) (kk := ?_)
    refine v_aload_n (pc := 20) X (hd := dX2_repairRoad_20) (kk := ?_)
    refine g_X2_38 (pc := 21) X (hd := dX2_repairRoad_21) (hh := by first | assumption | exact pset_s _ _ _ | exact (pset_n (by omega)).trans (by assumption)) (kk := ?_)
    refine v_iload_n (pc := 24) X (hd := dX2_repairRoad_24) (kk := ?_)
    refine v_aaldN (pc := 25) X (j := j) (hd := dX2_repairRoad_25) (hh := by first | assumption | exact pset_s _ _ _ | exact (pset_n (by omega)).trans (by assumption)) (hi := by first | rfl | (simp only [pk_mul, nI_add]; done)) (hj := by omega) (hf := F2 j (by omega)) (kk := ?_)
    refine v_iconst (pc := 26) X (v := nI 0) (hd := dX2_repairRoad_26) (kk := ?_)
    refine p_X2_159 (pc := 27) X (hd := dX2_repairRoad_27) (hh := Hb j (by omega)) (kk := ?_)
    refine v_iload_n (pc := 30) X (hd := dX2_repairRoad_30) (kk := ?_)
    exact v_endi (pc := 31) X hr hlk (hd := dX2_repairRoad_31) (hf := ⟨by unfold rRep; rw [if_pos c5, ej], Or.inr ⟨c5, by unfold gRep; rw [ej]; exact (P0.bankF (v1 := upd v (24 + 7 * j + 2) (nI 0)) (by omega) (fun q hq => pk_un (by omega)) (pk_un (by omega)).symm (pk_un (by omega)).symm pk_us.symm (pk_un (by omega)).symm (pk_un (by omega)).symm (pk_un (by omega)).symm).pa (fun _ => rfl), pO.rf.set (by omega) (by omega)⟩⟩)
  · refine v_iconst (pc := 8) X (v := (-1)) (hd := dX2_repairRoad_8) (kk := ?_)
    exact v_endi (pc := 9) X hr hlk (hd := dX2_repairRoad_9) (hf := ⟨by unfold rRep; rw [if_neg c5], Or.inl ⟨c5, rfl⟩⟩)
