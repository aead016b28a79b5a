/-! join, cart, repair, day, endYear, the snapshots, undo, the text -/
def joB (w : Nat → Int32) (j o : Nat) : Nat → Int32 := upd (upd w (76 + 5 * o + 2) (w (76 + 5 * j + 2) + w (76 + 5 * o + 2))) (76 + 5 * o + 3) ((((w (76 + 5 * j + 3)).toInt64 * (w (76 + 5 * j + 2)).toInt64 + (w (76 + 5 * o + 3)).toInt64 * (w (76 + 5 * o + 2)).toInt64 + (w (76 + 5 * j + 2) + w (76 + 5 * o + 2)).toInt64 - lN 1) / (w (76 + 5 * j + 2) + w (76 + 5 * o + 2)).toInt64).toInt32)
def joC (w : Nat → Int32) (j o : Nat) : Nat → Int32 := upd (joB w j o) (76 + 5 * o + 4) (if joB w j o (76 + 5 * j + 4) < joB w j o (76 + 5 * o + 4) then joB w j o (76 + 5 * j + 4) else joB w j o (76 + 5 * o + 4))
abbrev kJoin (w : Nat → Int32) (x y : Int32) : Prop := (gH (w 3) x ∧ gH (w 3) y ∧ ¬ x = y) ∧ (w (76 + 5 * nx x + 0) = w (76 + 5 * nx y + 0) ∧ w (76 + 5 * nx x + 1) = w (76 + 5 * nx y + 1))
def rJoin (w : Nat → Int32) (x y : Int32) : Int32 := if gH (w 3) x ∧ gH (w 3) y ∧ ¬ x = y then (if w (76 + 5 * nx x + 0) = w (76 + 5 * nx y + 0) ∧ w (76 + 5 * nx x + 1) = w (76 + 5 * nx y + 1) then w (76 + 5 * nx x + 2) + w (76 + 5 * nx y + 2) else -2) else -1
def gJoin (w : Nat → Int32) (x y : Int32) (ns : Nat) : Nat → Int32 := gGo (joC w (nx x) (nx y)) (nx x) ns
def caB (w : Nat → Int32) (b : Nat) (ld t : Int32) : Nat → Int32 := upd (upd w (24 + 7 * b + 2) (w (24 + 7 * b + 2) + fWear ld)) (24 + 7 * b + 5) (upd w (24 + 7 * b + 2) (w (24 + 7 * b + 2) + fWear ld) (24 + 7 * b + 5) + t)
def caD (w : Nat → Int32) (j b o : Nat) (ld t : Int32) (d : Nat) : Nat → Int32 := upd (upd (caB w b ld t) (6 + 3 * o + d) (caB w b ld t (6 + 3 * o + d) + t)) (76 + 5 * j + 2) (upd (caB w b ld t) (6 + 3 * o + d) (caB w b ld t (6 + 3 * o + d) + t) (76 + 5 * j + 2) - t)
def gCart (w : Nat → Int32) (j b o : Nat) (t : Int32) (ns : Nat) : Nat → Int32 :=
  if caD w j b o (fLoad (w (76 + 5 * j + 3)) t) t (if caB w b (fLoad (w (76 + 5 * j + 3)) t) t (76 + 5 * j + 3) ≤ nI 30000 then 1 else 2) (76 + 5 * j + 2) = 0 then gGo (caD w j b o (fLoad (w (76 + 5 * j + 3)) t) t (if caB w b (fLoad (w (76 + 5 * j + 3)) t) t (76 + 5 * j + 3) ≤ nI 30000 then 1 else 2)) j ns
  else caD w j b o (fLoad (w (76 + 5 * j + 3)) t) t (if caB w b (fLoad (w (76 + 5 * j + 3)) t) t (76 + 5 * j + 3) ≤ nI 30000 then 1 else 2)
def kCart1 (w : Nat → Int32) (j b : Nat) (t : Int32) : Prop := ¬ w (76 + 5 * j + 2) < t ∧ fLoad (w (76 + 5 * j + 3)) t ≤ fBear (w (24 + 7 * b + 1)) (w 4) (w (24 + 7 * b + 2))
abbrev kCart (w : Nat → Int32) (x t : Int32) : Prop := (gH (w 3) x ∧ gI t (nI 1) (nI 1000)) ∧ (¬ w (76 + 5 * nx x + 2) < t ∧ fLoad (w (76 + 5 * nx x + 3)) t ≤ fBear (w (24 + 7 * nx (w (76 + 5 * nx x + 1)) + 1)) (w 4) (w (24 + 7 * nx (w (76 + 5 * nx x + 1)) + 2)))
def rCart (w : Nat → Int32) (x t : Int32) : Int32 := if gH (w 3) x ∧ gI t (nI 1) (nI 1000) then (if ¬ w (76 + 5 * nx x + 2) < t ∧ fLoad (w (76 + 5 * nx x + 3)) t ≤ fBear (w (24 + 7 * nx (w (76 + 5 * nx x + 1)) + 1)) (w 4) (w (24 + 7 * nx (w (76 + 5 * nx x + 1)) + 2)) then fLoad (w (76 + 5 * nx x + 3)) t else -2) else -1
def hCart (w : Nat → Int32) (x t : Int32) (ns : Nat) : Nat → Int32 := gCart w (nx x) (nx (w (76 + 5 * nx x + 1))) (nx (w (76 + 5 * nx x + 0))) t ns
abbrev kRep (w : Nat → Int32) (x : Int32) : Prop := gH (w 2) x
def rRep (w : Nat → Int32) (x : Int32) : Int32 := if kRep w x then w (24 + 7 * nx x + 2) else -1
def gRep (w : Nat → Int32) (x : Int32) : Nat → Int32 := upd w (24 + 7 * nx x + 2) (nI 0)
def dyF (w : Nat → Int32) (wi ra : Int32) : Nat → Nat → Int32
  | 0 => w
  | i + 1 => upd (dyF w wi ra i) (76 + 5 * i + 3) (fDried (dyF w wi ra i (76 + 5 * i + 3)) (dyF w wi ra i (76 + 5 * i + 4)) wi ra)
theorem dyF_o (w : Nat → Int32) (wi ra : Int32) (i q : Nat) (h : ∀ k, q ≠ 76 + 5 * k + 3) : dyF w wi ra i q = w q := by
  induction i with
  | zero => rfl
  | succ i ih => exact (pk_un (h i)).trans ih
abbrev kDay (wi ra : Int32) : Prop := gI wi (nI 0) (nI 9) ∧ gI ra (nI 0) (nI 9)
def gDay (w : Nat → Int32) (wi ra : Int32) (ns : Nat) : Nat → Int32 := upd (upd (dyF w wi ra ns) 4 ra) 5 (upd (dyF w wi ra ns) 4 ra 5 + nI 1)
def rDay (w : Nat → Int32) (wi ra : Int32) (ns : Nat) : Int32 := if kDay wi ra then fDryN (gDay w wi ra ns) ns else -1
def eyF (w : Nat → Int32) : Nat → Nat → Int32
  | 0 => w
  | i + 1 => upd (eyF w i) (24 + 7 * nx (eyF w i (76 + 5 * i + 1)) + 6) (eyF w i (24 + 7 * nx (eyF w i (76 + 5 * i + 1)) + 6) + eyF w i (76 + 5 * i + 2))
def eyS (w : Nat → Int32) : Nat → Int32
  | 0 => nI 0
  | i + 1 => eyS w i + eyF w i (76 + 5 * i + 2)
def zrF (w : Nat → Int32) : Nat → Nat → Int32
  | 0 => w
  | i + 1 => upd (zrF w i) (52 + i) (nI 0)
abbrev kEnd (w : Nat → Int32) : Prop := ¬ w 0 = nI 999
def gEnd (w : Nat → Int32) (ns : Nat) : Nat → Int32 := upd (upd (zrF (upd (eyF w ns) 3 (nI 0)) 24) 4 (nI 0)) 0 (upd (zrF (upd (eyF w ns) 3 (nI 0)) 24) 4 (nI 0) 0 + nI 1)
def rEnd (w : Nat → Int32) (ns : Nat) : Int32 := if kEnd w then eyS w ns else -2
theorem eyF_o {w : Nat → Int32} {nh nb ns : Nat} (I : Iv w nh nb ns) : ∀ i, i ≤ ns → ∀ q, (q < 24 ∨ 52 ≤ q) → eyF w i q = w q := by
  intro i
  induction i with
  | zero => intro _ q _; rfl
  | succ i ih =>
    intro hi q hq
    obtain ⟨o, b, t, we, tn, h1, h2, h3, h4, h5, h6, e0, e1, e2, e3, e4⟩ := I.2.2.2.2.2.2.2.2.1 i (by omega)
    have hb4 := I.1.2.1
    have e5 : nx (eyF w i (76 + 5 * i + 1)) = b := by rw [ih (by omega) _ (by omega), e1]; exact nx_nI (by omega)
    show upd _ _ _ q = _
    rw [e5, pk_un (by omega)]
    exact ih (by omega) q hq
def tkF (w : Nat → Int32) (sl : Nat) : Nat → Nat → Int32
  | 0 => w
  | i + 1 => upd (tkF w sl i) (138 + 136 * sl + i) (tkF w sl i i)
abbrev kTake (x : Int32) : Prop := gI x (nI 0) (nI 1)
def gTake (w : Nat → Int32) (x : Int32) : Nat → Int32 := upd (tkF w (nx x) 136) (136 + nx x) (nI 1)
def rTake (w : Nat → Int32) (x : Int32) : Int32 := if kTake x then gTake w x 0 else -1
def rsF (w : Nat → Int32) (sl : Nat) : Nat → Nat → Int32
  | 0 => w
  | i + 1 => upd (rsF w sl i) i (rsF w sl i (138 + 136 * sl + i))
abbrev kRes (w : Nat → Int32) (x : Int32) : Prop := gI x (nI 0) (nI 1) ∧ ¬ w (136 + nx x) = 0
def gRes (w : Nat → Int32) (x : Int32) : Nat → Int32 := rsF w (nx x) 136
def rRes (w : Nat → Int32) (x : Int32) : Int32 := if gI x (nI 0) (nI 1) then (if w (136 + nx x) = 0 then -2 else gRes w x 0) else -1
def unF (w pa : Nat → Int32) (np : Nat) : Nat → Nat → Int32
  | 0 => w
  | i + 1 => upd (unF w pa np i) i (pa (410 * np + i))
theorem sT_le (v : Nat → Int32) : ∀ n k, k < n → nx (v (76 + 5 * k + 2)) ≤ sT v n := by
  intro n
  induction n with
  | zero => intro k hk; omega
  | succ n ih =>
    intro k hk
    show _ ≤ sT v n + nx (v (76 + 5 * n + 2))
    by_cases e : k = n
    · subst e; omega
    · have := ih k (by omega); omega
theorem sT_le2 (v : Nat → Int32) : ∀ n k j, k < j → j < n → nx (v (76 + 5 * k + 2)) + nx (v (76 + 5 * j + 2)) ≤ sT v n := by
  intro n
  induction n with
  | zero => intro k j _ hj; omega
  | succ n ih =>
    intro k j hk hj
    show _ ≤ sT v n + nx (v (76 + 5 * n + 2))
    by_cases e : j = n
    · subst e; have := sT_le v j k hk; omega
    · have := ih k j hk (by omega); omega
theorem sC_le (v : Nat → Int32) (B : Nat) (h : ∀ i, i < 24 → nx (v (52 + i)) ≤ B) : ∀ n, n ≤ 24 → sC v n ≤ n * B := by
  intro n
  induction n with
  | zero => intro _; exact Nat.zero_le _
  | succ n ih =>
    intro hn
    have h1 := ih (by omega)
    have h2 := h n (by omega)
    show sC v n + nx (v (52 + n)) ≤ _
    rw [Nat.succ_mul]
    omega
theorem Iv.cB {v : Nat → Int32} {nh nb ns : Nat} (I : Iv v nh nb ns) : sC v 24 ≤ 1080024 := by
  refine sC_le v 45001 (fun i hi => ?_) 24 (Nat.le_refl _)
  obtain ⟨⟨q, q1, q2, q3⟩, -⟩ := I.2.2.2.2.2.2.2.1 (i / 4) (i % 4) (by omega) (by omega)
  rw [show 52 + 4 * (i / 4) + i % 4 = 52 + i by omega] at q3
  rw [q3, nx_nI (by omega)]
  exact q2
theorem Iv.tot {v : Nat → Int32} {nh nb ns j o : Nat} (I : Iv v nh nb ns) (hj : j < ns) (ho : o < ns) (hne : j ≠ o) : nx (v (76 + 5 * j + 2)) + nx (v (76 + 5 * o + 2)) ≤ 1080024 := by
  have h1 := I.2.2.2.2.2.2.2.2.2
  have h2 := I.cB
  rcases Nat.lt_or_ge j o with h | h
  · have := sT_le2 v ns j o h ho; omega
  · have := sT_le2 v ns o j (by omega) hj; omega
theorem Iv.tot1 {v : Nat → Int32} {nh nb ns j : Nat} (I : Iv v nh nb ns) (hj : j < ns) : nx (v (76 + 5 * j + 2)) ≤ 1080024 := by
  have h1 := I.2.2.2.2.2.2.2.2.2
  have h2 := I.cB
  have := sT_le v ns j hj
  omega
set_option maxRecDepth 100000 in
set_option maxHeartbeats 4000000 in
theorem c_X7_join (l : Launch) (E : pE) (m : Nat) (w pa he te re : Nat → Int32) (np : Nat) (rr : Bool) (ty at_ st ki co : Int32) (x y : Int32) (nh nb ns : Nat) : pC l E yX7_join cX7_join 7 (some .int) { frames := 1, cells := 0, slots := 0, locals := 22 } 0 0 [.ref m, .int x, .int y] (fun h _ => MD m w pa he te re (nI np) (bI (rr = true)) ty at_ st ki co h ∧ np ≤ 5 ∧ Iv w nh nb ns) (pFi (mP m w pa he te re np rr ty at_ st ki co (kJoin w x y) (rJoin w x y) (gJoin w x y ns))) := by
  refine pC_of (by decide) (by simp [Value.category]) (Nat.le_of_ble_eq_true rfl) ?_
  intro h z hp p__ e__ s__ m__ args__ below__ meth__ c__ X hr hlk hname
  obtain ⟨hM, hnp, I⟩ := hp
  have hM0 := hM
  obtain ⟨M0, M1, M2, M3, M4, M5⟩ := hM0
  obtain ⟨hn6, hb4, hs12, en, eb, es⟩ := I.1
  refine v_aload_n (pc := 0) X (hd := dX7_join_0) (kk := ?_)
  refine v_iload_n (pc := 1) X (hd := dX7_join_1) (kk := ?_)
  refine v_callVp (pc := 2) X (hd := dX7_join_2) (w := wv_X7_72) (hC := c_X7_isStack l E _ _ _ _ _ _ _ _ _ _ _ _ _ _) (hp := by first | assumption | exact trivial) (hb := by first | assumption | exact pset_s _ _ _ | exact (pset_n (by omega)).trans (by assumption)) (kk := ?_)
  refine v_ifeqB (pc := 5) X (tgt := 21) (hd := dX7_join_5) (kt := fun c5 => ?_) (kf := fun c5 => ?_)
  · refine v_iconst (pc := 21) X (v := (-1)) (hd := dX7_join_21) (kk := ?_)
    exact v_endi (pc := 22) X hr hlk (hd := dX7_join_22) (hf := ⟨by unfold rJoin; rw [if_neg (fun q => c5 q.1)], Or.inl ⟨fun q => c5 q.1.1, rfl⟩⟩)
  · refine v_aload_n (pc := 8) X (hd := dX7_join_8) (kk := ?_)
    refine v_iload_n (pc := 9) X (hd := dX7_join_9) (kk := ?_)
    refine v_callVp (pc := 10) X (hd := dX7_join_10) (w := wv_X7_72) (hC := c_X7_isStack l E _ _ _ _ _ _ _ _ _ _ _ _ _ _) (hp := by first | assumption | exact trivial) (hb := by first | assumption | exact pset_s _ _ _ | exact (pset_n (by omega)).trans (by assumption)) (kk := ?_)
    refine v_ifeqB (pc := 13) X (tgt := 21) (hd := dX7_join_13) (kt := fun c13 => ?_) (kf := fun c13 => ?_)
    · refine v_iconst (pc := 21) X (v := (-1)) (hd := dX7_join_21) (kk := ?_)
      exact v_endi (pc := 22) X hr hlk (hd := dX7_join_22) (hf := ⟨by unfold rJoin; rw [if_neg (fun q => c13 q.2.1)], Or.inl ⟨fun q => c13 q.1.2.1, rfl⟩⟩)
    · refine v_iload_n (pc := 16) X (hd := dX7_join_16) (kk := ?_)
      refine v_iload_n (pc := 17) X (hd := dX7_join_17) (kk := ?_)
      refine v_icmpne (pc := 18) X (tgt := 23) (hd := dX7_join_18) (kt := fun c18 => ?_) (kf := fun c18 => ?_)
      · obtain ⟨j, hj, rfl, ej⟩ := gH_j es (by omega) c5
        obtain ⟨o, ho, rfl, eo⟩ := gH_j es (by omega) c13
        obtain ⟨o1, b1, t1, we1, tn1, s1, s2, s3, s4, s5, s6, u0, u1, u2, u3, u4⟩ := I.2.2.2.2.2.2.2.2.1 j hj
        obtain ⟨o2, b2, t2, we2, tn2, z1, z2, z3, z4, z5, z6, y0, y1, y2, y3, y4⟩ := I.2.2.2.2.2.2.2.2.1 o ho
        have hTT := I.tot hj ho (fun q => c18 (by rw [q]))
        rw [u2, y2, nx_nI s4, nx_nI z4] at hTT
        refine v_aload_n (pc := 23) X (hd := dX7_join_23) (kk := ?_)
        refine v_iload_n (pc := 24) X (hd := dX7_join_24) (kk := ?_)
        refine v_iconst (pc := 25) X (v := nI 0) (hd := dX7_join_25) (kk := ?_)
        refine v_callVp (pc := 26) X (hd := dX7_join_26) (w := wv_X7_75) (hC := c_X7_inStack l E _ _ _ _ _ _ _ _ _ _ _ _ _ (j) 0) (hp := ⟨hM, by omega⟩) (hb := by first | assumption | exact pset_s _ _ _ | exact (pset_n (by omega)).trans (by assumption)) (kk := ?_)
        refine v_aload_n (pc := 29) X (hd := dX7_join_29) (kk := ?_)
        refine v_iload_n (pc := 30) X (hd := dX7_join_30) (kk := ?_)
        refine v_iconst (pc := 31) X (v := nI 0) (hd := dX7_join_31) (kk := ?_)
        refine v_callVp (pc := 32) X (hd := dX7_join_32) (w := wv_X7_75) (hC := c_X7_inStack l E _ _ _ _ _ _ _ _ _ _ _ _ _ (o) 0) (hp := ⟨hM, by omega⟩) (hb := by first | assumption | exact pset_s _ _ _ | exact (pset_n (by omega)).trans (by assumption)) (kk := ?_)
        refine v_icmpne (pc := 35) X (tgt := 53) (hd := dX7_join_35) (kt := fun c35 => ?_) (kf := fun c35 => ?_)
        · refine v_bipush (pc := 53) X (v := (-2)) (hd := dX7_join_53) (kk := ?_)
          exact v_endi (pc := 55) X hr hlk (hd := dX7_join_55) (hf := ⟨by unfold rJoin; rw [if_pos ⟨c5, c13, c18⟩, ej, eo, if_neg (fun q => c35 q.1)], Or.inl ⟨fun q => c35 (by have := q.2.1; rw [ej, eo] at this; exact this), rfl⟩⟩)
        · refine v_aload_n (pc := 38) X (hd := dX7_join_38) (kk := ?_)
          refine v_iload_n (pc := 39) X (hd := dX7_join_39) (kk := ?_)
          refine v_iconst (pc := 40) X (v := nI 1) (hd := dX7_join_40) (kk := ?_)
          refine v_callVp (pc := 41) X (hd := dX7_join_41) (w := wv_X7_75) (hC := c_X7_inStack l E _ _ _ _ _ _ _ _ _ _ _ _ _ (j) 1) (hp := ⟨hM, by omega⟩) (hb := by first | assumption | exact pset_s _ _ _ | exact (pset_n (by omega)).trans (by assumption)) (kk := ?_)
          refine v_aload_n (pc := 44) X (hd := dX7_join_44) (kk := ?_)
          refine v_iload_n (pc := 45) X (hd := dX7_join_45) (kk := ?_)
          refine v_iconst (pc := 46) X (v := nI 1) (hd := dX7_join_46) (kk := ?_)
          refine v_callVp (pc := 47) X (hd := dX7_join_47) (w := wv_X7_75) (hC := c_X7_inStack l E _ _ _ _ _ _ _ _ _ _ _ _ _ (o) 1) (hp := ⟨hM, by omega⟩) (hb := by first | assumption | exact pset_s _ _ _ | exact (pset_n (by omega)).trans (by assumption)) (kk := ?_)
          refine v_icmpeq (pc := 50) X (tgt := 56) (hd := dX7_join_50) (kt := fun c50 => ?_) (kf := fun c50 => ?_)
          · refine v_aload_n (pc := 56) X (hd := dX7_join_56) (kk := ?_)
            refine v_callVv (pc := 57) X (hd := dX7_join_57) (w := wv_X7_37) (hC := c_X7_acts l E _ _ _ _ _ _ _ _ _ _ _ _ _) (hp := ⟨hM, hnp⟩) (hb := by first | assumption | exact pset_s _ _ _ | exact (pset_n (by omega)).trans (by assumption)) (kk := fun h57 q57 => ?_)
            obtain ⟨hM1, hO1⟩ := q57
            have hM2 := hM1
            obtain ⟨N0, N1, N2, N3, N4, N5⟩ := hM2
            refine v_bipush (pc := 60) X (v := nI 76) (hd := dX7_join_60) (kk := ?_)
            refine v_iconst (pc := 62) X (v := nI 5) (hd := dX7_join_62) (kk := ?_)
            refine v_iload_n (pc := 63) X (hd := dX7_join_63) (kk := ?_)
            refine v_imul (pc := 64) X (hd := dX7_join_64) (kk := ?_)
            refine v_iadd (pc := 65) X (hd := dX7_join_65) (kk := ?_)
            refine v_istore_n (pc := 66) X (hd := dX7_join_66) (kk := ?_)
            refine v_aload_n (pc := 67) X (hd := dX7_join_67) (kk := ?_)
            refine v_iload_n (pc := 68) X (hd := dX7_join_68) (kk := ?_)
            refine v_iconst (pc := 69) X (v := nI 2) (hd := dX7_join_69) (kk := ?_)
            refine v_callVp (pc := 70) X (hd := dX7_join_70) (w := wv_X7_75) (hC := c_X7_inStack l E _ _ _ _ _ _ _ _ _ _ _ _ _ (j) 2) (hp := ⟨hM1, by omega⟩) (hb := by first | assumption | exact pset_s _ _ _ | exact (pset_n (by omega)).trans (by assumption)) (kk := ?_)
            refine v_aload_n (pc := 73) X (hd := dX7_join_73) (kk := ?_)
            refine v_iload_n (pc := 74) X (hd := dX7_join_74) (kk := ?_)
            refine v_iconst (pc := 75) X (v := nI 2) (hd := dX7_join_75) (kk := ?_)
            refine v_callVp (pc := 76) X (hd := dX7_join_76) (w := wv_X7_75) (hC := c_X7_inStack l E _ _ _ _ _ _ _ _ _ _ _ _ _ (o) 2) (hp := ⟨hM1, by omega⟩) (hb := by first | assumption | exact pset_s _ _ _ | exact (pset_n (by omega)).trans (by assumption)) (kk := ?_)
            refine v_iadd (pc := 79) X (hd := dX7_join_79) (kk := ?_)
            refine v_istore (pc := 80) X (hd := dX7_join_80) (kk := ?_)
            refine v_aload_n (pc := 82) X (hd := dX7_join_82) (kk := ?_)
            refine v_iload_n (pc := 83) X (hd := dX7_join_83) (kk := ?_)
            refine v_iconst (pc := 84) X (v := nI 3) (hd := dX7_join_84) (kk := ?_)
            refine v_callVp (pc := 85) X (hd := dX7_join_85) (w := wv_X7_75) (hC := c_X7_inStack l E _ _ _ _ _ _ _ _ _ _ _ _ _ (j) 3) (hp := ⟨hM1, by omega⟩) (hb := by first | assumption | exact pset_s _ _ _ | exact (pset_n (by omega)).trans (by assumption)) (kk := ?_)
            refine v_i2l (pc := 88) X (hd := dX7_join_88) (kk := ?_)
            refine v_aload_n (pc := 89) X (hd := dX7_join_89) (kk := ?_)
            refine v_iload_n (pc := 90) X (hd := dX7_join_90) (kk := ?_)
            refine v_iconst (pc := 91) X (v := nI 2) (hd := dX7_join_91) (kk := ?_)
            refine v_callVp (pc := 92) X (hd := dX7_join_92) (w := wv_X7_75) (hC := c_X7_inStack l E _ _ _ _ _ _ _ _ _ _ _ _ _ (j) 2) (hp := ⟨hM1, by omega⟩) (hb := by first | assumption | exact pset_s _ _ _ | exact (pset_n (by omega)).trans (by assumption)) (kk := ?_)
            refine v_i2l (pc := 95) X (hd := dX7_join_95) (kk := ?_)
            refine v_lmul (pc := 96) X (hd := dX7_join_96) (kk := ?_)
            refine v_aload_n (pc := 97) X (hd := dX7_join_97) (kk := ?_)
            refine v_iload_n (pc := 98) X (hd := dX7_join_98) (kk := ?_)
            refine v_iconst (pc := 99) X (v := nI 3) (hd := dX7_join_99) (kk := ?_)
            refine v_callVp (pc := 100) X (hd := dX7_join_100) (w := wv_X7_75) (hC := c_X7_inStack l E _ _ _ _ _ _ _ _ _ _ _ _ _ (o) 3) (hp := ⟨hM1, by omega⟩) (hb := by first | assumption | exact pset_s _ _ _ | exact (pset_n (by omega)).trans (by assumption)) (kk := ?_)
            refine v_i2l (pc := 103) X (hd := dX7_join_103) (kk := ?_)
            refine v_aload_n (pc := 104) X (hd := dX7_join_104) (kk := ?_)
            refine v_iload_n (pc := 105) X (hd := dX7_join_105) (kk := ?_)
            refine v_iconst (pc := 106) X (v := nI 2) (hd := dX7_join_106) (kk := ?_)
            refine v_callVp (pc := 107) X (hd := dX7_join_107) (w := wv_X7_75) (hC := c_X7_inStack l E _ _ _ _ _ _ _ _ _ _ _ _ _ (o) 2) (hp := ⟨hM1, by omega⟩) (hb := by first | assumption | exact pset_s _ _ _ | exact (pset_n (by omega)).trans (by assumption)) (kk := ?_)
            refine v_i2l (pc := 110) X (hd := dX7_join_110) (kk := ?_)
            refine v_lmul (pc := 111) X (hd := dX7_join_111) (kk := ?_)
            refine v_ladd (pc := 112) X (hd := dX7_join_112) (kk := ?_)
            refine v_lstore (pc := 113) X (hd := dX7_join_113) (kk := ?_)
            refine v_aload_n (pc := 115) X (hd := dX7_join_115) (kk := ?_)
            refine g_X7_7 (pc := 116) X (hd := dX7_join_116) (hh := by first | assumption | exact pset_s _ _ _ | exact (pset_n (by omega)).trans (by assumption)) (kk := ?_)
            refine v_iload_n (pc := 119) X (hd := dX7_join_119) (kk := ?_)
            refine v_iconst (pc := 120) X (v := nI 2) (hd := dX7_join_120) (kk := ?_)
            refine v_iadd (pc := 121) X (hd := dX7_join_121) (kk := ?_)
            refine v_iload (pc := 122) X (hd := dX7_join_122) (kk := ?_)
            refine v_iastN (pc := 124) X (j := (76 + 5 * o + 2)) (hd := dX7_join_124) (hh := by first | assumption | exact pset_s _ _ _ | exact (pset_n (by omega)).trans (by assumption)) (hi := by first | rfl | (simp only [pk_mul, nI_add]; done)) (hj := by omega) (kk := ?_)
            refine v_aload_n (pc := 125) X (hd := dX7_join_125) (kk := ?_)
            refine g_X7_7 (pc := 126) X (hd := dX7_join_126) (hh := by first | assumption | exact pset_s _ _ _ | exact (pset_n (by omega)).trans (by assumption)) (kk := ?_)
            refine v_iload_n (pc := 129) X (hd := dX7_join_129) (kk := ?_)
            refine v_iconst (pc := 130) X (v := nI 3) (hd := dX7_join_130) (kk := ?_)
            refine v_iadd (pc := 131) X (hd := dX7_join_131) (kk := ?_)
            refine v_lload (pc := 132) X (hd := dX7_join_132) (kk := ?_)
            refine v_iload (pc := 134) X (hd := dX7_join_134) (kk := ?_)
            refine v_i2l (pc := 136) X (hd := dX7_join_136) (kk := ?_)
            refine v_ladd (pc := 137) X (hd := dX7_join_137) (kk := ?_)
            refine v_lconst (pc := 138) X (v := lN 1) (hd := dX7_join_138) (kk := ?_)
            refine v_lsub (pc := 139) X (hd := dX7_join_139) (kk := ?_)
            refine v_iload (pc := 140) X (hd := dX7_join_140) (kk := ?_)
            refine v_i2l (pc := 142) X (hd := dX7_join_142) (kk := ?_)
            refine v_ldiv (pc := 143) X (hd := dX7_join_143) (hne := by rw [u2, y2, nI_add, nI_l (by omega)]; exact fun q => by have := (lN_eq (a := t1 + t2) (b := 0) (by omega) (by omega)).mp q; omega) (kk := ?_)
            refine v_l2i (pc := 144) X (hd := dX7_join_144) (kk := ?_)
            refine v_iastN (pc := 145) X (j := (76 + 5 * o + 3)) (hd := dX7_join_145) (hh := by first | assumption | exact pset_s _ _ _ | exact (pset_n (by omega)).trans (by assumption)) (hi := by first | rfl | (simp only [pk_mul, nI_add]; done)) (hj := by omega) (kk := ?_)
            rw [pset_pset]
            refine v_aload_n (pc := 146) X (hd := dX7_join_146) (kk := ?_)
            refine g_X7_7 (pc := 147) X (hd := dX7_join_147) (hh := by first | assumption | exact pset_s _ _ _ | exact (pset_n (by omega)).trans (by assumption)) (kk := ?_)
            refine v_iload_n (pc := 150) X (hd := dX7_join_150) (kk := ?_)
            refine v_iconst (pc := 151) X (v := nI 4) (hd := dX7_join_151) (kk := ?_)
            refine v_iadd (pc := 152) X (hd := dX7_join_152) (kk := ?_)
            refine v_aload_n (pc := 153) X (hd := dX7_join_153) (kk := ?_)
            refine v_iload_n (pc := 154) X (hd := dX7_join_154) (kk := ?_)
            refine v_iconst (pc := 155) X (v := nI 4) (hd := dX7_join_155) (kk := ?_)
            refine v_callVp (pc := 156) X (hd := dX7_join_156) (w := wv_X7_75) (hC := c_X7_inStack l E _ _ _ _ _ _ _ _ _ _ _ _ _ (j) 4) (hp := ⟨(hM1.sw _), by omega⟩) (hb := by first | assumption | exact pset_s _ _ _ | exact (pset_n (by omega)).trans (by assumption)) (kk := ?_)
            refine v_aload_n (pc := 159) X (hd := dX7_join_159) (kk := ?_)
            refine v_iload_n (pc := 160) X (hd := dX7_join_160) (kk := ?_)
            refine v_iconst (pc := 161) X (v := nI 4) (hd := dX7_join_161) (kk := ?_)
            refine v_callVp (pc := 162) X (hd := dX7_join_162) (w := wv_X7_75) (hC := c_X7_inStack l E _ _ _ _ _ _ _ _ _ _ _ _ _ (o) 4) (hp := ⟨(hM1.sw _), by omega⟩) (hb := by first | assumption | exact pset_s _ _ _ | exact (pset_n (by omega)).trans (by assumption)) (kk := ?_)
            refine v_icmpge (pc := 165) X (tgt := 177) (hd := dX7_join_165) (kt := fun c165 => ?_) (kf := fun c165 => ?_)
            · refine v_aload_n (pc := 177) X (hd := dX7_join_177) (kk := ?_)
              refine v_iload_n (pc := 178) X (hd := dX7_join_178) (kk := ?_)
              refine v_iconst (pc := 179) X (v := nI 4) (hd := dX7_join_179) (kk := ?_)
              refine v_callVp (pc := 180) X (hd := dX7_join_180) (w := wv_X7_75) (hC := c_X7_inStack l E _ _ _ _ _ _ _ _ _ _ _ _ _ (o) 4) (hp := ⟨(hM1.sw _), by omega⟩) (hb := by first | assumption | exact pset_s _ _ _ | exact (pset_n (by omega)).trans (by assumption)) (kk := ?_)
              refine v_iastN (pc := 183) X (j := (76 + 5 * o + 4)) (hd := dX7_join_183) (hh := by first | assumption | exact pset_s _ _ _ | exact (pset_n (by omega)).trans (by assumption)) (hi := by first | rfl | (simp only [pk_mul, nI_add]; done)) (hj := by omega) (kk := ?_)
              rw [pset_pset]
              refine v_aload_n (pc := 184) X (hd := dX7_join_184) (kk := ?_)
              refine v_iload_n (pc := 185) X (hd := dX7_join_185) (kk := ?_)
              refine v_callVv (pc := 186) X (hd := dX7_join_186) (w := wv_X7_78) (hC := c_X7_goes l E _ _ _ _ _ _ _ _ _ _ _ _ _ j ns) (hp := ⟨hM1.sw _, hj, hs12, ((pk_un (by omega)).trans ((pk_un (by omega)).trans ((pk_un (by omega)).trans es)))⟩) (hb := by first | assumption | exact pset_s _ _ _ | exact (pset_n (by omega)).trans (by assumption)) (kk := fun h186 q186 => ?_)
              refine v_iload (pc := 189) X (hd := dX7_join_189) (kk := ?_)
              exact v_endi (pc := 191) X hr hlk (hd := dX7_join_191) (hf := ⟨by unfold rJoin; rw [if_pos ⟨c5, c13, c18⟩, ej, eo, if_pos ⟨Classical.not_not.mp c35, c50⟩], Or.inr ⟨⟨⟨c5, c13, c18⟩, by rw [ej, eo]; exact ⟨Classical.not_not.mp c35, c50⟩⟩, by unfold gJoin; rw [ej, eo, show joC w j o = _ from (congrArg (upd (joB w j o) (76 + 5 * o + 4)) (if_neg (by have := c165; rw [n_le] at this; rw [n_lt]; exact Int.not_lt.mpr this)))]; exact ⟨q186.1, (hO1.set (by omega) (by omega)).tr q186.2⟩⟩⟩)
            · refine v_aload_n (pc := 168) X (hd := dX7_join_168) (kk := ?_)
              refine v_iload_n (pc := 169) X (hd := dX7_join_169) (kk := ?_)
              refine v_iconst (pc := 170) X (v := nI 4) (hd := dX7_join_170) (kk := ?_)
              refine v_callVp (pc := 171) X (hd := dX7_join_171) (w := wv_X7_75) (hC := c_X7_inStack l E _ _ _ _ _ _ _ _ _ _ _ _ _ (j) 4) (hp := ⟨(hM1.sw _), by omega⟩) (hb := by first | assumption | exact pset_s _ _ _ | exact (pset_n (by omega)).trans (by assumption)) (kk := ?_)
              refine v_goto (pc := 174) X (tgt := 183) (hd := dX7_join_174) (kk := ?_)
              refine v_iastN (pc := 183) X (j := (76 + 5 * o + 4)) (hd := dX7_join_183) (hh := by first | assumption | exact pset_s _ _ _ | exact (pset_n (by omega)).trans (by assumption)) (hi := by first | rfl | (simp only [pk_mul, nI_add]; done)) (hj := by omega) (kk := ?_)
              rw [pset_pset]
              refine v_aload_n (pc := 184) X (hd := dX7_join_184) (kk := ?_)
              refine v_iload_n (pc := 185) X (hd := dX7_join_185) (kk := ?_)
              refine v_callVv (pc := 186) X (hd := dX7_join_186) (w := wv_X7_78) (hC := c_X7_goes l E _ _ _ _ _ _ _ _ _ _ _ _ _ j ns) (hp := ⟨hM1.sw _, hj, hs12, ((pk_un (by omega)).trans ((pk_un (by omega)).trans ((pk_un (by omega)).trans es)))⟩) (hb := by first | assumption | exact pset_s _ _ _ | exact (pset_n (by omega)).trans (by assumption)) (kk := fun h186 q186 => ?_)
              refine v_iload (pc := 189) X (hd := dX7_join_189) (kk := ?_)
              exact v_endi (pc := 191) X hr hlk (hd := dX7_join_191) (hf := ⟨by unfold rJoin; rw [if_pos ⟨c5, c13, c18⟩, ej, eo, if_pos ⟨Classical.not_not.mp c35, c50⟩], Or.inr ⟨⟨⟨c5, c13, c18⟩, by rw [ej, eo]; exact ⟨Classical.not_not.mp c35, c50⟩⟩, by unfold gJoin; rw [ej, eo, show joC w j o = _ from (congrArg (upd (joB w j o) (76 + 5 * o + 4)) (if_pos (n_nle c165)))]; exact ⟨q186.1, (hO1.set (by omega) (by omega)).tr q186.2⟩⟩⟩)
          · refine v_bipush (pc := 53) X (v := (-2)) (hd := dX7_join_53) (kk := ?_)
            exact v_endi (pc := 55) X hr hlk (hd := dX7_join_55) (hf := ⟨by unfold rJoin; rw [if_pos ⟨c5, c13, c18⟩, ej, eo, if_neg (fun q => c50 q.2)], Or.inl ⟨fun q => c50 (by have := q.2.2; rw [ej, eo] at this; exact this), rfl⟩⟩)
      · have c18 := c18
        refine v_iconst (pc := 21) X (v := (-1)) (hd := dX7_join_21) (kk := ?_)
        exact v_endi (pc := 22) X hr hlk (hd := dX7_join_22) (hf := ⟨by unfold rJoin; rw [if_neg (fun q => c18 q.2.2)], Or.inl ⟨fun q => c18 q.1.2.2, rfl⟩⟩)
set_option maxRecDepth 100000 in
set_option maxHeartbeats 4000000 in
theorem c_X7_cart (l : Launch) (E : pE) (m : Nat) (w pa he te re : Nat → Int32) (np : Nat) (rr : Bool) (ty at_ st ki co : Int32) (x t : Int32) (nh nb ns : Nat) : pC l E yX7_cart cX7_cart 5 (some .int) { frames := 3, cells := 0, slots := 0, locals := 65 } 0 0 [.ref m, .int x, .int t] (fun h _ => MD m w pa he te re (nI np) (bI (rr = true)) ty at_ st ki co h ∧ np ≤ 5 ∧ Iv w nh nb ns) (pFi (mP m w pa he te re np rr ty at_ st ki co (kCart w x t) (rCart w x t) (hCart w x t ns))) := by
  refine pC_of (by decide) (by simp [Value.category]) (Nat.le_of_ble_eq_true rfl) ?_
  intro h z hp p__ e__ s__ m__ args__ below__ meth__ c__ X hr hlk hname
  obtain ⟨hM, hnp, I⟩ := hp
  have hM0 := hM
  obtain ⟨M0, M1, M2, M3, M4, M5⟩ := hM0
  obtain ⟨hn6, hb4, hs12, en, eb, es⟩ := I.1
  refine v_aload_n (pc := 0) X (hd := dX7_cart_0) (kk := ?_)
  refine v_iload_n (pc := 1) X (hd := dX7_cart_1) (kk := ?_)
  refine v_callVp (pc := 2) X (hd := dX7_cart_2) (w := wv_X7_72) (hC := c_X7_isStack l E _ _ _ _ _ _ _ _ _ _ _ _ _ _) (hp := by first | assumption | exact trivial) (hb := by first | assumption | exact pset_s _ _ _ | exact (pset_n (by omega)).trans (by assumption)) (kk := ?_)
  refine v_ifeqB (pc := 5) X (tgt := 19) (hd := dX7_cart_5) (kt := fun c5 => ?_) (kf := fun c5 => ?_)
  · refine v_iconst (pc := 19) X (v := (-1)) (hd := dX7_cart_19) (kk := ?_)
    exact v_endi (pc := 20) X hr hlk (hd := dX7_cart_20) (hf := ⟨by unfold rCart; rw [if_neg (fun q => c5 q.1)], Or.inl ⟨fun q => c5 q.1.1, rfl⟩⟩)
  · refine v_iload_n (pc := 8) X (hd := dX7_cart_8) (kk := ?_)
    refine v_iconst (pc := 9) X (v := nI 1) (hd := dX7_cart_9) (kk := ?_)
    refine v_sipush (pc := 10) X (v := nI 1000) (hd := dX7_cart_10) (kk := ?_)
    refine v_callSp (pc := 13) X (hd := dX7_cart_13) (w := wv_X7_33) (hC := c_X7_in l E _ _ _) (hp := by first | assumption | exact trivial) (kk := ?_)
    refine v_ifneB (pc := 16) X (tgt := 21) (hd := dX7_cart_16) (kt := fun c16 => ?_) (kf := fun c16 => ?_)
    · obtain ⟨j, hj, rfl, ej⟩ := gH_j es (by omega) c5
      obtain ⟨o, b, t1, we1, tn1, s1, s2, s3, s4, s5, s6, e0, e1, e2, e3, e4⟩ := I.2.2.2.2.2.2.2.2.1 j hj
      have eb1 : nx (nI b) = b := nx_nI (by omega)
      have eo1 : nx (nI o) = o := nx_nI (by omega)
      refine v_aload_n (pc := 21) X (hd := dX7_cart_21) (kk := ?_)
      refine v_iload_n (pc := 22) X (hd := dX7_cart_22) (kk := ?_)
      refine v_iload_n (pc := 23) X (hd := dX7_cart_23) (kk := ?_)
      refine v_callVp (pc := 24) X (hd := dX7_cart_24) (w := wv_X7_85) (hC := c_X7_load l E _ _ _ _ _ _ _ _ _ _ _ _ _ j _) (hp := ⟨hM, by omega⟩) (hb := by first | assumption | exact pset_s _ _ _ | exact (pset_n (by omega)).trans (by assumption)) (kk := ?_)
      refine v_istore_n (pc := 27) X (hd := dX7_cart_27) (kk := ?_)
      refine v_aload_n (pc := 28) X (hd := dX7_cart_28) (kk := ?_)
      refine v_iload_n (pc := 29) X (hd := dX7_cart_29) (kk := ?_)
      refine v_iconst (pc := 30) X (v := nI 1) (hd := dX7_cart_30) (kk := ?_)
      refine v_callVp (pc := 31) X (hd := dX7_cart_31) (w := wv_X7_75) (hC := c_X7_inStack l E _ _ _ _ _ _ _ _ _ _ _ _ _ (j) 1) (hp := ⟨hM, by omega⟩) (hb := by first | assumption | exact pset_s _ _ _ | exact (pset_n (by omega)).trans (by assumption)) (kk := ?_)
      rw [e1]
      refine v_istore (pc := 34) X (hd := dX7_cart_34) (kk := ?_)
      refine v_aload_n (pc := 36) X (hd := dX7_cart_36) (kk := ?_)
      refine v_iload_n (pc := 37) X (hd := dX7_cart_37) (kk := ?_)
      refine v_iconst (pc := 38) X (v := nI 2) (hd := dX7_cart_38) (kk := ?_)
      refine v_callVp (pc := 39) X (hd := dX7_cart_39) (w := wv_X7_75) (hC := c_X7_inStack l E _ _ _ _ _ _ _ _ _ _ _ _ _ (j) 2) (hp := ⟨hM, by omega⟩) (hb := by first | assumption | exact pset_s _ _ _ | exact (pset_n (by omega)).trans (by assumption)) (kk := ?_)
      refine v_iload_n (pc := 42) X (hd := dX7_cart_42) (kk := ?_)
      refine v_icmplt (pc := 43) X (tgt := 56) (hd := dX7_cart_43) (kt := fun c43 => ?_) (kf := fun c43 => ?_)
      · refine v_bipush (pc := 56) X (v := (-2)) (hd := dX7_cart_56) (kk := ?_)
        exact v_endi (pc := 58) X hr hlk (hd := dX7_cart_58) (hf := ⟨by unfold rCart; rw [if_pos ⟨c5, c16⟩, ej, e1, eb1, if_neg (fun q => q.1 c43)], Or.inl ⟨fun q => by have := q.2.1; rw [ej] at this; exact this c43, rfl⟩⟩)
      · refine v_iload_n (pc := 46) X (hd := dX7_cart_46) (kk := ?_)
        refine v_aload_n (pc := 47) X (hd := dX7_cart_47) (kk := ?_)
        refine v_iload (pc := 48) X (hd := dX7_cart_48) (kk := ?_)
        refine v_callVp (pc := 50) X (hd := dX7_cart_50) (w := wv_X7_88) (hC := c_X7_bears l E _ _ _ _ _ _ _ _ _ _ _ _ _ b) (hp := ⟨hM, by omega⟩) (hb := by first | assumption | exact pset_s _ _ _ | exact (pset_n (by omega)).trans (by assumption)) (kk := ?_)
        refine v_icmple (pc := 53) X (tgt := 59) (hd := dX7_cart_53) (kt := fun c53 => ?_) (kf := fun c53 => ?_)
        · refine v_aload_n (pc := 59) X (hd := dX7_cart_59) (kk := ?_)
          refine v_callVv (pc := 60) X (hd := dX7_cart_60) (w := wv_X7_37) (hC := c_X7_acts l E _ _ _ _ _ _ _ _ _ _ _ _ _) (hp := ⟨hM, hnp⟩) (hb := by first | assumption | exact pset_s _ _ _ | exact (pset_n (by omega)).trans (by assumption)) (kk := fun h60 q60 => ?_)
          obtain ⟨hM1, hO1⟩ := q60
          have hM2 := hM1
          obtain ⟨N0, N1, N2, N3, N4, N5⟩ := hM2
          refine v_aload_n (pc := 63) X (hd := dX7_cart_63) (kk := ?_)
          refine g_X7_7 (pc := 64) X (hd := dX7_cart_64) (hh := by first | assumption | exact pset_s _ _ _ | exact (pset_n (by omega)).trans (by assumption)) (kk := ?_)
          refine v_bipush (pc := 67) X (v := nI 24) (hd := dX7_cart_67) (kk := ?_)
          refine v_bipush (pc := 69) X (v := nI 7) (hd := dX7_cart_69) (kk := ?_)
          refine v_iload (pc := 71) X (hd := dX7_cart_71) (kk := ?_)
          refine v_imul (pc := 73) X (hd := dX7_cart_73) (kk := ?_)
          refine v_iadd (pc := 74) X (hd := dX7_cart_74) (kk := ?_)
          refine v_iconst (pc := 75) X (v := nI 2) (hd := dX7_cart_75) (kk := ?_)
          refine v_iadd (pc := 76) X (hd := dX7_cart_76) (kk := ?_)
          refine v_dup2 (pc := 77) X (hd := dX7_cart_77) (kk := ?_)
          refine v_ialdN (pc := 78) X (j := (24 + 7 * b + 2)) (hd := dX7_cart_78) (hh := by first | assumption | exact pset_s _ _ _ | exact (pset_n (by omega)).trans (by assumption)) (hi := by first | rfl | (simp only [pk_mul, nI_add]; done)) (hj := by omega) (kk := ?_)
          refine v_iload_n (pc := 79) X (hd := dX7_cart_79) (kk := ?_)
          refine v_bipush (pc := 80) X (v := nI 49) (hd := dX7_cart_80) (kk := ?_)
          refine v_iadd (pc := 82) X (hd := dX7_cart_82) (kk := ?_)
          refine v_bipush (pc := 83) X (v := nI 50) (hd := dX7_cart_83) (kk := ?_)
          refine v_idiv (pc := 85) X (hd := dX7_cart_85) (hne := by decide +kernel) (kk := ?_)
          refine v_iadd (pc := 86) X (hd := dX7_cart_86) (kk := ?_)
          refine v_iastN (pc := 87) X (j := (24 + 7 * b + 2)) (hd := dX7_cart_87) (hh := by first | assumption | exact pset_s _ _ _ | exact (pset_n (by omega)).trans (by assumption)) (hi := by first | rfl | (simp only [pk_mul, nI_add]; done)) (hj := by omega) (kk := ?_)
          refine v_aload_n (pc := 88) X (hd := dX7_cart_88) (kk := ?_)
          refine g_X7_7 (pc := 89) X (hd := dX7_cart_89) (hh := by first | assumption | exact pset_s _ _ _ | exact (pset_n (by omega)).trans (by assumption)) (kk := ?_)
          refine v_bipush (pc := 92) X (v := nI 24) (hd := dX7_cart_92) (kk := ?_)
          refine v_bipush (pc := 94) X (v := nI 7) (hd := dX7_cart_94) (kk := ?_)
          refine v_iload (pc := 96) X (hd := dX7_cart_96) (kk := ?_)
          refine v_imul (pc := 98) X (hd := dX7_cart_98) (kk := ?_)
          refine v_iadd (pc := 99) X (hd := dX7_cart_99) (kk := ?_)
          refine v_iconst (pc := 100) X (v := nI 5) (hd := dX7_cart_100) (kk := ?_)
          refine v_iadd (pc := 101) X (hd := dX7_cart_101) (kk := ?_)
          refine v_dup2 (pc := 102) X (hd := dX7_cart_102) (kk := ?_)
          refine v_ialdN (pc := 103) X (j := (24 + 7 * b + 5)) (hd := dX7_cart_103) (hh := by first | assumption | exact pset_s _ _ _ | exact (pset_n (by omega)).trans (by assumption)) (hi := by first | rfl | (simp only [pk_mul, nI_add]; done)) (hj := by omega) (kk := ?_)
          refine v_iload_n (pc := 104) X (hd := dX7_cart_104) (kk := ?_)
          refine v_iadd (pc := 105) X (hd := dX7_cart_105) (kk := ?_)
          refine v_iastN (pc := 106) X (j := (24 + 7 * b + 5)) (hd := dX7_cart_106) (hh := by first | assumption | exact pset_s _ _ _ | exact (pset_n (by omega)).trans (by assumption)) (hi := by first | rfl | (simp only [pk_mul, nI_add]; done)) (hj := by omega) (kk := ?_)
          rw [pset_pset]
          refine v_aload_n (pc := 107) X (hd := dX7_cart_107) (kk := ?_)
          refine g_X7_7 (pc := 108) X (hd := dX7_cart_108) (hh := by first | assumption | exact pset_s _ _ _ | exact (pset_n (by omega)).trans (by assumption)) (kk := ?_)
          refine v_bipush (pc := 111) X (v := nI 6) (hd := dX7_cart_111) (kk := ?_)
          refine v_iconst (pc := 113) X (v := nI 3) (hd := dX7_cart_113) (kk := ?_)
          refine v_aload_n (pc := 114) X (hd := dX7_cart_114) (kk := ?_)
          refine v_iload_n (pc := 115) X (hd := dX7_cart_115) (kk := ?_)
          refine v_iconst (pc := 116) X (v := nI 0) (hd := dX7_cart_116) (kk := ?_)
          refine v_callVp (pc := 117) X (hd := dX7_cart_117) (w := wv_X7_75) (hC := c_X7_inStack l E _ _ _ _ _ _ _ _ _ _ _ _ _ (j) 0) (hp := ⟨hM1.sw _, by omega⟩) (hb := by first | assumption | exact pset_s _ _ _ | exact (pset_n (by omega)).trans (by assumption)) (kk := ?_)
          refine v_topi (fun y117 e117 => ?_)
          obtain rfl : y117 = nI o := e117.trans ((pk_un (by omega)).trans ((pk_un (by omega)).trans e0))
          refine v_imul (pc := 120) X (hd := dX7_cart_120) (kk := ?_)
          refine v_iadd (pc := 121) X (hd := dX7_cart_121) (kk := ?_)
          refine v_aload_n (pc := 122) X (hd := dX7_cart_122) (kk := ?_)
          refine v_iload_n (pc := 123) X (hd := dX7_cart_123) (kk := ?_)
          refine v_callVp (pc := 124) X (hd := dX7_cart_124) (w := wv_X7_91) (hC := c_X7_isDry l E _ _ _ _ _ _ _ _ _ _ _ _ _ j) (hp := ⟨hM1.sw _, by omega⟩) (hb := by first | assumption | exact pset_s _ _ _ | exact (pset_n (by omega)).trans (by assumption)) (kk := ?_)
          refine v_ifeqB (pc := 127) X (tgt := 134) (hd := dX7_cart_127) (kt := fun c127 => ?_) (kf := fun c127 => ?_)
          · refine v_iconst (pc := 134) X (v := nI 2) (hd := dX7_cart_134) (kk := ?_)
            refine v_iadd (pc := 135) X (hd := dX7_cart_135) (kk := ?_)
            refine v_dup2 (pc := 136) X (hd := dX7_cart_136) (kk := ?_)
            refine v_ialdN (pc := 137) X (j := (6 + 3 * o + 2)) (hd := dX7_cart_137) (hh := by first | assumption | exact pset_s _ _ _ | exact (pset_n (by omega)).trans (by assumption)) (hi := by first | rfl | (simp only [pk_mul, nI_add]; done)) (hj := by omega) (kk := ?_)
            refine v_iload_n (pc := 138) X (hd := dX7_cart_138) (kk := ?_)
            refine v_iadd (pc := 139) X (hd := dX7_cart_139) (kk := ?_)
            refine v_iastN (pc := 140) X (j := (6 + 3 * o + 2)) (hd := dX7_cart_140) (hh := by first | assumption | exact pset_s _ _ _ | exact (pset_n (by omega)).trans (by assumption)) (hi := by first | rfl | (simp only [pk_mul, nI_add]; done)) (hj := by omega) (kk := ?_)
            rw [pset_pset]
            refine v_aload_n (pc := 141) X (hd := dX7_cart_141) (kk := ?_)
            refine g_X7_7 (pc := 142) X (hd := dX7_cart_142) (hh := by first | assumption | exact pset_s _ _ _ | exact (pset_n (by omega)).trans (by assumption)) (kk := ?_)
            refine v_bipush (pc := 145) X (v := nI 76) (hd := dX7_cart_145) (kk := ?_)
            refine v_iconst (pc := 147) X (v := nI 5) (hd := dX7_cart_147) (kk := ?_)
            refine v_iload_n (pc := 148) X (hd := dX7_cart_148) (kk := ?_)
            refine v_imul (pc := 149) X (hd := dX7_cart_149) (kk := ?_)
            refine v_iadd (pc := 150) X (hd := dX7_cart_150) (kk := ?_)
            refine v_iconst (pc := 151) X (v := nI 2) (hd := dX7_cart_151) (kk := ?_)
            refine v_iadd (pc := 152) X (hd := dX7_cart_152) (kk := ?_)
            refine v_dup2 (pc := 153) X (hd := dX7_cart_153) (kk := ?_)
            refine v_ialdN (pc := 154) X (j := (76 + 5 * j + 2)) (hd := dX7_cart_154) (hh := by first | assumption | exact pset_s _ _ _ | exact (pset_n (by omega)).trans (by assumption)) (hi := by first | rfl | (simp only [pk_mul, nI_add]; done)) (hj := by omega) (kk := ?_)
            refine v_iload_n (pc := 155) X (hd := dX7_cart_155) (kk := ?_)
            refine v_isub (pc := 156) X (hd := dX7_cart_156) (kk := ?_)
            refine v_iastN (pc := 157) X (j := (76 + 5 * j + 2)) (hd := dX7_cart_157) (hh := by first | assumption | exact pset_s _ _ _ | exact (pset_n (by omega)).trans (by assumption)) (hi := by first | rfl | (simp only [pk_mul, nI_add]; done)) (hj := by omega) (kk := ?_)
            rw [pset_pset]
            refine v_aload_n (pc := 158) X (hd := dX7_cart_158) (kk := ?_)
            refine v_iload_n (pc := 159) X (hd := dX7_cart_159) (kk := ?_)
            refine v_iconst (pc := 160) X (v := nI 2) (hd := dX7_cart_160) (kk := ?_)
            refine v_callVp (pc := 161) X (hd := dX7_cart_161) (w := wv_X7_75) (hC := c_X7_inStack l E _ _ _ _ _ _ _ _ _ _ _ _ _ (j) 2) (hp := ⟨hM1.sw _, by omega⟩) (hb := by first | assumption | exact pset_s _ _ _ | exact (pset_n (by omega)).trans (by assumption)) (kk := ?_)
            refine v_ifne (pc := 164) X (tgt := 172) (hd := dX7_cart_164) (kt := fun c164 => ?_) (kf := fun c164 => ?_)
            · refine v_iload_n (pc := 172) X (hd := dX7_cart_172) (kk := ?_)
              exact v_endi (pc := 173) X hr hlk (hd := dX7_cart_173) (hf := ⟨by unfold rCart; rw [if_pos ⟨c5, c16⟩, ej, e1, eb1, if_pos ⟨c43, c53⟩], Or.inr ⟨⟨⟨c5, c16⟩, by rw [ej, e1, eb1]; exact ⟨c43, c53⟩⟩, by unfold hCart; rw [ej, e1, e0, eb1, eo1]; unfold gCart; rw [if_neg (show ¬ caB w b (fLoad (w (76 + 5 * j + 3)) t) t (76 + 5 * j + 3) ≤ nI 30000 from c127), if_neg (show ¬ caD w j b o (fLoad (w (76 + 5 * j + 3)) t) t 2 (76 + 5 * j + 2) = 0 from c164)]; exact ⟨hM1.sw _, hO1.set (by omega) (by omega)⟩⟩⟩)
            · refine v_aload_n (pc := 167) X (hd := dX7_cart_167) (kk := ?_)
              refine v_iload_n (pc := 168) X (hd := dX7_cart_168) (kk := ?_)
              refine v_callVv (pc := 169) X (hd := dX7_cart_169) (w := wv_X7_78) (hC := c_X7_goes l E _ _ _ _ _ _ _ _ _ _ _ _ _ j ns) (hp := ⟨hM1.sw _, hj, hs12, ((pk_un (by omega)).trans ((pk_un (by omega)).trans ((pk_un (by omega)).trans ((pk_un (by omega)).trans es))))⟩) (hb := by first | assumption | exact pset_s _ _ _ | exact (pset_n (by omega)).trans (by assumption)) (kk := fun h169 q169 => ?_)
              refine v_iload_n (pc := 172) X (hd := dX7_cart_172) (kk := ?_)
              exact v_endi (pc := 173) X hr hlk (hd := dX7_cart_173) (hf := ⟨by unfold rCart; rw [if_pos ⟨c5, c16⟩, ej, e1, eb1, if_pos ⟨c43, c53⟩], Or.inr ⟨⟨⟨c5, c16⟩, by rw [ej, e1, eb1]; exact ⟨c43, c53⟩⟩, by unfold hCart; rw [ej, e1, e0, eb1, eo1]; unfold gCart; rw [if_neg (show ¬ caB w b (fLoad (w (76 + 5 * j + 3)) t) t (76 + 5 * j + 3) ≤ nI 30000 from c127), if_pos (show caD w j b o (fLoad (w (76 + 5 * j + 3)) t) t 2 (76 + 5 * j + 2) = 0 from Classical.not_not.mp c164)]; exact ⟨q169.1, (hO1.set (by omega) (by omega)).tr q169.2⟩⟩⟩)
          · refine v_iconst (pc := 130) X (v := nI 1) (hd := dX7_cart_130) (kk := ?_)
            refine v_goto (pc := 131) X (tgt := 135) (hd := dX7_cart_131) (kk := ?_)
            refine v_iadd (pc := 135) X (hd := dX7_cart_135) (kk := ?_)
            refine v_dup2 (pc := 136) X (hd := dX7_cart_136) (kk := ?_)
            refine v_ialdN (pc := 137) X (j := (6 + 3 * o + 1)) (hd := dX7_cart_137) (hh := by first | assumption | exact pset_s _ _ _ | exact (pset_n (by omega)).trans (by assumption)) (hi := by first | rfl | (simp only [pk_mul, nI_add]; done)) (hj := by omega) (kk := ?_)
            refine v_iload_n (pc := 138) X (hd := dX7_cart_138) (kk := ?_)
            refine v_iadd (pc := 139) X (hd := dX7_cart_139) (kk := ?_)
            refine v_iastN (pc := 140) X (j := (6 + 3 * o + 1)) (hd := dX7_cart_140) (hh := by first | assumption | exact pset_s _ _ _ | exact (pset_n (by omega)).trans (by assumption)) (hi := by first | rfl | (simp only [pk_mul, nI_add]; done)) (hj := by omega) (kk := ?_)
            rw [pset_pset]
            refine v_aload_n (pc := 141) X (hd := dX7_cart_141) (kk := ?_)
            refine g_X7_7 (pc := 142) X (hd := dX7_cart_142) (hh := by first | assumption | exact pset_s _ _ _ | exact (pset_n (by omega)).trans (by assumption)) (kk := ?_)
            refine v_bipush (pc := 145) X (v := nI 76) (hd := dX7_cart_145) (kk := ?_)
            refine v_iconst (pc := 147) X (v := nI 5) (hd := dX7_cart_147) (kk := ?_)
            refine v_iload_n (pc := 148) X (hd := dX7_cart_148) (kk := ?_)
            refine v_imul (pc := 149) X (hd := dX7_cart_149) (kk := ?_)
            refine v_iadd (pc := 150) X (hd := dX7_cart_150) (kk := ?_)
            refine v_iconst (pc := 151) X (v := nI 2) (hd := dX7_cart_151) (kk := ?_)
            refine v_iadd (pc := 152) X (hd := dX7_cart_152) (kk := ?_)
            refine v_dup2 (pc := 153) X (hd := dX7_cart_153) (kk := ?_)
            refine v_ialdN (pc := 154) X (j := (76 + 5 * j + 2)) (hd := dX7_cart_154) (hh := by first | assumption | exact pset_s _ _ _ | exact (pset_n (by omega)).trans (by assumption)) (hi := by first | rfl | (simp only [pk_mul, nI_add]; done)) (hj := by omega) (kk := ?_)
            refine v_iload_n (pc := 155) X (hd := dX7_cart_155) (kk := ?_)
            refine v_isub (pc := 156) X (hd := dX7_cart_156) (kk := ?_)
            refine v_iastN (pc := 157) X (j := (76 + 5 * j + 2)) (hd := dX7_cart_157) (hh := by first | assumption | exact pset_s _ _ _ | exact (pset_n (by omega)).trans (by assumption)) (hi := by first | rfl | (simp only [pk_mul, nI_add]; done)) (hj := by omega) (kk := ?_)
            rw [pset_pset]
            refine v_aload_n (pc := 158) X (hd := dX7_cart_158) (kk := ?_)
            refine v_iload_n (pc := 159) X (hd := dX7_cart_159) (kk := ?_)
            refine v_iconst (pc := 160) X (v := nI 2) (hd := dX7_cart_160) (kk := ?_)
            refine v_callVp (pc := 161) X (hd := dX7_cart_161) (w := wv_X7_75) (hC := c_X7_inStack l E _ _ _ _ _ _ _ _ _ _ _ _ _ (j) 2) (hp := ⟨hM1.sw _, by omega⟩) (hb := by first | assumption | exact pset_s _ _ _ | exact (pset_n (by omega)).trans (by assumption)) (kk := ?_)
            refine v_ifne (pc := 164) X (tgt := 172) (hd := dX7_cart_164) (kt := fun c164 => ?_) (kf := fun c164 => ?_)
            · refine v_iload_n (pc := 172) X (hd := dX7_cart_172) (kk := ?_)
              exact v_endi (pc := 173) X hr hlk (hd := dX7_cart_173) (hf := ⟨by unfold rCart; rw [if_pos ⟨c5, c16⟩, ej, e1, eb1, if_pos ⟨c43, c53⟩], Or.inr ⟨⟨⟨c5, c16⟩, by rw [ej, e1, eb1]; exact ⟨c43, c53⟩⟩, by unfold hCart; rw [ej, e1, e0, eb1, eo1]; unfold gCart; rw [if_pos (show caB w b (fLoad (w (76 + 5 * j + 3)) t) t (76 + 5 * j + 3) ≤ nI 30000 from c127), if_neg (show ¬ caD w j b o (fLoad (w (76 + 5 * j + 3)) t) t 1 (76 + 5 * j + 2) = 0 from c164)]; exact ⟨hM1.sw _, hO1.set (by omega) (by omega)⟩⟩⟩)
            · refine v_aload_n (pc := 167) X (hd := dX7_cart_167) (kk := ?_)
              refine v_iload_n (pc := 168) X (hd := dX7_cart_168) (kk := ?_)
              refine v_callVv (pc := 169) X (hd := dX7_cart_169) (w := wv_X7_78) (hC := c_X7_goes l E _ _ _ _ _ _ _ _ _ _ _ _ _ j ns) (hp := ⟨hM1.sw _, hj, hs12, ((pk_un (by omega)).trans ((pk_un (by omega)).trans ((pk_un (by omega)).trans ((pk_un (by omega)).trans es))))⟩) (hb := by first | assumption | exact pset_s _ _ _ | exact (pset_n (by omega)).trans (by assumption)) (kk := fun h169 q169 => ?_)
              refine v_iload_n (pc := 172) X (hd := dX7_cart_172) (kk := ?_)
              exact v_endi (pc := 173) X hr hlk (hd := dX7_cart_173) (hf := ⟨by unfold rCart; rw [if_pos ⟨c5, c16⟩, ej, e1, eb1, if_pos ⟨c43, c53⟩], Or.inr ⟨⟨⟨c5, c16⟩, by rw [ej, e1, eb1]; exact ⟨c43, c53⟩⟩, by unfold hCart; rw [ej, e1, e0, eb1, eo1]; unfold gCart; rw [if_pos (show caB w b (fLoad (w (76 + 5 * j + 3)) t) t (76 + 5 * j + 3) ≤ nI 30000 from c127), if_pos (show caD w j b o (fLoad (w (76 + 5 * j + 3)) t) t 1 (76 + 5 * j + 2) = 0 from Classical.not_not.mp c164)]; exact ⟨q169.1, (hO1.set (by omega) (by omega)).tr q169.2⟩⟩⟩)
        · refine v_bipush (pc := 56) X (v := (-2)) (hd := dX7_cart_56) (kk := ?_)
          exact v_endi (pc := 58) X hr hlk (hd := dX7_cart_58) (hf := ⟨by unfold rCart; rw [if_pos ⟨c5, c16⟩, ej, e1, eb1, if_neg (fun q => c53 q.2)], Or.inl ⟨fun q => by have := q.2.2; rw [ej, e1, eb1] at this; exact c53 this, rfl⟩⟩)
    · refine v_iconst (pc := 19) X (v := (-1)) (hd := dX7_cart_19) (kk := ?_)
      exact v_endi (pc := 20) X hr hlk (hd := dX7_cart_20) (hf := ⟨by unfold rCart; rw [if_neg (fun q => c16 q.2)], Or.inl ⟨fun q => c16 q.1.2, rfl⟩⟩)
set_option maxRecDepth 100000 in
set_option maxHeartbeats 4000000 in
theorem c_X7_repair (l : Launch) (E : pE) (m : Nat) (w pa he te re : Nat → Int32) (np : Nat) (rr : Bool) (ty at_ st ki co : Int32) (x : Int32) (nh nb ns : Nat) : pC l E yX7_repair cX7_repair 3 (some .int) { frames := 1, cells := 0, slots := 0, locals := 22 } 0 0 [.ref m, .int x] (fun h _ => MD m w pa he te re (nI np) (bI (rr = true)) ty at_ st ki co h ∧ np ≤ 5 ∧ Iv w nh nb ns) (pFi (mP m w pa he te re np rr ty at_ st ki co (kRep w x) (rRep w x) (gRep w x))) := by
  refine pC_of (by decide) (by simp [Value.category]) (Nat.le_of_ble_eq_true rfl) ?_
  intro h z hp p__ e__ s__ m__ args__ below__ meth__ c__ X hr hlk hname
  obtain ⟨hM, hnp, I⟩ := hp
  have hM0 := hM
  obtain ⟨M0, M1, M2, M3, M4, M5⟩ := hM0
  obtain ⟨hn6, hb4, hs12, en, eb, es⟩ := I.1
  refine v_aload_n (pc := 0) X (hd := dX7_repair_0) (kk := ?_)
  refine v_iload_n (pc := 1) X (hd := dX7_repair_1) (kk := ?_)
  refine v_callVp (pc := 2) X (hd := dX7_repair_2) (w := wv_X7_48) (hC := c_X7_isBank l E _ _ _ _ _ _ _ _ _ _ _ _ _ _) (hp := by first | assumption | exact trivial) (hb := by first | assumption | exact pset_s _ _ _ | exact (pset_n (by omega)).trans (by assumption)) (kk := ?_)
  refine v_ifneB (pc := 5) X (tgt := 10) (hd := dX7_repair_5) (kt := fun c5 => ?_) (kf := fun c5 => ?_)
  · obtain ⟨j, hj, rfl, ej⟩ := gH_j eb (by omega) c5
    refine v_aload_n (pc := 10) X (hd := dX7_repair_10) (kk := ?_)
    refine v_callVv (pc := 11) X (hd := dX7_repair_11) (w := wv_X7_37) (hC := c_X7_acts l E _ _ _ _ _ _ _ _ _ _ _ _ _) (hp := ⟨hM, hnp⟩) (hb := by first | assumption | exact pset_s _ _ _ | exact (pset_n (by omega)).trans (by assumption)) (kk := fun h11 q11 => ?_)
    obtain ⟨hM1, hO1⟩ := q11
    have hM2 := hM1
    obtain ⟨N0, N1, N2, N3, N4, N5⟩ := hM2
    refine v_aload_n (pc := 14) X (hd := dX7_repair_14) (kk := ?_)
    refine v_iload_n (pc := 15) X (hd := dX7_repair_15) (kk := ?_)
    refine v_iconst (pc := 16) X (v := nI 2) (hd := dX7_repair_16) (kk := ?_)
    refine v_callVp (pc := 17) X (hd := dX7_repair_17) (w := wv_X7_51) (hC := c_X7_inBank l E _ _ _ _ _ _ _ _ _ _ _ _ _ (j) 2) (hp := ⟨hM1, by omega⟩) (hb := by first | assumption | exact pset_s _ _ _ | exact (pset_n (by omega)).trans (by assumption)) (kk := ?_)
    refine v_istore_n (pc := 20) X (hd := dX7_repair_20) (kk := ?_)
    refine v_aload_n (pc := 21) X (hd := dX7_repair_21) (kk := ?_)
    refine g_X7_7 (pc := 22) X (hd := dX7_repair_22) (hh := by first | assumption | exact pset_s _ _ _ | exact (pset_n (by omega)).trans (by assumption)) (kk := ?_)
    refine v_bipush (pc := 25) X (v := nI 24) (hd := dX7_repair_25) (kk := ?_)
    refine v_bipush (pc := 27) X (v := nI 7) (hd := dX7_repair_27) (kk := ?_)
    refine v_iload_n (pc := 29) X (hd := dX7_repair_29) (kk := ?_)
    refine v_imul (pc := 30) X (hd := dX7_repair_30) (kk := ?_)
    refine v_iadd (pc := 31) X (hd := dX7_repair_31) (kk := ?_)
    refine v_iconst (pc := 32) X (v := nI 2) (hd := dX7_repair_32) (kk := ?_)
    refine v_iadd (pc := 33) X (hd := dX7_repair_33) (kk := ?_)
    refine v_iconst (pc := 34) X (v := nI 0) (hd := dX7_repair_34) (kk := ?_)
    refine v_iastN (pc := 35) X (j := (24 + 7 * j + 2)) (hd := dX7_repair_35) (hh := by first | assumption | exact pset_s _ _ _ | exact (pset_n (by omega)).trans (by assumption)) (hi := by first | rfl | (simp only [pk_mul, nI_add]; done)) (hj := by omega) (kk := ?_)
    refine v_iload_n (pc := 36) X (hd := dX7_repair_36) (kk := ?_)
    exact v_endi (pc := 37) X hr hlk (hd := dX7_repair_37) (hf := ⟨by unfold rRep; rw [if_pos c5, ej], Or.inr ⟨c5, by unfold gRep; rw [ej]; exact ⟨hM1.sw _, (hO1.set (by omega) (by omega))⟩⟩⟩)
  · refine v_iconst (pc := 8) X (v := (-1)) (hd := dX7_repair_8) (kk := ?_)
    exact v_endi (pc := 9) X hr hlk (hd := dX7_repair_9) (hf := ⟨by unfold rRep; rw [if_neg c5], Or.inl ⟨c5, rfl⟩⟩)
set_option maxRecDepth 100000 in
set_option maxHeartbeats 4000000 in
theorem c_X7_day (l : Launch) (E : pE) (m : Nat) (w pa he te re : Nat → Int32) (np : Nat) (rr : Bool) (ty at_ st ki co : Int32) (wi ra : Int32) (nh nb ns : Nat) : pC l E yX7_day cX7_day 4 (some .int) { frames := 3, cells := 0, slots := 0, locals := 65 } 0 0 [.ref m, .int wi, .int ra] (fun h _ => MD m w pa he te re (nI np) (bI (rr = true)) ty at_ st ki co h ∧ np ≤ 5 ∧ Iv w nh nb ns) (pFi (mP m w pa he te re np rr ty at_ st ki co (kDay wi ra) (rDay w wi ra ns) (gDay w wi ra ns))) := by
  refine pC_of (by decide) (by simp [Value.category]) (Nat.le_of_ble_eq_true rfl) ?_
  intro h z hp p__ e__ s__ m__ args__ below__ meth__ c__ X hr hlk hname
  obtain ⟨hM, hnp, I⟩ := hp
  have hM0 := hM
  obtain ⟨M0, M1, M2, M3, M4, M5⟩ := hM0
  obtain ⟨hn6, hb4, hs12, en, eb, es⟩ := I.1
  refine v_iload_n (pc := 0) X (hd := dX7_day_0) (kk := ?_)
  refine v_iconst (pc := 1) X (v := nI 0) (hd := dX7_day_1) (kk := ?_)
  refine v_bipush (pc := 2) X (v := nI 9) (hd := dX7_day_2) (kk := ?_)
  refine v_callSp (pc := 4) X (hd := dX7_day_4) (w := wv_X7_33) (hC := c_X7_in l E _ _ _) (hp := by first | assumption | exact trivial) (kk := ?_)
  refine v_ifeqB (pc := 7) X (tgt := 20) (hd := dX7_day_7) (kt := fun c7 => ?_) (kf := fun c7 => ?_)
  · refine v_iconst (pc := 20) X (v := (-1)) (hd := dX7_day_20) (kk := ?_)
    exact v_endi (pc := 21) X hr hlk (hd := dX7_day_21) (hf := ⟨by unfold rDay; rw [if_neg (fun q => c7 q.1)], Or.inl ⟨fun q => c7 q.1, rfl⟩⟩)
  · refine v_iload_n (pc := 10) X (hd := dX7_day_10) (kk := ?_)
    refine v_iconst (pc := 11) X (v := nI 0) (hd := dX7_day_11) (kk := ?_)
    refine v_bipush (pc := 12) X (v := nI 9) (hd := dX7_day_12) (kk := ?_)
    refine v_callSp (pc := 14) X (hd := dX7_day_14) (w := wv_X7_33) (hC := c_X7_in l E _ _ _) (hp := by first | assumption | exact trivial) (kk := ?_)
    refine v_ifneB (pc := 17) X (tgt := 22) (hd := dX7_day_17) (kt := fun c17 => ?_) (kf := fun c17 => ?_)
    · refine v_aload_n (pc := 22) X (hd := dX7_day_22) (kk := ?_)
      refine v_callVv (pc := 23) X (hd := dX7_day_23) (w := wv_X7_37) (hC := c_X7_acts l E _ _ _ _ _ _ _ _ _ _ _ _ _) (hp := ⟨hM, hnp⟩) (hb := by first | assumption | exact pset_s _ _ _ | exact (pset_n (by omega)).trans (by assumption)) (kk := fun h23 q23 => ?_)
      obtain ⟨hM1, hO1⟩ := q23
      have hM2 := hM1
      obtain ⟨N0, N1, N2, N3, N4, N5⟩ := hM2
      refine v_iconst (pc := 26) X (v := nI 0) (hd := dX7_day_26) (kk := ?_)
      refine v_istore_n (pc := 27) X (hd := dX7_day_27) (kk := ?_)
      refine v_for (pc := 28) (M := ns) (Lf := fun i => [some (.ref m), some (.int wi), some (.int ra), some (.int (nI i))]) (I := fun i h2 => h2 = pset h23 (m + 1) (ai 1 410 (dyF w wi ra i))) (h0 := pset_id N1) (hL := by rfl) (step := ?_) (out := ?_)
      · intro i h2 hi hI kk
        subst hI
        refine v_iload_n (pc := 28) X (hd := dX7_day_28) (kk := ?_)
        refine v_aload_n (pc := 29) X (hd := dX7_day_29) (kk := ?_)
        refine g_X7_7 (pc := 30) X (hd := dX7_day_30) (hh := by first | assumption | exact pset_s _ _ _ | exact (pset_n (by omega)).trans (by assumption)) (kk := ?_)
        refine v_iconst (pc := 33) X (v := nI 3) (hd := dX7_day_33) (kk := ?_)
        refine v_ialdN (pc := 34) X (j := 3) (hd := dX7_day_34) (hh := by first | assumption | exact pset_s _ _ _ | exact (pset_n (by omega)).trans (by assumption)) (hi := by first | rfl | (simp only [pk_mul, nI_add]; done)) (hj := by omega) (kk := ?_)
        refine v_topi (fun y34 e34 => ?_)
        obtain rfl : y34 = nI ns := e34.trans ((dyF_o _ _ _ _ _ (fun k => by omega)).trans es)
        refine v_icmpge (pc := 35) X (tgt := 74) (hd := dX7_day_35) (kt := fun c35 => ?_) (kf := fun c35 => ?_)
        · exact absurd c35 (nI_ge hi (by omega))
        · refine v_aload_n (pc := 38) X (hd := dX7_day_38) (kk := ?_)
          refine g_X7_7 (pc := 39) X (hd := dX7_day_39) (hh := by first | assumption | exact pset_s _ _ _ | exact (pset_n (by omega)).trans (by assumption)) (kk := ?_)
          refine v_bipush (pc := 42) X (v := nI 76) (hd := dX7_day_42) (kk := ?_)
          refine v_iconst (pc := 44) X (v := nI 5) (hd := dX7_day_44) (kk := ?_)
          refine v_iload_n (pc := 45) X (hd := dX7_day_45) (kk := ?_)
          refine v_imul (pc := 46) X (hd := dX7_day_46) (kk := ?_)
          refine v_iadd (pc := 47) X (hd := dX7_day_47) (kk := ?_)
          refine v_iconst (pc := 48) X (v := nI 3) (hd := dX7_day_48) (kk := ?_)
          refine v_iadd (pc := 49) X (hd := dX7_day_49) (kk := ?_)
          refine v_aload_n (pc := 50) X (hd := dX7_day_50) (kk := ?_)
          refine v_iload_n (pc := 51) X (hd := dX7_day_51) (kk := ?_)
          refine v_iconst (pc := 52) X (v := nI 3) (hd := dX7_day_52) (kk := ?_)
          refine v_callVp (pc := 53) X (hd := dX7_day_53) (w := wv_X7_75) (hC := c_X7_inStack l E _ _ _ _ _ _ _ _ _ _ _ _ _ (i) 3) (hp := ⟨hM1.sw _, by omega⟩) (hb := by first | assumption | exact pset_s _ _ _ | exact (pset_n (by omega)).trans (by assumption)) (kk := ?_)
          refine v_aload_n (pc := 56) X (hd := dX7_day_56) (kk := ?_)
          refine v_iload_n (pc := 57) X (hd := dX7_day_57) (kk := ?_)
          refine v_iconst (pc := 58) X (v := nI 4) (hd := dX7_day_58) (kk := ?_)
          refine v_callVp (pc := 59) X (hd := dX7_day_59) (w := wv_X7_75) (hC := c_X7_inStack l E _ _ _ _ _ _ _ _ _ _ _ _ _ (i) 4) (hp := ⟨hM1.sw _, by omega⟩) (hb := by first | assumption | exact pset_s _ _ _ | exact (pset_n (by omega)).trans (by assumption)) (kk := ?_)
          refine v_iload_n (pc := 62) X (hd := dX7_day_62) (kk := ?_)
          refine v_iload_n (pc := 63) X (hd := dX7_day_63) (kk := ?_)
          refine v_callSp (pc := 64) X (hd := dX7_day_64) (w := wv_X7_94) (hC := c_X7_dried l E _ _ _ _) (hp := by first | assumption | exact trivial) (kk := ?_)
          refine v_iastN (pc := 67) X (j := (76 + 5 * i + 3)) (hd := dX7_day_67) (hh := by first | assumption | exact pset_s _ _ _ | exact (pset_n (by omega)).trans (by assumption)) (hi := by first | rfl | (simp only [pk_mul, nI_add]; done)) (hj := by omega) (kk := ?_)
          rw [pset_pset]
          refine v_iincN (pc := 68) X (hd := dX7_day_68) (kk := ?_)
          refine v_goto (pc := 71) X (tgt := 28) (hd := dX7_day_71) (kk := ?_)
          exact kk _ rfl
      · intro h2 hI
        subst hI
        refine v_iload_n (pc := 28) X (hd := dX7_day_28) (kk := ?_)
        refine v_aload_n (pc := 29) X (hd := dX7_day_29) (kk := ?_)
        refine g_X7_7 (pc := 30) X (hd := dX7_day_30) (hh := by first | assumption | exact pset_s _ _ _ | exact (pset_n (by omega)).trans (by assumption)) (kk := ?_)
        refine v_iconst (pc := 33) X (v := nI 3) (hd := dX7_day_33) (kk := ?_)
        refine v_ialdN (pc := 34) X (j := 3) (hd := dX7_day_34) (hh := by first | assumption | exact pset_s _ _ _ | exact (pset_n (by omega)).trans (by assumption)) (hi := by first | rfl | (simp only [pk_mul, nI_add]; done)) (hj := by omega) (kk := ?_)
        refine v_topi (fun y34 e34 => ?_)
        obtain rfl : y34 = nI ns := e34.trans ((dyF_o _ _ _ _ _ (fun k => by omega)).trans es)
        refine v_icmpge (pc := 35) X (tgt := 74) (hd := dX7_day_35) (kt := fun c35 => ?_) (kf := fun c35 => ?_)
        · refine v_aload_n (pc := 74) X (hd := dX7_day_74) (kk := ?_)
          refine g_X7_7 (pc := 75) X (hd := dX7_day_75) (hh := by first | assumption | exact pset_s _ _ _ | exact (pset_n (by omega)).trans (by assumption)) (kk := ?_)
          refine v_iconst (pc := 78) X (v := nI 4) (hd := dX7_day_78) (kk := ?_)
          refine v_iload_n (pc := 79) X (hd := dX7_day_79) (kk := ?_)
          refine v_iastN (pc := 80) X (j := 4) (hd := dX7_day_80) (hh := by first | assumption | exact pset_s _ _ _ | exact (pset_n (by omega)).trans (by assumption)) (hi := by first | rfl | (simp only [pk_mul, nI_add]; done)) (hj := by omega) (kk := ?_)
          rw [pset_pset]
          refine v_aload_n (pc := 81) X (hd := dX7_day_81) (kk := ?_)
          refine g_X7_7 (pc := 82) X (hd := dX7_day_82) (hh := by first | assumption | exact pset_s _ _ _ | exact (pset_n (by omega)).trans (by assumption)) (kk := ?_)
          refine v_iconst (pc := 85) X (v := nI 5) (hd := dX7_day_85) (kk := ?_)
          refine v_dup2 (pc := 86) X (hd := dX7_day_86) (kk := ?_)
          refine v_ialdN (pc := 87) X (j := 5) (hd := dX7_day_87) (hh := by first | assumption | exact pset_s _ _ _ | exact (pset_n (by omega)).trans (by assumption)) (hi := by first | rfl | (simp only [pk_mul, nI_add]; done)) (hj := by omega) (kk := ?_)
          refine v_iconst (pc := 88) X (v := nI 1) (hd := dX7_day_88) (kk := ?_)
          refine v_iadd (pc := 89) X (hd := dX7_day_89) (kk := ?_)
          refine v_iastN (pc := 90) X (j := 5) (hd := dX7_day_90) (hh := by first | assumption | exact pset_s _ _ _ | exact (pset_n (by omega)).trans (by assumption)) (hi := by first | rfl | (simp only [pk_mul, nI_add]; done)) (hj := by omega) (kk := ?_)
          rw [pset_pset]
          refine v_aload_n (pc := 91) X (hd := dX7_day_91) (kk := ?_)
          refine v_callVp (pc := 92) X (hd := dX7_day_92) (w := wv_X7_98) (hC := c_X7_dryStacks l E _ _ _ _ _ _ _ _ _ _ _ _ _ ns) (hp := ⟨hM1.sw _, hs12, (pk_un (by omega)).trans ((pk_un (by omega)).trans ((dyF_o _ _ _ _ _ (fun k => by omega)).trans es))⟩) (hb := by first | assumption | exact pset_s _ _ _ | exact (pset_n (by omega)).trans (by assumption)) (kk := ?_)
          exact v_endi (pc := 95) X hr hlk (hd := dX7_day_95) (hf := ⟨by unfold rDay; rw [if_pos ⟨c7, c17⟩]; rfl, Or.inr ⟨⟨c7, c17⟩, by exact ⟨hM1.sw _, (hO1.set (by omega) (by omega))⟩⟩⟩)
        · exact absurd (Int32.le_refl _) c35
    · refine v_iconst (pc := 20) X (v := (-1)) (hd := dX7_day_20) (kk := ?_)
      exact v_endi (pc := 21) X hr hlk (hd := dX7_day_21) (hf := ⟨by unfold rDay; rw [if_neg (fun q => c17 q.2)], Or.inl ⟨fun q => c17 q.2, rfl⟩⟩)
set_option maxRecDepth 100000 in
set_option maxHeartbeats 4000000 in
theorem c_X7_endYear (l : Launch) (E : pE) (m : Nat) (w pa he te re : Nat → Int32) (np : Nat) (rr : Bool) (ty at_ st ki co : Int32)  (nh nb ns : Nat) : pC l E yX7_endYear cX7_endYear 3 (some .int) { frames := 1, cells := 0, slots := 0, locals := 22 } 0 0 [.ref m] (fun h _ => MD m w pa he te re (nI np) (bI (rr = true)) ty at_ st ki co h ∧ np ≤ 5 ∧ Iv w nh nb ns) (pFi (mP m w pa he te re np rr ty at_ st ki co (kEnd w) (rEnd w ns) (gEnd w ns))) := by
  refine pC_of (by decide) (by simp [Value.category]) (Nat.le_of_ble_eq_true rfl) ?_
  intro h z hp p__ e__ s__ m__ args__ below__ meth__ c__ X hr hlk hname
  obtain ⟨hM, hnp, I⟩ := hp
  have hM0 := hM
  obtain ⟨M0, M1, M2, M3, M4, M5⟩ := hM0
  obtain ⟨hn6, hb4, hs12, en, eb, es⟩ := I.1
  refine v_aload_n (pc := 0) X (hd := dX7_endYear_0) (kk := ?_)
  refine g_X7_7 (pc := 1) X (hd := dX7_endYear_1) (hh := by first | assumption | exact pset_s _ _ _ | exact (pset_n (by omega)).trans (by assumption)) (kk := ?_)
  refine v_iconst (pc := 4) X (v := nI 0) (hd := dX7_endYear_4) (kk := ?_)
  refine v_ialdN (pc := 5) X (j := 0) (hd := dX7_endYear_5) (hh := by first | assumption | exact pset_s _ _ _ | exact (pset_n (by omega)).trans (by assumption)) (hi := by first | rfl | (simp only [pk_mul, nI_add]; done)) (hj := by omega) (kk := ?_)
  refine v_sipush (pc := 6) X (v := nI 999) (hd := dX7_endYear_6) (kk := ?_)
  refine v_icmpne (pc := 9) X (tgt := 15) (hd := dX7_endYear_9) (kt := fun c9 => ?_) (kf := fun c9 => ?_)
  · refine v_aload_n (pc := 15) X (hd := dX7_endYear_15) (kk := ?_)
    refine v_callVv (pc := 16) X (hd := dX7_endYear_16) (w := wv_X7_37) (hC := c_X7_acts l E _ _ _ _ _ _ _ _ _ _ _ _ _) (hp := ⟨hM, hnp⟩) (hb := by first | assumption | exact pset_s _ _ _ | exact (pset_n (by omega)).trans (by assumption)) (kk := fun h16 q16 => ?_)
    obtain ⟨hM1, hO1⟩ := q16
    have hM2 := hM1
    obtain ⟨N0, N1, N2, N3, N4, N5⟩ := hM2
    refine v_iconst (pc := 19) X (v := nI 0) (hd := dX7_endYear_19) (kk := ?_)
    refine v_istore_n (pc := 20) X (hd := dX7_endYear_20) (kk := ?_)
    refine v_iconst (pc := 21) X (v := nI 0) (hd := dX7_endYear_21) (kk := ?_)
    refine v_istore_n (pc := 22) X (hd := dX7_endYear_22) (kk := ?_)
    refine v_for (pc := 23) (M := ns) (Lf := fun i => [some (.ref m), some (.int (eyS w i)), some (.int (nI i))]) (I := fun i h2 => h2 = pset h16 (m + 1) (ai 1 410 (eyF w i))) (h0 := pset_id N1) (hL := by rfl) (step := ?_) (out := ?_)
    · intro i h2 hi hI kk
      subst hI
      obtain ⟨o, b, t1, we1, tn1, s1, s2, s3, s4, s5, s6, e0, e1, e2, e3, e4⟩ := I.2.2.2.2.2.2.2.2.1 i hi
      have ebb : nx (eyF w i (76 + 5 * i + 1)) = b := by rw [eyF_o I i (by omega) _ (by omega), e1]; exact nx_nI (by omega)
      refine v_iload_n (pc := 23) X (hd := dX7_endYear_23) (kk := ?_)
      refine v_aload_n (pc := 24) X (hd := dX7_endYear_24) (kk := ?_)
      refine g_X7_7 (pc := 25) X (hd := dX7_endYear_25) (hh := by first | assumption | exact pset_s _ _ _ | exact (pset_n (by omega)).trans (by assumption)) (kk := ?_)
      refine v_iconst (pc := 28) X (v := nI 3) (hd := dX7_endYear_28) (kk := ?_)
      refine v_ialdN (pc := 29) X (j := 3) (hd := dX7_endYear_29) (hh := by first | assumption | exact pset_s _ _ _ | exact (pset_n (by omega)).trans (by assumption)) (hi := by first | rfl | (simp only [pk_mul, nI_add]; done)) (hj := by omega) (kk := ?_)
      refine v_icmpge (pc := 30) X (tgt := 77) (hd := dX7_endYear_30) (kt := fun c30 => ?_) (kf := fun c30 => ?_)
      · exact absurd (by rw [eyF_o I i (by omega) 3 (by omega), es] at c30; exact c30) (nI_ge hi (by omega))
      · refine v_iload_n (pc := 33) X (hd := dX7_endYear_33) (kk := ?_)
        refine v_aload_n (pc := 34) X (hd := dX7_endYear_34) (kk := ?_)
        refine v_iload_n (pc := 35) X (hd := dX7_endYear_35) (kk := ?_)
        refine v_iconst (pc := 36) X (v := nI 2) (hd := dX7_endYear_36) (kk := ?_)
        refine v_callVp (pc := 37) X (hd := dX7_endYear_37) (w := wv_X7_75) (hC := c_X7_inStack l E _ _ _ _ _ _ _ _ _ _ _ _ _ (i) 2) (hp := ⟨hM1.sw _, by omega⟩) (hb := by first | assumption | exact pset_s _ _ _ | exact (pset_n (by omega)).trans (by assumption)) (kk := ?_)
        refine v_iadd (pc := 40) X (hd := dX7_endYear_40) (kk := ?_)
        refine v_istore_n (pc := 41) X (hd := dX7_endYear_41) (kk := ?_)
        refine v_aload_n (pc := 42) X (hd := dX7_endYear_42) (kk := ?_)
        refine g_X7_7 (pc := 43) X (hd := dX7_endYear_43) (hh := by first | assumption | exact pset_s _ _ _ | exact (pset_n (by omega)).trans (by assumption)) (kk := ?_)
        refine v_bipush (pc := 46) X (v := nI 24) (hd := dX7_endYear_46) (kk := ?_)
        refine v_bipush (pc := 48) X (v := nI 7) (hd := dX7_endYear_48) (kk := ?_)
        refine v_aload_n (pc := 50) X (hd := dX7_endYear_50) (kk := ?_)
        refine v_iload_n (pc := 51) X (hd := dX7_endYear_51) (kk := ?_)
        refine v_iconst (pc := 52) X (v := nI 1) (hd := dX7_endYear_52) (kk := ?_)
        refine v_callVp (pc := 53) X (hd := dX7_endYear_53) (w := wv_X7_75) (hC := c_X7_inStack l E _ _ _ _ _ _ _ _ _ _ _ _ _ (i) 1) (hp := ⟨hM1.sw _, by omega⟩) (hb := by first | assumption | exact pset_s _ _ _ | exact (pset_n (by omega)).trans (by assumption)) (kk := ?_)
        refine v_topi (fun y53 e53 => ?_)
        obtain rfl : y53 = nI b := e53.trans ((eyF_o I i (by omega) _ (by omega)).trans e1)
        refine v_imul (pc := 56) X (hd := dX7_endYear_56) (kk := ?_)
        refine v_iadd (pc := 57) X (hd := dX7_endYear_57) (kk := ?_)
        refine v_bipush (pc := 58) X (v := nI 6) (hd := dX7_endYear_58) (kk := ?_)
        refine v_iadd (pc := 60) X (hd := dX7_endYear_60) (kk := ?_)
        refine v_dup2 (pc := 61) X (hd := dX7_endYear_61) (kk := ?_)
        refine v_ialdN (pc := 62) X (j := (24 + 7 * b + 6)) (hd := dX7_endYear_62) (hh := by first | assumption | exact pset_s _ _ _ | exact (pset_n (by omega)).trans (by assumption)) (hi := by first | rfl | (simp only [pk_mul, nI_add]; done)) (hj := by omega) (kk := ?_)
        refine v_aload_n (pc := 63) X (hd := dX7_endYear_63) (kk := ?_)
        refine v_iload_n (pc := 64) X (hd := dX7_endYear_64) (kk := ?_)
        refine v_iconst (pc := 65) X (v := nI 2) (hd := dX7_endYear_65) (kk := ?_)
        refine v_callVp (pc := 66) X (hd := dX7_endYear_66) (w := wv_X7_75) (hC := c_X7_inStack l E _ _ _ _ _ _ _ _ _ _ _ _ _ (i) 2) (hp := ⟨hM1.sw _, by omega⟩) (hb := by first | assumption | exact pset_s _ _ _ | exact (pset_n (by omega)).trans (by assumption)) (kk := ?_)
        refine v_iadd (pc := 69) X (hd := dX7_endYear_69) (kk := ?_)
        refine v_iastN (pc := 70) X (j := (24 + 7 * b + 6)) (hd := dX7_endYear_70) (hh := by first | assumption | exact pset_s _ _ _ | exact (pset_n (by omega)).trans (by assumption)) (hi := by first | rfl | (simp only [pk_mul, nI_add]; done)) (hj := by omega) (kk := ?_)
        rw [pset_pset]
        refine v_iincN (pc := 71) X (hd := dX7_endYear_71) (kk := ?_)
        refine v_goto (pc := 74) X (tgt := 23) (hd := dX7_endYear_74) (kk := ?_)
        exact kk _ (by show _ = pset _ _ (ai 1 410 (upd _ _ _)); rw [ebb])
    · intro h2 hI
      subst hI
      refine v_iload_n (pc := 23) X (hd := dX7_endYear_23) (kk := ?_)
      refine v_aload_n (pc := 24) X (hd := dX7_endYear_24) (kk := ?_)
      refine g_X7_7 (pc := 25) X (hd := dX7_endYear_25) (hh := by first | assumption | exact pset_s _ _ _ | exact (pset_n (by omega)).trans (by assumption)) (kk := ?_)
      refine v_iconst (pc := 28) X (v := nI 3) (hd := dX7_endYear_28) (kk := ?_)
      refine v_ialdN (pc := 29) X (j := 3) (hd := dX7_endYear_29) (hh := by first | assumption | exact pset_s _ _ _ | exact (pset_n (by omega)).trans (by assumption)) (hi := by first | rfl | (simp only [pk_mul, nI_add]; done)) (hj := by omega) (kk := ?_)
      refine v_icmpge (pc := 30) X (tgt := 77) (hd := dX7_endYear_30) (kt := fun c30 => ?_) (kf := fun c30 => ?_)
      · refine v_aload_n (pc := 77) X (hd := dX7_endYear_77) (kk := ?_)
        refine g_X7_7 (pc := 78) X (hd := dX7_endYear_78) (hh := by first | assumption | exact pset_s _ _ _ | exact (pset_n (by omega)).trans (by assumption)) (kk := ?_)
        refine v_iconst (pc := 81) X (v := nI 3) (hd := dX7_endYear_81) (kk := ?_)
        refine v_iconst (pc := 82) X (v := nI 0) (hd := dX7_endYear_82) (kk := ?_)
        refine v_iastN (pc := 83) X (j := 3) (hd := dX7_endYear_83) (hh := by first | assumption | exact pset_s _ _ _ | exact (pset_n (by omega)).trans (by assumption)) (hi := by first | rfl | (simp only [pk_mul, nI_add]; done)) (hj := by omega) (kk := ?_)
        rw [pset_pset]
        refine v_bipush (pc := 84) X (v := nI 52) (hd := dX7_endYear_84) (kk := ?_)
        refine v_istore_n (pc := 86) X (hd := dX7_endYear_86) (kk := ?_)
        refine v_for (pc := 87) (M := 24) (Lf := fun i => [some (.ref m), some (.int (eyS w ns)), some (.int (nI (52 + i)))]) (I := fun i h2 => h2 = pset h16 (m + 1) (ai 1 410 (zrF (upd (eyF w ns) 3 (nI 0)) i))) (h0 := rfl) (hL := by rfl) (step := ?_) (out := ?_)
        · intro i h2 hi hI kk
          subst hI
          refine v_iload_n (pc := 87) X (hd := dX7_endYear_87) (kk := ?_)
          refine v_bipush (pc := 88) X (v := nI 76) (hd := dX7_endYear_88) (kk := ?_)
          refine v_icmpge (pc := 90) X (tgt := 106) (hd := dX7_endYear_90) (kt := fun c90 => ?_) (kf := fun c90 => ?_)
          · exact absurd c90 (nI_ge (by omega) (by omega))
          · refine v_aload_n (pc := 93) X (hd := dX7_endYear_93) (kk := ?_)
            refine g_X7_7 (pc := 94) X (hd := dX7_endYear_94) (hh := by first | assumption | exact pset_s _ _ _ | exact (pset_n (by omega)).trans (by assumption)) (kk := ?_)
            refine v_iload_n (pc := 97) X (hd := dX7_endYear_97) (kk := ?_)
            refine v_iconst (pc := 98) X (v := nI 0) (hd := dX7_endYear_98) (kk := ?_)
            refine v_iastN (pc := 99) X (j := (52 + i)) (hd := dX7_endYear_99) (hh := by first | assumption | exact pset_s _ _ _ | exact (pset_n (by omega)).trans (by assumption)) (hi := by first | rfl | (simp only [pk_mul, nI_add]; done)) (hj := by omega) (kk := ?_)
            rw [pset_pset]
            refine v_iincN (pc := 100) X (hd := dX7_endYear_100) (kk := ?_)
            refine v_goto (pc := 103) X (tgt := 87) (hd := dX7_endYear_103) (kk := ?_)
            exact kk _ rfl
        · intro h2 hI
          subst hI
          refine v_iload_n (pc := 87) X (hd := dX7_endYear_87) (kk := ?_)
          refine v_bipush (pc := 88) X (v := nI 76) (hd := dX7_endYear_88) (kk := ?_)
          refine v_icmpge (pc := 90) X (tgt := 106) (hd := dX7_endYear_90) (kt := fun c90 => ?_) (kf := fun c90 => ?_)
          · refine v_aload_n (pc := 106) X (hd := dX7_endYear_106) (kk := ?_)
            refine g_X7_7 (pc := 107) X (hd := dX7_endYear_107) (hh := by first | assumption | exact pset_s _ _ _ | exact (pset_n (by omega)).trans (by assumption)) (kk := ?_)
            refine v_iconst (pc := 110) X (v := nI 4) (hd := dX7_endYear_110) (kk := ?_)
            refine v_iconst (pc := 111) X (v := nI 0) (hd := dX7_endYear_111) (kk := ?_)
            refine v_iastN (pc := 112) X (j := 4) (hd := dX7_endYear_112) (hh := by first | assumption | exact pset_s _ _ _ | exact (pset_n (by omega)).trans (by assumption)) (hi := by first | rfl | (simp only [pk_mul, nI_add]; done)) (hj := by omega) (kk := ?_)
            rw [pset_pset]
            refine v_aload_n (pc := 113) X (hd := dX7_endYear_113) (kk := ?_)
            refine g_X7_7 (pc := 114) X (hd := dX7_endYear_114) (hh := by first | assumption | exact pset_s _ _ _ | exact (pset_n (by omega)).trans (by assumption)) (kk := ?_)
            refine v_iconst (pc := 117) X (v := nI 0) (hd := dX7_endYear_117) (kk := ?_)
            refine v_dup2 (pc := 118) X (hd := dX7_endYear_118) (kk := ?_)
            refine v_ialdN (pc := 119) X (j := 0) (hd := dX7_endYear_119) (hh := by first | assumption | exact pset_s _ _ _ | exact (pset_n (by omega)).trans (by assumption)) (hi := by first | rfl | (simp only [pk_mul, nI_add]; done)) (hj := by omega) (kk := ?_)
            refine v_iconst (pc := 120) X (v := nI 1) (hd := dX7_endYear_120) (kk := ?_)
            refine v_iadd (pc := 121) X (hd := dX7_endYear_121) (kk := ?_)
            refine v_iastN (pc := 122) X (j := 0) (hd := dX7_endYear_122) (hh := by first | assumption | exact pset_s _ _ _ | exact (pset_n (by omega)).trans (by assumption)) (hi := by first | rfl | (simp only [pk_mul, nI_add]; done)) (hj := by omega) (kk := ?_)
            rw [pset_pset]
            refine v_iload_n (pc := 123) X (hd := dX7_endYear_123) (kk := ?_)
            exact v_endi (pc := 124) X hr hlk (hd := dX7_endYear_124) (hf := ⟨by unfold rEnd; rw [if_pos c9], Or.inr ⟨c9, by exact ⟨hM1.sw _, (hO1.set (by omega) (by omega))⟩⟩⟩)
          · exact absurd (Int32.le_refl _) c90
      · exact absurd (by rw [eyF_o I ns (Nat.le_refl _) 3 (by omega), es]; exact Int32.le_refl _) c30
  · refine v_bipush (pc := 12) X (v := (-2)) (hd := dX7_endYear_12) (kk := ?_)
    exact v_endi (pc := 14) X hr hlk (hd := dX7_endYear_14) (hf := ⟨by unfold rEnd; rw [if_neg c9], Or.inl ⟨c9, rfl⟩⟩)
set_option maxRecDepth 100000 in
set_option maxHeartbeats 4000000 in
theorem c_X7_take (l : Launch) (E : pE) (m : Nat) (w pa he te re : Nat → Int32) (np : Nat) (rr : Bool) (ty at_ st ki co : Int32) (x : Int32) (nh nb ns : Nat) : pC l E yX7_take cX7_take 3 (some .int) { frames := 1, cells := 0, slots := 0, locals := 22 } 0 0 [.ref m, .int x] (fun h _ => MD m w pa he te re (nI np) (bI (rr = true)) ty at_ st ki co h ∧ np ≤ 5 ∧ Iv w nh nb ns) (pFi (mP m w pa he te re np rr ty at_ st ki co (kTake x) (rTake w x) (gTake w x))) := by
  refine pC_of (by decide) (by simp [Value.category]) (Nat.le_of_ble_eq_true rfl) ?_
  intro h z hp p__ e__ s__ m__ args__ below__ meth__ c__ X hr hlk hname
  obtain ⟨hM, hnp, I⟩ := hp
  have hM0 := hM
  obtain ⟨M0, M1, M2, M3, M4, M5⟩ := hM0
  obtain ⟨hn6, hb4, hs12, en, eb, es⟩ := I.1
  refine v_iload_n (pc := 0) X (hd := dX7_take_0) (kk := ?_)
  refine v_iconst (pc := 1) X (v := nI 0) (hd := dX7_take_1) (kk := ?_)
  refine v_iconst (pc := 2) X (v := nI 1) (hd := dX7_take_2) (kk := ?_)
  refine v_callSp (pc := 3) X (hd := dX7_take_3) (w := wv_X7_33) (hC := c_X7_in l E _ _ _) (hp := by first | assumption | exact trivial) (kk := ?_)
  refine v_ifneB (pc := 6) X (tgt := 11) (hd := dX7_take_6) (kt := fun c6 => ?_) (kf := fun c6 => ?_)
  · obtain ⟨j, -, hj, rfl, ej⟩ := gI_j (by omega) (by omega) c6
    refine v_aload_n (pc := 11) X (hd := dX7_take_11) (kk := ?_)
    refine v_callVv (pc := 12) X (hd := dX7_take_12) (w := wv_X7_37) (hC := c_X7_acts l E _ _ _ _ _ _ _ _ _ _ _ _ _) (hp := ⟨hM, hnp⟩) (hb := by first | assumption | exact pset_s _ _ _ | exact (pset_n (by omega)).trans (by assumption)) (kk := fun h12 q12 => ?_)
    obtain ⟨hM1, hO1⟩ := q12
    have hM2 := hM1
    obtain ⟨N0, N1, N2, N3, N4, N5⟩ := hM2
    refine v_iconst (pc := 15) X (v := nI 0) (hd := dX7_take_15) (kk := ?_)
    refine v_istore_n (pc := 16) X (hd := dX7_take_16) (kk := ?_)
    refine v_for (pc := 17) (M := 136) (Lf := fun i => [some (.ref m), some (.int (nI j)), some (.int (nI i))]) (I := fun i h2 => h2 = pset h12 (m + 1) (ai 1 410 (tkF w j i))) (h0 := pset_id N1) (hL := by rfl) (step := ?_) (out := ?_)
    · intro i h2 hi hI kk
      subst hI
      refine v_iload_n (pc := 17) X (hd := dX7_take_17) (kk := ?_)
      refine v_sipush (pc := 18) X (v := nI 136) (hd := dX7_take_18) (kk := ?_)
      refine v_icmpge (pc := 21) X (tgt := 52) (hd := dX7_take_21) (kt := fun c21 => ?_) (kf := fun c21 => ?_)
      · exact absurd c21 (nI_ge hi (by omega))
      · refine v_aload_n (pc := 24) X (hd := dX7_take_24) (kk := ?_)
        refine g_X7_7 (pc := 25) X (hd := dX7_take_25) (hh := by first | assumption | exact pset_s _ _ _ | exact (pset_n (by omega)).trans (by assumption)) (kk := ?_)
        refine v_sipush (pc := 28) X (v := nI 138) (hd := dX7_take_28) (kk := ?_)
        refine v_sipush (pc := 31) X (v := nI 136) (hd := dX7_take_31) (kk := ?_)
        refine v_iload_n (pc := 34) X (hd := dX7_take_34) (kk := ?_)
        refine v_imul (pc := 35) X (hd := dX7_take_35) (kk := ?_)
        refine v_iadd (pc := 36) X (hd := dX7_take_36) (kk := ?_)
        refine v_iload_n (pc := 37) X (hd := dX7_take_37) (kk := ?_)
        refine v_iadd (pc := 38) X (hd := dX7_take_38) (kk := ?_)
        refine v_aload_n (pc := 39) X (hd := dX7_take_39) (kk := ?_)
        refine g_X7_7 (pc := 40) X (hd := dX7_take_40) (hh := by first | assumption | exact pset_s _ _ _ | exact (pset_n (by omega)).trans (by assumption)) (kk := ?_)
        refine v_iload_n (pc := 43) X (hd := dX7_take_43) (kk := ?_)
        refine v_ialdN (pc := 44) X (j := i) (hd := dX7_take_44) (hh := by first | assumption | exact pset_s _ _ _ | exact (pset_n (by omega)).trans (by assumption)) (hi := by first | rfl | (simp only [pk_mul, nI_add]; done)) (hj := by omega) (kk := ?_)
        refine v_iastN (pc := 45) X (j := (138 + 136 * j + i)) (hd := dX7_take_45) (hh := by first | assumption | exact pset_s _ _ _ | exact (pset_n (by omega)).trans (by assumption)) (hi := by first | rfl | (simp only [pk_mul, nI_add]; done)) (hj := by omega) (kk := ?_)
        rw [pset_pset]
        refine v_iincN (pc := 46) X (hd := dX7_take_46) (kk := ?_)
        refine v_goto (pc := 49) X (tgt := 17) (hd := dX7_take_49) (kk := ?_)
        exact kk _ rfl
    · intro h2 hI
      subst hI
      refine v_iload_n (pc := 17) X (hd := dX7_take_17) (kk := ?_)
      refine v_sipush (pc := 18) X (v := nI 136) (hd := dX7_take_18) (kk := ?_)
      refine v_icmpge (pc := 21) X (tgt := 52) (hd := dX7_take_21) (kt := fun c21 => ?_) (kf := fun c21 => ?_)
      · refine v_aload_n (pc := 52) X (hd := dX7_take_52) (kk := ?_)
        refine g_X7_7 (pc := 53) X (hd := dX7_take_53) (hh := by first | assumption | exact pset_s _ _ _ | exact (pset_n (by omega)).trans (by assumption)) (kk := ?_)
        refine v_sipush (pc := 56) X (v := nI 136) (hd := dX7_take_56) (kk := ?_)
        refine v_iload_n (pc := 59) X (hd := dX7_take_59) (kk := ?_)
        refine v_iadd (pc := 60) X (hd := dX7_take_60) (kk := ?_)
        refine v_iconst (pc := 61) X (v := nI 1) (hd := dX7_take_61) (kk := ?_)
        refine v_iastN (pc := 62) X (j := (136 + j)) (hd := dX7_take_62) (hh := by first | assumption | exact pset_s _ _ _ | exact (pset_n (by omega)).trans (by assumption)) (hi := by first | rfl | (simp only [pk_mul, nI_add]; done)) (hj := by omega) (kk := ?_)
        rw [pset_pset]
        refine v_aload_n (pc := 63) X (hd := dX7_take_63) (kk := ?_)
        refine g_X7_7 (pc := 64) X (hd := dX7_take_64) (hh := by first | assumption | exact pset_s _ _ _ | exact (pset_n (by omega)).trans (by assumption)) (kk := ?_)
        refine v_iconst (pc := 67) X (v := nI 0) (hd := dX7_take_67) (kk := ?_)
        refine v_ialdN (pc := 68) X (j := 0) (hd := dX7_take_68) (hh := by first | assumption | exact pset_s _ _ _ | exact (pset_n (by omega)).trans (by assumption)) (hi := by first | rfl | (simp only [pk_mul, nI_add]; done)) (hj := by omega) (kk := ?_)
        exact v_endi (pc := 69) X hr hlk (hd := dX7_take_69) (hf := ⟨by unfold rTake gTake; rw [if_pos c6, ej], Or.inr ⟨c6, by unfold gTake; rw [ej]; exact ⟨hM1.sw _, (hO1.set (by omega) (by omega))⟩⟩⟩)
      · exact absurd (Int32.le_refl _) c21
  · refine v_iconst (pc := 9) X (v := (-1)) (hd := dX7_take_9) (kk := ?_)
    exact v_endi (pc := 10) X hr hlk (hd := dX7_take_10) (hf := ⟨by unfold rTake; rw [if_neg c6], Or.inl ⟨c6, rfl⟩⟩)
set_option maxRecDepth 100000 in
set_option maxHeartbeats 4000000 in
theorem c_X7_restore (l : Launch) (E : pE) (m : Nat) (w pa he te re : Nat → Int32) (np : Nat) (rr : Bool) (ty at_ st ki co : Int32) (x : Int32) (nh nb ns : Nat) : pC l E yX7_restore cX7_restore 3 (some .int) { frames := 1, cells := 0, slots := 0, locals := 22 } 0 0 [.ref m, .int x] (fun h _ => MD m w pa he te re (nI np) (bI (rr = true)) ty at_ st ki co h ∧ np ≤ 5 ∧ Iv w nh nb ns) (pFi (mP m w pa he te re np rr ty at_ st ki co (kRes w x) (rRes w x) (gRes w x))) := by
  refine pC_of (by decide) (by simp [Value.category]) (Nat.le_of_ble_eq_true rfl) ?_
  intro h z hp p__ e__ s__ m__ args__ below__ meth__ c__ X hr hlk hname
  obtain ⟨hM, hnp, I⟩ := hp
  have hM0 := hM
  obtain ⟨M0, M1, M2, M3, M4, M5⟩ := hM0
  obtain ⟨hn6, hb4, hs12, en, eb, es⟩ := I.1
  refine v_iload_n (pc := 0) X (hd := dX7_restore_0) (kk := ?_)
  refine v_iconst (pc := 1) X (v := nI 0) (hd := dX7_restore_1) (kk := ?_)
  refine v_iconst (pc := 2) X (v := nI 1) (hd := dX7_restore_2) (kk := ?_)
  refine v_callSp (pc := 3) X (hd := dX7_restore_3) (w := wv_X7_33) (hC := c_X7_in l E _ _ _) (hp := by first | assumption | exact trivial) (kk := ?_)
  refine v_ifneB (pc := 6) X (tgt := 11) (hd := dX7_restore_6) (kt := fun c6 => ?_) (kf := fun c6 => ?_)
  · obtain ⟨j, -, hj, rfl, ej⟩ := gI_j (by omega) (by omega) c6
    refine v_aload_n (pc := 11) X (hd := dX7_restore_11) (kk := ?_)
    refine g_X7_7 (pc := 12) X (hd := dX7_restore_12) (hh := by first | assumption | exact pset_s _ _ _ | exact (pset_n (by omega)).trans (by assumption)) (kk := ?_)
    refine v_sipush (pc := 15) X (v := nI 136) (hd := dX7_restore_15) (kk := ?_)
    refine v_iload_n (pc := 18) X (hd := dX7_restore_18) (kk := ?_)
    refine v_iadd (pc := 19) X (hd := dX7_restore_19) (kk := ?_)
    refine v_ialdN (pc := 20) X (j := (136 + j)) (hd := dX7_restore_20) (hh := by first | assumption | exact pset_s _ _ _ | exact (pset_n (by omega)).trans (by assumption)) (hi := by first | rfl | (simp only [pk_mul, nI_add]; done)) (hj := by omega) (kk := ?_)
    refine v_ifne (pc := 21) X (tgt := 27) (hd := dX7_restore_21) (kt := fun c21 => ?_) (kf := fun c21 => ?_)
    · refine v_aload_n (pc := 27) X (hd := dX7_restore_27) (kk := ?_)
      refine v_callVv (pc := 28) X (hd := dX7_restore_28) (w := wv_X7_37) (hC := c_X7_acts l E _ _ _ _ _ _ _ _ _ _ _ _ _) (hp := ⟨hM, hnp⟩) (hb := by first | assumption | exact pset_s _ _ _ | exact (pset_n (by omega)).trans (by assumption)) (kk := fun h28 q28 => ?_)
      obtain ⟨hM1, hO1⟩ := q28
      have hM2 := hM1
      obtain ⟨N0, N1, N2, N3, N4, N5⟩ := hM2
      refine v_iconst (pc := 31) X (v := nI 0) (hd := dX7_restore_31) (kk := ?_)
      refine v_istore_n (pc := 32) X (hd := dX7_restore_32) (kk := ?_)
      refine v_for (pc := 33) (M := 136) (Lf := fun i => [some (.ref m), some (.int (nI j)), some (.int (nI i))]) (I := fun i h2 => h2 = pset h28 (m + 1) (ai 1 410 (rsF w j i))) (h0 := pset_id N1) (hL := by rfl) (step := ?_) (out := ?_)
      · intro i h2 hi hI kk
        subst hI
        refine v_iload_n (pc := 33) X (hd := dX7_restore_33) (kk := ?_)
        refine v_sipush (pc := 34) X (v := nI 136) (hd := dX7_restore_34) (kk := ?_)
        refine v_icmpge (pc := 37) X (tgt := 68) (hd := dX7_restore_37) (kt := fun c37 => ?_) (kf := fun c37 => ?_)
        · exact absurd c37 (nI_ge hi (by omega))
        · refine v_aload_n (pc := 40) X (hd := dX7_restore_40) (kk := ?_)
          refine g_X7_7 (pc := 41) X (hd := dX7_restore_41) (hh := by first | assumption | exact pset_s _ _ _ | exact (pset_n (by omega)).trans (by assumption)) (kk := ?_)
          refine v_iload_n (pc := 44) X (hd := dX7_restore_44) (kk := ?_)
          refine v_aload_n (pc := 45) X (hd := dX7_restore_45) (kk := ?_)
          refine g_X7_7 (pc := 46) X (hd := dX7_restore_46) (hh := by first | assumption | exact pset_s _ _ _ | exact (pset_n (by omega)).trans (by assumption)) (kk := ?_)
          refine v_sipush (pc := 49) X (v := nI 138) (hd := dX7_restore_49) (kk := ?_)
          refine v_sipush (pc := 52) X (v := nI 136) (hd := dX7_restore_52) (kk := ?_)
          refine v_iload_n (pc := 55) X (hd := dX7_restore_55) (kk := ?_)
          refine v_imul (pc := 56) X (hd := dX7_restore_56) (kk := ?_)
          refine v_iadd (pc := 57) X (hd := dX7_restore_57) (kk := ?_)
          refine v_iload_n (pc := 58) X (hd := dX7_restore_58) (kk := ?_)
          refine v_iadd (pc := 59) X (hd := dX7_restore_59) (kk := ?_)
          refine v_ialdN (pc := 60) X (j := (138 + 136 * j + i)) (hd := dX7_restore_60) (hh := by first | assumption | exact pset_s _ _ _ | exact (pset_n (by omega)).trans (by assumption)) (hi := by first | rfl | (simp only [pk_mul, nI_add]; done)) (hj := by omega) (kk := ?_)
          refine v_iastN (pc := 61) X (j := i) (hd := dX7_restore_61) (hh := by first | assumption | exact pset_s _ _ _ | exact (pset_n (by omega)).trans (by assumption)) (hi := by first | rfl | (simp only [pk_mul, nI_add]; done)) (hj := by omega) (kk := ?_)
          rw [pset_pset]
          refine v_iincN (pc := 62) X (hd := dX7_restore_62) (kk := ?_)
          refine v_goto (pc := 65) X (tgt := 33) (hd := dX7_restore_65) (kk := ?_)
          exact kk _ rfl
      · intro h2 hI
        subst hI
        refine v_iload_n (pc := 33) X (hd := dX7_restore_33) (kk := ?_)
        refine v_sipush (pc := 34) X (v := nI 136) (hd := dX7_restore_34) (kk := ?_)
        refine v_icmpge (pc := 37) X (tgt := 68) (hd := dX7_restore_37) (kt := fun c37 => ?_) (kf := fun c37 => ?_)
        · refine v_aload_n (pc := 68) X (hd := dX7_restore_68) (kk := ?_)
          refine g_X7_7 (pc := 69) X (hd := dX7_restore_69) (hh := by first | assumption | exact pset_s _ _ _ | exact (pset_n (by omega)).trans (by assumption)) (kk := ?_)
          refine v_iconst (pc := 72) X (v := nI 0) (hd := dX7_restore_72) (kk := ?_)
          refine v_ialdN (pc := 73) X (j := 0) (hd := dX7_restore_73) (hh := by first | assumption | exact pset_s _ _ _ | exact (pset_n (by omega)).trans (by assumption)) (hi := by first | rfl | (simp only [pk_mul, nI_add]; done)) (hj := by omega) (kk := ?_)
          exact v_endi (pc := 74) X hr hlk (hd := dX7_restore_74) (hf := ⟨by unfold rRes gRes; rw [if_pos c6, ej, if_neg c21], Or.inr ⟨⟨c6, by rw [ej]; exact c21⟩, by unfold gRes; rw [ej]; exact ⟨hM1.sw _, (hO1.set (by omega) (by omega))⟩⟩⟩)
        · exact absurd (Int32.le_refl _) c37
    · refine v_bipush (pc := 24) X (v := (-2)) (hd := dX7_restore_24) (kk := ?_)
      exact v_endi (pc := 26) X hr hlk (hd := dX7_restore_26) (hf := ⟨by unfold rRes; rw [if_pos c6, ej, if_pos (Classical.not_not.mp c21)], Or.inl ⟨fun q => q.2 (by rw [ej]; exact Classical.not_not.mp c21), rfl⟩⟩)
  · refine v_iconst (pc := 9) X (v := (-1)) (hd := dX7_restore_9) (kk := ?_)
    exact v_endi (pc := 10) X hr hlk (hd := dX7_restore_10) (hf := ⟨by unfold rRes; rw [if_neg c6], Or.inl ⟨fun q => c6 q.1, rfl⟩⟩)
set_option maxRecDepth 100000 in
set_option maxHeartbeats 4000000 in
theorem c_X7_undo (l : Launch) (E : pE) (m : Nat) (w pa he te re : Nat → Int32) (np : Nat) (rr : Bool) (ty at_ st ki co : Int32) : pC l E yX7_undo cX7_undo 2 (some .int) { frames := 0, cells := 0, slots := 0, locals := 0 } 0 0 [.ref m] (fun h _ => MD m w pa he te re (nI np) (bI (rr = true)) ty at_ st ki co h ∧ np ≤ 5) (pFi (fun h r h' => (np = 0 ∧ r = -2 ∧ h' = h) ∨ (0 < np ∧ r = nI (np - 1) ∧ MD m (unF w pa (np - 1) 410) pa he te re (nI (np - 1)) (bI (rr = true)) ty at_ st ki co h' ∧ pO m (m + 6) h h'))) := by
  refine pC_of (by decide) (by simp [Value.category]) (Nat.le_of_ble_eq_true rfl) ?_
  intro h z hp p__ e__ s__ m__ args__ below__ meth__ c__ X hr hlk hname
  obtain ⟨hM, hE⟩ := hp
  have hM0 := hM
  obtain ⟨M0, M1, M2, M3, M4, M5⟩ := hM0
  refine v_aload_n (pc := 0) X (hd := dX7_undo_0) (kk := ?_)
  refine g_X7_29 (pc := 1) X (hd := dX7_undo_1) (hh := by first | assumption | exact pset_s _ _ _ | exact (pset_n (by omega)).trans (by assumption)) (kk := ?_)
  refine v_ifne (pc := 4) X (tgt := 10) (hd := dX7_undo_4) (kt := fun c4 => ?_) (kf := fun c4 => ?_)
  · have hnp : 0 < np := by
      rcases Nat.eq_zero_or_pos np with q | q
      · exact absurd (by rw [q]; exact nI_z) c4
      · exact q
    have enp : nI np - nI 1 = nI (np - 1) := pk_sub hnp
    refine v_aload_n (pc := 10) X (hd := dX7_undo_10) (kk := ?_)
    refine v_dup (pc := 11) X (hd := dX7_undo_11) (kk := ?_)
    refine g_X7_29 (pc := 12) X (hd := dX7_undo_12) (hh := by first | assumption | exact pset_s _ _ _ | exact (pset_n (by omega)).trans (by assumption)) (kk := ?_)
    refine v_iconst (pc := 15) X (v := nI 1) (hd := dX7_undo_15) (kk := ?_)
    refine v_isub (pc := 16) X (hd := dX7_undo_16) (kk := ?_)
    rw [enp]
    refine p_X7_29 (pc := 17) X (hd := dX7_undo_17) (hh := by first | assumption | exact pset_s _ _ _ | exact (pset_n (by omega)).trans (by assumption)) (kk := ?_)
    refine v_gen (P := fun h1 => MD m w pa he te re (nI (np - 1)) (bI (rr = true)) ty at_ st ki co h1 ∧ pO m (m + 6) h h1) ⟨hM.sob, pO.rf.set (by omega) (by omega)⟩ (fun h17 q17 => ?_)
    obtain ⟨hM1, hO1⟩ := q17
    have hM2 := hM1
    obtain ⟨N0, N1, N2, N3, N4, N5⟩ := hM2
    refine v_iconst (pc := 20) X (v := nI 0) (hd := dX7_undo_20) (kk := ?_)
    refine v_istore_n (pc := 21) X (hd := dX7_undo_21) (kk := ?_)
    refine v_for (pc := 22) (M := 410) (Lf := fun i => [some (.ref m), some (.int (nI i))]) (I := fun i h2 => h2 = pset h17 (m + 1) (ai 1 410 (unF w pa (np - 1) i))) (h0 := pset_id N1) (hL := by rfl) (step := ?_) (out := ?_)
    · intro i h2 hi hI kk
      subst hI
      refine v_iload_n (pc := 22) X (hd := dX7_undo_22) (kk := ?_)
      refine v_sipush (pc := 23) X (v := nI 410) (hd := dX7_undo_23) (kk := ?_)
      refine v_icmpge (pc := 26) X (tgt := 56) (hd := dX7_undo_26) (kt := fun c26 => ?_) (kf := fun c26 => ?_)
      · exact absurd c26 (nI_ge hi (by omega))
      · refine v_aload_n (pc := 29) X (hd := dX7_undo_29) (kk := ?_)
        refine g_X7_7 (pc := 30) X (hd := dX7_undo_30) (hh := by first | assumption | exact pset_s _ _ _ | exact (pset_n (by omega)).trans (by assumption)) (kk := ?_)
        refine v_iload_n (pc := 33) X (hd := dX7_undo_33) (kk := ?_)
        refine v_aload_n (pc := 34) X (hd := dX7_undo_34) (kk := ?_)
        refine g_X7_13 (pc := 35) X (hd := dX7_undo_35) (hh := by first | assumption | exact pset_s _ _ _ | exact (pset_n (by omega)).trans (by assumption)) (kk := ?_)
        refine v_sipush (pc := 38) X (v := nI 410) (hd := dX7_undo_38) (kk := ?_)
        refine v_aload_n (pc := 41) X (hd := dX7_undo_41) (kk := ?_)
        refine g_X7_29 (pc := 42) X (hd := dX7_undo_42) (hh := by first | assumption | exact pset_s _ _ _ | exact (pset_n (by omega)).trans (by assumption)) (kk := ?_)
        refine v_imul (pc := 45) X (hd := dX7_undo_45) (kk := ?_)
        refine v_iload_n (pc := 46) X (hd := dX7_undo_46) (kk := ?_)
        refine v_iadd (pc := 47) X (hd := dX7_undo_47) (kk := ?_)
        refine v_ialdN (pc := 48) X (j := (410 * (np - 1) + i)) (hd := dX7_undo_48) (hh := by first | assumption | exact pset_s _ _ _ | exact (pset_n (by omega)).trans (by assumption)) (hi := by first | rfl | (simp only [pk_mul, nI_add]; done)) (hj := by omega) (kk := ?_)
        refine v_iastN (pc := 49) X (j := i) (hd := dX7_undo_49) (hh := by first | assumption | exact pset_s _ _ _ | exact (pset_n (by omega)).trans (by assumption)) (hi := by first | rfl | (simp only [pk_mul, nI_add]; done)) (hj := by omega) (kk := ?_)
        rw [pset_pset]
        refine v_iincN (pc := 50) X (hd := dX7_undo_50) (kk := ?_)
        refine v_goto (pc := 53) X (tgt := 22) (hd := dX7_undo_53) (kk := ?_)
        exact kk _ rfl
    · intro h2 hI
      subst hI
      refine v_iload_n (pc := 22) X (hd := dX7_undo_22) (kk := ?_)
      refine v_sipush (pc := 23) X (v := nI 410) (hd := dX7_undo_23) (kk := ?_)
      refine v_icmpge (pc := 26) X (tgt := 56) (hd := dX7_undo_26) (kt := fun c26 => ?_) (kf := fun c26 => ?_)
      · refine v_aload_n (pc := 56) X (hd := dX7_undo_56) (kk := ?_)
        refine g_X7_29 (pc := 57) X (hd := dX7_undo_57) (hh := by first | assumption | exact pset_s _ _ _ | exact (pset_n (by omega)).trans (by assumption)) (kk := ?_)
        exact v_endi (pc := 60) X hr hlk (hd := dX7_undo_60) (hf := Or.inr ⟨hnp, rfl, hM1.sw _, hO1.set (by omega) (by omega)⟩)
      · exact absurd (Int32.le_refl _) c26
  · have hnp : np = 0 := (nI_eq (by omega) (by omega)).mp ((Classical.not_not.mp c4).trans nI_z.symm)
    refine v_bipush (pc := 7) X (v := (-2)) (hd := dX7_undo_7) (kk := ?_)
    exact v_endi (pc := 9) X hr hlk (hd := dX7_undo_9) (hf := Or.inl ⟨hnp, rfl, rfl⟩)
abbrev kApp (ty c : Int32) : Prop := gI c (nI 1) (nI 255) ∧ ¬ ty = nI 140
def rApp (ty c : Int32) : Int32 := if gI c (nI 1) (nI 255) then (if ty = nI 140 then -3 else ty + nI 1) else -1
set_option maxRecDepth 100000 in
set_option maxHeartbeats 4000000 in
theorem c_X7_append (l : Launch) (E : pE) (m : Nat) (w pa he te re : Nat → Int32) (np : Nat) (rr : Bool) (tn : Nat) (at_ st ki co : Int32) (x : Int32) : pC l E yX7_append cX7_append 2 (some .int) { frames := 1, cells := 0, slots := 0, locals := 22 } 0 0 [.ref m, .int x] (fun h _ => MD m w pa he te re (nI np) (bI (rr = true)) (nI tn) at_ st ki co h ∧ tn ≤ 140) (pFi (fun h r h' => r = rApp (nI tn) x ∧ ((¬ kApp (nI tn) x ∧ h' = h) ∨ (kApp (nI tn) x ∧ MD m w pa he (upd te tn x) re (nI np) (bI (rr = true)) (nI tn + nI 1) at_ st ki co h' ∧ pO m (m + 6) h h')))) := by
  refine pC_of (by decide) (by simp [Value.category]) (Nat.le_of_ble_eq_true rfl) ?_
  intro h z hp p__ e__ s__ m__ args__ below__ meth__ c__ X hr hlk hname
  obtain ⟨hM, hE⟩ := hp
  have hM0 := hM
  obtain ⟨M0, M1, M2, M3, M4, M5⟩ := hM0
  refine v_iload_n (pc := 0) X (hd := dX7_append_0) (kk := ?_)
  refine v_iconst (pc := 1) X (v := nI 1) (hd := dX7_append_1) (kk := ?_)
  refine v_sipush (pc := 2) X (v := nI 255) (hd := dX7_append_2) (kk := ?_)
  refine v_callSp (pc := 5) X (hd := dX7_append_5) (w := wv_X7_33) (hC := c_X7_in l E _ _ _) (hp := by first | assumption | exact trivial) (kk := ?_)
  refine v_ifneB (pc := 8) X (tgt := 13) (hd := dX7_append_8) (kt := fun c8 => ?_) (kf := fun c8 => ?_)
  · refine v_aload_n (pc := 13) X (hd := dX7_append_13) (kk := ?_)
    refine g_X7_102 (pc := 14) X (hd := dX7_append_14) (hh := by first | assumption | exact pset_s _ _ _ | exact (pset_n (by omega)).trans (by assumption)) (kk := ?_)
    refine v_sipush (pc := 17) X (v := nI 140) (hd := dX7_append_17) (kk := ?_)
    refine v_icmpne (pc := 20) X (tgt := 26) (hd := dX7_append_20) (kt := fun c20 => ?_) (kf := fun c20 => ?_)
    · have hlt : tn < 140 := by
        rcases Nat.lt_or_ge tn 140 with q | q
        · exact q
        · exact absurd (by rw [show tn = 140 by omega]) c20
      refine v_aload_n (pc := 26) X (hd := dX7_append_26) (kk := ?_)
      refine g_X7_19 (pc := 27) X (hd := dX7_append_27) (hh := by first | assumption | exact pset_s _ _ _ | exact (pset_n (by omega)).trans (by assumption)) (kk := ?_)
      refine v_aload_n (pc := 30) X (hd := dX7_append_30) (kk := ?_)
      refine g_X7_102 (pc := 31) X (hd := dX7_append_31) (hh := by first | assumption | exact pset_s _ _ _ | exact (pset_n (by omega)).trans (by assumption)) (kk := ?_)
      refine v_iload_n (pc := 34) X (hd := dX7_append_34) (kk := ?_)
      refine v_iastN (pc := 35) X (j := tn) (hd := dX7_append_35) (hh := by first | assumption | exact pset_s _ _ _ | exact (pset_n (by omega)).trans (by assumption)) (hi := by first | rfl | (simp only [pk_mul, nI_add]; done)) (hj := by omega) (kk := ?_)
      refine v_aload_n (pc := 36) X (hd := dX7_append_36) (kk := ?_)
      refine v_dup (pc := 37) X (hd := dX7_append_37) (kk := ?_)
      refine g_X7_102 (pc := 38) X (hd := dX7_append_38) (hh := by first | assumption | exact pset_s _ _ _ | exact (pset_n (by omega)).trans (by assumption)) (kk := ?_)
      refine v_iconst (pc := 41) X (v := nI 1) (hd := dX7_append_41) (kk := ?_)
      refine v_iadd (pc := 42) X (hd := dX7_append_42) (kk := ?_)
      refine p_X7_102 (pc := 43) X (hd := dX7_append_43) (hh := by first | assumption | exact pset_s _ _ _ | exact (pset_n (by omega)).trans (by assumption)) (kk := ?_)
      refine v_aload_n (pc := 46) X (hd := dX7_append_46) (kk := ?_)
      refine g_X7_102 (pc := 47) X (hd := dX7_append_47) (hh := by first | assumption | exact pset_s _ _ _ | exact (pset_n (by omega)).trans (by assumption)) (kk := ?_)
      exact v_endi (pc := 50) X hr hlk (hd := dX7_append_50) (hf := ⟨by unfold rApp; rw [if_pos c8, if_neg c20], Or.inr ⟨⟨c8, c20⟩, (hM.ste _).sob, (pO.rf.set (by omega) (by omega)).set (by omega) (by omega)⟩⟩)
    · refine v_bipush (pc := 23) X (v := (-3)) (hd := dX7_append_23) (kk := ?_)
      exact v_endi (pc := 25) X hr hlk (hd := dX7_append_25) (hf := ⟨by unfold rApp; rw [if_pos c8, if_pos (Classical.not_not.mp c20)], Or.inl ⟨fun q => q.2 (Classical.not_not.mp c20), rfl⟩⟩)
  · refine v_iconst (pc := 11) X (v := (-1)) (hd := dX7_append_11) (kk := ?_)
    exact v_endi (pc := 12) X hr hlk (hd := dX7_append_12) (hf := ⟨by unfold rApp; rw [if_neg c8], Or.inl ⟨fun q => c8 q.1, rfl⟩⟩)
set_option maxRecDepth 100000 in
set_option maxHeartbeats 4000000 in
theorem c_X7_clearText (l : Launch) (E : pE) (m : Nat) (w pa he te re : Nat → Int32) (np : Nat) (rr : Bool) (ty at_ st ki co : Int32) : pC l E yX7_clearText cX7_clearText 2 (some .int) { frames := 0, cells := 0, slots := 0, locals := 0 } 0 0 [.ref m] (fun h _ => MD m w pa he te re (nI np) (bI (rr = true)) ty at_ st ki co h) (pFi (fun h r h' => r = ty ∧ MD m w pa he te re (nI np) (bI (rr = true)) (nI 0) at_ st ki co h' ∧ pO m (m + 6) h h')) := by
  refine pC_of (by decide) (by simp [Value.category]) (Nat.le_of_ble_eq_true rfl) ?_
  intro h z hp p__ e__ s__ m__ args__ below__ meth__ c__ X hr hlk hname
  have hM := hp
  have hM0 := hM
  obtain ⟨M0, M1, M2, M3, M4, M5⟩ := hM0
  refine v_aload_n (pc := 0) X (hd := dX7_clearText_0) (kk := ?_)
  refine g_X7_102 (pc := 1) X (hd := dX7_clearText_1) (hh := by first | assumption | exact pset_s _ _ _ | exact (pset_n (by omega)).trans (by assumption)) (kk := ?_)
  refine v_istore_n (pc := 4) X (hd := dX7_clearText_4) (kk := ?_)
  refine v_aload_n (pc := 5) X (hd := dX7_clearText_5) (kk := ?_)
  refine v_iconst (pc := 6) X (v := nI 0) (hd := dX7_clearText_6) (kk := ?_)
  refine p_X7_102 (pc := 7) X (hd := dX7_clearText_7) (hh := by first | assumption | exact pset_s _ _ _ | exact (pset_n (by omega)).trans (by assumption)) (kk := ?_)
  refine v_iload_n (pc := 10) X (hd := dX7_clearText_10) (kk := ?_)
  exact v_endi (pc := 11) X hr hlk (hd := dX7_clearText_11) (hf := ⟨rfl, hM.sob, pO.rf.set (by omega) (by omega)⟩)
