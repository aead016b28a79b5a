/-! the law's invariant, and isSo -/
def W2 (v : Nat → Int32) (nh ns : Nat) : Prop := (∀ j, j < 4 → v (24 + 7 * j + 4) = fTurfsAt v (nI j) ns + v (24 + 7 * j + 5) + v (24 + 7 * j + 6)) ∧ (∀ b, b < 4 → ∀ k, nh ≤ k → k < 6 → bt (v (24 + 7 * b + 3)) k = 0)
def LV (x y n : Nat) (h : pH) : Prop := ∃ (w : Nat → Int32) (nh nb ns : Nat), LB x y w w h ∧ Iv w nh nb ns ∧ W2 w nh ns ∧ isN (w 0) 0 n
theorem gH_in {i n : Nat} (hn : n < 2 ^ 31) (h : i < n) : gH (nI n) (nI i) := ⟨by rw [← nI_z]; exact (nI_leI (by omega) (by omega)).mpr (by omega), nI_lt h hn⟩
theorem gH_out {n : Nat} (hn : n < 2 ^ 31) : ¬ gH (nI n) (nI n) := fun q => absurd ((nI_ltI hn hn).mp q.2) (by omega)
section QAT
variable {w : Nat → Int32} {nh nb ns i j k : Nat}
theorem qC0 (w : Nat → Int32) (ps ty : Int32) (ns : Nat) : qCount w ps ty (nI 0) ns = w 0 := by
  have e : nx (nI 0) = 0 := by decide +kernel
  unfold qCount
  rw [if_pos (by decide +kernel), e]
  rfl
theorem qC1 (w : Nat → Int32) (ps ty : Int32) (ns : Nat) : qCount w ps ty (nI 1) ns = w 1 := by
  have e : nx (nI 1) = 1 := by decide +kernel
  unfold qCount
  rw [if_pos (by decide +kernel), e]
  rfl
theorem qC2 (w : Nat → Int32) (ps ty : Int32) (ns : Nat) : qCount w ps ty (nI 2) ns = w 2 := by
  have e : nx (nI 2) = 2 := by decide +kernel
  unfold qCount
  rw [if_pos (by decide +kernel), e]
  rfl
theorem qC3 (w : Nat → Int32) (ps ty : Int32) (ns : Nat) : qCount w ps ty (nI 3) ns = w 3 := by
  have e : nx (nI 3) = 3 := by decide +kernel
  unfold qCount
  rw [if_pos (by decide +kernel), e]
  rfl
theorem qC4 (w : Nat → Int32) (ps ty : Int32) (ns : Nat) : qCount w ps ty (nI 4) ns = fDryN w ns := by
  have e : nx (nI 4) = 4 := by decide +kernel
  unfold qCount
  rw [if_pos (by decide +kernel), e]
  rfl
theorem qC5 (w : Nat → Int32) (ps ty : Int32) (ns : Nat) : qCount w ps ty (nI 5) ns = w 4 := by
  have e : nx (nI 5) = 5 := by decide +kernel
  unfold qCount
  rw [if_pos (by decide +kernel), e]
  rfl
theorem qC6 (w : Nat → Int32) (ps ty : Int32) (ns : Nat) : qCount w ps ty (nI 6) ns = w 5 := by
  have e : nx (nI 6) = 6 := by decide +kernel
  unfold qCount
  rw [if_pos (by decide +kernel), e]
  rfl
theorem qC9 (w : Nat → Int32) (ps ty : Int32) (ns : Nat) : qCount w ps ty (nI 9) ns = ty := by
  have e : nx (nI 9) = 9 := by decide +kernel
  unfold qCount
  rw [if_pos (by decide +kernel), e]
  rfl
theorem qR_at (I : Iv w nh nb ns) (hi : i < nh) (hj : j < nb) : qRight w nh (nI i) (nI j) (nI 0) = fShare w nh i j ∧ qRight w nh (nI i) (nI j) (nI 1) = w (52 + 4 * i + j) ∧ qRight w nh (nI i) (nI j) (nI 2) = fMay w nh i j := by
  obtain ⟨hn6, hb4, hs12, en, eb, es⟩ := I.1
  have e1 : nx (nI i) = i := nx_nI (by omega)
  have e2 : nx (nI j) = j := nx_nI (by omega)
  have g1 : gH (w 1) (nI i) := by rw [en]; exact gH_in (by omega) hi
  have g2 : gH (w 2) (nI j) := by rw [eb]; exact gH_in (by omega) hj
  refine ⟨?_, ?_, ?_⟩
  · unfold qRight; rw [if_pos ⟨g1, g2, by decide +kernel⟩, if_pos (by decide +kernel), e1, e2]
  · unfold qRight; rw [if_pos ⟨g1, g2, by decide +kernel⟩, if_neg (by decide +kernel), if_pos rfl, e1, e2]
  · unfold qRight; rw [if_pos ⟨g1, g2, by decide +kernel⟩, if_neg (by decide +kernel), if_neg (by decide +kernel), e1, e2]
theorem qH_at (I : Iv w nh nb ns) (hi : i < nh) : qHouse w nb ns (nI i) (nI 0) = w (6 + 3 * i + 0) ∧ qHouse w nb ns (nI i) (nI 1) = w (6 + 3 * i + 1) ∧ qHouse w nb ns (nI i) (nI 2) = w (6 + 3 * i + 2) ∧ qHouse w nb ns (nI i) (nI 3) = fBanksOf w i nb ∧ qHouse w nb ns (nI i) (nI 4) = fStacksOf w (nI i) false ns ∧ qHouse w nb ns (nI i) (nI 5) = fStacksOf w (nI i) true ns := by
  obtain ⟨hn6, hb4, hs12, en, eb, es⟩ := I.1
  have e1 : nx (nI i) = i := nx_nI (by omega)
  have e0 : nx (nI 0) = 0 := by decide +kernel
  have e2 : nx (nI 1) = 1 := by decide +kernel
  have e3 : nx (nI 2) = 2 := by decide +kernel
  have g1 : gH (w 1) (nI i) := by rw [en]; exact gH_in (by omega) hi
  refine ⟨?_, ?_, ?_, ?_, ?_, ?_⟩
  · unfold qHouse; rw [if_pos ⟨g1, by decide +kernel⟩, if_pos (by decide +kernel), e1, e0]
  · unfold qHouse; rw [if_pos ⟨g1, by decide +kernel⟩, if_pos (by decide +kernel), e1, e2]
  · unfold qHouse; rw [if_pos ⟨g1, by decide +kernel⟩, if_pos (by decide +kernel), e1, e3]
  · unfold qHouse; rw [if_pos ⟨g1, by decide +kernel⟩, if_neg (by decide +kernel), if_pos rfl, e1]
  · unfold qHouse; rw [if_pos ⟨g1, by decide +kernel⟩, if_neg (by decide +kernel), if_neg (by decide +kernel), show decide (nI 4 = nI 5) = false by decide +kernel]
  · unfold qHouse; rw [if_pos ⟨g1, by decide +kernel⟩, if_neg (by decide +kernel), if_neg (by decide +kernel), show decide (nI 5 = nI 5) = true by decide +kernel]
theorem qH_out (I : Iv w nh nb ns) : qHouse w nb ns (nI nh) (nI 0) = -1 := by
  obtain ⟨hn6, hb4, hs12, en, eb, es⟩ := I.1
  unfold qHouse
  rw [if_neg (fun q => by rw [en] at q; exact gH_out (by omega) q.1)]
theorem qB0_at (I : Iv w nh nb ns) (hj : j < nb) : qBank w ns (nI j) (nI 0) = w (24 + 7 * j + 0) := by
  obtain ⟨hn6, hb4, hs12, en, eb, es⟩ := I.1
  have e1 : nx (nI j) = j := nx_nI (by omega)
  have e2 : nx (nI 0) = 0 := by decide +kernel
  have g1 : gH (w 2) (nI j) := by rw [eb]; exact gH_in (by omega) hj
  unfold qBank
  rw [if_pos ⟨g1, by decide +kernel⟩, e1, e2]
  rfl
theorem qB1_at (I : Iv w nh nb ns) (hj : j < nb) : qBank w ns (nI j) (nI 1) = w (24 + 7 * j + 1) := by
  obtain ⟨hn6, hb4, hs12, en, eb, es⟩ := I.1
  have e1 : nx (nI j) = j := nx_nI (by omega)
  have e2 : nx (nI 1) = 1 := by decide +kernel
  have g1 : gH (w 2) (nI j) := by rw [eb]; exact gH_in (by omega) hj
  unfold qBank
  rw [if_pos ⟨g1, by decide +kernel⟩, e1, e2]
  rfl
theorem qB2_at (I : Iv w nh nb ns) (hj : j < nb) : qBank w ns (nI j) (nI 2) = w (24 + 7 * j + 2) := by
  obtain ⟨hn6, hb4, hs12, en, eb, es⟩ := I.1
  have e1 : nx (nI j) = j := nx_nI (by omega)
  have e2 : nx (nI 2) = 2 := by decide +kernel
  have g1 : gH (w 2) (nI j) := by rw [eb]; exact gH_in (by omega) hj
  unfold qBank
  rw [if_pos ⟨g1, by decide +kernel⟩, e1, e2]
  rfl
theorem qB3_at (I : Iv w nh nb ns) (hj : j < nb) : qBank w ns (nI j) (nI 3) = fBear (w (24 + 7 * j + 1)) (w 4) (w (24 + 7 * j + 2)) := by
  obtain ⟨hn6, hb4, hs12, en, eb, es⟩ := I.1
  have e1 : nx (nI j) = j := nx_nI (by omega)
  have e2 : nx (nI 3) = 3 := by decide +kernel
  have g1 : gH (w 2) (nI j) := by rw [eb]; exact gH_in (by omega) hj
  unfold qBank
  rw [if_pos ⟨g1, by decide +kernel⟩, e1, e2]
  rfl
theorem qB4_at (I : Iv w nh nb ns) (hj : j < nb) : qBank w ns (nI j) (nI 4) = w (24 + 7 * j + 3) := by
  obtain ⟨hn6, hb4, hs12, en, eb, es⟩ := I.1
  have e1 : nx (nI j) = j := nx_nI (by omega)
  have e2 : nx (nI 4) = 4 := by decide +kernel
  have g1 : gH (w 2) (nI j) := by rw [eb]; exact gH_in (by omega) hj
  unfold qBank
  rw [if_pos ⟨g1, by decide +kernel⟩, e1, e2]
  rfl
theorem qB5_at (I : Iv w nh nb ns) (hj : j < nb) : qBank w ns (nI j) (nI 5) = w (24 + 7 * j + 4) := by
  obtain ⟨hn6, hb4, hs12, en, eb, es⟩ := I.1
  have e1 : nx (nI j) = j := nx_nI (by omega)
  have e2 : nx (nI 5) = 5 := by decide +kernel
  have g1 : gH (w 2) (nI j) := by rw [eb]; exact gH_in (by omega) hj
  unfold qBank
  rw [if_pos ⟨g1, by decide +kernel⟩, e1, e2]
  rfl
theorem qB6_at (I : Iv w nh nb ns) (hj : j < nb) : qBank w ns (nI j) (nI 6) = fTurfsAt w (nI j) ns := by
  obtain ⟨hn6, hb4, hs12, en, eb, es⟩ := I.1
  have e1 : nx (nI j) = j := nx_nI (by omega)
  have e2 : nx (nI 6) = 6 := by decide +kernel
  have g1 : gH (w 2) (nI j) := by rw [eb]; exact gH_in (by omega) hj
  unfold qBank
  rw [if_pos ⟨g1, by decide +kernel⟩, e1, e2]
  rfl
theorem qB7_at (I : Iv w nh nb ns) (hj : j < nb) : qBank w ns (nI j) (nI 7) = w (24 + 7 * j + 5) := by
  obtain ⟨hn6, hb4, hs12, en, eb, es⟩ := I.1
  have e1 : nx (nI j) = j := nx_nI (by omega)
  have e2 : nx (nI 7) = 7 := by decide +kernel
  have g1 : gH (w 2) (nI j) := by rw [eb]; exact gH_in (by omega) hj
  unfold qBank
  rw [if_pos ⟨g1, by decide +kernel⟩, e1, e2]
  rfl
theorem qB8_at (I : Iv w nh nb ns) (hj : j < nb) : qBank w ns (nI j) (nI 8) = w (24 + 7 * j + 6) := by
  obtain ⟨hn6, hb4, hs12, en, eb, es⟩ := I.1
  have e1 : nx (nI j) = j := nx_nI (by omega)
  have e2 : nx (nI 8) = 8 := by decide +kernel
  have g1 : gH (w 2) (nI j) := by rw [eb]; exact gH_in (by omega) hj
  unfold qBank
  rw [if_pos ⟨g1, by decide +kernel⟩, e1, e2]
  rfl
theorem qB_out (I : Iv w nh nb ns) : qBank w ns (nI nb) (nI 0) = -1 := by
  obtain ⟨hn6, hb4, hs12, en, eb, es⟩ := I.1
  unfold qBank
  rw [if_neg (fun q => by rw [eb] at q; exact gH_out (by omega) q.1)]
theorem qS0_at (I : Iv w nh nb ns) (hk : k < ns) : qStack w (nI k) (nI 0) = w (76 + 5 * k + 0) := by
  obtain ⟨hn6, hb4, hs12, en, eb, es⟩ := I.1
  have e1 : nx (nI k) = k := nx_nI (by omega)
  have e2 : nx (nI 0) = 0 := by decide +kernel
  have g1 : gH (w 3) (nI k) := by rw [es]; exact gH_in (by omega) hk
  unfold qStack
  rw [if_pos ⟨g1, by decide +kernel⟩, if_pos (by decide +kernel), e1, e2]
theorem qS1_at (I : Iv w nh nb ns) (hk : k < ns) : qStack w (nI k) (nI 1) = w (76 + 5 * k + 1) := by
  obtain ⟨hn6, hb4, hs12, en, eb, es⟩ := I.1
  have e1 : nx (nI k) = k := nx_nI (by omega)
  have e2 : nx (nI 1) = 1 := by decide +kernel
  have g1 : gH (w 3) (nI k) := by rw [es]; exact gH_in (by omega) hk
  unfold qStack
  rw [if_pos ⟨g1, by decide +kernel⟩, if_pos (by decide +kernel), e1, e2]
theorem qS2_at (I : Iv w nh nb ns) (hk : k < ns) : qStack w (nI k) (nI 2) = w (76 + 5 * k + 2) := by
  obtain ⟨hn6, hb4, hs12, en, eb, es⟩ := I.1
  have e1 : nx (nI k) = k := nx_nI (by omega)
  have e2 : nx (nI 2) = 2 := by decide +kernel
  have g1 : gH (w 3) (nI k) := by rw [es]; exact gH_in (by omega) hk
  unfold qStack
  rw [if_pos ⟨g1, by decide +kernel⟩, if_pos (by decide +kernel), e1, e2]
theorem qS3_at (I : Iv w nh nb ns) (hk : k < ns) : qStack w (nI k) (nI 3) = w (76 + 5 * k + 3) := by
  obtain ⟨hn6, hb4, hs12, en, eb, es⟩ := I.1
  have e1 : nx (nI k) = k := nx_nI (by omega)
  have e2 : nx (nI 3) = 3 := by decide +kernel
  have g1 : gH (w 3) (nI k) := by rw [es]; exact gH_in (by omega) hk
  unfold qStack
  rw [if_pos ⟨g1, by decide +kernel⟩, if_pos (by decide +kernel), e1, e2]
theorem qS4_at (I : Iv w nh nb ns) (hk : k < ns) : qStack w (nI k) (nI 4) = w (76 + 5 * k + 4) := by
  obtain ⟨hn6, hb4, hs12, en, eb, es⟩ := I.1
  have e1 : nx (nI k) = k := nx_nI (by omega)
  have e2 : nx (nI 4) = 4 := by decide +kernel
  have g1 : gH (w 3) (nI k) := by rw [es]; exact gH_in (by omega) hk
  unfold qStack
  rw [if_pos ⟨g1, by decide +kernel⟩, if_pos (by decide +kernel), e1, e2]
theorem qS5_at (I : Iv w nh nb ns) (hk : k < ns) : qStack w (nI k) (nI 5) = fW (w (76 + 5 * k + 3)) := by
  obtain ⟨hn6, hb4, hs12, en, eb, es⟩ := I.1
  have e1 : nx (nI k) = k := nx_nI (by omega)
  have e2 : nx (nI 5) = 5 := by decide +kernel
  have g1 : gH (w 3) (nI k) := by rw [es]; exact gH_in (by omega) hk
  unfold qStack
  rw [if_pos ⟨g1, by decide +kernel⟩, if_neg (by decide +kernel), if_pos rfl, e1]
theorem qS6_at (I : Iv w nh nb ns) (hk : k < ns) : qStack w (nI k) (nI 6) = (if w (76 + 5 * k + 3) ≤ nI 30000 then nI 1 else nI 0) := by
  obtain ⟨hn6, hb4, hs12, en, eb, es⟩ := I.1
  have e1 : nx (nI k) = k := nx_nI (by omega)
  have e2 : nx (nI 6) = 6 := by decide +kernel
  have g1 : gH (w 3) (nI k) := by rw [es]; exact gH_in (by omega) hk
  unfold qStack
  rw [if_pos ⟨g1, by decide +kernel⟩, if_neg (by decide +kernel), if_neg (by decide +kernel), e1]
theorem qS_out (I : Iv w nh nb ns) : qStack w (nI ns) (nI 0) = -1 := by
  obtain ⟨hn6, hb4, hs12, en, eb, es⟩ := I.1
  unfold qStack
  rw [if_neg (fun q => by rw [es] at q; exact gH_out (by omega) q.1)]
theorem bo_step (w : Nat → Int32) (i k : Nat) : fBanksOf w i (k + 1) = fBanksOf w i k + bt (w (24 + 7 * k + 3)) i := by
  show fBanksOf w i k + _ = _
  rcases bt_b (w (24 + 7 * k + 3)) i with q | q
  · rw [if_neg (bt_z q), q, nI_z]
  · rw [if_pos (show hR w i k from q.trans nI_t.symm), q, nI_t]
theorem so_p {hh : Int32} (h : w (76 + 5 * k + 0) = hh) : fStacksOf w hh false (k + 1) = fStacksOf w hh false k + nI 1 ∧ fStacksOf w hh true (k + 1) = fStacksOf w hh true k + w (76 + 5 * k + 2) :=
  ⟨by show fStacksOf w hh false k + _ = _; rw [if_pos h]; rfl, by show fStacksOf w hh true k + _ = _; rw [if_pos h]; rfl⟩
theorem so_n {hh : Int32} (h : ¬ w (76 + 5 * k + 0) = hh) : fStacksOf w hh false (k + 1) = fStacksOf w hh false k + nI 0 ∧ fStacksOf w hh true (k + 1) = fStacksOf w hh true k + nI 0 :=
  ⟨by show fStacksOf w hh false k + _ = _; rw [if_neg h], by show fStacksOf w hh true k + _ = _; rw [if_neg h]⟩
theorem ta_p {b : Int32} (h : w (76 + 5 * k + 1) = b) : fTurfsAt w b (k + 1) = fTurfsAt w b k + w (76 + 5 * k + 2) := by show fTurfsAt w b k + _ = _; rw [if_pos h]
theorem ta_n {b : Int32} (h : ¬ w (76 + 5 * k + 1) = b) : fTurfsAt w b (k + 1) = fTurfsAt w b k + nI 0 := by show fTurfsAt w b k + _ = _; rw [if_neg h]
end QAT
