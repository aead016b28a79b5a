/-! the law's entry: what the tables give -/
theorem tb_in {i : Nat} {w : Cond} (h : tables_1[i]? = some w) : w ∈ lw_tbl := List.mem_append_right _ (List.mem_of_getElem? h)
theorem hu_of {s : State} {A0 : Array Value} (hts : ∀ w ∈ lw_tbl, w.before A0 s = true) : ∀ w ∈ uw, w.before A0 s = true := fun w hw => hts w (List.mem_filter.mp hw).1
set_option maxRecDepth 100000 in
set_option maxHeartbeats 4000000 in
theorem en_K {s : State} {A0 : Array Value} (hts : ∀ w ∈ lw_tbl, w.before A0 s = true) : ∃ (dC : Nat → ClassId) (dI : Nat → Nat → Nat), va_K (dC, dI) vwCl [] s := by
  have hu := hu_of hts
  obtain ⟨c0, i0, h0⟩ := u_known (C := RX0) (T := TX0) (N := 8) (n := 8) hu inU0 (hu _ wx_X0)
  obtain ⟨c1, i1, h1⟩ := u_known (C := RX1) (T := TX1) (N := 3) (n := 3) hu inU1 (hu _ wx_X1)
  obtain ⟨c2, i2, h2⟩ := u_known (C := RX2) (T := TX2) (N := 9) (n := 9) hu inU2 (hu _ wx_X2)
  obtain ⟨c3, i3, h3⟩ := u_known (C := RX3) (T := TX3) (N := 5) (n := 5) hu inU3 (hu _ wx_X3)
  obtain ⟨c4, i4, h4⟩ := u_known (C := RX4) (T := TX4) (N := 3) (n := 3) hu inU4 (hu _ wx_X4)
  obtain ⟨c5, i5, h5⟩ := u_known (C := RX5) (T := TX5) (N := 5) (n := 5) hu inU5 (hu _ wx_X5)
  obtain ⟨c6, i6, h6⟩ := u_known (C := RX6) (T := TX6) (N := 5) (n := 5) hu inU6 (hu _ wx_X6)
  refine ⟨(fun k => if k = 0 then c0 else if k = 1 then c1 else if k = 2 then c2 else if k = 3 then c3 else if k = 4 then c4 else if k = 5 then c5 else c6), (fun k => if k = 0 then i0 else if k = 1 then i1 else if k = 2 then i2 else if k = 3 then i3 else if k = 4 then i4 else if k = 5 then i5 else i6), ?_, fun k q h => by simp at h⟩
  intro k q hq
  match k, hq with
  | 0, hq => cases hq; exact h0
  | 1, hq => cases hq; exact h1
  | 2, hq => cases hq; exact h2
  | 3, hq => cases hq; exact h3
  | 4, hq => cases hq; exact h4
  | 5, hq => cases hq; exact h5
  | 6, hq => cases hq; exact h6
  | k + 7, hq => simp [vwCl] at hq
theorem en_p {s : State} {A0 : Array Value} {t : FieldType} (h : (Cond.arrayClass t).before A0 s = true) : ∃ cA, ArrOfT s cA t ∧ s.vm.findClass ("[" ++ t.toString) = some cA := by
  obtain ⟨cA, kA, comp, h1, h2, h3⟩ := Cond.arrayClass_spec h
  exact ⟨cA, fun n z => ⟨fun k h => (by cases h), kA, h2, comp, h3⟩, h1⟩
theorem en_o {s : State} {A0 : Array Value} {C : String} (h : (Cond.arrayOver (.object C)).before A0 s = true) : ∃ cA, ArrOfT s cA (.object C) ∧ va_RA s cA (.object C) := by
  obtain ⟨comp, c, k, h1, h2, h3, h4, h5⟩ := Cond.arrayOver_spec h
  exact ⟨c, fun n z => ⟨fun k h => (by cases h), k, h3, comp, h4⟩, k, comp, h3, h4, h1, h5⟩
set_option maxRecDepth 100000 in
set_option maxHeartbeats 4000000 in
theorem en_A {s : State} {A0 : Array Value} (hts : ∀ w ∈ lw_tbl, w.before A0 s = true) : ∀ C ∈ pAO, va_AO C s := by
  intro C hC
  simp only [pAO, List.mem_cons, List.not_mem_nil, or_false] at hC
  rcases hC with rfl | rfl | rfl | rfl | rfl
  · exact va_AO.of (hts _ (tb_in (i := 30) (by decide +kernel)))
  · exact va_AO.of (hts _ (tb_in (i := 32) (by decide +kernel)))
  · exact va_AO.of (hts _ (tb_in (i := 34) (by decide +kernel)))
  · exact va_AO.of (hts _ (tb_in (i := 153) (by decide +kernel)))
  · exact va_AO.of (hts _ (tb_in (i := 165) (by decide +kernel)))
set_option maxRecDepth 100000 in
set_option maxHeartbeats 4000000 in
theorem en_T {s : State} {A0 : Array Value} (hts : ∀ w ∈ lw_tbl, w.before A0 s = true) : ∃ aC : Nat → ClassId, ∀ k : Nat, k < 8 → ArrOfT s (aC k) (pT k) ∧ va_RA s (aC k) (pT k) := by
  have hu := hu_of hts
  obtain ⟨c0, g0, h0⟩ := en_p (t := .char) (hu _ wa_char)
  obtain ⟨c1, g1, h1⟩ := en_p (t := .int) (hu _ wa_int)
  obtain ⟨c2, g2, h2⟩ := en_p (t := .boolean) (hu _ wa_boolean)
  obtain ⟨c3, g3, h3⟩ := en_o (C := RX1) (A0 := A0) (hts _ (tb_in (i := 30) (by decide +kernel)))
  obtain ⟨c4, g4, h4⟩ := en_o (C := RX0) (A0 := A0) (hts _ (tb_in (i := 32) (by decide +kernel)))
  obtain ⟨c5, g5, h5⟩ := en_o (C := RX5) (A0 := A0) (hts _ (tb_in (i := 34) (by decide +kernel)))
  obtain ⟨c6, g6, h6⟩ := en_o (C := RX2) (A0 := A0) (hts _ (tb_in (i := 153) (by decide +kernel)))
  obtain ⟨c7, g7, h7⟩ := en_o (C := RX4) (A0 := A0) (hts _ (tb_in (i := 165) (by decide +kernel)))
  refine ⟨(fun k => if k = 0 then c0 else if k = 1 then c1 else if k = 2 then c2 else if k = 3 then c3 else if k = 4 then c4 else if k = 5 then c5 else if k = 6 then c6 else c7), fun k hk => ?_⟩
  match k, hk with
  | 0, _ => exact ⟨g0, h0⟩
  | 1, _ => exact ⟨g1, h1⟩
  | 2, _ => exact ⟨g2, h2⟩
  | 3, _ => exact ⟨g3, h3⟩
  | 4, _ => exact ⟨g4, h4⟩
  | 5, _ => exact ⟨g5, h5⟩
  | 6, _ => exact ⟨g6, h6⟩
  | 7, _ => exact ⟨g7, h7⟩
  | k + 8, hk => omega
set_option maxRecDepth 100000 in
set_option maxHeartbeats 4000000 in
theorem en_N {s : State} {A0 : Array Value} (hts : ∀ w ∈ lw_tbl, w.before A0 s = true) : ∀ w ∈ pNest, va_Nw w s := by
  intro w hw
  simp only [pNest, List.mem_cons, List.not_mem_nil, or_false] at hw
  rcases hw with rfl | rfl | rfl | rfl | rfl
  · exact va_Nw.of rfl (hts _ (tb_in (i := 36) (by decide +kernel)))
  · exact va_Nw.of rfl (hts _ (tb_in (i := 54) (by decide +kernel)))
  · exact va_Nw.of rfl (hts _ (tb_in (i := 94) (by decide +kernel)))
  · exact va_Nw.of rfl (hts _ (tb_in (i := 168) (by decide +kernel)))
  · exact va_Nw.of rfl (hts _ (tb_in (i := 234) (by decide +kernel)))
