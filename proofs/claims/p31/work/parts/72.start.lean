set_option maxRecDepth 100000 in
set_option maxHeartbeats 4000000 in
theorem law_out {p : Program} {l : Launch} {e : Env} {s : State} {m : MethodId} {below : List Frame} {meth : Method} {c : Code} {E : pE} {b L0 : Nat} {xs : Nat → Int32} (C0 : lw_At p s m meth c b L0 xs) (X : pCx p s m #[.ref b] c cL_law 10 RL E (Al s)) {z : Nat} (h9 : pH) (L9 : List (Option Value)) : pV p l e room_1 s m #[.ref b] below meth c 10 E (Al s) (lw_Z below #[.ref b] s) z h9 745 4312 279 L9 [.int (nI 1)] := by
  obtain ⟨hx, hb, hr, hml, hown, hts, hX, hbl, hlk, hgv⟩ := id C0
  rw [nI_t]
  intro H locs ls a0 b0 c0 d
  refine va_forget (fun q hq => c0.2.2 q hq) ?_
  refine W.widen (k := 752635) (n := 6844343) (Nat.le_of_ble_eq_true rfl) (Nat.le_of_ble_eq_true rfl) ?_
  exact W.base (lw_ret (Drawn.sameBut.refl s.drawn lw_cs) hx hb hr hlk dL_law_279)
set_option maxRecDepth 100000 in
set_option maxHeartbeats 4000000 in
/-- from the entry, for every script of at most 260 ints, the law comes to its end with true -/
theorem whole_start {p : Program} {e : Env} {s : State} {m : MethodId} {below : List Frame} {meth : Method} {c : Code} (l : Launch) (hflags : l.flags = flags0) {b L : Nat} {xs : Nat → Int32} (hL : L ≤ 260) (C0 : lw_At p s m meth c b L xs) : W p l e room_1 s m #[Value.ref b] below meth c s.heap [] 0 0 (lw_Z below #[Value.ref b] s) (entryFrame m ([Value.ref b] : List Value).toArray 10) := by
  obtain ⟨hx, hb, hr, hml, hown, hts, hX, hbl, hlk, hgv⟩ := id C0
  obtain ⟨dC, dI, hK⟩ := en_K hts
  obtain ⟨aC, hT⟩ := en_T hts
  have X : pCx p s m #[Value.ref b] c cL_law 10 RL (dC, dI, aC, fun _ => 0, fun _ => 0) (Al s) := ⟨⟨hx, hb, hml, hown, hu_of hts⟩, ⟨hK, hT, en_N hts, en_A hts⟩, trivial, fun q hq => hq⟩
  have G : pV p l e room_1 s m #[Value.ref b] below meth c 10 (dC, dI, aC, fun _ => 0, fun _ => 0) (Al s) (lw_Z below #[Value.ref b] s) s.heap.size (fun _ => none) 0 0 0 [some (.ref b), none, none, none, none, none, none, none, none, none] [] := law_init X (fun h J => law_go X hX hbl hL J (fun h9 L9 => law_out C0 X h9 L9))
  rw [lg_entry_eq]
  exact G s.heap [] _ (fun q y hq => by cases hq) rfl va_S.rf (pL_entry (vs := [Value.ref b]) (n := 10) (by simp [Value.category]) (Nat.le_of_ble_eq_true rfl))
