/-! the law's rows -/
abbrev Al (s : State) : Nat → Prop := fun q => s.heap.size ≤ q
abbrev LL (b x k : Nat) : List (Option Value) := [some (.ref b), some (.ref x), some (.ref (x + 740)), some (.int (nI (4 * k)))]
section PVL
variable {p : Program} {l : Launch} {e : Env} {R : Room} {s : State} {m : MethodId} {args : Array Value} {below : List Frame} {meth : Method} {c : Code} {cc : ByteArray} {nL : Nat} {own : String} {E : pE} {Q : State → Prop} {z : Nat} {h : pH} {k n : Nat} {pc : Nat} {L : List (Option Value)} {st : List Value}
theorem v_xld (X : pCx p s m args c cc nL own E (Al s)) {b L0 : Nat} {xs : Nat → Int32} (hX : va_X b L0 xs s s.heap) (hbl : b < s.heap.size) (hL : L0 ≤ 2048) {i : Int32} (j : Nat) (hd : decode cc pc = .ok (.iaload, 1)) (hi : i = nI j) (hj : j < L0) (kk : pV p l e R s m args below meth c nL E (Al s) Q z h k n (pc + 1) L (.int (xs j) :: st)) : pV p l e R s m args below meth c nL E (Al s) Q z h k n pc L (.int i :: .ref b :: st) := fun H locs ls a0 b0 c0 d => by
  subst hi
  refine va_sld X.1.1 X.1.2.1 hX hbl (Nat.not_le.mpr hbl) c0 (vp_in_nI hj (by omega)) hd ?_
  rw [nI_clamp (by omega)]
  exact kk H locs ls a0 b0 c0 d
theorem v_xlen (X : pCx p s m args c cc nL own E (Al s)) {b L0 : Nat} {xs : Nat → Int32} (hX : va_X b L0 xs s s.heap) (hbl : b < s.heap.size) (hd : decode cc pc = .ok (.arraylength, 1)) (kk : pV p l e R s m args below meth c nL E (Al s) Q z h k n (pc + 1) L (.int (nI L0) :: st)) : pV p l e R s m args below meth c nL E (Al s) Q z h k n pc L (.ref b :: st) := fun H locs ls a0 b0 c0 d =>
  va_slen X.1.1 X.1.2.1 hX hbl (Nat.not_le.mpr hbl) c0 hd (kk H locs ls a0 b0 c0 d)
end PVL
