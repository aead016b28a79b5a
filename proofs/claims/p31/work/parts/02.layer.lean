/-! THE LAYER: an abstract heap (a function from addresses to cells), an abstract list of locals, and a judgement pV over both; a contract pC of a method over the whole heap. -/
abbrev pE : Type := (Nat → ClassId) × (Nat → Nat → Nat) × (Nat → ClassId) × (Nat → Nat) × (Nat → Nat)
abbrev pH : Type := Nat → Option va_E
/-- the kinds of arrays -/
def pT : Nat → FieldType := fun k => match k with
  | 0 => .char
  | 1 => .int
  | 2 => .boolean
  | 3 => .object RX1
  | 4 => .object RX0
  | 5 => .object RX5
  | 6 => .object RX2
  | _ => .object RX4
def px (E : pE) (x : va_E) : va_E := match x with
  | .inl a => .inl (E.2.2.1 a.1, a.2)
  | .inr o => .inr o
def pR (E : pE) (A : Nat → Prop) (h : pH) (H : Heap) : Prop := ∀ (q : Nat) (x : va_E), h q = some x → va_at (E.1, E.2.1) vwCl (q, px E x) H ∧ A q
def pset (h : pH) (a : Nat) (x : va_E) : pH := fun q => if q = a then some x else h q
theorem pset_s (h : pH) (a : Nat) (x : va_E) : pset h a x a = some x := if_pos rfl
theorem pset_n {h : pH} {a q : Nat} {x : va_E} (hq : q ≠ a) : pset h a x q = h q := if_neg hq
theorem pset_pset (h : pH) (a : Nat) (x y : va_E) : pset (pset h a x) a y = pset h a y := by
  funext q
  unfold pset
  by_cases e : q = a
  · rw [if_pos e, if_pos e]
  · rw [if_neg e, if_neg e, if_neg e]
theorem pR.set {E : pE} {A : Nat → Prop} {h : pH} {H H1 : Heap} {a : Nat} {x : va_E} (hh : pR E A h H) (ha : A a) (he : va_at (E.1, E.2.1) vwCl (a, px E x) H1) (oq : ∀ q : Nat, q ≠ a → H1[q]? = H[q]?) : pR E A (pset h a x) H1 := by
  intro q y hq
  by_cases e : q = a
  · subst e
    rw [pset_s] at hq
    cases hq
    exact ⟨he, ha⟩
  · rw [pset_n e] at hq
    exact ⟨(hh q y hq).1.kept (oq q e), (hh q y hq).2⟩
theorem pR.lt {E : pE} {A : Nat → Prop} {h : pH} {H : Heap} {q : Nat} {x : va_E} (hh : pR E A h H) (hq : h q = some x) : q < H.size := (hh q x hq).1.lt
/-- objects and arrays -/
abbrev ob (ci : Nat) (fs : List Value) : va_E := .inr (ci, fs)
abbrev ai (k n : Nat) (f : Nat → Int32) : va_E := .inl (k, n, .inl f)
abbrev ar (k n : Nat) (f : Nat → Option Nat) : va_E := .inl (k, n, .inr (.inr (.inr (.inr f))))
/-! words -/
def uw : List Cond := lw_tbl.filter goodWord
theorem uw_good : GoodIn uw uw := fun w hw => ⟨hw, good_of_word (List.mem_filter.mp hw).2⟩
theorem uw_in {i : Nat} {w : Cond} (h : tables_1[i]? = some w) (g : goodWord w = true) : w ∈ uw := List.mem_filter.mpr ⟨List.mem_append_right _ (List.mem_of_getElem? h), g⟩
theorem uw_sel {i : Nat} {w : Cond} (h : (k2_sels lw_privs)[i]? = some w) (g : goodWord w = true) : w ∈ uw := List.mem_filter.mpr ⟨List.mem_append_left _ (List.mem_of_getElem? h), g⟩
def wy (y : MethodName) (cc : ByteArray) (n : Nat) (r : Option FieldType) : List Cond := .code y cc n r :: uw
theorem wy_good {y : MethodName} {cc : ByteArray} {n : Nat} {r : Option FieldType} (h : Cond.code y cc n r ∈ uw) : GoodIn uw (wy y cc n r) := by
  intro w hw
  rcases List.mem_cons.mp hw with e | e
  · rw [e]; exact uw_good _ h
  · exact uw_good _ e
/-! the tables' facts that are no words: nest mates, arrays over classes -/
def pNest : List Cond := [.methodLinkNest RX2 48 yX1_init RX6, .methodLinkNest RX2 49 yX0_init RX6, .methodLinkNest RX2 50 yX5_init RX6, .methodLinkNest RX6 29 yX3_init RX6, .methodLinkNest RX2 61 yX6_isWithin RX6]
def pAO : List String := [RX1, RX0, RX5, RX2, RX4]
def pK (E : pE) (U : State) : Prop := va_K (E.1, E.2.1) vwCl [] U ∧ (∀ k : Nat, k < 8 → ArrOfT U (E.2.2.1 k) (pT k) ∧ va_RA U (E.2.2.1 k) (pT k)) ∧ (∀ w ∈ pNest, va_Nw w U) ∧ (∀ C ∈ pAO, va_AO C U)
theorem pNest_same {u U : State} (h : u.vm = U.vm) (hz : ∀ w ∈ pNest, va_Nw w u) : ∀ w ∈ pNest, va_Nw w U := by
  intro w hw
  have h1 := hz w hw
  simp only [pNest, List.mem_cons, List.not_mem_nil, or_false] at hw
  rcases hw with rfl | rfl | rfl | rfl | rfl <;> exact va_Nw.same rfl h h1
theorem pNest_warm {s U : State} (hW : s.WarmedH U.vm) (hz : ∀ w ∈ pNest, va_Nw w s) : ∀ w ∈ pNest, va_Nw w U := by
  intro w hw
  have h1 := hz w hw
  simp only [pNest, List.mem_cons, List.not_mem_nil, or_false] at hw
  rcases hw with rfl | rfl | rfl | rfl | rfl <;> exact va_Nw.warmM hW h1
theorem pK.same {E : pE} {u U : State} (h : u.vm = U.vm) (hk : pK E u) : pK E U := by
  have ha : u.vm.Alike U.vm := h ▸ Vm.Alike.refl u.vm
  exact ⟨va_K.moved ha hk.1, fun k q => ⟨arrOfT_moved ha (hk.2.1 k q).1, (hk.2.1 k q).2.moved ha⟩, pNest_same h hk.2.2.1, fun C hC => (hk.2.2.2 C hC).moved ha⟩
theorem pK.warm {E : pE} {s U : State} (hW : s.WarmedH U.vm) (hk : pK E s) : pK E U := by
  have ha : s.vm.Alike U.vm := hW.alike
  exact ⟨va_K.moved ha hk.1, fun k q => ⟨arrOfT_moved ha (hk.2.1 k q).1, (hk.2.1 k q).2.moved ha⟩, pNest_warm hW hk.2.2.1, fun C hC => (hk.2.2.2 C hC).moved ha⟩
/-! no texts, no statics here -/
def pS (_ : pE) (_ : Nat → Prop) (_ : State) (_ : Heap) : Prop := True
theorem pS.same {E : pE} {A : Nat → Prop} {u U : State} {H : Heap} (_ : u.vm = U.vm) (hk : pS E A u H) : pS E A U H := hk
theorem pS.warm {E : pE} {A : Nat → Prop} {s U : State} {H : Heap} (_ : s.WarmedH U.vm) (hk : pS E A s H) : pS E A U H := hk
theorem pS.kept {E : pE} {A B : Nat → Prop} {U : State} {H H1 : Heap} (hk : pS E A U H) (_ : ∀ a : Nat, a < H.size → ¬ A a → H1[a]? = H[a]?) (_ : ∀ q, B q → A q) : pS E B U H1 := hk
/-! locals -/
def pkeep (a : Option Value) : Option Value := match a with
  | some (.long _) => none
  | some (.double _) => none
  | x => x
def lset : List (Option Value) → Nat → Value → List (Option Value)
  | [], _, _ => []
  | _ :: t, 0, v => some v :: t
  | a :: t, 1, v => pkeep a :: lset t 0 v
  | a :: t, i + 2, v => a :: lset t (i + 1) v
def pL (ls : Array Slot) (nL : Nat) (L : List (Option Value)) : Prop := ls.size = nL ∧ lv_wf ls ∧ ∀ (i : Nat) (v : Value), L[i]? = some (some v) → ls[i]? = some (.val v)
def lpairs (L : List (Option Value)) : List (Nat × Value) := (List.range L.length).filterMap fun i => (L.getD i none).map fun v => (i, v)
theorem lpairs_of {L : List (Option Value)} {i : Nat} {v : Value} (h : L[i]? = some (some v)) : (i, v) ∈ lpairs L := by
  have hi : i < L.length := (List.getElem?_eq_some_iff.mp h).1
  refine List.mem_filterMap.mpr ⟨i, List.mem_range.mpr hi, ?_⟩
  rw [List.getD_eq_getElem?_getD, h]
  rfl
theorem lpairs_to {L : List (Option Value)} {q : Nat × Value} (h : q ∈ lpairs L) : L[q.1]? = some (some q.2) := by
  obtain ⟨i, hi, he⟩ := List.mem_filterMap.mp h
  have hi := List.mem_range.mp hi
  rw [List.getD_eq_getElem?_getD, List.getElem?_eq_getElem hi] at he
  cases hv : L[i] with
  | none => simp [hv] at he
  | some v =>
    simp [hv] at he
    rw [← he]
    simp [List.getElem?_eq_getElem hi, hv]
theorem pL.has {ls : Array Slot} {nL : Nat} {L : List (Option Value)} (h : pL ls nL L) : lv_has ls nL (lpairs L) := ⟨h.1, h.2.1, fun _ hq => h.2.2 _ _ (lpairs_to hq)⟩
theorem pkeep_of {a : Option Value} {w : Value} (h : pkeep a = some w) : a = some w ∧ ¬ w.category = 2 := by
  cases a with
  | none => simp [pkeep] at h
  | some x => cases x <;> simp [pkeep] at h <;> subst h <;> exact ⟨rfl, by simp [Value.category]⟩
theorem lset_of : ∀ (L : List (Option Value)) (i : Nat) (v : Value) (j : Nat) (w : Value), (lset L i v)[j]? = some (some w) → (j = i ∧ w = v) ∨ (j ≠ i ∧ L[j]? = some (some w) ∧ ¬ (j + 1 = i ∧ w.category = 2))
  | [], _, _, j, w, h => by simp [lset] at h
  | a :: t, 0, v, j, w, h => by
    cases j with
    | zero => simp [lset] at h; exact Or.inl ⟨rfl, h.symm⟩
    | succ j => simp [lset] at h; exact Or.inr ⟨by omega, by simpa using h, by omega⟩
  | a :: t, 1, v, j, w, h => by
    cases j with
    | zero =>
      simp [lset] at h
      obtain ⟨h1, h2⟩ := pkeep_of h
      exact Or.inr ⟨by omega, by simpa using h1, fun q => h2 q.2⟩
    | succ j =>
      simp only [lset, List.getElem?_cons_succ] at h
      rcases lset_of t 0 v j w h with ⟨h1, h2⟩ | ⟨h1, h2, h3⟩
      · exact Or.inl ⟨by omega, h2⟩
      · exact Or.inr ⟨by omega, by simpa using h2, by omega⟩
  | a :: t, i + 2, v, j, w, h => by
    cases j with
    | zero => simp [lset] at h; exact Or.inr ⟨by omega, by simpa using h, by omega⟩
    | succ j =>
      simp only [lset, List.getElem?_cons_succ] at h
      rcases lset_of t (i + 1) v j w h with ⟨h1, h2⟩ | ⟨h1, h2, h3⟩
      · exact Or.inl ⟨by omega, h2⟩
      · exact Or.inr ⟨by omega, by simpa using h2, fun q => h3 ⟨by omega, q.2⟩⟩
theorem pL.set {ls' : Array Slot} {nL : Nat} {L : List (Option Value)} {i : Nat} {v : Value} (h : lv_has ls' nL ((i, v) :: (lpairs L).filter (fun q => !(q.1 == i) && !(q.1 + 1 == i && q.2.category == 2)))) : pL ls' nL (lset L i v) := by
  refine ⟨h.1, h.2.1, fun j w hj => ?_⟩
  rcases lset_of L i v j w hj with ⟨h1, h2⟩ | ⟨h1, h2, h3⟩
  · subst h1; subst h2
    exact h.2.2 (j, w) List.mem_cons_self
  · refine h.2.2 (j, w) (List.mem_cons_of_mem _ (List.mem_filter.mpr ⟨lpairs_of h2, ?_⟩))
    have q1 : (j == i) = false := by simpa using h1
    have q2 : (j + 1 == i && w.category == 2) = false := by
      cases hc : (j + 1 == i && w.category == 2) with
      | false => rfl
      | true => simp at hc; exact absurd hc h3
    simp only [q1, q2]
    rfl
def lset2 (L : List (Option Value)) (i : Nat) (v : Value) : List (Option Value) := (lset L i v).set (i + 1) none
theorem pL.set2 {ls' : Array Slot} {nL : Nat} {L : List (Option Value)} {i : Nat} {v : Value} (h : lv_has ls' nL ((i, v) :: (lpairs L).filter (fun q => !(q.1 == i) && (!(q.1 == i + 1) && !(q.1 + 1 == i && q.2.category == 2))))) : pL ls' nL (lset2 L i v) := by
  refine ⟨h.1, h.2.1, fun j w hj => ?_⟩
  unfold lset2 at hj
  by_cases e : j = i + 1
  · subst e
    rw [List.getElem?_set_self' ] at hj
    cases hl : (lset L i v)[i + 1]? <;> simp [hl] at hj
  · rw [List.getElem?_set_ne (Ne.symm e)] at hj
    rcases lset_of L i v j w hj with ⟨h1, h2⟩ | ⟨h1, h2, h3⟩
    · subst h1; subst h2
      exact h.2.2 (j, w) List.mem_cons_self
    · refine h.2.2 (j, w) (List.mem_cons_of_mem _ (List.mem_filter.mpr ⟨lpairs_of h2, ?_⟩))
      have q1 : (j == i) = false := by simpa using h1
      have q3 : (j == i + 1) = false := by simpa using e
      have q2 : (j + 1 == i && w.category == 2) = false := by
        cases hc : (j + 1 == i && w.category == 2) with
        | false => rfl
        | true => simp at hc; exact absurd hc h3
      simp only [q1, q2, q3]
      rfl
theorem pL_args : ∀ (vs : List Value) (k i : Nat) (v : Value), (∀ v ∈ vs, v.category = 1) → (vs.map some)[i]? = some (some v) → (k + i, v) ∈ lv_args k vs
  | [], _, i, v, _, h => by simp at h
  | a :: t, k, i, v, hc, h => by
    have ha : a.category = 1 := hc a List.mem_cons_self
    show (k + i, v) ∈ (k, a) :: lv_args (if a.category = 2 then k + 2 else k + 1) t
    rw [if_neg (by omega)]
    cases i with
    | zero => simp at h; rw [h]; exact List.mem_cons_self
    | succ i =>
      refine List.mem_cons_of_mem _ ?_
      have h2 := pL_args t (k + 1) i v (fun x hx => hc x (List.mem_cons_of_mem _ hx)) (by simpa using h)
      rw [show k + (i + 1) = k + 1 + i by omega]
      exact h2
theorem pL_entry {vs : List Value} {n : Nat} (hc : ∀ v ∈ vs, v.category = 1) (hn : (lg_sl vs).length ≤ n) : pL ((lg_sl vs ++ List.replicate (n - (lg_sl vs).length) Slot.unset).toArray) n (vs.map some ++ List.replicate (n - vs.length) none) := by
  have h := lv_entry vs hn
  refine ⟨h.1, h.2.1, fun i v hi => ?_⟩
  have h2 : (vs.map some)[i]? = some (some v) := by
    by_cases hl : i < (vs.map (some : Value → Option Value)).length
    · rw [List.getElem?_append_left hl] at hi
      exact hi
    · rw [List.getElem?_append_right (by omega)] at hi
      have h3 := List.mem_of_getElem? hi
      have h4 := List.eq_of_mem_replicate h3
      cases h4
  have h5 := pL_args vs 0 i v hc h2
  rw [Nat.zero_add] at h5
  exact h.2.2 (i, v) h5
/-! the judgement -/
def pCx (p : Program) (s : State) (m : MethodId) (args : Array Value) (c : Code) (cc : ByteArray) (nL : Nat) (own : String) (E : pE) (A : Nat → Prop) : Prop := CallFix p m c cc nL s args uw own ∧ pK E s ∧ pS E A s s.heap ∧ ∀ q : Nat, s.heap.size ≤ q → A q
def pV (p : Program) (l : Launch) (e : Env) (R : Room) (s : State) (m : MethodId) (args : Array Value) (below : List Frame) (meth : Method) (c : Code) (nL : Nat) (E : pE) (A : Nat → Prop) (Q : State → Prop) (z : Nat) (h : pH) (k n : Nat) (pc : Nat) (L : List (Option Value)) (st : List Value) : Prop :=
  ∀ (H : Heap) (locs : List Loc) (ls : Array Slot), pR E A h H → H.size = z → va_S A s.heap H locs → pL ls nL L → W p l e R s m args below meth c H locs k n Q (F0 m pc ls st)
def pA (h : pH) (z : Nat) : Nat → Prop := fun q => h q ≠ none ∨ z ≤ q
/-- a contract: over every heap with 'pre', the method returns v, and the heap is then h' with 'post' -/
def pC (l : Launch) (E : pE) (y : MethodName) (cc : ByteArray) (nL : Nat) (ret : Option FieldType) (rm : Room) (mc ms : Nat) (vs : List Value) (pre : pH → Nat → Prop) (post : pH → Nat → Option Value → pH → Nat → Prop) : Prop :=
  ∀ (h : pH) (z : Nat), pre h z → Met l y (wy y cc nL ret) rm (va_Pc vs (fun U => U.heap.size = z ∧ pR E (pA h z) h U.heap ∧ pK E U ∧ pS E (pA h z) U U.heap)) (fun _ st oc t => (∃ (v : Option Value) (h' : pH) (z' : Nat), oc = .returned v ∧ post h z v h' z' ∧ t.heap.size = z' ∧ z ≤ z' ∧ pR E (pA h z) h' t.heap) ∧ va_F (pA h z) st t) mc ms (pA h z)
