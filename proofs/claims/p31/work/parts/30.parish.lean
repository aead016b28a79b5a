/-! a Parish of the class: its object at a, its cells behind it, told by a row of numbers v -/
def PX (a : Nat) (v : Nat → Int32) (f1 f2 f3 : Nat → Option Nat) (pi : Nat → Nat) (g c : Nat → Nat → Int32) (h : pH) : Prop :=
  h a = some (ob 2 [.int (v 0), .int (v 5), .int (v 4), .int (v 1), .int (v 2), .int (v 3), .ref (a + 1), .ref (a + 2), .ref (a + 3)]) ∧ h (a + 1) = some (ar 3 6 f1) ∧ h (a + 2) = some (ar 4 4 f2) ∧ h (a + 3) = some (ar 5 12 f3) ∧
  ((∀ j, j < 6 → f1 j = some (a + 4 + j)) ∧ (∀ j, j < 4 → f2 j = some (a + 10 + 3 * j)) ∧ (∀ j, j < 12 → f3 j = some (a + 22 + pi j)) ∧ (∀ j, j < 12 → pi j < 12) ∧ (∀ i j, i < 12 → j < 12 → pi i = pi j → i = j)) ∧
  (∀ j, j < 6 → h (a + 4 + j) = some (ob 1 [.int (v (6 + 3 * j + 0)), .int (v (6 + 3 * j + 1)), .int (v (6 + 3 * j + 2))])) ∧
  (∀ j, j < 4 → h (a + 10 + 3 * j) = some (ob 0 [.int (v (24 + 7 * j + 0)), .int (v (24 + 7 * j + 1)), .int (v (24 + 7 * j + 2)), .int (v (24 + 7 * j + 4)), .int (v (24 + 7 * j + 5)), .int (v (24 + 7 * j + 6)), .ref (a + 11 + 3 * j), .ref (a + 12 + 3 * j)])) ∧
  (∀ j, j < 4 → h (a + 11 + 3 * j) = some (ai 2 6 (g j))) ∧ (∀ j, j < 4 → h (a + 12 + 3 * j) = some (ai 1 6 (c j))) ∧
  (∀ j, j < 4 → ∀ i, i < 6 → g j i = bt (v (24 + 7 * j + 3)) i) ∧ (∀ j, j < 4 → ∀ i, i < 6 → c j i = v (52 + 4 * i + j)) ∧
  (∀ k, k < 12 → ∃ o b t w n : Int32, h (a + 22 + k) = some (ob 5 [.int o, .int b, .int t, .int w, .int n])) ∧
  (∀ k, k < 12 → k < nx (v 3) → h (a + 22 + pi k) = some (ob 5 [.int (v (76 + 5 * k + 0)), .int (v (76 + 5 * k + 1)), .int (v (76 + 5 * k + 2)), .int (v (76 + 5 * k + 3)), .int (v (76 + 5 * k + 4))]))
def PA (a : Nat) (v : Nat → Int32) (h : pH) : Prop := ∃ (f1 f2 f3 : Nat → Option Nat) (pi : Nat → Nat) (g c : Nat → Nat → Int32), PX a v f1 f2 f3 pi g c h
theorem bt_b (x : Int32) (i : Nat) : bt x i = 0 ∨ bt x i = 1 := by
  obtain ⟨j, hj, e⟩ := pk_andE (x >>> (nI i &&& 31)) (m := nI 1) 1 (by decide +kernel)
  unfold bt
  rw [e]
  have hj2 : j = 0 ∨ j = 1 := by omega
  rcases hj2 with rfl | rfl
  · exact Or.inl nI_z
  · exact Or.inr nI_t
section PXS
variable {a : Nat} {v v1 : Nat → Int32} {f1 f2 f3 f4 : Nat → Option Nat} {pi pi1 : Nat → Nat} {g c : Nat → Nat → Int32} {h : pH}
theorem PX.top (P : PX a v f1 f2 f3 pi g c h) (hv : ∀ q, 6 ≤ q → v1 q = v q) (hs : ∀ k, k < 12 → k < nx (v1 3) → h (a + 22 + pi k) = some (ob 5 [.int (v (76 + 5 * k + 0)), .int (v (76 + 5 * k + 1)), .int (v (76 + 5 * k + 2)), .int (v (76 + 5 * k + 3)), .int (v (76 + 5 * k + 4))])) : PX a v1 f1 f2 f3 pi g c (pset h a (ob 2 [.int (v1 0), .int (v1 5), .int (v1 4), .int (v1 1), .int (v1 2), .int (v1 3), .ref (a + 1), .ref (a + 2), .ref (a + 3)])) :=
  ⟨pset_s _ _ _,
   (pset_n (by omega)).trans P.2.1,
   (pset_n (by omega)).trans P.2.2.1,
   (pset_n (by omega)).trans P.2.2.2.1,
   P.2.2.2.2.1,
   fun j hj => (pset_n (by omega)).trans (by rw [hv (6 + 3 * j + 0) (by omega), hv (6 + 3 * j + 1) (by omega), hv (6 + 3 * j + 2) (by omega)]; exact P.2.2.2.2.2.1 j hj),
   fun j hj => (pset_n (by omega)).trans (by rw [hv (24 + 7 * j + 0) (by omega), hv (24 + 7 * j + 1) (by omega), hv (24 + 7 * j + 2) (by omega), hv (24 + 7 * j + 4) (by omega), hv (24 + 7 * j + 5) (by omega), hv (24 + 7 * j + 6) (by omega)]; exact P.2.2.2.2.2.2.1 j hj),
   fun j hj => (pset_n (by omega)).trans (P.2.2.2.2.2.2.2.1 j hj),
   fun j hj => (pset_n (by omega)).trans (P.2.2.2.2.2.2.2.2.1 j hj),
   fun j hj i hi => by rw [hv (24 + 7 * j + 3) (by omega)]; exact P.2.2.2.2.2.2.2.2.2.1 j hj i hi,
   fun j hj i hi => by rw [hv (52 + 4 * i + j) (by omega)]; exact P.2.2.2.2.2.2.2.2.2.2.1 j hj i hi,
   fun k hk => by obtain ⟨o, b, t, w, n, e⟩ := P.2.2.2.2.2.2.2.2.2.2.2.1 k hk; exact ⟨o, b, t, w, n, (pset_n (by omega)).trans e⟩,
   fun k hk hk2 => (pset_n (by omega)).trans (by rw [hv (76 + 5 * k + 0) (by omega), hv (76 + 5 * k + 1) (by omega), hv (76 + 5 * k + 2) (by omega), hv (76 + 5 * k + 3) (by omega), hv (76 + 5 * k + 4) (by omega)]; exact hs k hk hk2)⟩
theorem PX.house (P : PX a v f1 f2 f3 pi g c h) {i : Nat} (hi : i < 6) (hv : ∀ q, q < 6 + 3 * i ∨ 9 + 3 * i ≤ q → v1 q = v q) : PX a v1 f1 f2 f3 pi g c (pset h (a + 4 + i) (ob 1 [.int (v1 (6 + 3 * i + 0)), .int (v1 (6 + 3 * i + 1)), .int (v1 (6 + 3 * i + 2))])) :=
  ⟨(pset_n (by omega)).trans (by rw [hv 0 (by omega), hv 1 (by omega), hv 2 (by omega), hv 3 (by omega), hv 4 (by omega), hv 5 (by omega)]; exact P.1),
   (pset_n (by omega)).trans P.2.1,
   (pset_n (by omega)).trans P.2.2.1,
   (pset_n (by omega)).trans P.2.2.2.1,
   P.2.2.2.2.1,
   fun j hj => by
    by_cases e : j = i
    · subst e; exact pset_s _ _ _
    · exact (pset_n (by omega)).trans (by rw [hv (6 + 3 * j + 0) (by omega), hv (6 + 3 * j + 1) (by omega), hv (6 + 3 * j + 2) (by omega)]; exact P.2.2.2.2.2.1 j hj),
   fun j hj => (pset_n (by omega)).trans (by rw [hv (24 + 7 * j + 0) (by omega), hv (24 + 7 * j + 1) (by omega), hv (24 + 7 * j + 2) (by omega), hv (24 + 7 * j + 4) (by omega), hv (24 + 7 * j + 5) (by omega), hv (24 + 7 * j + 6) (by omega)]; exact P.2.2.2.2.2.2.1 j hj),
   fun j hj => (pset_n (by omega)).trans (P.2.2.2.2.2.2.2.1 j hj),
   fun j hj => (pset_n (by omega)).trans (P.2.2.2.2.2.2.2.2.1 j hj),
   fun j hj i hi => by rw [hv (24 + 7 * j + 3) (by omega)]; exact P.2.2.2.2.2.2.2.2.2.1 j hj i hi,
   fun j hj i hi => by rw [hv (52 + 4 * i + j) (by omega)]; exact P.2.2.2.2.2.2.2.2.2.2.1 j hj i hi,
   fun k hk => by obtain ⟨o, b, t, w, n, e⟩ := P.2.2.2.2.2.2.2.2.2.2.2.1 k hk; exact ⟨o, b, t, w, n, (pset_n (by omega)).trans e⟩,
   fun k hk hk2 => (pset_n (by have := P.2.2.2.2.1.2.2.2.1 k hk; omega)).trans (by rw [hv (76 + 5 * k + 0) (by omega), hv (76 + 5 * k + 1) (by omega), hv (76 + 5 * k + 2) (by omega), hv (76 + 5 * k + 3) (by omega), hv (76 + 5 * k + 4) (by omega)]; exact P.2.2.2.2.2.2.2.2.2.2.2.2 k hk (by rw [← hv 3 (by omega)]; exact hk2))⟩
theorem PX.bank (P : PX a v f1 f2 f3 pi g c h) {i : Nat} (hi : i < 4) (hv : ∀ q, q < 24 + 7 * i ∨ 31 + 7 * i ≤ q ∨ q = 24 + 7 * i + 3 → v1 q = v q) : PX a v1 f1 f2 f3 pi g c (pset h (a + 10 + 3 * i) (ob 0 [.int (v1 (24 + 7 * i + 0)), .int (v1 (24 + 7 * i + 1)), .int (v1 (24 + 7 * i + 2)), .int (v1 (24 + 7 * i + 4)), .int (v1 (24 + 7 * i + 5)), .int (v1 (24 + 7 * i + 6)), .ref (a + 11 + 3 * i), .ref (a + 12 + 3 * i)])) :=
  ⟨(pset_n (by omega)).trans (by rw [hv 0 (by omega), hv 1 (by omega), hv 2 (by omega), hv 3 (by omega), hv 4 (by omega), hv 5 (by omega)]; exact P.1),
   (pset_n (by omega)).trans P.2.1,
   (pset_n (by omega)).trans P.2.2.1,
   (pset_n (by omega)).trans P.2.2.2.1,
   P.2.2.2.2.1,
   fun j hj => (pset_n (by omega)).trans (by rw [hv (6 + 3 * j + 0) (by omega), hv (6 + 3 * j + 1) (by omega), hv (6 + 3 * j + 2) (by omega)]; exact P.2.2.2.2.2.1 j hj),
   fun j hj => by
    by_cases e : j = i
    · subst e; exact pset_s _ _ _
    · exact (pset_n (by omega)).trans (by rw [hv (24 + 7 * j + 0) (by omega), hv (24 + 7 * j + 1) (by omega), hv (24 + 7 * j + 2) (by omega), hv (24 + 7 * j + 4) (by omega), hv (24 + 7 * j + 5) (by omega), hv (24 + 7 * j + 6) (by omega)]; exact P.2.2.2.2.2.2.1 j hj),
   fun j hj => (pset_n (by omega)).trans (P.2.2.2.2.2.2.2.1 j hj),
   fun j hj => (pset_n (by omega)).trans (P.2.2.2.2.2.2.2.2.1 j hj),
   fun j hj i hi => by rw [hv (24 + 7 * j + 3) (by omega)]; exact P.2.2.2.2.2.2.2.2.2.1 j hj i hi,
   fun j hj i hi => by rw [hv (52 + 4 * i + j) (by omega)]; exact P.2.2.2.2.2.2.2.2.2.2.1 j hj i hi,
   fun k hk => by obtain ⟨o, b, t, w, n, e⟩ := P.2.2.2.2.2.2.2.2.2.2.2.1 k hk; exact ⟨o, b, t, w, n, (pset_n (by omega)).trans e⟩,
   fun k hk hk2 => (pset_n (by have := P.2.2.2.2.1.2.2.2.1 k hk; omega)).trans (by rw [hv (76 + 5 * k + 0) (by omega), hv (76 + 5 * k + 1) (by omega), hv (76 + 5 * k + 2) (by omega), hv (76 + 5 * k + 3) (by omega), hv (76 + 5 * k + 4) (by omega)]; exact P.2.2.2.2.2.2.2.2.2.2.2.2 k hk (by rw [← hv 3 (by omega)]; exact hk2))⟩
theorem PX.right (P : PX a v f1 f2 f3 pi g c h) {i : Nat} {y : Nat → Int32} (hi : i < 4) (hv : ∀ q, ¬ q = 24 + 7 * i + 3 → v1 q = v q) (hg : ∀ k, k < 6 → y k = bt (v1 (24 + 7 * i + 3)) k) : PX a v1 f1 f2 f3 pi (fun j => if j = i then y else g j) c (pset h (a + 11 + 3 * i) (ai 2 6 y)) :=
  ⟨(pset_n (by omega)).trans (by rw [hv 0 (by omega), hv 1 (by omega), hv 2 (by omega), hv 3 (by omega), hv 4 (by omega), hv 5 (by omega)]; exact P.1),
   (pset_n (by omega)).trans P.2.1,
   (pset_n (by omega)).trans P.2.2.1,
   (pset_n (by omega)).trans P.2.2.2.1,
   P.2.2.2.2.1,
   fun j hj => (pset_n (by omega)).trans (by rw [hv (6 + 3 * j + 0) (by omega), hv (6 + 3 * j + 1) (by omega), hv (6 + 3 * j + 2) (by omega)]; exact P.2.2.2.2.2.1 j hj),
   fun j hj => (pset_n (by omega)).trans (by rw [hv (24 + 7 * j + 0) (by omega), hv (24 + 7 * j + 1) (by omega), hv (24 + 7 * j + 2) (by omega), hv (24 + 7 * j + 4) (by omega), hv (24 + 7 * j + 5) (by omega), hv (24 + 7 * j + 6) (by omega)]; exact P.2.2.2.2.2.2.1 j hj),
   fun j hj => by
    by_cases e : j = i
    · subst e; dsimp only; rw [if_pos rfl]; exact pset_s _ _ _
    · dsimp only; rw [if_neg e]; exact (pset_n (by omega)).trans (P.2.2.2.2.2.2.2.1 j hj),
   fun j hj => (pset_n (by omega)).trans (P.2.2.2.2.2.2.2.2.1 j hj),
   fun j hj k hk => by
    by_cases e : j = i
    · subst e; dsimp only; rw [if_pos rfl]; exact hg k hk
    · dsimp only; rw [if_neg e, hv (24 + 7 * j + 3) (by omega)]; exact P.2.2.2.2.2.2.2.2.2.1 j hj k hk,
   fun j hj i hi => by rw [hv (52 + 4 * i + j) (by omega)]; exact P.2.2.2.2.2.2.2.2.2.2.1 j hj i hi,
   fun k hk => by obtain ⟨o, b, t, w, n, e⟩ := P.2.2.2.2.2.2.2.2.2.2.2.1 k hk; exact ⟨o, b, t, w, n, (pset_n (by omega)).trans e⟩,
   fun k hk hk2 => (pset_n (by have := P.2.2.2.2.1.2.2.2.1 k hk; omega)).trans (by rw [hv (76 + 5 * k + 0) (by omega), hv (76 + 5 * k + 1) (by omega), hv (76 + 5 * k + 2) (by omega), hv (76 + 5 * k + 3) (by omega), hv (76 + 5 * k + 4) (by omega)]; exact P.2.2.2.2.2.2.2.2.2.2.2.2 k hk (by rw [← hv 3 (by omega)]; exact hk2))⟩
theorem PX.cuts (P : PX a v f1 f2 f3 pi g c h) {i : Nat} {y : Nat → Int32} (hi : i < 4) (hv : ∀ q, (q < 52 ∨ 76 ≤ q ∨ (q - 52) % 4 ≠ i) → v1 q = v q) (hg : ∀ k, k < 6 → y k = v1 (52 + 4 * k + i)) : PX a v1 f1 f2 f3 pi g (fun j => if j = i then y else c j) (pset h (a + 12 + 3 * i) (ai 1 6 y)) :=
  ⟨(pset_n (by omega)).trans (by rw [hv 0 (by omega), hv 1 (by omega), hv 2 (by omega), hv 3 (by omega), hv 4 (by omega), hv 5 (by omega)]; exact P.1),
   (pset_n (by omega)).trans P.2.1,
   (pset_n (by omega)).trans P.2.2.1,
   (pset_n (by omega)).trans P.2.2.2.1,
   P.2.2.2.2.1,
   fun j hj => (pset_n (by omega)).trans (by rw [hv (6 + 3 * j + 0) (by omega), hv (6 + 3 * j + 1) (by omega), hv (6 + 3 * j + 2) (by omega)]; exact P.2.2.2.2.2.1 j hj),
   fun j hj => (pset_n (by omega)).trans (by rw [hv (24 + 7 * j + 0) (by omega), hv (24 + 7 * j + 1) (by omega), hv (24 + 7 * j + 2) (by omega), hv (24 + 7 * j + 4) (by omega), hv (24 + 7 * j + 5) (by omega), hv (24 + 7 * j + 6) (by omega)]; exact P.2.2.2.2.2.2.1 j hj),
   fun j hj => (pset_n (by omega)).trans (P.2.2.2.2.2.2.2.1 j hj),
   fun j hj => by
    by_cases e : j = i
    · subst e; dsimp only; rw [if_pos rfl]; exact pset_s _ _ _
    · dsimp only; rw [if_neg e]; exact (pset_n (by omega)).trans (P.2.2.2.2.2.2.2.2.1 j hj),
   fun j hj i hi => by rw [hv (24 + 7 * j + 3) (by omega)]; exact P.2.2.2.2.2.2.2.2.2.1 j hj i hi,
   fun j hj k hk => by
    by_cases e : j = i
    · subst e; dsimp only; rw [if_pos rfl]; exact hg k hk
    · dsimp only; rw [if_neg e, hv (52 + 4 * k + j) (by omega)]; exact P.2.2.2.2.2.2.2.2.2.2.1 j hj k hk,
   fun k hk => by obtain ⟨o, b, t, w, n, e⟩ := P.2.2.2.2.2.2.2.2.2.2.2.1 k hk; exact ⟨o, b, t, w, n, (pset_n (by omega)).trans e⟩,
   fun k hk hk2 => (pset_n (by have := P.2.2.2.2.1.2.2.2.1 k hk; omega)).trans (by rw [hv (76 + 5 * k + 0) (by omega), hv (76 + 5 * k + 1) (by omega), hv (76 + 5 * k + 2) (by omega), hv (76 + 5 * k + 3) (by omega), hv (76 + 5 * k + 4) (by omega)]; exact P.2.2.2.2.2.2.2.2.2.2.2.2 k hk (by rw [← hv 3 (by omega)]; exact hk2))⟩
theorem PX.stack (P : PX a v f1 f2 f3 pi g c h) {i : Nat} (hi : i < 12) (hv : ∀ q, q < 76 + 5 * i ∨ 81 + 5 * i ≤ q → v1 q = v q) : PX a v1 f1 f2 f3 pi g c (pset h (a + 22 + pi i) (ob 5 [.int (v1 (76 + 5 * i + 0)), .int (v1 (76 + 5 * i + 1)), .int (v1 (76 + 5 * i + 2)), .int (v1 (76 + 5 * i + 3)), .int (v1 (76 + 5 * i + 4))])) :=
  ⟨(pset_n (by have := P.2.2.2.2.1.2.2.2.1 i hi; omega)).trans (by rw [hv 0 (by omega), hv 1 (by omega), hv 2 (by omega), hv 3 (by omega), hv 4 (by omega), hv 5 (by omega)]; exact P.1),
   (pset_n (by have := P.2.2.2.2.1.2.2.2.1 i hi; omega)).trans P.2.1,
   (pset_n (by have := P.2.2.2.2.1.2.2.2.1 i hi; omega)).trans P.2.2.1,
   (pset_n (by have := P.2.2.2.2.1.2.2.2.1 i hi; omega)).trans P.2.2.2.1,
   P.2.2.2.2.1,
   fun j hj => (pset_n (by have := P.2.2.2.2.1.2.2.2.1 i hi; omega)).trans (by rw [hv (6 + 3 * j + 0) (by omega), hv (6 + 3 * j + 1) (by omega), hv (6 + 3 * j + 2) (by omega)]; exact P.2.2.2.2.2.1 j hj),
   fun j hj => (pset_n (by have := P.2.2.2.2.1.2.2.2.1 i hi; omega)).trans (by rw [hv (24 + 7 * j + 0) (by omega), hv (24 + 7 * j + 1) (by omega), hv (24 + 7 * j + 2) (by omega), hv (24 + 7 * j + 4) (by omega), hv (24 + 7 * j + 5) (by omega), hv (24 + 7 * j + 6) (by omega)]; exact P.2.2.2.2.2.2.1 j hj),
   fun j hj => (pset_n (by have := P.2.2.2.2.1.2.2.2.1 i hi; omega)).trans (P.2.2.2.2.2.2.2.1 j hj),
   fun j hj => (pset_n (by have := P.2.2.2.2.1.2.2.2.1 i hi; omega)).trans (P.2.2.2.2.2.2.2.2.1 j hj),
   fun j hj i hi => by rw [hv (24 + 7 * j + 3) (by omega)]; exact P.2.2.2.2.2.2.2.2.2.1 j hj i hi,
   fun j hj i hi => by rw [hv (52 + 4 * i + j) (by omega)]; exact P.2.2.2.2.2.2.2.2.2.2.1 j hj i hi,
   fun k hk => by
    by_cases e : k = pi i
    · subst e; exact ⟨_, _, _, _, _, pset_s _ _ _⟩
    · obtain ⟨o, b, t, w, n, e2⟩ := P.2.2.2.2.2.2.2.2.2.2.2.1 k hk; exact ⟨o, b, t, w, n, (pset_n (by omega)).trans e2⟩,
   fun k hk hk2 => by
    by_cases e : k = i
    · subst e; exact pset_s _ _ _
    · exact (pset_n (by have := P.2.2.2.2.1.2.2.2.2 k i hk hi; omega)).trans (by rw [hv (76 + 5 * k + 0) (by omega), hv (76 + 5 * k + 1) (by omega), hv (76 + 5 * k + 2) (by omega), hv (76 + 5 * k + 3) (by omega), hv (76 + 5 * k + 4) (by omega)]; exact P.2.2.2.2.2.2.2.2.2.2.2.2 k hk (by rw [← hv 3 (by omega)]; exact hk2))⟩
theorem PX.congr (P : PX a v f1 f2 f3 pi g c h) (hv : ∀ q, q < 76 → v1 q = v q) (hs : ∀ q, 76 ≤ q → q < 76 + 5 * nx (v 3) → v1 q = v q) : PX a v1 f1 f2 f3 pi g c h :=
  ⟨(by rw [hv 0 (by omega), hv 1 (by omega), hv 2 (by omega), hv 3 (by omega), hv 4 (by omega), hv 5 (by omega)]; exact P.1), P.2.1, P.2.2.1, P.2.2.2.1, P.2.2.2.2.1, fun j hj => (by rw [hv (6 + 3 * j + 0) (by omega), hv (6 + 3 * j + 1) (by omega), hv (6 + 3 * j + 2) (by omega)]; exact P.2.2.2.2.2.1 j hj), fun j hj => (by rw [hv (24 + 7 * j + 0) (by omega), hv (24 + 7 * j + 1) (by omega), hv (24 + 7 * j + 2) (by omega), hv (24 + 7 * j + 4) (by omega), hv (24 + 7 * j + 5) (by omega), hv (24 + 7 * j + 6) (by omega)]; exact P.2.2.2.2.2.2.1 j hj), P.2.2.2.2.2.2.2.1, P.2.2.2.2.2.2.2.2.1, fun j hj i hi => by rw [hv (24 + 7 * j + 3) (by omega)]; exact P.2.2.2.2.2.2.2.2.2.1 j hj i hi, fun j hj i hi => by rw [hv (52 + 4 * i + j) (by omega)]; exact P.2.2.2.2.2.2.2.2.2.2.1 j hj i hi, P.2.2.2.2.2.2.2.2.2.2.2.1,
   fun k hk hk2 => by
    have hk3 : k < nx (v 3) := by rw [← hv 3 (by omega)]; exact hk2
    rw [hs (76 + 5 * k + 0) (by omega) (by omega), hs (76 + 5 * k + 1) (by omega) (by omega), hs (76 + 5 * k + 2) (by omega) (by omega), hs (76 + 5 * k + 3) (by omega) (by omega), hs (76 + 5 * k + 4) (by omega) (by omega)]
    exact P.2.2.2.2.2.2.2.2.2.2.2.2 k hk hk3⟩
/-- its cells lie between a and a + 34 -/
theorem PX.off {h1 : pH} (P : PX a v f1 f2 f3 pi g c h) (hq : ∀ q, a ≤ q → q < a + 34 → h1 q = h q) : PX a v f1 f2 f3 pi g c h1 :=
  ⟨(hq _ (by omega) (by omega)).trans P.1, (hq _ (by omega) (by omega)).trans P.2.1, (hq _ (by omega) (by omega)).trans P.2.2.1, (hq _ (by omega) (by omega)).trans P.2.2.2.1, P.2.2.2.2.1,
   fun j hj => (hq _ (by omega) (by omega)).trans (P.2.2.2.2.2.1 j hj), fun j hj => (hq _ (by omega) (by omega)).trans (P.2.2.2.2.2.2.1 j hj), fun j hj => (hq _ (by omega) (by omega)).trans (P.2.2.2.2.2.2.2.1 j hj), fun j hj => (hq _ (by omega) (by omega)).trans (P.2.2.2.2.2.2.2.2.1 j hj), P.2.2.2.2.2.2.2.2.2.1, P.2.2.2.2.2.2.2.2.2.2.1,
   fun k hk => by obtain ⟨o, b, t, w, n, e⟩ := P.2.2.2.2.2.2.2.2.2.2.2.1 k hk; exact ⟨o, b, t, w, n, (hq _ (by omega) (by omega)).trans e⟩,
   fun k hk hk2 => (hq _ (by omega) (by have := P.2.2.2.2.1.2.2.2.1 k hk; omega)).trans (P.2.2.2.2.2.2.2.2.2.2.2.2 k hk hk2)⟩
theorem PA.off {h1 : pH} (P : PA a v h) (hq : ∀ q, a ≤ q → q < a + 34 → h1 q = h q) : PA a v h1 := by
  obtain ⟨f1, f2, f3, pi, g, c, P⟩ := P
  exact ⟨f1, f2, f3, pi, g, c, P.off hq⟩
theorem PA.congr (P : PA a v h) (hv : ∀ q, q < 76 → v1 q = v q) (hs : ∀ q, 76 ≤ q → q < 76 + 5 * nx (v 3) → v1 q = v q) : PA a v1 h := by
  obtain ⟨f1, f2, f3, pi, g, c, P⟩ := P
  exact ⟨f1, f2, f3, pi, g, c, P.congr hv hs⟩
/-- the stacks' rows in another order -/
theorem PX.perm (P : PX a v f1 f2 f3 pi g c h) (hp : ∀ j, j < 12 → pi1 j < 12) (hi : ∀ i j, i < 12 → j < 12 → pi1 i = pi1 j → i = j) (hf : ∀ j, j < 12 → f4 j = some (a + 22 + pi1 j)) (hv : ∀ q, q < 76 → v1 q = v q)
    (hs : ∀ k, k < 12 → k < nx (v1 3) → h (a + 22 + pi1 k) = some (ob 5 [.int (v1 (76 + 5 * k + 0)), .int (v1 (76 + 5 * k + 1)), .int (v1 (76 + 5 * k + 2)), .int (v1 (76 + 5 * k + 3)), .int (v1 (76 + 5 * k + 4))])) : PX a v1 f1 f2 f4 pi1 g c (pset h (a + 3) (ar 5 12 f4)) :=
  ⟨(pset_n (by omega)).trans (by rw [hv 0 (by omega), hv 1 (by omega), hv 2 (by omega), hv 3 (by omega), hv 4 (by omega), hv 5 (by omega)]; exact P.1), (pset_n (by omega)).trans P.2.1, (pset_n (by omega)).trans P.2.2.1, pset_s _ _ _, ⟨P.2.2.2.2.1.1, P.2.2.2.2.1.2.1, hf, hp, hi⟩, fun j hj => (pset_n (by omega)).trans (by rw [hv (6 + 3 * j + 0) (by omega), hv (6 + 3 * j + 1) (by omega), hv (6 + 3 * j + 2) (by omega)]; exact P.2.2.2.2.2.1 j hj), fun j hj => (pset_n (by omega)).trans (by rw [hv (24 + 7 * j + 0) (by omega), hv (24 + 7 * j + 1) (by omega), hv (24 + 7 * j + 2) (by omega), hv (24 + 7 * j + 4) (by omega), hv (24 + 7 * j + 5) (by omega), hv (24 + 7 * j + 6) (by omega)]; exact P.2.2.2.2.2.2.1 j hj), fun j hj => (pset_n (by omega)).trans (P.2.2.2.2.2.2.2.1 j hj), fun j hj => (pset_n (by omega)).trans (P.2.2.2.2.2.2.2.2.1 j hj), fun j hj i hi => by rw [hv (24 + 7 * j + 3) (by omega)]; exact P.2.2.2.2.2.2.2.2.2.1 j hj i hi, fun j hj i hi => by rw [hv (52 + 4 * i + j) (by omega)]; exact P.2.2.2.2.2.2.2.2.2.2.1 j hj i hi,
   fun k hk => by obtain ⟨o, b, t, w, n, e⟩ := P.2.2.2.2.2.2.2.2.2.2.2.1 k hk; exact ⟨o, b, t, w, n, (pset_n (by omega)).trans e⟩,
   fun k hk hk2 => (pset_n (by omega)).trans (hs k hk hk2)⟩
end PXS
