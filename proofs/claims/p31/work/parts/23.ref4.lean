/-! join, cart, repair, day, endYear, the snapshots, undo, the text -/
def joB (w : Nat → Int32) (j o : Nat) : Nat → Int32 := upd (upd w (76 + 5 * o + 2) (w (76 + 5 * j + 2) + w (76 + 5 * o + 2))) (76 + 5 * o + 3) ((((w (76 + 5 * j + 3)).toInt64 * (w (76 + 5 * j + 2)).toInt64 + (w (76 + 5 * o + 3)).toInt64 * (w (76 + 5 * o + 2)).toInt64 + (w (76 + 5 * j + 2) + w (76 + 5 * o + 2)).toInt64 - lN 1) / (w (76 + 5 * j + 2) + w (76 + 5 * o + 2)).toInt64).toInt32)
def joC (w : Nat → Int32) (j o : Nat) : Nat → Int32 := upd (joB w j o) (76 + 5 * o + 4) (if joB w j o (76 + 5 * j + 4) < joB w j o (76 + 5 * o + 4) then joB w j o (76 + 5 * j + 4) else joB w j o (76 + 5 * o + 4))
abbrev kJoin (w : Nat → Int32) (x y : Int32) : Prop := (gH (w 3) x ∧ gH (w 3) y ∧ ¬ x = y) ∧ (w (76 + 5 * nx x + 0) = w (76 + 5 * nx y + 0) ∧ w (76 + 5 * nx x + 1) = w (76 + 5 * nx y + 1))
def rJoin (w : Nat → Int32) (x y : Int32) : Int32 := if gH (w 3) x ∧ gH (w 3) y ∧ ¬ x = y then (if w (76 + 5 * nx x + 0) = w (76 + 5 * nx y + 0) ∧ w (76 + 5 * nx x + 1) = w (76 + 5 * nx y + 1) then w (76 + 5 * nx x + 2) + w (76 + 5 * nx y + 2) else -2) else -1
def gJoin (w : Nat → Int32) (x y : Int32) (ns : Nat) : Nat → Int32 := gGo (joC w (nx x) (nx y)) (nx x) ns
def caB (w : Nat → Int32) (b : Nat) (ld t : Int32) : Nat → Int32 := upd (upd w (24 + 7 * b + 2) (w (24 + 7 * b + 2) + fWear ld)) (24 + 7 * b + 5) (upd w (24 + 7 * b + 2) (w (24 + 7 * b + 2) + fWear ld) (24 + 7 * b + 5) + t)
def caD (w : Nat → Int32) (j b o : Nat) (ld t : Int32) (d : Nat) : Nat → Int32 := upd (upd (caB w b ld t) (6 + 3 * o + d) (caB w b ld t (6 + 3 * o + d) + t)) (76 + 5 * j + 2) (upd (caB w b ld t) (6 + 3 * o + d) (caB w b ld t (6 + 3 * o + d) + t) (76 + 5 * j + 2) - t)
def gCart (w : Nat → Int32) (j b o : Nat) (t : Int32) (ns : Nat) : Nat → Int32 :=
  if caD w j b o (fLoad (w (76 + 5 * j + 3)) t) t (if caB w b (fLoad (w (76 + 5 * j + 3)) t) t (76 + 5 * j + 3) ≤ nI 30000 then 1 else 2) (76 + 5 * j + 2) = 0 then gGo (caD w j b o (fLoad (w (76 + 5 * j + 3)) t) t (if caB w b (fLoad (w (76 + 5 * j + 3)) t) t (76 + 5 * j + 3) ≤ nI 30000 then 1 else 2)) j ns
  else caD w j b o (fLoad (w (76 + 5 * j + 3)) t) t (if caB w b (fLoad (w (76 + 5 * j + 3)) t) t (76 + 5 * j + 3) ≤ nI 30000 then 1 else 2)
def kCart1 (w : Nat → Int32) (j b : Nat) (t : Int32) : Prop := ¬ w (76 + 5 * j + 2) < t ∧ fLoad (w (76 + 5 * j + 3)) t ≤ fBear (w (24 + 7 * b + 1)) (w 4) (w (24 + 7 * b + 2))
abbrev kCart (w : Nat → Int32) (x t : Int32) : Prop := (gH (w 3) x ∧ gI t (nI 1) (nI 1000)) ∧ (¬ w (76 + 5 * nx x + 2) < t ∧ fLoad (w (76 + 5 * nx x + 3)) t ≤ fBear (w (24 + 7 * nx (w (76 + 5 * nx x + 1)) + 1)) (w 4) (w (24 + 7 * nx (w (76 + 5 * nx x + 1)) + 2)))
def rCart (w : Nat → Int32) (x t : Int32) : Int32 := if gH (w 3) x ∧ gI t (nI 1) (nI 1000) then (if ¬ w (76 + 5 * nx x + 2) < t ∧ fLoad (w (76 + 5 * nx x + 3)) t ≤ fBear (w (24 + 7 * nx (w (76 + 5 * nx x + 1)) + 1)) (w 4) (w (24 + 7 * nx (w (76 + 5 * nx x + 1)) + 2)) then fLoad (w (76 + 5 * nx x + 3)) t else -2) else -1
def hCart (w : Nat → Int32) (x t : Int32) (ns : Nat) : Nat → Int32 := gCart w (nx x) (nx (w (76 + 5 * nx x + 1))) (nx (w (76 + 5 * nx x + 0))) t ns
abbrev kRep (w : Nat → Int32) (x : Int32) : Prop := gH (w 2) x
def rRep (w : Nat → Int32) (x : Int32) : Int32 := if kRep w x then w (24 + 7 * nx x + 2) else -1
def gRep (w : Nat → Int32) (x : Int32) : Nat → Int32 := upd w (24 + 7 * nx x + 2) (nI 0)
def dyF (w : Nat → Int32) (wi ra : Int32) : Nat → Nat → Int32
  | 0 => w
  | i + 1 => upd (dyF w wi ra i) (76 + 5 * i + 3) (fDried (dyF w wi ra i (76 + 5 * i + 3)) (dyF w wi ra i (76 + 5 * i + 4)) wi ra)
theorem dyF_o (w : Nat → Int32) (wi ra : Int32) (i q : Nat) (h : ∀ k, q ≠ 76 + 5 * k + 3) : dyF w wi ra i q = w q := by
  induction i with
  | zero => rfl
  | succ i ih => exact (pk_un (h i)).trans ih
abbrev kDay (wi ra : Int32) : Prop := gI wi (nI 0) (nI 9) ∧ gI ra (nI 0) (nI 9)
def gDay (w : Nat → Int32) (wi ra : Int32) (ns : Nat) : Nat → Int32 := upd (upd (dyF w wi ra ns) 4 ra) 5 (upd (dyF w wi ra ns) 4 ra 5 + nI 1)
def rDay (w : Nat → Int32) (wi ra : Int32) (ns : Nat) : Int32 := if kDay wi ra then fDryN (gDay w wi ra ns) ns else -1
def eyF (w : Nat → Int32) : Nat → Nat → Int32
  | 0 => w
  | i + 1 => upd (eyF w i) (24 + 7 * nx (eyF w i (76 + 5 * i + 1)) + 6) (eyF w i (24 + 7 * nx (eyF w i (76 + 5 * i + 1)) + 6) + eyF w i (76 + 5 * i + 2))
def eyS (w : Nat → Int32) : Nat → Int32
  | 0 => nI 0
  | i + 1 => eyS w i + eyF w i (76 + 5 * i + 2)
def zrF (w : Nat → Int32) : Nat → Nat → Int32
  | 0 => w
  | i + 1 => upd (zrF w i) (52 + i) (nI 0)
abbrev kEnd (w : Nat → Int32) : Prop := ¬ w 0 = nI 999
def gEnd (w : Nat → Int32) (ns : Nat) : Nat → Int32 := upd (upd (zrF (upd (eyF w ns) 3 (nI 0)) 24) 4 (nI 0)) 0 (upd (zrF (upd (eyF w ns) 3 (nI 0)) 24) 4 (nI 0) 0 + nI 1)
def rEnd (w : Nat → Int32) (ns : Nat) : Int32 := if kEnd w then eyS w ns else -2
theorem eyF_o {w : Nat → Int32} {nh nb ns : Nat} (I : Iv w nh nb ns) : ∀ i, i ≤ ns → ∀ q, (q < 24 ∨ 52 ≤ q) → eyF w i q = w q := by
  intro i
  induction i with
  | zero => intro _ q _; rfl
  | succ i ih =>
    intro hi q hq
    obtain ⟨o, b, t, we, tn, h1, h2, h3, h4, h5, h6, e0, e1, e2, e3, e4⟩ := I.2.2.2.2.2.2.2.2.1 i (by omega)
    have hb4 := I.1.2.1
    have e5 : nx (eyF w i (76 + 5 * i + 1)) = b := by rw [ih (by omega) _ (by omega), e1]; exact nx_nI (by omega)
    show upd _ _ _ q = _
    rw [e5, pk_un (by omega)]
    exact ih (by omega) q hq
def tkF (w : Nat → Int32) (sl : Nat) : Nat → Nat → Int32
  | 0 => w
  | i + 1 => upd (tkF w sl i) (138 + 136 * sl + i) (tkF w sl i i)
abbrev kTake (x : Int32) : Prop := gI x (nI 0) (nI 1)
def gTake (w : Nat → Int32) (x : Int32) : Nat → Int32 := upd (tkF w (nx x) 136) (136 + nx x) (nI 1)
def rTake (w : Nat → Int32) (x : Int32) : Int32 := if kTake x then gTake w x 0 else -1
def rsF (w : Nat → Int32) (sl : Nat) : Nat → Nat → Int32
  | 0 => w
  | i + 1 => upd (rsF w sl i) i (rsF w sl i (138 + 136 * sl + i))
abbrev kRes (w : Nat → Int32) (x : Int32) : Prop := gI x (nI 0) (nI 1) ∧ ¬ w (136 + nx x) = 0
def gRes (w : Nat → Int32) (x : Int32) : Nat → Int32 := rsF w (nx x) 136
def rRes (w : Nat → Int32) (x : Int32) : Int32 := if gI x (nI 0) (nI 1) then (if w (136 + nx x) = 0 then -2 else gRes w x 0) else -1
def unF (w pa : Nat → Int32) (np : Nat) : Nat → Nat → Int32
  | 0 => w
  | i + 1 => upd (unF w pa np i) i (pa (410 * np + i))
theorem sT_le (v : Nat → Int32) : ∀ n k, k < n → nx (v (76 + 5 * k + 2)) ≤ sT v n := by
  intro n
  induction n with
  | zero => intro k hk; omega
  | succ n ih =>
    intro k hk
    show _ ≤ sT v n + nx (v (76 + 5 * n + 2))
    by_cases e : k = n
    · subst e; omega
    · have := ih k (by omega); omega
theorem sT_le2 (v : Nat → Int32) : ∀ n k j, k < j → j < n → nx (v (76 + 5 * k + 2)) + nx (v (76 + 5 * j + 2)) ≤ sT v n := by
  intro n
  induction n with
  | zero => intro k j _ hj; omega
  | succ n ih =>
    intro k j hk hj
    show _ ≤ sT v n + nx (v (76 + 5 * n + 2))
    by_cases e : j = n
    · subst e; have := sT_le v j k hk; omega
    · have := ih k j hk (by omega); omega
theorem sC_le (v : Nat → Int32) (B : Nat) (h : ∀ i, i < 24 → nx (v (52 + i)) ≤ B) : ∀ n, n ≤ 24 → sC v n ≤ n * B := by
  intro n
  induction n with
  | zero => intro _; exact Nat.zero_le _
  | succ n ih =>
    intro hn
    have h1 := ih (by omega)
    have h2 := h n (by omega)
    show sC v n + nx (v (52 + n)) ≤ _
    rw [Nat.succ_mul]
    omega
theorem Iv.cB {v : Nat → Int32} {nh nb ns : Nat} (I : Iv v nh nb ns) : sC v 24 ≤ 1080024 := by
  refine sC_le v 45001 (fun i hi => ?_) 24 (Nat.le_refl _)
  obtain ⟨⟨q, q1, q2, q3⟩, -⟩ := I.2.2.2.2.2.2.2.1 (i / 4) (i % 4) (by omega) (by omega)
  rw [show 52 + 4 * (i / 4) + i % 4 = 52 + i by omega] at q3
  rw [q3, nx_nI (by omega)]
  exact q2
theorem Iv.tot {v : Nat → Int32} {nh nb ns j o : Nat} (I : Iv v nh nb ns) (hj : j < ns) (ho : o < ns) (hne : j ≠ o) : nx (v (76 + 5 * j + 2)) + nx (v (76 + 5 * o + 2)) ≤ 1080024 := by
  have h1 := I.2.2.2.2.2.2.2.2.2
  have h2 := I.cB
  rcases Nat.lt_or_ge j o with h | h
  · have := sT_le2 v ns j o h ho; omega
  · have := sT_le2 v ns o j (by omega) hj; omega
theorem Iv.tot1 {v : Nat → Int32} {nh nb ns j : Nat} (I : Iv v nh nb ns) (hj : j < ns) : nx (v (76 + 5 * j + 2)) ≤ 1080024 := by
  have h1 := I.2.2.2.2.2.2.2.2.2
  have h2 := I.cB
  have := sT_le v ns j hj
  omega
abbrev kApp (ty c : Int32) : Prop := gI c (nI 1) (nI 255) ∧ ¬ ty = nI 140
def rApp (ty c : Int32) : Int32 := if gI c (nI 1) (nI 255) then (if ty = nI 140 then -3 else ty + nI 1) else -1