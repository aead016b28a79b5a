/-! what holds of a parish's row of numbers -/
def nx (x : Int32) : Nat := x.toNatClampNeg
theorem nx_nI {j : Nat} (h : j < 2 ^ 31) : nx (nI j) = j := nI_clamp h
def isN (x : Int32) (lo hi : Nat) : Prop := ∃ j : Nat, lo ≤ j ∧ j ≤ hi ∧ x = nI j
def sT (v : Nat → Int32) : Nat → Nat
  | 0 => 0
  | k + 1 => sT v k + nx (v (76 + 5 * k + 2))
def sC (v : Nat → Int32) : Nat → Nat
  | 0 => 0
  | k + 1 => sC v k + nx (v (52 + k))
def isSt (v : Nat → Int32) (nh nb k : Nat) : Prop := ∃ o b t we tn : Nat, o < nh ∧ b < nb ∧ 1 ≤ t ∧ t < 2 ^ 31 ∧ we ≤ 100000 ∧ tn ≤ 3 ∧ v (76 + 5 * k + 0) = nI o ∧ v (76 + 5 * k + 1) = nI b ∧ v (76 + 5 * k + 2) = nI t ∧ v (76 + 5 * k + 3) = nI we ∧ v (76 + 5 * k + 4) = nI tn
def Iv (v : Nat → Int32) (nh nb ns : Nat) : Prop :=
  (nh ≤ 6 ∧ nb ≤ 4 ∧ ns ≤ 12 ∧ v 1 = nI nh ∧ v 2 = nI nb ∧ v 3 = nI ns) ∧ (isN (v 0) 0 999 ∧ isN (v 4) 0 9) ∧
  (∀ j, j < nh → isN (v (6 + 3 * j + 0)) 1 9) ∧ (∀ j, nh ≤ j → j < 6 → v (6 + 3 * j + 0) = nI 0 ∧ v (6 + 3 * j + 1) = nI 0 ∧ v (6 + 3 * j + 2) = nI 0) ∧
  (∀ b, b < nb → isN (v (24 + 7 * b + 0)) 0 5000 ∧ isN (v (24 + 7 * b + 1)) 100 3000 ∧ isN (v (24 + 7 * b + 2)) 0 3000) ∧ (∀ b, b < 4 → isN (v (24 + 7 * b + 3)) 0 63) ∧ (∀ b, nb ≤ b → b < 4 → ∀ q, q < 7 → v (24 + 7 * b + q) = nI 0) ∧
  (∀ j b, j < 6 → b < 4 → isN (v (52 + 4 * j + b)) 0 45001 ∧ (nh ≤ j ∨ nb ≤ b → v (52 + 4 * j + b) = nI 0)) ∧
  (∀ k, k < ns → isSt v nh nb k) ∧ sT v ns ≤ sC v 24
theorem Iv.sp {v : Nat → Int32} {nh nb ns b : Nat} (I : Iv v nh nb ns) : ∀ n, n ≤ nh → ∃ s, s ≤ 9 * n ∧ fSp v b n = nI s ∧ ∀ k, k < n → hR v k b → 1 ≤ s := by
  intro n
  induction n with
  | zero => intro _; exact ⟨0, Nat.le_refl _, rfl, fun k hk => absurd hk (Nat.not_lt_zero _)⟩
  | succ n ih =>
    intro hn
    obtain ⟨s, h1, h2, h3⟩ := ih (by omega)
    obtain ⟨j, g1, g2, g3⟩ := I.2.2.1 n (by omega)
    by_cases hr : hR v n b
    · refine ⟨s + j, by omega, ?_, fun k hk hq => by omega⟩
      show fSp v b n + _ = _
      rw [if_pos hr, h2, g3, nI_add]
    · refine ⟨s, by omega, ?_, fun k hk hq => ?_⟩
      · show fSp v b n + _ = _
        rw [if_neg hr, h2, nI_add]
        rfl
      · by_cases e : k = n
        · exact absurd (e ▸ hq) hr
        · exact h3 k (by omega) hq
theorem Iv.spz {v : Nat → Int32} {nh nb ns b k : Nat} (I : Iv v nh nb ns) (hk : k < nh) (hr : hR v k b) : ¬ fSp v b nh = 0 := by
  obtain ⟨s, h1, h2, h3⟩ := I.sp (b := b) nh (Nat.le_refl _)
  have h4 := h3 k hk hr
  rw [h2]
  exact nI_ne0 h4 (by have := I.1.1; omega)
theorem Iv.w0 {v : Nat → Int32} {nh nb ns k : Nat} (I : Iv v nh nb ns) (hk : k < ns) : ∃ we, we ≤ 100000 ∧ v (76 + 5 * k + 3) = nI we ∧ fW (v (76 + 5 * k + 3)) = nI (1000 + we / 100) := by
  obtain ⟨o, b, t, we, tn, h1, h2, h3, h4, h5, h6, e0, e1, e2, e3, e4⟩ := I.2.2.2.2.2.2.2.2.1 k hk
  refine ⟨we, h5, e3, ?_⟩
  unfold fW
  rw [e3, pk_div (by omega) (by omega) (by omega), nI_add]
theorem Iv.wz {v : Nat → Int32} {nh nb ns k : Nat} (I : Iv v nh nb ns) (hk : k < ns) : ¬ fW (v (76 + 5 * k + 3)) = 0 ∧ 0 < fW (v (76 + 5 * k + 3)) := by
  obtain ⟨we, h1, h2, h3⟩ := I.w0 hk
  rw [h3]
  exact ⟨nI_ne0 (by omega) (by omega), by have := nI_lt (a := 0) (b := 1000 + we / 100) (by omega) (by omega); rw [nI_z] at this; exact this⟩
theorem gH_j {n : Int32} {k : Nat} {x : Int32} (hn : n = nI k) (hk : k < 2 ^ 31) (h : gH n x) : ∃ j, j < k ∧ x = nI j ∧ nx x = j := by
  obtain ⟨j, hj, rfl⟩ := nI_of (x := x) (fun q => by have := h.1; rw [n_lt] at q; rw [n_le] at this; omega)
  have h2 := h.2
  rw [hn] at h2
  have h3 := (nI_ltI hj hk).mp h2
  exact ⟨j, h3, rfl, nx_nI hj⟩
theorem gI_j {lo hi : Nat} {x : Int32} (hh : hi < 2 ^ 31) (hl : lo ≤ hi) (h : gI x (nI lo) (nI hi)) : ∃ j, lo ≤ j ∧ j ≤ hi ∧ x = nI j ∧ nx x = j := by
  obtain ⟨j, hj, rfl⟩ := nI_of (x := x) (fun q => by have h1 := h.1; rw [n_lt] at q; rw [n_le, nI_toInt (by omega)] at h1; rw [Int32.toInt_zero] at q; omega)
  exact ⟨j, (nI_leI (by omega) hj).mp h.1, (nI_leI hj hh).mp h.2, rfl, nx_nI hj⟩
/-! the reference's rows change -/
section MDS
variable {m : Nat} {w pa he te re w1 : Nat → Int32} {ps rn ty at_ st ki co ps1 rn1 ty1 at1 st1 ki1 co1 : Int32} {h : pH}
end MDS
/-! the history's row -/
def shP (pa : Nat → Int32) (i : Nat) : Nat → Int32 := fun k => if k < i then pa (k + 410) else pa k
def cpP (pa w : Nat → Int32) (np i : Nat) : Nat → Int32 := fun k => if 410 * np ≤ k ∧ k < 410 * np + i then w (k - 410 * np) else pa k
def aPa (rr : Bool) (np : Nat) (w pa : Nat → Int32) : Nat → Int32 := if rr = true then pa else if np = 5 then cpP (shP pa 1640) w 4 410 else cpP pa w np 410
def aNp (rr : Bool) (np : Nat) : Nat := if rr = true then np else if np = 5 then 5 else np + 1
theorem shP_s (pa : Nat → Int32) (i : Nat) : upd (shP pa i) i (shP pa i (i + 410)) = shP pa (i + 1) := by
  funext k
  unfold upd shP
  by_cases e : k = i
  · rw [if_pos e, if_neg (by omega), if_pos (by omega), e]
  · rw [if_neg e]
    by_cases e2 : k < i
    · rw [if_pos e2, if_pos (by omega)]
    · rw [if_neg e2, if_neg (by omega)]
theorem cpP_s (pa w : Nat → Int32) (np i : Nat) : upd (cpP pa w np i) (410 * np + i) (w i) = cpP pa w np (i + 1) := by
  funext k
  unfold upd cpP
  by_cases e : k = 410 * np + i
  · rw [if_pos e, if_pos (by omega), e]
    congr 1
    omega
  · rw [if_neg e]
    by_cases e2 : 410 * np ≤ k ∧ k < 410 * np + i
    · rw [if_pos e2, if_pos (by omega)]
    · rw [if_neg e2, if_neg (by omega)]
theorem cpP_0 (pa w : Nat → Int32) (np : Nat) : cpP pa w np 0 = pa := by
  funext k
  unfold cpP
  rw [if_neg (by omega)]
theorem shP_0 (pa : Nat → Int32) : shP pa 0 = pa := by
  funext k
  unfold shP
  rw [if_neg (by omega)]