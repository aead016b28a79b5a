/-! the reference's lookings -/
def qCount (w : Nat → Int32) (ps ty what : Int32) (ns : Nat) : Int32 := if gI what (nI 0) (nI 9) then (match nx what with | 0 => w 0 | 1 => w 1 | 2 => w 2 | 3 => w 3 | 4 => fDryN w ns | 5 => w 4 | 6 => w 5 | 7 => w 136 + w 137 | 8 => ps | _ => ty) else -1
def qHouse (w : Nat → Int32) (nb ns : Nat) (x what : Int32) : Int32 := if gH (w 1) x ∧ gI what (nI 0) (nI 5) then (if what < nI 3 then w (6 + 3 * nx x + nx what) else if what = nI 3 then fBanksOf w (nx x) nb else fStacksOf w x (decide (what = nI 5)) ns) else -1
def qBank (w : Nat → Int32) (ns : Nat) (x what : Int32) : Int32 := if gH (w 2) x ∧ gI what (nI 0) (nI 8) then (match nx what with | 3 => fBear (w (24 + 7 * nx x + 1)) (w 4) (w (24 + 7 * nx x + 2)) | 4 => w (24 + 7 * nx x + 3) | 5 => w (24 + 7 * nx x + 4) | 6 => fTurfsAt w x ns | 7 => w (24 + 7 * nx x + 5) | 8 => w (24 + 7 * nx x + 6) | q => w (24 + 7 * nx x + q)) else -1
def qRight (w : Nat → Int32) (nh : Nat) (x y what : Int32) : Int32 := if gH (w 1) x ∧ gH (w 2) y ∧ gI what (nI 0) (nI 2) then (if what = 0 then fShare w nh (nx x) (nx y) else if what = nI 1 then w (52 + 4 * nx x + nx y) else fMay w nh (nx x) (nx y)) else -1
def qStack (w : Nat → Int32) (x what : Int32) : Int32 := if gH (w 3) x ∧ gI what (nI 0) (nI 6) then (if what < nI 5 then w (76 + 5 * nx x + nx what) else if what = nI 5 then fW (w (76 + 5 * nx x + 3)) else if w (76 + 5 * nx x + 3) ≤ nI 30000 then nI 1 else nI 0) else -1
def wtF (we tn wi ra : Int32) : Nat → Int32
  | 0 => we
  | i + 1 => fDried (wtF we tn wi ra i) tn wi ra
def fFst (f : Nat → Int32) : Nat → Nat → Int32
  | 0, _ => -9
  | d + 1, i => if f i ≤ nI 30000 then nI i else fFst f d (i + 1)
def qDry (w : Nat → Int32) (x wi ra : Int32) : Int32 := if gH (w 3) x ∧ gI wi (nI 0) (nI 9) ∧ gI ra (nI 0) (nI 9) then fFst (wtF (w (76 + 5 * nx x + 3)) (w (76 + 5 * nx x + 4)) wi ra) 201 0 else -1
def mCart (w : Nat → Int32) (j b : Nat) : Int32 := fMost (w (76 + 5 * j + 3)) (w (76 + 5 * j + 2)) (fBear (w (24 + 7 * b + 1)) (w 4) (w (24 + 7 * b + 2)))
def qLoad (w : Nat → Int32) (x : Int32) : Int32 := if gH (w 3) x then (if mCart w (nx x) (nx (w (76 + 5 * nx x + 1))) = 0 then -9 else mCart w (nx x) (nx (w (76 + 5 * nx x + 1)))) else -1
def mN (W a q : Nat) : Nat := min (min (q * 1000 / W) a) 1000
def wN (W t : Nat) : Nat := ((t * W + 999) / 1000 + 49) / 50
def crN (W : Nat) : Nat → Nat → Nat → Nat → Int32
  | 0, _, _, n => nI n
  | f + 1, a, q, n => if a = 0 then nI n else (if mN W a q = 0 then -9 else crN W f (a - mN W a q) (q - wN W (mN W a q)) (n + 1))
def qCarts (w : Nat → Int32) (x : Int32) : Int32 := if gH (w 3) x then crN (nx (fW (w (76 + 5 * nx x + 3)))) (nx (w (76 + 5 * nx x + 2)) + 1) (nx (w (76 + 5 * nx x + 2))) (nx (fBear (w (24 + 7 * nx (w (76 + 5 * nx x + 1)) + 1)) (w 4) (w (24 + 7 * nx (w (76 + 5 * nx x + 1)) + 2)))) 0 else -1
def qWorth (w : Nat → Int32) (x pr : Int32) : Int32 := if gH (w 1) x ∧ (0 ≤ pr ∧ pr ≤ nI 2000000000) then (if lg_cmp ((w (6 + 3 * nx x + 1)).toInt64 * pr.toInt64) 2147483647 ≤ 0 then ((w (6 + 3 * nx x + 1)).toInt64 * pr.toInt64).toInt32 else -9) else -1
def nmF (w : Nat → Int32) (nh b : Nat) : Nat → Int32
  | 0 => nI 0
  | i + 1 => if nmF w nh b i < fMay w nh i b then fMay w nh i b else nmF w nh b i
def nfF (w : Nat → Int32) (nh b : Nat) : Nat → Int32
  | 0 => -9
  | i + 1 => if nmF w nh b i < fMay w nh i b then nI i else nfF w nh b i
def qNext (w : Nat → Int32) (nh : Nat) (x : Int32) : Int32 := if gH (w 2) x then nfF w nh (nx x) nh else -1
/-- wetness, strength, rain and wear in their bounds: a cart as a number -/
theorem mN_of {we a q : Nat} (h1 : we ≤ 100000) (h2 : a < 2 ^ 31) (h3 : q ≤ 3000) : fMost (nI we) (nI a) (nI q) = nI (mN (1000 + we / 100) a q) := by
  unfold fMost mN fW
  rw [pk_div (by omega) (by omega) (by omega), nI_add, pk_mul, pk_div (by omega) (by omega) (by omega)]
  have hq : q * 1000 / (1000 + we / 100) ≤ 3000000 := Nat.le_trans (Nat.div_le_self _ _) (by omega)
  generalize q * 1000 / (1000 + we / 100) = c at hq ⊢
  have e1 : fMn (nI c) (nI a) = nI (min c a) := by
    by_cases h : a ≤ c
    · rw [fMn_f (nI_le h (by omega)), Nat.min_eq_right h]
    · rw [fMn_t (nI_ge (by omega) (by omega)), Nat.min_eq_left (by omega)]
  rw [e1]
  have h0 : min c a ≤ c := Nat.min_le_left _ _
  generalize min c a = d at h0 ⊢
  by_cases h : 1000 ≤ d
  · rw [fMn_f (nI_le h (by omega)), Nat.min_eq_right h]
  · rw [fMn_t (nI_ge (by omega) (by omega)), Nat.min_eq_left (by omega)]
theorem wN_of {we t : Nat} (h1 : we ≤ 100000) (h2 : t ≤ 1000) : fWear (fLoad (nI we) (nI t)) = nI (wN (1000 + we / 100) t) := by
  unfold fWear fLoad fW wN
  have h3 : t * (1000 + we / 100) ≤ 1000 * 2000 := Nat.mul_le_mul h2 (by omega)
  rw [pk_div (by omega) (by omega) (by omega), nI_add, pk_mul, nI_add, pk_div (by omega) (by omega) (by omega), nI_add, pk_div (by omega) (by omega) (by omega)]
theorem fW_of {we : Nat} (h : we ≤ 100000) : fW (nI we) = nI (1000 + we / 100) := by
  unfold fW
  rw [pk_div (by omega) (by omega) (by omega), nI_add]
theorem mN_le (W a q : Nat) : mN W a q ≤ a ∧ mN W a q ≤ 1000 := by unfold mN; omega
theorem crN_more (W : Nat) : ∀ f a q n, a < f → crN W f a q n = crN W (f + 1) a q n := by
  intro f
  induction f with
  | zero => intro a q n h; omega
  | succ f ih =>
    intro a q n h
    show (if a = 0 then nI n else (if mN W a q = 0 then -9 else crN W f (a - mN W a q) (q - wN W (mN W a q)) (n + 1))) = (if a = 0 then nI n else (if mN W a q = 0 then -9 else crN W (f + 1) (a - mN W a q) (q - wN W (mN W a q)) (n + 1)))
    by_cases h1 : a = 0
    · rw [if_pos h1, if_pos h1]
    · rw [if_neg h1, if_neg h1]
      by_cases h2 : mN W a q = 0
      · rw [if_pos h2, if_pos h2]
      · rw [if_neg h2, if_neg h2]
        exact ih _ _ _ (by omega)
theorem Iv.be {v : Nat → Int32} {nh nb ns b : Nat} (I : Iv v nh nb ns) (hb : b < nb) : ∃ q, q ≤ 3000 ∧ fBear (v (24 + 7 * b + 1)) (v 4) (v (24 + 7 * b + 2)) = nI q := by
  obtain ⟨-, ⟨s, s1, s2, s3⟩, ⟨e, e1, e2, e3⟩⟩ := I.2.2.2.2.1 b hb
  obtain ⟨r, r1, r2, r3⟩ := I.2.1.2
  unfold fBear
  rw [s3, e3, r3, pk_mul]
  have t1 : (nI s - nI (40 * r) - nI e).toInt = (s : Int) - 40 * r - e := by
    rw [Int32.toInt_sub, Int32.toInt_sub, nI_toInt (by omega), nI_toInt (by omega), nI_toInt (by omega)]
    simp only [Int.bmod_def]
    omega
  by_cases h : nI s - nI (40 * r) - nI e < 0
  · exact ⟨0, by omega, if_pos h⟩
  · rw [if_neg h]
    obtain ⟨q, q1, q2⟩ := nI_of h
    refine ⟨q, ?_, q2⟩
    rw [q2, nI_toInt q1] at t1
    omega