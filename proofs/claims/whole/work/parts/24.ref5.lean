/-! the reference's lookings -/
def qCount (w : Nat → Int32) (ps ty what : Int32) (ns : Nat) : Int32 := if gI what (nI 0) (nI 9) then (match nx what with | 0 => w 0 | 1 => w 1 | 2 => w 2 | 3 => w 3 | 4 => fDryN w ns | 5 => w 4 | 6 => w 5 | 7 => w 136 + w 137 | 8 => ps | _ => ty) else -1
def qHouse (w : Nat → Int32) (nb ns : Nat) (x what : Int32) : Int32 := if gH (w 1) x ∧ gI what (nI 0) (nI 5) then (if what < nI 3 then w (6 + 3 * nx x + nx what) else if what = nI 3 then fBanksOf w (nx x) nb else fStacksOf w x (decide (what = nI 5)) ns) else -1
def qBank (w : Nat → Int32) (ns : Nat) (x what : Int32) : Int32 := if gH (w 2) x ∧ gI what (nI 0) (nI 8) then (match nx what with | 3 => fBear (w (24 + 7 * nx x + 1)) (w 4) (w (24 + 7 * nx x + 2)) | 4 => w (24 + 7 * nx x + 3) | 5 => w (24 + 7 * nx x + 4) | 6 => fTurfsAt w x ns | 7 => w (24 + 7 * nx x + 5) | 8 => w (24 + 7 * nx x + 6) | q => w (24 + 7 * nx x + q)) else -1
def qRight (w : Nat → Int32) (nh : Nat) (x y what : Int32) : Int32 := if gH (w 1) x ∧ gH (w 2) y ∧ gI what (nI 0) (nI 2) then (if what = 0 then fShare w nh (nx x) (nx y) else if what = nI 1 then w (52 + 4 * nx x + nx y) else fMay w nh (nx x) (nx y)) else -1
def qStack (w : Nat → Int32) (x what : Int32) : Int32 := if gH (w 3) x ∧ gI what (nI 0) (nI 6) then (if what < nI 5 then w (76 + 5 * nx x + nx what) else if what = nI 5 then fW (w (76 + 5 * nx x + 3)) else if w (76 + 5 * nx x + 3) ≤ nI 30000 then nI 1 else nI 0) else -1
def wtF (we tn wi ra : Int32) : Nat → Int32
  | 0 => we
  | i + 1 => fDried (wtF we tn wi ra i) tn wi ra
def fFst (f : Nat → Int32) : Nat → Nat → Int32
  | 0, _ => -9
  | d + 1, i => if f i ≤ nI 30000 then nI i else fFst f d (i + 1)
def qDry (w : Nat → Int32) (x wi ra : Int32) : Int32 := if gH (w 3) x ∧ gI wi (nI 0) (nI 9) ∧ gI ra (nI 0) (nI 9) then fFst (wtF (w (76 + 5 * nx x + 3)) (w (76 + 5 * nx x + 4)) wi ra) 201 0 else -1
def mCart (w : Nat → Int32) (j b : Nat) : Int32 := fMost (w (76 + 5 * j + 3)) (w (76 + 5 * j + 2)) (fBear (w (24 + 7 * b + 1)) (w 4) (w (24 + 7 * b + 2)))
def qLoad (w : Nat → Int32) (x : Int32) : Int32 := if gH (w 3) x then (if mCart w (nx x) (nx (w (76 + 5 * nx x + 1))) = 0 then -9 else mCart w (nx x) (nx (w (76 + 5 * nx x + 1)))) else -1
def mN (W a q : Nat) : Nat := min (min (q * 1000 / W) a) 1000
def wN (W t : Nat) : Nat := ((t * W + 999) / 1000 + 49) / 50
def crN (W : Nat) : Nat → Nat → Nat → Nat → Int32
  | 0, _, _, n => nI n
  | f + 1, a, q, n => if a = 0 then nI n else (if mN W a q = 0 then -9 else crN W f (a - mN W a q) (q - wN W (mN W a q)) (n + 1))
def qCarts (w : Nat → Int32) (x : Int32) : Int32 := if gH (w 3) x then crN (nx (fW (w (76 + 5 * nx x + 3)))) (nx (w (76 + 5 * nx x + 2)) + 1) (nx (w (76 + 5 * nx x + 2))) (nx (fBear (w (24 + 7 * nx (w (76 + 5 * nx x + 1)) + 1)) (w 4) (w (24 + 7 * nx (w (76 + 5 * nx x + 1)) + 2)))) 0 else -1
def qWorth (w : Nat → Int32) (x pr : Int32) : Int32 := if gH (w 1) x ∧ (0 ≤ pr ∧ pr ≤ nI 2000000000) then (if lg_cmp ((w (6 + 3 * nx x + 1)).toInt64 * pr.toInt64) 2147483647 ≤ 0 then ((w (6 + 3 * nx x + 1)).toInt64 * pr.toInt64).toInt32 else -9) else -1
def nmF (w : Nat → Int32) (nh b : Nat) : Nat → Int32
  | 0 => nI 0
  | i + 1 => if nmF w nh b i < fMay w nh i b then fMay w nh i b else nmF w nh b i
def nfF (w : Nat → Int32) (nh b : Nat) : Nat → Int32
  | 0 => -9
  | i + 1 => if nmF w nh b i < fMay w nh i b then nI i else nfF w nh b i
def qNext (w : Nat → Int32) (nh : Nat) (x : Int32) : Int32 := if gH (w 2) x then nfF w nh (nx x) nh else -1
/-- wetness, strength, rain and wear in their bounds: a cart as a number -/
theorem mN_of {we a q : Nat} (h1 : we ≤ 100000) (h2 : a < 2 ^ 31) (h3 : q ≤ 3000) : fMost (nI we) (nI a) (nI q) = nI (mN (1000 + we / 100) a q) := by
  unfold fMost mN fW
  rw [pk_div (by omega) (by omega) (by omega), nI_add, pk_mul, pk_div (by omega) (by omega) (by omega)]
  have hq : q * 1000 / (1000 + we / 100) ≤ 3000000 := Nat.le_trans (Nat.div_le_self _ _) (by omega)
  generalize q * 1000 / (1000 + we / 100) = c at hq ⊢
  have e1 : fMn (nI c) (nI a) = nI (min c a) := by
    by_cases h : a ≤ c
    · rw [fMn_f (nI_le h (by omega)), Nat.min_eq_right h]
    · rw [fMn_t (nI_ge (by omega) (by omega)), Nat.min_eq_left (by omega)]
  rw [e1]
  have h0 : min c a ≤ c := Nat.min_le_left _ _
  generalize min c a = d at h0 ⊢
  by_cases h : 1000 ≤ d
  · rw [fMn_f (nI_le h (by omega)), Nat.min_eq_right h]
  · rw [fMn_t (nI_ge (by omega) (by omega)), Nat.min_eq_left (by omega)]
theorem wN_of {we t : Nat} (h1 : we ≤ 100000) (h2 : t ≤ 1000) : fWear (fLoad (nI we) (nI t)) = nI (wN (1000 + we / 100) t) := by
  unfold fWear fLoad fW wN
  have h3 : t * (1000 + we / 100) ≤ 1000 * 2000 := Nat.mul_le_mul h2 (by omega)
  rw [pk_div (by omega) (by omega) (by omega), nI_add, pk_mul, nI_add, pk_div (by omega) (by omega) (by omega), nI_add, pk_div (by omega) (by omega) (by omega)]
theorem fW_of {we : Nat} (h : we ≤ 100000) : fW (nI we) = nI (1000 + we / 100) := by
  unfold fW
  rw [pk_div (by omega) (by omega) (by omega), nI_add]
theorem mN_le (W a q : Nat) : mN W a q ≤ a ∧ mN W a q ≤ 1000 := by unfold mN; omega
theorem crN_more (W : Nat) : ∀ f a q n, a < f → crN W f a q n = crN W (f + 1) a q n := by
  intro f
  induction f with
  | zero => intro a q n h; omega
  | succ f ih =>
    intro a q n h
    show (if a = 0 then nI n else (if mN W a q = 0 then -9 else crN W f (a - mN W a q) (q - wN W (mN W a q)) (n + 1))) = (if a = 0 then nI n else (if mN W a q = 0 then -9 else crN W (f + 1) (a - mN W a q) (q - wN W (mN W a q)) (n + 1)))
    by_cases h1 : a = 0
    · rw [if_pos h1, if_pos h1]
    · rw [if_neg h1, if_neg h1]
      by_cases h2 : mN W a q = 0
      · rw [if_pos h2, if_pos h2]
      · rw [if_neg h2, if_neg h2]
        exact ih _ _ _ (by omega)
theorem Iv.be {v : Nat → Int32} {nh nb ns b : Nat} (I : Iv v nh nb ns) (hb : b < nb) : ∃ q, q ≤ 3000 ∧ fBear (v (24 + 7 * b + 1)) (v 4) (v (24 + 7 * b + 2)) = nI q := by
  obtain ⟨-, ⟨s, s1, s2, s3⟩, ⟨e, e1, e2, e3⟩⟩ := I.2.2.2.2.1 b hb
  obtain ⟨r, r1, r2, r3⟩ := I.2.1.2
  unfold fBear
  rw [s3, e3, r3, pk_mul]
  have t1 : (nI s - nI (40 * r) - nI e).toInt = (s : Int) - 40 * r - e := by
    rw [Int32.toInt_sub, Int32.toInt_sub, nI_toInt (by omega), nI_toInt (by omega), nI_toInt (by omega)]
    simp only [Int.bmod_def]
    omega
  by_cases h : nI s - nI (40 * r) - nI e < 0
  · exact ⟨0, by omega, if_pos h⟩
  · rw [if_neg h]
    obtain ⟨q, q1, q2⟩ := nI_of h
    refine ⟨q, ?_, q2⟩
    rw [q2, nI_toInt q1] at t1
    omega
set_option maxRecDepth 100000 in
set_option maxHeartbeats 4000000 in
theorem c_X7_count (l : Launch) (E : pE) (m : Nat) (w pa he te re : Nat → Int32) (np : Nat) (rr : Bool) (ty at_ st ki co : Int32) (x : Int32) (nh nb ns : Nat) : pC l E yX7_count cX7_count 2 (some .int) { frames := 3, cells := 0, slots := 0, locals := 65 } 0 0 [.ref m, .int x] (fun h _ => MD m w pa he te re (nI np) (bI (rr = true)) ty at_ st ki co h ∧ Iv w nh nb ns) (pFp ((qCount w (nI np) ty x ns))) := by
  refine pC_of (by decide) (by simp [Value.category]) (Nat.le_of_ble_eq_true rfl) ?_
  intro h z hp p__ e__ s__ m__ args__ below__ meth__ c__ X hr hlk hname
  obtain ⟨hM, I⟩ := hp
  have hM0 := hM
  obtain ⟨M0, M1, M2, M3, M4, M5⟩ := hM0
  obtain ⟨hn6, hb4, hs12, en, eb, es⟩ := I.1
  refine v_iload_n (pc := 0) X (hd := dX7_count_0) (kk := ?_)
  by_cases hw : gI x (nI 0) (nI 9)
  · obtain ⟨q, -, hq, rfl, eq⟩ := gI_j (by omega) (by omega) hw
    have hq2 : q = 0 ∨ q = 1 ∨ q = 2 ∨ q = 3 ∨ q = 4 ∨ q = 5 ∨ q = 6 ∨ q = 7 ∨ q = 8 ∨ q = 9 := by omega
    rcases hq2 with rfl | rfl | rfl | rfl | rfl | rfl | rfl | rfl | rfl | rfl
    · refine v_tabIn (pc := 1) (tgt := 56) X (hd := dX7_count_1) 0 (by decide +kernel) (kk := ?_)
      refine v_aload_n (pc := 56) X (hd := dX7_count_56) (kk := ?_)
      refine g_X7_7 (pc := 57) X (hd := dX7_count_57) (hh := by first | assumption | exact pset_s _ _ _ | exact (pset_n (by omega)).trans (by assumption)) (kk := ?_)
      refine v_iload_n (pc := 60) X (hd := dX7_count_60) (kk := ?_)
      refine v_ialdN (pc := 61) X (j := 0) (hd := dX7_count_61) (hh := by first | assumption | exact pset_s _ _ _ | exact (pset_n (by omega)).trans (by assumption)) (hi := by first | rfl | (simp only [pk_mul, nI_add]; done)) (hj := by omega) (kk := ?_)
      exact v_endp (pc := 62) X hr hlk (hd := dX7_count_62) (hf := by unfold qCount; first | (rw [if_pos hw, eq]; done) | (rw [if_pos hw, eq]; rfl))
    · refine v_tabIn (pc := 1) (tgt := 56) X (hd := dX7_count_1) 1 (by decide +kernel) (kk := ?_)
      refine v_aload_n (pc := 56) X (hd := dX7_count_56) (kk := ?_)
      refine g_X7_7 (pc := 57) X (hd := dX7_count_57) (hh := by first | assumption | exact pset_s _ _ _ | exact (pset_n (by omega)).trans (by assumption)) (kk := ?_)
      refine v_iload_n (pc := 60) X (hd := dX7_count_60) (kk := ?_)
      refine v_ialdN (pc := 61) X (j := 1) (hd := dX7_count_61) (hh := by first | assumption | exact pset_s _ _ _ | exact (pset_n (by omega)).trans (by assumption)) (hi := by first | rfl | (simp only [pk_mul, nI_add]; done)) (hj := by omega) (kk := ?_)
      exact v_endp (pc := 62) X hr hlk (hd := dX7_count_62) (hf := by unfold qCount; first | (rw [if_pos hw, eq]; done) | (rw [if_pos hw, eq]; rfl))
    · refine v_tabIn (pc := 1) (tgt := 56) X (hd := dX7_count_1) 2 (by decide +kernel) (kk := ?_)
      refine v_aload_n (pc := 56) X (hd := dX7_count_56) (kk := ?_)
      refine g_X7_7 (pc := 57) X (hd := dX7_count_57) (hh := by first | assumption | exact pset_s _ _ _ | exact (pset_n (by omega)).trans (by assumption)) (kk := ?_)
      refine v_iload_n (pc := 60) X (hd := dX7_count_60) (kk := ?_)
      refine v_ialdN (pc := 61) X (j := 2) (hd := dX7_count_61) (hh := by first | assumption | exact pset_s _ _ _ | exact (pset_n (by omega)).trans (by assumption)) (hi := by first | rfl | (simp only [pk_mul, nI_add]; done)) (hj := by omega) (kk := ?_)
      exact v_endp (pc := 62) X hr hlk (hd := dX7_count_62) (hf := by unfold qCount; first | (rw [if_pos hw, eq]; done) | (rw [if_pos hw, eq]; rfl))
    · refine v_tabIn (pc := 1) (tgt := 56) X (hd := dX7_count_1) 3 (by decide +kernel) (kk := ?_)
      refine v_aload_n (pc := 56) X (hd := dX7_count_56) (kk := ?_)
      refine g_X7_7 (pc := 57) X (hd := dX7_count_57) (hh := by first | assumption | exact pset_s _ _ _ | exact (pset_n (by omega)).trans (by assumption)) (kk := ?_)
      refine v_iload_n (pc := 60) X (hd := dX7_count_60) (kk := ?_)
      refine v_ialdN (pc := 61) X (j := 3) (hd := dX7_count_61) (hh := by first | assumption | exact pset_s _ _ _ | exact (pset_n (by omega)).trans (by assumption)) (hi := by first | rfl | (simp only [pk_mul, nI_add]; done)) (hj := by omega) (kk := ?_)
      exact v_endp (pc := 62) X hr hlk (hd := dX7_count_62) (hf := by unfold qCount; first | (rw [if_pos hw, eq]; done) | (rw [if_pos hw, eq]; rfl))
    · refine v_tabIn (pc := 1) (tgt := 63) X (hd := dX7_count_1) 4 (by decide +kernel) (kk := ?_)
      refine v_aload_n (pc := 63) X (hd := dX7_count_63) (kk := ?_)
      refine v_callVp (pc := 64) X (hd := dX7_count_64) (w := wv_X7_98) (hC := c_X7_dryStacks l E _ _ _ _ _ _ _ _ _ _ _ _ _ ns) (hp := ⟨hM, hs12, es⟩) (hb := by first | assumption | exact pset_s _ _ _ | exact (pset_n (by omega)).trans (by assumption)) (kk := ?_)
      exact v_endp (pc := 67) X hr hlk (hd := dX7_count_67) (hf := by unfold qCount; first | (rw [if_pos hw, eq]; done) | (rw [if_pos hw, eq]; rfl))
    · refine v_tabIn (pc := 1) (tgt := 68) X (hd := dX7_count_1) 5 (by decide +kernel) (kk := ?_)
      refine v_aload_n (pc := 68) X (hd := dX7_count_68) (kk := ?_)
      refine g_X7_7 (pc := 69) X (hd := dX7_count_69) (hh := by first | assumption | exact pset_s _ _ _ | exact (pset_n (by omega)).trans (by assumption)) (kk := ?_)
      refine v_iconst (pc := 72) X (v := nI 4) (hd := dX7_count_72) (kk := ?_)
      refine v_ialdN (pc := 73) X (j := 4) (hd := dX7_count_73) (hh := by first | assumption | exact pset_s _ _ _ | exact (pset_n (by omega)).trans (by assumption)) (hi := by first | rfl | (simp only [pk_mul, nI_add]; done)) (hj := by omega) (kk := ?_)
      exact v_endp (pc := 74) X hr hlk (hd := dX7_count_74) (hf := by unfold qCount; first | (rw [if_pos hw, eq]; done) | (rw [if_pos hw, eq]; rfl))
    · refine v_tabIn (pc := 1) (tgt := 75) X (hd := dX7_count_1) 6 (by decide +kernel) (kk := ?_)
      refine v_aload_n (pc := 75) X (hd := dX7_count_75) (kk := ?_)
      refine g_X7_7 (pc := 76) X (hd := dX7_count_76) (hh := by first | assumption | exact pset_s _ _ _ | exact (pset_n (by omega)).trans (by assumption)) (kk := ?_)
      refine v_iconst (pc := 79) X (v := nI 5) (hd := dX7_count_79) (kk := ?_)
      refine v_ialdN (pc := 80) X (j := 5) (hd := dX7_count_80) (hh := by first | assumption | exact pset_s _ _ _ | exact (pset_n (by omega)).trans (by assumption)) (hi := by first | rfl | (simp only [pk_mul, nI_add]; done)) (hj := by omega) (kk := ?_)
      exact v_endp (pc := 81) X hr hlk (hd := dX7_count_81) (hf := by unfold qCount; first | (rw [if_pos hw, eq]; done) | (rw [if_pos hw, eq]; rfl))
    · refine v_tabIn (pc := 1) (tgt := 82) X (hd := dX7_count_1) 7 (by decide +kernel) (kk := ?_)
      refine v_aload_n (pc := 82) X (hd := dX7_count_82) (kk := ?_)
      refine g_X7_7 (pc := 83) X (hd := dX7_count_83) (hh := by first | assumption | exact pset_s _ _ _ | exact (pset_n (by omega)).trans (by assumption)) (kk := ?_)
      refine v_sipush (pc := 86) X (v := nI 136) (hd := dX7_count_86) (kk := ?_)
      refine v_ialdN (pc := 89) X (j := 136) (hd := dX7_count_89) (hh := by first | assumption | exact pset_s _ _ _ | exact (pset_n (by omega)).trans (by assumption)) (hi := by first | rfl | (simp only [pk_mul, nI_add]; done)) (hj := by omega) (kk := ?_)
      refine v_aload_n (pc := 90) X (hd := dX7_count_90) (kk := ?_)
      refine g_X7_7 (pc := 91) X (hd := dX7_count_91) (hh := by first | assumption | exact pset_s _ _ _ | exact (pset_n (by omega)).trans (by assumption)) (kk := ?_)
      refine v_sipush (pc := 94) X (v := nI 137) (hd := dX7_count_94) (kk := ?_)
      refine v_ialdN (pc := 97) X (j := 137) (hd := dX7_count_97) (hh := by first | assumption | exact pset_s _ _ _ | exact (pset_n (by omega)).trans (by assumption)) (hi := by first | rfl | (simp only [pk_mul, nI_add]; done)) (hj := by omega) (kk := ?_)
      refine v_iadd (pc := 98) X (hd := dX7_count_98) (kk := ?_)
      exact v_endp (pc := 99) X hr hlk (hd := dX7_count_99) (hf := by unfold qCount; first | (rw [if_pos hw, eq]; done) | (rw [if_pos hw, eq]; rfl))
    · refine v_tabIn (pc := 1) (tgt := 100) X (hd := dX7_count_1) 8 (by decide +kernel) (kk := ?_)
      refine v_aload_n (pc := 100) X (hd := dX7_count_100) (kk := ?_)
      refine g_X7_29 (pc := 101) X (hd := dX7_count_101) (hh := by first | assumption | exact pset_s _ _ _ | exact (pset_n (by omega)).trans (by assumption)) (kk := ?_)
      exact v_endp (pc := 104) X hr hlk (hd := dX7_count_104) (hf := by unfold qCount; first | (rw [if_pos hw, eq]; done) | (rw [if_pos hw, eq]; rfl))
    · refine v_tabIn (pc := 1) (tgt := 105) X (hd := dX7_count_1) 9 (by decide +kernel) (kk := ?_)
      refine v_aload_n (pc := 105) X (hd := dX7_count_105) (kk := ?_)
      refine g_X7_102 (pc := 106) X (hd := dX7_count_106) (hh := by first | assumption | exact pset_s _ _ _ | exact (pset_n (by omega)).trans (by assumption)) (kk := ?_)
      exact v_endp (pc := 109) X hr hlk (hd := dX7_count_109) (hf := by unfold qCount; first | (rw [if_pos hw, eq]; done) | (rw [if_pos hw, eq]; rfl))
  · refine v_tabOut (pc := 1) (tgt := 110) X (hd := dX7_count_1) (by rcases Int.lt_or_le x.toInt 0 with q | q; exact Or.inl q; exact Or.inr (by rcases Int.lt_or_le 9 x.toInt with q2 | q2; exact q2; exact absurd ⟨by rw [n_le]; exact q, by rw [n_le]; exact q2⟩ hw)) (kk := ?_)
    refine v_iconst (pc := 110) X (v := (-1)) (hd := dX7_count_110) (kk := ?_)
    exact v_endp (pc := 111) X hr hlk (hd := dX7_count_111) (hf := by unfold qCount; rw [if_neg hw])
set_option maxRecDepth 100000 in
set_option maxHeartbeats 4000000 in
theorem c_X7_household (l : Launch) (E : pE) (m : Nat) (w pa he te re : Nat → Int32) (np : Nat) (rr : Bool) (ty at_ st ki co : Int32) (x y : Int32) (nh nb ns : Nat) : pC l E yX7_household cX7_household 3 (some .int) { frames := 3, cells := 0, slots := 0, locals := 67 } 0 0 [.ref m, .int x, .int y] (fun h _ => MD m w pa he te re (nI np) (bI (rr = true)) ty at_ st ki co h ∧ Iv w nh nb ns) (pFp ((qHouse w nb ns x y))) := by
  refine pC_of (by decide) (by simp [Value.category]) (Nat.le_of_ble_eq_true rfl) ?_
  intro h z hp p__ e__ s__ m__ args__ below__ meth__ c__ X hr hlk hname
  obtain ⟨hM, I⟩ := hp
  have hM0 := hM
  obtain ⟨M0, M1, M2, M3, M4, M5⟩ := hM0
  obtain ⟨hn6, hb4, hs12, en, eb, es⟩ := I.1
  refine v_aload_n (pc := 0) X (hd := dX7_household_0) (kk := ?_)
  refine v_iload_n (pc := 1) X (hd := dX7_household_1) (kk := ?_)
  refine v_callVp (pc := 2) X (hd := dX7_household_2) (w := wv_X7_40) (hC := c_X7_isHouse l E _ _ _ _ _ _ _ _ _ _ _ _ _ _) (hp := by first | assumption | exact trivial) (hb := by first | assumption | exact pset_s _ _ _ | exact (pset_n (by omega)).trans (by assumption)) (kk := ?_)
  refine v_ifeqB (pc := 5) X (tgt := 17) (hd := dX7_household_5) (kt := fun c5 => ?_) (kf := fun c5 => ?_)
  · refine v_iconst (pc := 17) X (v := (-1)) (hd := dX7_household_17) (kk := ?_)
    exact v_endp (pc := 18) X hr hlk (hd := dX7_household_18) (hf := by unfold qHouse; rw [if_neg (fun q => c5 q.1)])
  · refine v_iload_n (pc := 8) X (hd := dX7_household_8) (kk := ?_)
    refine v_iconst (pc := 9) X (v := nI 0) (hd := dX7_household_9) (kk := ?_)
    refine v_iconst (pc := 10) X (v := nI 5) (hd := dX7_household_10) (kk := ?_)
    refine v_callSp (pc := 11) X (hd := dX7_household_11) (w := wv_X7_33) (hC := c_X7_in l E _ _ _) (hp := by first | assumption | exact trivial) (kk := ?_)
    refine v_ifneB (pc := 14) X (tgt := 19) (hd := dX7_household_14) (kt := fun c14 => ?_) (kf := fun c14 => ?_)
    · obtain ⟨j, hj, rfl, ej⟩ := gH_j en (by omega) c5
      obtain ⟨q, -, hq, rfl, eq⟩ := gI_j (by omega) (by omega) c14
      refine v_iload_n (pc := 19) X (hd := dX7_household_19) (kk := ?_)
      refine v_iconst (pc := 20) X (v := nI 3) (hd := dX7_household_20) (kk := ?_)
      refine v_icmpge (pc := 21) X (tgt := 33) (hd := dX7_household_21) (kt := fun c21 => ?_) (kf := fun c21 => ?_)
      · refine v_iload_n (pc := 33) X (hd := dX7_household_33) (kk := ?_)
        refine v_iconst (pc := 34) X (v := nI 3) (hd := dX7_household_34) (kk := ?_)
        refine v_icmpne (pc := 35) X (tgt := 46) (hd := dX7_household_35) (kt := fun c35 => ?_) (kf := fun c35 => ?_)
        · refine v_aload_n (pc := 46) X (hd := dX7_household_46) (kk := ?_)
          refine v_iload_n (pc := 47) X (hd := dX7_household_47) (kk := ?_)
          refine v_iload_n (pc := 48) X (hd := dX7_household_48) (kk := ?_)
          refine v_iconst (pc := 49) X (v := nI 5) (hd := dX7_household_49) (kk := ?_)
          refine v_icmpne (pc := 50) X (tgt := 57) (hd := dX7_household_50) (kt := fun c50 => ?_) (kf := fun c50 => ?_)
          · refine v_iconst (pc := 57) X (v := bI (false = true)) (hd := dX7_household_57) (kk := ?_)
            refine v_callVp (pc := 58) X (hd := dX7_household_58) (w := wv_X7_167) (hC := c_X7_stacksOf l E _ _ _ _ _ _ _ _ _ _ _ _ _ (nI j) false ns) (hp := ⟨hM, hs12, es⟩) (hb := by first | assumption | exact pset_s _ _ _ | exact (pset_n (by omega)).trans (by assumption)) (kk := ?_)
            exact v_endp (pc := 61) X hr hlk (hd := dX7_household_61) (hf := by unfold qHouse; rw [if_pos ⟨c5, c14⟩, ej, eq, if_neg (by rw [n_lt]; rw [n_le] at c21; exact Int.not_lt.mpr c21), if_neg c35, decide_eq_false c50])
          · refine v_iconst (pc := 53) X (v := bI (true = true)) (hd := dX7_household_53) (kk := ?_)
            refine v_goto (pc := 54) X (tgt := 58) (hd := dX7_household_54) (kk := ?_)
            refine v_callVp (pc := 58) X (hd := dX7_household_58) (w := wv_X7_167) (hC := c_X7_stacksOf l E _ _ _ _ _ _ _ _ _ _ _ _ _ (nI j) true ns) (hp := ⟨hM, hs12, es⟩) (hb := by first | assumption | exact pset_s _ _ _ | exact (pset_n (by omega)).trans (by assumption)) (kk := ?_)
            exact v_endp (pc := 61) X hr hlk (hd := dX7_household_61) (hf := by unfold qHouse; rw [if_pos ⟨c5, c14⟩, ej, eq, if_neg (by rw [n_lt]; rw [n_le] at c21; exact Int.not_lt.mpr c21), if_neg c35, decide_eq_true (Classical.not_not.mp c50)])
        · refine v_aload_n (pc := 38) X (hd := dX7_household_38) (kk := ?_)
          refine v_iload_n (pc := 39) X (hd := dX7_household_39) (kk := ?_)
          refine v_callVp (pc := 40) X (hd := dX7_household_40) (w := wv_X7_164) (hC := c_X7_banksOf l E _ _ _ _ _ _ _ _ _ _ _ _ _ j nb) (hp := ⟨hM, hb4, eb⟩) (hb := by first | assumption | exact pset_s _ _ _ | exact (pset_n (by omega)).trans (by assumption)) (kk := ?_)
          refine v_goto (pc := 43) X (tgt := 61) (hd := dX7_household_43) (kk := ?_)
          exact v_endp (pc := 61) X hr hlk (hd := dX7_household_61) (hf := by unfold qHouse; rw [if_pos ⟨c5, c14⟩, ej, eq, if_neg (by rw [n_lt]; rw [n_le] at c21; exact Int.not_lt.mpr c21), if_pos (Classical.not_not.mp c35)])
      · refine v_aload_n (pc := 24) X (hd := dX7_household_24) (kk := ?_)
        refine v_iload_n (pc := 25) X (hd := dX7_household_25) (kk := ?_)
        refine v_iload_n (pc := 26) X (hd := dX7_household_26) (kk := ?_)
        refine v_callVp (pc := 27) X (hd := dX7_household_27) (w := wv_X7_44) (hC := c_X7_inHouse l E _ _ _ _ _ _ _ _ _ _ _ _ _ (j) q) (hp := ⟨hM, by omega⟩) (hb := by first | assumption | exact pset_s _ _ _ | exact (pset_n (by omega)).trans (by assumption)) (kk := ?_)
        refine v_goto (pc := 30) X (tgt := 61) (hd := dX7_household_30) (kk := ?_)
        exact v_endp (pc := 61) X hr hlk (hd := dX7_household_61) (hf := by unfold qHouse; rw [if_pos ⟨c5, c14⟩, ej, eq, if_pos (n_nle c21)])
    · refine v_iconst (pc := 17) X (v := (-1)) (hd := dX7_household_17) (kk := ?_)
      exact v_endp (pc := 18) X hr hlk (hd := dX7_household_18) (hf := by unfold qHouse; rw [if_neg (fun q => c14 q.2)])
set_option maxRecDepth 100000 in
set_option maxHeartbeats 4000000 in
theorem c_X7_bank (l : Launch) (E : pE) (m : Nat) (w pa he te re : Nat → Int32) (np : Nat) (rr : Bool) (ty at_ st ki co : Int32) (x y : Int32) (nh nb ns : Nat) : pC l E yX7_bank cX7_bank 3 (some .int) { frames := 2, cells := 0, slots := 0, locals := 45 } 0 0 [.ref m, .int x, .int y] (fun h _ => MD m w pa he te re (nI np) (bI (rr = true)) ty at_ st ki co h ∧ Iv w nh nb ns) (pFp ((qBank w ns x y))) := by
  refine pC_of (by decide) (by simp [Value.category]) (Nat.le_of_ble_eq_true rfl) ?_
  intro h z hp p__ e__ s__ m__ args__ below__ meth__ c__ X hr hlk hname
  obtain ⟨hM, I⟩ := hp
  have hM0 := hM
  obtain ⟨M0, M1, M2, M3, M4, M5⟩ := hM0
  obtain ⟨hn6, hb4, hs12, en, eb, es⟩ := I.1
  refine v_aload_n (pc := 0) X (hd := dX7_bank_0) (kk := ?_)
  refine v_iload_n (pc := 1) X (hd := dX7_bank_1) (kk := ?_)
  refine v_callVp (pc := 2) X (hd := dX7_bank_2) (w := wv_X7_48) (hC := c_X7_isBank l E _ _ _ _ _ _ _ _ _ _ _ _ _ _) (hp := by first | assumption | exact trivial) (hb := by first | assumption | exact pset_s _ _ _ | exact (pset_n (by omega)).trans (by assumption)) (kk := ?_)
  refine v_ifeqB (pc := 5) X (tgt := 18) (hd := dX7_bank_5) (kt := fun c5 => ?_) (kf := fun c5 => ?_)
  · refine v_iconst (pc := 18) X (v := (-1)) (hd := dX7_bank_18) (kk := ?_)
    exact v_endp (pc := 19) X hr hlk (hd := dX7_bank_19) (hf := by unfold qBank; rw [if_neg (fun q => c5 q.1)])
  · refine v_iload_n (pc := 8) X (hd := dX7_bank_8) (kk := ?_)
    refine v_iconst (pc := 9) X (v := nI 0) (hd := dX7_bank_9) (kk := ?_)
    refine v_bipush (pc := 10) X (v := nI 8) (hd := dX7_bank_10) (kk := ?_)
    refine v_callSp (pc := 12) X (hd := dX7_bank_12) (w := wv_X7_33) (hC := c_X7_in l E _ _ _) (hp := by first | assumption | exact trivial) (kk := ?_)
    refine v_ifneB (pc := 15) X (tgt := 20) (hd := dX7_bank_15) (kt := fun c15 => ?_) (kf := fun c15 => ?_)
    · obtain ⟨j, hj, rfl, ej⟩ := gH_j eb (by omega) c5
      obtain ⟨q, -, hq, rfl, eq⟩ := gI_j (by omega) (by omega) c15
      refine v_iload_n (pc := 20) X (hd := dX7_bank_20) (kk := ?_)
      skip
      have hq2 : q = 0 ∨ q = 1 ∨ q = 2 ∨ q = 3 ∨ q = 4 ∨ q = 5 ∨ q = 6 ∨ q = 7 ∨ q = 8 := by omega
      rcases hq2 with rfl | rfl | rfl | rfl | rfl | rfl | rfl | rfl | rfl
      · refine v_tabOut (pc := 21) (tgt := 101) X (hd := dX7_bank_21) (by decide +kernel) (kk := ?_)
        refine v_aload_n (pc := 101) X (hd := dX7_bank_101) (kk := ?_)
        refine v_iload_n (pc := 102) X (hd := dX7_bank_102) (kk := ?_)
        refine v_iload_n (pc := 103) X (hd := dX7_bank_103) (kk := ?_)
        refine v_callVp (pc := 104) X (hd := dX7_bank_104) (w := wv_X7_51) (hC := c_X7_inBank l E _ _ _ _ _ _ _ _ _ _ _ _ _ (j) 0) (hp := ⟨hM, by omega⟩) (hb := by first | assumption | exact pset_s _ _ _ | exact (pset_n (by omega)).trans (by assumption)) (kk := ?_)
        exact v_endp (pc := 107) X hr hlk (hd := dX7_bank_107) (hf := by unfold qBank; first | (rw [if_pos ⟨c5, c15⟩, ej, eq]; done) | (rw [if_pos ⟨c5, c15⟩, ej, eq]; rfl))
      · refine v_tabOut (pc := 21) (tgt := 101) X (hd := dX7_bank_21) (by decide +kernel) (kk := ?_)
        refine v_aload_n (pc := 101) X (hd := dX7_bank_101) (kk := ?_)
        refine v_iload_n (pc := 102) X (hd := dX7_bank_102) (kk := ?_)
        refine v_iload_n (pc := 103) X (hd := dX7_bank_103) (kk := ?_)
        refine v_callVp (pc := 104) X (hd := dX7_bank_104) (w := wv_X7_51) (hC := c_X7_inBank l E _ _ _ _ _ _ _ _ _ _ _ _ _ (j) 1) (hp := ⟨hM, by omega⟩) (hb := by first | assumption | exact pset_s _ _ _ | exact (pset_n (by omega)).trans (by assumption)) (kk := ?_)
        exact v_endp (pc := 107) X hr hlk (hd := dX7_bank_107) (hf := by unfold qBank; first | (rw [if_pos ⟨c5, c15⟩, ej, eq]; done) | (rw [if_pos ⟨c5, c15⟩, ej, eq]; rfl))
      · refine v_tabOut (pc := 21) (tgt := 101) X (hd := dX7_bank_21) (by decide +kernel) (kk := ?_)
        refine v_aload_n (pc := 101) X (hd := dX7_bank_101) (kk := ?_)
        refine v_iload_n (pc := 102) X (hd := dX7_bank_102) (kk := ?_)
        refine v_iload_n (pc := 103) X (hd := dX7_bank_103) (kk := ?_)
        refine v_callVp (pc := 104) X (hd := dX7_bank_104) (w := wv_X7_51) (hC := c_X7_inBank l E _ _ _ _ _ _ _ _ _ _ _ _ _ (j) 2) (hp := ⟨hM, by omega⟩) (hb := by first | assumption | exact pset_s _ _ _ | exact (pset_n (by omega)).trans (by assumption)) (kk := ?_)
        exact v_endp (pc := 107) X hr hlk (hd := dX7_bank_107) (hf := by unfold qBank; first | (rw [if_pos ⟨c5, c15⟩, ej, eq]; done) | (rw [if_pos ⟨c5, c15⟩, ej, eq]; rfl))
      · refine v_tabIn (pc := 21) (tgt := 60) X (hd := dX7_bank_21) 0 (by decide +kernel) (kk := ?_)
        refine v_aload_n (pc := 60) X (hd := dX7_bank_60) (kk := ?_)
        refine v_iload_n (pc := 61) X (hd := dX7_bank_61) (kk := ?_)
        refine v_callVp (pc := 62) X (hd := dX7_bank_62) (w := wv_X7_88) (hC := c_X7_bears l E _ _ _ _ _ _ _ _ _ _ _ _ _ j) (hp := ⟨hM, by omega⟩) (hb := by first | assumption | exact pset_s _ _ _ | exact (pset_n (by omega)).trans (by assumption)) (kk := ?_)
        exact v_endp (pc := 65) X hr hlk (hd := dX7_bank_65) (hf := by unfold qBank; first | (rw [if_pos ⟨c5, c15⟩, ej, eq]; done) | (rw [if_pos ⟨c5, c15⟩, ej, eq]; rfl))
      · refine v_tabIn (pc := 21) (tgt := 66) X (hd := dX7_bank_21) 1 (by decide +kernel) (kk := ?_)
        refine v_aload_n (pc := 66) X (hd := dX7_bank_66) (kk := ?_)
        refine v_iload_n (pc := 67) X (hd := dX7_bank_67) (kk := ?_)
        refine v_iconst (pc := 68) X (v := nI 3) (hd := dX7_bank_68) (kk := ?_)
        refine v_callVp (pc := 69) X (hd := dX7_bank_69) (w := wv_X7_51) (hC := c_X7_inBank l E _ _ _ _ _ _ _ _ _ _ _ _ _ (j) 3) (hp := ⟨hM, by omega⟩) (hb := by first | assumption | exact pset_s _ _ _ | exact (pset_n (by omega)).trans (by assumption)) (kk := ?_)
        exact v_endp (pc := 72) X hr hlk (hd := dX7_bank_72) (hf := by unfold qBank; first | (rw [if_pos ⟨c5, c15⟩, ej, eq]; done) | (rw [if_pos ⟨c5, c15⟩, ej, eq]; rfl))
      · refine v_tabIn (pc := 21) (tgt := 73) X (hd := dX7_bank_21) 2 (by decide +kernel) (kk := ?_)
        refine v_aload_n (pc := 73) X (hd := dX7_bank_73) (kk := ?_)
        refine v_iload_n (pc := 74) X (hd := dX7_bank_74) (kk := ?_)
        refine v_iconst (pc := 75) X (v := nI 4) (hd := dX7_bank_75) (kk := ?_)
        refine v_callVp (pc := 76) X (hd := dX7_bank_76) (w := wv_X7_51) (hC := c_X7_inBank l E _ _ _ _ _ _ _ _ _ _ _ _ _ (j) 4) (hp := ⟨hM, by omega⟩) (hb := by first | assumption | exact pset_s _ _ _ | exact (pset_n (by omega)).trans (by assumption)) (kk := ?_)
        exact v_endp (pc := 79) X hr hlk (hd := dX7_bank_79) (hf := by unfold qBank; first | (rw [if_pos ⟨c5, c15⟩, ej, eq]; done) | (rw [if_pos ⟨c5, c15⟩, ej, eq]; rfl))
      · refine v_tabIn (pc := 21) (tgt := 80) X (hd := dX7_bank_21) 3 (by decide +kernel) (kk := ?_)
        refine v_aload_n (pc := 80) X (hd := dX7_bank_80) (kk := ?_)
        refine v_iload_n (pc := 81) X (hd := dX7_bank_81) (kk := ?_)
        refine v_callVp (pc := 82) X (hd := dX7_bank_82) (w := wv_X7_171) (hC := c_X7_turfsAt l E _ _ _ _ _ _ _ _ _ _ _ _ _ (nI j) ns) (hp := ⟨hM, hs12, es⟩) (hb := by first | assumption | exact pset_s _ _ _ | exact (pset_n (by omega)).trans (by assumption)) (kk := ?_)
        exact v_endp (pc := 85) X hr hlk (hd := dX7_bank_85) (hf := by unfold qBank; first | (rw [if_pos ⟨c5, c15⟩, ej, eq]; done) | (rw [if_pos ⟨c5, c15⟩, ej, eq]; rfl))
      · refine v_tabIn (pc := 21) (tgt := 86) X (hd := dX7_bank_21) 4 (by decide +kernel) (kk := ?_)
        refine v_aload_n (pc := 86) X (hd := dX7_bank_86) (kk := ?_)
        refine v_iload_n (pc := 87) X (hd := dX7_bank_87) (kk := ?_)
        refine v_iconst (pc := 88) X (v := nI 5) (hd := dX7_bank_88) (kk := ?_)
        refine v_callVp (pc := 89) X (hd := dX7_bank_89) (w := wv_X7_51) (hC := c_X7_inBank l E _ _ _ _ _ _ _ _ _ _ _ _ _ (j) 5) (hp := ⟨hM, by omega⟩) (hb := by first | assumption | exact pset_s _ _ _ | exact (pset_n (by omega)).trans (by assumption)) (kk := ?_)
        exact v_endp (pc := 92) X hr hlk (hd := dX7_bank_92) (hf := by unfold qBank; first | (rw [if_pos ⟨c5, c15⟩, ej, eq]; done) | (rw [if_pos ⟨c5, c15⟩, ej, eq]; rfl))
      · refine v_tabIn (pc := 21) (tgt := 93) X (hd := dX7_bank_21) 5 (by decide +kernel) (kk := ?_)
        refine v_aload_n (pc := 93) X (hd := dX7_bank_93) (kk := ?_)
        refine v_iload_n (pc := 94) X (hd := dX7_bank_94) (kk := ?_)
        refine v_bipush (pc := 95) X (v := nI 6) (hd := dX7_bank_95) (kk := ?_)
        refine v_callVp (pc := 97) X (hd := dX7_bank_97) (w := wv_X7_51) (hC := c_X7_inBank l E _ _ _ _ _ _ _ _ _ _ _ _ _ (j) 6) (hp := ⟨hM, by omega⟩) (hb := by first | assumption | exact pset_s _ _ _ | exact (pset_n (by omega)).trans (by assumption)) (kk := ?_)
        exact v_endp (pc := 100) X hr hlk (hd := dX7_bank_100) (hf := by unfold qBank; first | (rw [if_pos ⟨c5, c15⟩, ej, eq]; done) | (rw [if_pos ⟨c5, c15⟩, ej, eq]; rfl))
    · refine v_iconst (pc := 18) X (v := (-1)) (hd := dX7_bank_18) (kk := ?_)
      exact v_endp (pc := 19) X hr hlk (hd := dX7_bank_19) (hf := by unfold qBank; rw [if_neg (fun q => c15 q.2)])
set_option maxRecDepth 100000 in
set_option maxHeartbeats 4000000 in
theorem c_X7_right (l : Launch) (E : pE) (m : Nat) (w pa he te re : Nat → Int32) (np : Nat) (rr : Bool) (ty at_ st ki co : Int32) (x y t : Int32) (nh nb ns : Nat) : pC l E yX7_right cX7_right 4 (some .int) { frames := 5, cells := 0, slots := 0, locals := 116 } 0 0 [.ref m, .int x, .int y, .int t] (fun h _ => MD m w pa he te re (nI np) (bI (rr = true)) ty at_ st ki co h ∧ Iv w nh nb ns) (pFp ((qRight w nh x y t))) := by
  refine pC_of (by decide) (by simp [Value.category]) (Nat.le_of_ble_eq_true rfl) ?_
  intro h z hp p__ e__ s__ m__ args__ below__ meth__ c__ X hr hlk hname
  obtain ⟨hM, I⟩ := hp
  have hM0 := hM
  obtain ⟨M0, M1, M2, M3, M4, M5⟩ := hM0
  obtain ⟨hn6, hb4, hs12, en, eb, es⟩ := I.1
  refine v_aload_n (pc := 0) X (hd := dX7_right_0) (kk := ?_)
  refine v_iload_n (pc := 1) X (hd := dX7_right_1) (kk := ?_)
  refine v_callVp (pc := 2) X (hd := dX7_right_2) (w := wv_X7_40) (hC := c_X7_isHouse l E _ _ _ _ _ _ _ _ _ _ _ _ _ _) (hp := by first | assumption | exact trivial) (hb := by first | assumption | exact pset_s _ _ _ | exact (pset_n (by omega)).trans (by assumption)) (kk := ?_)
  refine v_ifeqB (pc := 5) X (tgt := 25) (hd := dX7_right_5) (kt := fun c5 => ?_) (kf := fun c5 => ?_)
  · refine v_iconst (pc := 25) X (v := (-1)) (hd := dX7_right_25) (kk := ?_)
    exact v_endp (pc := 26) X hr hlk (hd := dX7_right_26) (hf := by unfold qRight; rw [if_neg (fun q => c5 q.1)])
  · refine v_aload_n (pc := 8) X (hd := dX7_right_8) (kk := ?_)
    refine v_iload_n (pc := 9) X (hd := dX7_right_9) (kk := ?_)
    refine v_callVp (pc := 10) X (hd := dX7_right_10) (w := wv_X7_48) (hC := c_X7_isBank l E _ _ _ _ _ _ _ _ _ _ _ _ _ _) (hp := by first | assumption | exact trivial) (hb := by first | assumption | exact pset_s _ _ _ | exact (pset_n (by omega)).trans (by assumption)) (kk := ?_)
    refine v_ifeqB (pc := 13) X (tgt := 25) (hd := dX7_right_13) (kt := fun c13 => ?_) (kf := fun c13 => ?_)
    · refine v_iconst (pc := 25) X (v := (-1)) (hd := dX7_right_25) (kk := ?_)
      exact v_endp (pc := 26) X hr hlk (hd := dX7_right_26) (hf := by unfold qRight; rw [if_neg (fun q => c13 q.2.1)])
    · refine v_iload_n (pc := 16) X (hd := dX7_right_16) (kk := ?_)
      refine v_iconst (pc := 17) X (v := nI 0) (hd := dX7_right_17) (kk := ?_)
      refine v_iconst (pc := 18) X (v := nI 2) (hd := dX7_right_18) (kk := ?_)
      refine v_callSp (pc := 19) X (hd := dX7_right_19) (w := wv_X7_33) (hC := c_X7_in l E _ _ _) (hp := by first | assumption | exact trivial) (kk := ?_)
      refine v_ifneB (pc := 22) X (tgt := 27) (hd := dX7_right_22) (kt := fun c22 => ?_) (kf := fun c22 => ?_)
      · obtain ⟨j, hj, rfl, ej⟩ := gH_j en (by omega) c5
        obtain ⟨b, hb, rfl, eb_⟩ := gH_j eb (by omega) c13
        refine v_iload_n (pc := 27) X (hd := dX7_right_27) (kk := ?_)
        refine v_ifne (pc := 28) X (tgt := 40) (hd := dX7_right_28) (kt := fun c28 => ?_) (kf := fun c28 => ?_)
        · refine v_iload_n (pc := 40) X (hd := dX7_right_40) (kk := ?_)
          refine v_iconst (pc := 41) X (v := nI 1) (hd := dX7_right_41) (kk := ?_)
          refine v_icmpne (pc := 42) X (tgt := 61) (hd := dX7_right_42) (kt := fun c42 => ?_) (kf := fun c42 => ?_)
          · refine v_aload_n (pc := 61) X (hd := dX7_right_61) (kk := ?_)
            refine v_iload_n (pc := 62) X (hd := dX7_right_62) (kk := ?_)
            refine v_iload_n (pc := 63) X (hd := dX7_right_63) (kk := ?_)
            refine v_callVp (pc := 64) X (hd := dX7_right_64) (w := wv_X7_68) (hC := c_X7_mayCut l E _ _ _ _ _ _ _ _ _ _ _ _ _ j b nh) (hp := ⟨hM, by omega, by omega, hn6, en, fun q => I.spz hj q, fun k hk q => I.spz hk q⟩) (hb := by first | assumption | exact pset_s _ _ _ | exact (pset_n (by omega)).trans (by assumption)) (kk := ?_)
            exact v_endp (pc := 67) X hr hlk (hd := dX7_right_67) (hf := by unfold qRight; rw [if_pos ⟨c5, c13, c22⟩, ej, eb_, if_neg c28, if_neg c42])
          · refine v_aload_n (pc := 45) X (hd := dX7_right_45) (kk := ?_)
            refine g_X7_7 (pc := 46) X (hd := dX7_right_46) (hh := by first | assumption | exact pset_s _ _ _ | exact (pset_n (by omega)).trans (by assumption)) (kk := ?_)
            refine v_bipush (pc := 49) X (v := nI 52) (hd := dX7_right_49) (kk := ?_)
            refine v_iconst (pc := 51) X (v := nI 4) (hd := dX7_right_51) (kk := ?_)
            refine v_iload_n (pc := 52) X (hd := dX7_right_52) (kk := ?_)
            refine v_imul (pc := 53) X (hd := dX7_right_53) (kk := ?_)
            refine v_iadd (pc := 54) X (hd := dX7_right_54) (kk := ?_)
            refine v_iload_n (pc := 55) X (hd := dX7_right_55) (kk := ?_)
            refine v_iadd (pc := 56) X (hd := dX7_right_56) (kk := ?_)
            refine v_ialdN (pc := 57) X (j := (52 + 4 * j + b)) (hd := dX7_right_57) (hh := by first | assumption | exact pset_s _ _ _ | exact (pset_n (by omega)).trans (by assumption)) (hi := by first | rfl | (simp only [pk_mul, nI_add]; done)) (hj := by omega) (kk := ?_)
            refine v_goto (pc := 58) X (tgt := 67) (hd := dX7_right_58) (kk := ?_)
            exact v_endp (pc := 67) X hr hlk (hd := dX7_right_67) (hf := by unfold qRight; rw [if_pos ⟨c5, c13, c22⟩, ej, eb_, if_neg c28, if_pos (Classical.not_not.mp c42)])
        · refine v_aload_n (pc := 31) X (hd := dX7_right_31) (kk := ?_)
          refine v_iload_n (pc := 32) X (hd := dX7_right_32) (kk := ?_)
          refine v_iload_n (pc := 33) X (hd := dX7_right_33) (kk := ?_)
          refine v_callVp (pc := 34) X (hd := dX7_right_34) (w := wv_X7_65) (hC := c_X7_shareOf l E _ _ _ _ _ _ _ _ _ _ _ _ _ j b nh) (hp := ⟨hM, by omega, by omega, hn6, en, fun q => I.spz hj q, fun k hk q => I.spz hk q⟩) (hb := by first | assumption | exact pset_s _ _ _ | exact (pset_n (by omega)).trans (by assumption)) (kk := ?_)
          refine v_goto (pc := 37) X (tgt := 67) (hd := dX7_right_37) (kk := ?_)
          exact v_endp (pc := 67) X hr hlk (hd := dX7_right_67) (hf := by unfold qRight; rw [if_pos ⟨c5, c13, c22⟩, ej, eb_, if_pos (Classical.not_not.mp c28)])
      · refine v_iconst (pc := 25) X (v := (-1)) (hd := dX7_right_25) (kk := ?_)
        exact v_endp (pc := 26) X hr hlk (hd := dX7_right_26) (hf := by unfold qRight; rw [if_neg (fun q => c22 q.2.2)])
set_option maxRecDepth 100000 in
set_option maxHeartbeats 4000000 in
theorem c_X7_stack (l : Launch) (E : pE) (m : Nat) (w pa he te re : Nat → Int32) (np : Nat) (rr : Bool) (ty at_ st ki co : Int32) (x y : Int32) (nh nb ns : Nat) : pC l E yX7_stack cX7_stack 3 (some .int) { frames := 2, cells := 0, slots := 0, locals := 43 } 0 0 [.ref m, .int x, .int y] (fun h _ => MD m w pa he te re (nI np) (bI (rr = true)) ty at_ st ki co h ∧ Iv w nh nb ns) (pFp ((qStack w x y))) := by
  refine pC_of (by decide) (by simp [Value.category]) (Nat.le_of_ble_eq_true rfl) ?_
  intro h z hp p__ e__ s__ m__ args__ below__ meth__ c__ X hr hlk hname
  obtain ⟨hM, I⟩ := hp
  have hM0 := hM
  obtain ⟨M0, M1, M2, M3, M4, M5⟩ := hM0
  obtain ⟨hn6, hb4, hs12, en, eb, es⟩ := I.1
  refine v_aload_n (pc := 0) X (hd := dX7_stack_0) (kk := ?_)
  refine v_iload_n (pc := 1) X (hd := dX7_stack_1) (kk := ?_)
  refine v_callVp (pc := 2) X (hd := dX7_stack_2) (w := wv_X7_72) (hC := c_X7_isStack l E _ _ _ _ _ _ _ _ _ _ _ _ _ _) (hp := by first | assumption | exact trivial) (hb := by first | assumption | exact pset_s _ _ _ | exact (pset_n (by omega)).trans (by assumption)) (kk := ?_)
  refine v_ifeqB (pc := 5) X (tgt := 18) (hd := dX7_stack_5) (kt := fun c5 => ?_) (kf := fun c5 => ?_)
  · refine v_iconst (pc := 18) X (v := (-1)) (hd := dX7_stack_18) (kk := ?_)
    exact v_endp (pc := 19) X hr hlk (hd := dX7_stack_19) (hf := by unfold qStack; rw [if_neg (fun q => c5 q.1)])
  · refine v_iload_n (pc := 8) X (hd := dX7_stack_8) (kk := ?_)
    refine v_iconst (pc := 9) X (v := nI 0) (hd := dX7_stack_9) (kk := ?_)
    refine v_bipush (pc := 10) X (v := nI 6) (hd := dX7_stack_10) (kk := ?_)
    refine v_callSp (pc := 12) X (hd := dX7_stack_12) (w := wv_X7_33) (hC := c_X7_in l E _ _ _) (hp := by first | assumption | exact trivial) (kk := ?_)
    refine v_ifneB (pc := 15) X (tgt := 20) (hd := dX7_stack_15) (kt := fun c15 => ?_) (kf := fun c15 => ?_)
    · obtain ⟨j, hj, rfl, ej⟩ := gH_j es (by omega) c5
      obtain ⟨q, -, hq, rfl, eq⟩ := gI_j (by omega) (by omega) c15
      refine v_iload_n (pc := 20) X (hd := dX7_stack_20) (kk := ?_)
      refine v_iconst (pc := 21) X (v := nI 5) (hd := dX7_stack_21) (kk := ?_)
      refine v_icmpge (pc := 22) X (tgt := 34) (hd := dX7_stack_22) (kt := fun c22 => ?_) (kf := fun c22 => ?_)
      · refine v_iload_n (pc := 34) X (hd := dX7_stack_34) (kk := ?_)
        refine v_iconst (pc := 35) X (v := nI 5) (hd := dX7_stack_35) (kk := ?_)
        refine v_icmpne (pc := 36) X (tgt := 47) (hd := dX7_stack_36) (kt := fun c36 => ?_) (kf := fun c36 => ?_)
        · refine v_aload_n (pc := 47) X (hd := dX7_stack_47) (kk := ?_)
          refine v_iload_n (pc := 48) X (hd := dX7_stack_48) (kk := ?_)
          refine v_callVp (pc := 49) X (hd := dX7_stack_49) (w := wv_X7_91) (hC := c_X7_isDry l E _ _ _ _ _ _ _ _ _ _ _ _ _ j) (hp := ⟨hM, by omega⟩) (hb := by first | assumption | exact pset_s _ _ _ | exact (pset_n (by omega)).trans (by assumption)) (kk := ?_)
          refine v_ifeqB (pc := 52) X (tgt := 59) (hd := dX7_stack_52) (kt := fun c52 => ?_) (kf := fun c52 => ?_)
          · refine v_iconst (pc := 59) X (v := nI 0) (hd := dX7_stack_59) (kk := ?_)
            exact v_endp (pc := 60) X hr hlk (hd := dX7_stack_60) (hf := by unfold qStack; rw [if_pos ⟨c5, c15⟩, ej, eq, if_neg (by rw [n_lt]; rw [n_le] at c22; exact Int.not_lt.mpr c22), if_neg c36, if_neg c52])
          · refine v_iconst (pc := 55) X (v := nI 1) (hd := dX7_stack_55) (kk := ?_)
            refine v_goto (pc := 56) X (tgt := 60) (hd := dX7_stack_56) (kk := ?_)
            exact v_endp (pc := 60) X hr hlk (hd := dX7_stack_60) (hf := by unfold qStack; rw [if_pos ⟨c5, c15⟩, ej, eq, if_neg (by rw [n_lt]; rw [n_le] at c22; exact Int.not_lt.mpr c22), if_neg c36, if_pos c52])
        · refine v_aload_n (pc := 39) X (hd := dX7_stack_39) (kk := ?_)
          refine v_iload_n (pc := 40) X (hd := dX7_stack_40) (kk := ?_)
          refine v_callVp (pc := 41) X (hd := dX7_stack_41) (w := wv_X7_82) (hC := c_X7_weight l E _ _ _ _ _ _ _ _ _ _ _ _ _ j) (hp := ⟨hM, by omega⟩) (hb := by first | assumption | exact pset_s _ _ _ | exact (pset_n (by omega)).trans (by assumption)) (kk := ?_)
          refine v_goto (pc := 44) X (tgt := 60) (hd := dX7_stack_44) (kk := ?_)
          exact v_endp (pc := 60) X hr hlk (hd := dX7_stack_60) (hf := by unfold qStack; rw [if_pos ⟨c5, c15⟩, ej, eq, if_neg (by rw [n_lt]; rw [n_le] at c22; exact Int.not_lt.mpr c22), if_pos (Classical.not_not.mp c36)])
      · refine v_aload_n (pc := 25) X (hd := dX7_stack_25) (kk := ?_)
        refine v_iload_n (pc := 26) X (hd := dX7_stack_26) (kk := ?_)
        refine v_iload_n (pc := 27) X (hd := dX7_stack_27) (kk := ?_)
        refine v_callVp (pc := 28) X (hd := dX7_stack_28) (w := wv_X7_75) (hC := c_X7_inStack l E _ _ _ _ _ _ _ _ _ _ _ _ _ (j) q) (hp := ⟨hM, by omega⟩) (hb := by first | assumption | exact pset_s _ _ _ | exact (pset_n (by omega)).trans (by assumption)) (kk := ?_)
        refine v_goto (pc := 31) X (tgt := 60) (hd := dX7_stack_31) (kk := ?_)
        exact v_endp (pc := 60) X hr hlk (hd := dX7_stack_60) (hf := by unfold qStack; rw [if_pos ⟨c5, c15⟩, ej, eq, if_pos (n_nle c22)])
    · refine v_iconst (pc := 18) X (v := (-1)) (hd := dX7_stack_18) (kk := ?_)
      exact v_endp (pc := 19) X hr hlk (hd := dX7_stack_19) (hf := by unfold qStack; rw [if_neg (fun q => c15 q.2)])
set_option maxRecDepth 100000 in
set_option maxHeartbeats 4000000 in
theorem c_X7_dryIn (l : Launch) (E : pE) (m : Nat) (w pa he te re : Nat → Int32) (np : Nat) (rr : Bool) (ty at_ st ki co : Int32) (x wi ra : Int32) (nh nb ns : Nat) : pC l E yX7_dryIn cX7_dryIn 6 (some .int) { frames := 1, cells := 0, slots := 0, locals := 24 } 0 0 [.ref m, .int x, .int wi, .int ra] (fun h _ => MD m w pa he te re (nI np) (bI (rr = true)) ty at_ st ki co h ∧ Iv w nh nb ns) (pFp ((qDry w x wi ra))) := by
  refine pC_of (by decide) (by simp [Value.category]) (Nat.le_of_ble_eq_true rfl) ?_
  intro h z hp p__ e__ s__ m__ args__ below__ meth__ c__ X hr hlk hname
  obtain ⟨hM, I⟩ := hp
  have hM0 := hM
  obtain ⟨M0, M1, M2, M3, M4, M5⟩ := hM0
  obtain ⟨hn6, hb4, hs12, en, eb, es⟩ := I.1
  refine v_aload_n (pc := 0) X (hd := dX7_dryIn_0) (kk := ?_)
  refine v_iload_n (pc := 1) X (hd := dX7_dryIn_1) (kk := ?_)
  refine v_callVp (pc := 2) X (hd := dX7_dryIn_2) (w := wv_X7_72) (hC := c_X7_isStack l E _ _ _ _ _ _ _ _ _ _ _ _ _ _) (hp := by first | assumption | exact trivial) (hb := by first | assumption | exact pset_s _ _ _ | exact (pset_n (by omega)).trans (by assumption)) (kk := ?_)
  refine v_ifeqB (pc := 5) X (tgt := 28) (hd := dX7_dryIn_5) (kt := fun c5 => ?_) (kf := fun c5 => ?_)
  · refine v_iconst (pc := 28) X (v := (-1)) (hd := dX7_dryIn_28) (kk := ?_)
    exact v_endp (pc := 29) X hr hlk (hd := dX7_dryIn_29) (hf := by unfold qDry; rw [if_neg (fun q => c5 q.1)])
  · refine v_iload_n (pc := 8) X (hd := dX7_dryIn_8) (kk := ?_)
    refine v_iconst (pc := 9) X (v := nI 0) (hd := dX7_dryIn_9) (kk := ?_)
    refine v_bipush (pc := 10) X (v := nI 9) (hd := dX7_dryIn_10) (kk := ?_)
    refine v_callSp (pc := 12) X (hd := dX7_dryIn_12) (w := wv_X7_33) (hC := c_X7_in l E _ _ _) (hp := by first | assumption | exact trivial) (kk := ?_)
    refine v_ifeqB (pc := 15) X (tgt := 28) (hd := dX7_dryIn_15) (kt := fun c15 => ?_) (kf := fun c15 => ?_)
    · refine v_iconst (pc := 28) X (v := (-1)) (hd := dX7_dryIn_28) (kk := ?_)
      exact v_endp (pc := 29) X hr hlk (hd := dX7_dryIn_29) (hf := by unfold qDry; rw [if_neg (fun q => c15 q.2.1)])
    · refine v_iload_n (pc := 18) X (hd := dX7_dryIn_18) (kk := ?_)
      refine v_iconst (pc := 19) X (v := nI 0) (hd := dX7_dryIn_19) (kk := ?_)
      refine v_bipush (pc := 20) X (v := nI 9) (hd := dX7_dryIn_20) (kk := ?_)
      refine v_callSp (pc := 22) X (hd := dX7_dryIn_22) (w := wv_X7_33) (hC := c_X7_in l E _ _ _) (hp := by first | assumption | exact trivial) (kk := ?_)
      refine v_ifneB (pc := 25) X (tgt := 30) (hd := dX7_dryIn_25) (kt := fun c25 => ?_) (kf := fun c25 => ?_)
      · obtain ⟨j, hj, rfl, ej⟩ := gH_j es (by omega) c5
        refine v_aload_n (pc := 30) X (hd := dX7_dryIn_30) (kk := ?_)
        refine v_iload_n (pc := 31) X (hd := dX7_dryIn_31) (kk := ?_)
        refine v_iconst (pc := 32) X (v := nI 3) (hd := dX7_dryIn_32) (kk := ?_)
        refine v_callVp (pc := 33) X (hd := dX7_dryIn_33) (w := wv_X7_75) (hC := c_X7_inStack l E _ _ _ _ _ _ _ _ _ _ _ _ _ (j) 3) (hp := ⟨hM, by omega⟩) (hb := by first | assumption | exact pset_s _ _ _ | exact (pset_n (by omega)).trans (by assumption)) (kk := ?_)
        refine v_istore (pc := 36) X (hd := dX7_dryIn_36) (kk := ?_)
        refine v_iconst (pc := 38) X (v := nI 0) (hd := dX7_dryIn_38) (kk := ?_)
        refine v_istore (pc := 39) X (hd := dX7_dryIn_39) (kk := ?_)
        refine v_for (pc := 41) (M := 201) (Lf := fun i => [some (.ref m), some (.int (nI j)), some (.int wi), some (.int ra), some (.int (wtF (w (76 + 5 * j + 3)) (w (76 + 5 * j + 4)) wi ra i)), some (.int (nI i))]) (I := fun i h1 => h1 = h ∧ fFst (wtF (w (76 + 5 * j + 3)) (w (76 + 5 * j + 4)) wi ra) 201 0 = fFst (wtF (w (76 + 5 * j + 3)) (w (76 + 5 * j + 4)) wi ra) (201 - i) i) (h0 := ⟨rfl, rfl⟩) (hL := by rfl) (step := ?_) (out := ?_)
        · intro i h1 hi hI kk
          obtain ⟨rfl, eF⟩ := hI
          rw [show 201 - i = (201 - (i + 1)) + 1 by omega] at eF
          refine v_iload (pc := 41) X (hd := dX7_dryIn_41) (kk := ?_)
          refine v_sipush (pc := 43) X (v := nI 200) (hd := dX7_dryIn_43) (kk := ?_)
          refine v_icmpgt (pc := 46) X (tgt := 81) (hd := dX7_dryIn_46) (kt := fun c46 => ?_) (kf := fun c46 => ?_)
          · exact absurd c46 (nI_nlt (by omega) (by omega))
          · refine v_iload (pc := 49) X (hd := dX7_dryIn_49) (kk := ?_)
            refine v_sipush (pc := 51) X (v := nI 30000) (hd := dX7_dryIn_51) (kk := ?_)
            refine v_icmpgt (pc := 54) X (tgt := 60) (hd := dX7_dryIn_54) (kt := fun c54 => ?_) (kf := fun c54 => ?_)
            · have c54 : ¬ wtF (w (76 + 5 * j + 3)) (w (76 + 5 * j + 4)) wi ra i ≤ nI 30000 := by rw [n_lt] at c54; rw [n_le]; exact Int.not_le.mpr c54
              refine v_iload (pc := 60) X (hd := dX7_dryIn_60) (kk := ?_)
              refine v_aload_n (pc := 62) X (hd := dX7_dryIn_62) (kk := ?_)
              refine v_iload_n (pc := 63) X (hd := dX7_dryIn_63) (kk := ?_)
              refine v_iconst (pc := 64) X (v := nI 4) (hd := dX7_dryIn_64) (kk := ?_)
              refine v_callVp (pc := 65) X (hd := dX7_dryIn_65) (w := wv_X7_75) (hC := c_X7_inStack l E _ _ _ _ _ _ _ _ _ _ _ _ _ (j) 4) (hp := ⟨hM, by omega⟩) (hb := by first | assumption | exact pset_s _ _ _ | exact (pset_n (by omega)).trans (by assumption)) (kk := ?_)
              refine v_iload_n (pc := 68) X (hd := dX7_dryIn_68) (kk := ?_)
              refine v_iload_n (pc := 69) X (hd := dX7_dryIn_69) (kk := ?_)
              refine v_callSp (pc := 70) X (hd := dX7_dryIn_70) (w := wv_X7_94) (hC := c_X7_dried l E _ _ _ _) (hp := trivial) (kk := ?_)
              refine v_istore (pc := 73) X (hd := dX7_dryIn_73) (kk := ?_)
              refine v_iincN (pc := 75) X (hd := dX7_dryIn_75) (kk := ?_)
              refine v_goto (pc := 78) X (tgt := 41) (hd := dX7_dryIn_78) (kk := ?_)
              exact kk _ ⟨rfl, eF.trans (if_neg c54)⟩
            · refine v_iload (pc := 57) X (hd := dX7_dryIn_57) (kk := ?_)
              exact v_endp (pc := 59) X hr hlk (hd := dX7_dryIn_59) (hf := by unfold qDry; rw [if_pos ⟨c5, c15, c25⟩, ej, eF]; exact (if_pos (n_nlt c54)).symm)
        · intro h1 hI
          obtain ⟨rfl, eF⟩ := hI
          refine v_iload (pc := 41) X (hd := dX7_dryIn_41) (kk := ?_)
          refine v_sipush (pc := 43) X (v := nI 200) (hd := dX7_dryIn_43) (kk := ?_)
          refine v_icmpgt (pc := 46) X (tgt := 81) (hd := dX7_dryIn_46) (kt := fun c46 => ?_) (kf := fun c46 => ?_)
          · refine v_bipush (pc := 81) X (v := (-9)) (hd := dX7_dryIn_81) (kk := ?_)
            exact v_endp (pc := 83) X hr hlk (hd := dX7_dryIn_83) (hf := by unfold qDry; rw [if_pos ⟨c5, c15, c25⟩, ej, eF]; rfl)
          · exact absurd (nI_lt (by omega) (by omega)) c46
      · refine v_iconst (pc := 28) X (v := (-1)) (hd := dX7_dryIn_28) (kk := ?_)
        exact v_endp (pc := 29) X hr hlk (hd := dX7_dryIn_29) (hf := by unfold qDry; rw [if_neg (fun q => c25 q.2.2)])
set_option maxRecDepth 100000 in
set_option maxHeartbeats 4000000 in
theorem c_X7_cartLoad (l : Launch) (E : pE) (m : Nat) (w pa he te re : Nat → Int32) (np : Nat) (rr : Bool) (ty at_ st ki co : Int32) (x : Int32) (nh nb ns : Nat) : pC l E yX7_cartLoad cX7_cartLoad 3 (some .int) { frames := 3, cells := 0, slots := 0, locals := 67 } 0 0 [.ref m, .int x] (fun h _ => MD m w pa he te re (nI np) (bI (rr = true)) ty at_ st ki co h ∧ Iv w nh nb ns) (pFp ((qLoad w x))) := by
  refine pC_of (by decide) (by simp [Value.category]) (Nat.le_of_ble_eq_true rfl) ?_
  intro h z hp p__ e__ s__ m__ args__ below__ meth__ c__ X hr hlk hname
  obtain ⟨hM, I⟩ := hp
  have hM0 := hM
  obtain ⟨M0, M1, M2, M3, M4, M5⟩ := hM0
  obtain ⟨hn6, hb4, hs12, en, eb, es⟩ := I.1
  refine v_aload_n (pc := 0) X (hd := dX7_cartLoad_0) (kk := ?_)
  refine v_iload_n (pc := 1) X (hd := dX7_cartLoad_1) (kk := ?_)
  refine v_callVp (pc := 2) X (hd := dX7_cartLoad_2) (w := wv_X7_72) (hC := c_X7_isStack l E _ _ _ _ _ _ _ _ _ _ _ _ _ _) (hp := by first | assumption | exact trivial) (hb := by first | assumption | exact pset_s _ _ _ | exact (pset_n (by omega)).trans (by assumption)) (kk := ?_)
  refine v_ifneB (pc := 5) X (tgt := 10) (hd := dX7_cartLoad_5) (kt := fun c5 => ?_) (kf := fun c5 => ?_)
  · obtain ⟨j, hj, rfl, ej⟩ := gH_j es (by omega) c5
    obtain ⟨o, b, t1, we1, tn1, s1, s2, s3, s4, s5, s6, e0, e1, e2, e3, e4⟩ := I.2.2.2.2.2.2.2.2.1 j hj
    have eb1 : nx (nI b) = b := nx_nI (by omega)
    refine v_aload_n (pc := 10) X (hd := dX7_cartLoad_10) (kk := ?_)
    refine v_iload_n (pc := 11) X (hd := dX7_cartLoad_11) (kk := ?_)
    refine v_aload_n (pc := 12) X (hd := dX7_cartLoad_12) (kk := ?_)
    refine v_iload_n (pc := 13) X (hd := dX7_cartLoad_13) (kk := ?_)
    refine v_iconst (pc := 14) X (v := nI 2) (hd := dX7_cartLoad_14) (kk := ?_)
    refine v_callVp (pc := 15) X (hd := dX7_cartLoad_15) (w := wv_X7_75) (hC := c_X7_inStack l E _ _ _ _ _ _ _ _ _ _ _ _ _ (j) 2) (hp := ⟨hM, by omega⟩) (hb := by first | assumption | exact pset_s _ _ _ | exact (pset_n (by omega)).trans (by assumption)) (kk := ?_)
    refine v_aload_n (pc := 18) X (hd := dX7_cartLoad_18) (kk := ?_)
    refine v_aload_n (pc := 19) X (hd := dX7_cartLoad_19) (kk := ?_)
    refine v_iload_n (pc := 20) X (hd := dX7_cartLoad_20) (kk := ?_)
    refine v_iconst (pc := 21) X (v := nI 1) (hd := dX7_cartLoad_21) (kk := ?_)
    refine v_callVp (pc := 22) X (hd := dX7_cartLoad_22) (w := wv_X7_75) (hC := c_X7_inStack l E _ _ _ _ _ _ _ _ _ _ _ _ _ (j) 1) (hp := ⟨hM, by omega⟩) (hb := by first | assumption | exact pset_s _ _ _ | exact (pset_n (by omega)).trans (by assumption)) (kk := ?_)
    rw [e1]
    refine v_callVp (pc := 25) X (hd := dX7_cartLoad_25) (w := wv_X7_88) (hC := c_X7_bears l E _ _ _ _ _ _ _ _ _ _ _ _ _ b) (hp := ⟨hM, by omega⟩) (hb := by first | assumption | exact pset_s _ _ _ | exact (pset_n (by omega)).trans (by assumption)) (kk := ?_)
    refine v_callVp (pc := 28) X (hd := dX7_cartLoad_28) (w := wv_X7_174) (hC := c_X7_most l E _ _ _ _ _ _ _ _ _ _ _ _ _ j _ _) (hp := ⟨hM, by omega, (I.wz hj).1⟩) (hb := by first | assumption | exact pset_s _ _ _ | exact (pset_n (by omega)).trans (by assumption)) (kk := ?_)
    refine v_istore_n (pc := 31) X (hd := dX7_cartLoad_31) (kk := ?_)
    refine v_iload_n (pc := 32) X (hd := dX7_cartLoad_32) (kk := ?_)
    refine v_ifne (pc := 33) X (tgt := 41) (hd := dX7_cartLoad_33) (kt := fun c33 => ?_) (kf := fun c33 => ?_)
    · refine v_iload_n (pc := 41) X (hd := dX7_cartLoad_41) (kk := ?_)
      exact v_endp (pc := 42) X hr hlk (hd := dX7_cartLoad_42) (hf := by unfold qLoad; rw [if_pos c5, ej, e1, eb1]; exact (if_neg c33).symm)
    · refine v_bipush (pc := 36) X (v := (-9)) (hd := dX7_cartLoad_36) (kk := ?_)
      refine v_goto (pc := 38) X (tgt := 42) (hd := dX7_cartLoad_38) (kk := ?_)
      exact v_endp (pc := 42) X hr hlk (hd := dX7_cartLoad_42) (hf := by unfold qLoad; rw [if_pos c5, ej, e1, eb1]; exact (if_pos (Classical.not_not.mp c33)).symm)
  · refine v_iconst (pc := 8) X (v := (-1)) (hd := dX7_cartLoad_8) (kk := ?_)
    exact v_endp (pc := 9) X hr hlk (hd := dX7_cartLoad_9) (hf := by unfold qLoad; rw [if_neg c5])
set_option maxRecDepth 100000 in
set_option maxHeartbeats 4000000 in
theorem c_X7_carts (l : Launch) (E : pE) (m : Nat) (w pa he te re : Nat → Int32) (np : Nat) (rr : Bool) (ty at_ st ki co : Int32) (x : Int32) (nh nb ns : Nat) : pC l E yX7_carts cX7_carts 7 (some .int) { frames := 3, cells := 0, slots := 0, locals := 67 } 0 0 [.ref m, .int x] (fun h _ => MD m w pa he te re (nI np) (bI (rr = true)) ty at_ st ki co h ∧ Iv w nh nb ns) (pFp ((qCarts w x))) := by
  refine pC_of (by decide) (by simp [Value.category]) (Nat.le_of_ble_eq_true rfl) ?_
  intro h z hp p__ e__ s__ m__ args__ below__ meth__ c__ X hr hlk hname
  obtain ⟨hM, I⟩ := hp
  have hM0 := hM
  obtain ⟨M0, M1, M2, M3, M4, M5⟩ := hM0
  obtain ⟨hn6, hb4, hs12, en, eb, es⟩ := I.1
  refine v_aload_n (pc := 0) X (hd := dX7_carts_0) (kk := ?_)
  refine v_iload_n (pc := 1) X (hd := dX7_carts_1) (kk := ?_)
  refine v_callVp (pc := 2) X (hd := dX7_carts_2) (w := wv_X7_72) (hC := c_X7_isStack l E _ _ _ _ _ _ _ _ _ _ _ _ _ _) (hp := by first | assumption | exact trivial) (hb := by first | assumption | exact pset_s _ _ _ | exact (pset_n (by omega)).trans (by assumption)) (kk := ?_)
  refine v_ifneB (pc := 5) X (tgt := 10) (hd := dX7_carts_5) (kt := fun c5 => ?_) (kf := fun c5 => ?_)
  · obtain ⟨j, hj, rfl, ej⟩ := gH_j es (by omega) c5
    obtain ⟨o, b, t1, we1, tn1, s1, s2, s3, s4, s5, s6, e0, e1, e2, e3, e4⟩ := I.2.2.2.2.2.2.2.2.1 j hj
    have eb1 : nx (nI b) = b := nx_nI (by omega)
    have tB := I.tot1 hj
    rw [e2, nx_nI s4] at tB
    obtain ⟨q0, hq0, eq0⟩ := I.be s2
    have K : ∀ (f a q n : Nat), a < f → a < 2 ^ 31 → q ≤ 3000 → (pV p__ l e__ { frames := 3, cells := 0, slots := 0, locals := 67 } s__ m__ args__ below__ meth__ c__ 7 E (pA h z) (MQ below__ (pQ E (pFp (crN (1000 + we1 / 100) f a q n)) h z) args__ s__ 0 0 (pA h z)) z h 0 0 31 [some (.ref m), some (.int (nI j)), some (.int (nI a)), some (.int (nI q)), some (.int (nI n)), none, none] []) := by
      intro f
      induction f with
      | zero => intro a q n h1; omega
      | succ f ih =>
        intro a q n ha1 ha2 hq
        refine v_iload_n (pc := 31) X (hd := dX7_carts_31) (kk := ?_)
        refine v_ifle (pc := 32) X (tgt := 92) (hd := dX7_carts_32) (kt := fun c32 => ?_) (kf := fun c32 => ?_)
        · have ha0 : a = 0 := by
            rcases Nat.eq_zero_or_pos a with q1 | q1
            · exact q1
            · exact absurd c32 (nI_nle q1 ha2)
          refine v_iload (pc := 92) X (hd := dX7_carts_92) (kk := ?_)
          exact v_endp (pc := 94) X hr hlk (hd := dX7_carts_94) (hf := (if_pos ha0).symm)
        · have ha0 : ¬ a = 0 := fun q1 => c32 (by rw [q1]; decide)
          refine v_aload_n (pc := 35) X (hd := dX7_carts_35) (kk := ?_)
          refine v_iload_n (pc := 36) X (hd := dX7_carts_36) (kk := ?_)
          refine v_iload_n (pc := 37) X (hd := dX7_carts_37) (kk := ?_)
          refine v_iload_n (pc := 38) X (hd := dX7_carts_38) (kk := ?_)
          refine v_callVp (pc := 39) X (hd := dX7_carts_39) (w := wv_X7_174) (hC := c_X7_most l E _ _ _ _ _ _ _ _ _ _ _ _ _ j _ _) (hp := ⟨hM, by omega, (I.wz hj).1⟩) (hb := by first | assumption | exact pset_s _ _ _ | exact (pset_n (by omega)).trans (by assumption)) (kk := ?_)
          rw [e3, mN_of s5 ha2 hq]
          refine v_istore (pc := 42) X (hd := dX7_carts_42) (kk := ?_)
          refine v_iload (pc := 44) X (hd := dX7_carts_44) (kk := ?_)
          refine v_ifne (pc := 46) X (tgt := 52) (hd := dX7_carts_46) (kt := fun c46 => ?_) (kf := fun c46 => ?_)
          · have hm0 : ¬ mN (1000 + we1 / 100) a q = 0 := fun q1 => c46 (by rw [q1]; exact nI_z)
            have hml := mN_le (1000 + we1 / 100) a q
            refine v_iload_n (pc := 52) X (hd := dX7_carts_52) (kk := ?_)
            refine v_aload_n (pc := 53) X (hd := dX7_carts_53) (kk := ?_)
            refine v_iload_n (pc := 54) X (hd := dX7_carts_54) (kk := ?_)
            refine v_iload (pc := 55) X (hd := dX7_carts_55) (kk := ?_)
            refine v_callVp (pc := 57) X (hd := dX7_carts_57) (w := wv_X7_85) (hC := c_X7_load l E _ _ _ _ _ _ _ _ _ _ _ _ _ j _) (hp := ⟨hM, by omega⟩) (hb := by first | assumption | exact pset_s _ _ _ | exact (pset_n (by omega)).trans (by assumption)) (kk := ?_)
            refine v_bipush (pc := 60) X (v := nI 49) (hd := dX7_carts_60) (kk := ?_)
            refine v_iadd (pc := 62) X (hd := dX7_carts_62) (kk := ?_)
            refine v_bipush (pc := 63) X (v := nI 50) (hd := dX7_carts_63) (kk := ?_)
            refine v_idiv (pc := 65) X (hd := dX7_carts_65) (hne := by decide +kernel) (kk := ?_)
            refine v_isub (pc := 66) X (hd := dX7_carts_66) (kk := ?_)
            have e66 : (fLoad (w (76 + 5 * j + 3)) (nI (mN (1000 + we1 / 100) a q)) + nI 49) / nI 50 = nI (wN (1000 + we1 / 100) (mN (1000 + we1 / 100) a q)) := by rw [e3]; exact wN_of s5 hml.2
            rw [e66]
            refine v_istore (pc := 67) X (hd := dX7_carts_67) (kk := ?_)
            refine v_iload (pc := 69) X (hd := dX7_carts_69) (kk := ?_)
            have hwb : wN (1000 + we1 / 100) (mN (1000 + we1 / 100) a q) < 2 ^ 30 := by unfold wN; have := Nat.mul_le_mul hml.2 (show 1000 + we1 / 100 ≤ 2000 by omega); omega
            refine v_ifge (pc := 71) X (tgt := 78) (hd := dX7_carts_71) (kt := fun c71 => ?_) (kf := fun c71 => ?_)
            · have hw : wN (1000 + we1 / 100) (mN (1000 + we1 / 100) a q) ≤ q := by
                rcases Nat.lt_or_ge q (wN (1000 + we1 / 100) (mN (1000 + we1 / 100) a q)) with q1 | q1
                · exact absurd c71 (by have := pk_sneg (a := q) (b := wN (1000 + we1 / 100) (mN (1000 + we1 / 100) a q)) hwb q1; rw [n_lt] at this; rw [n_le]; omega)
                · exact q1
              rw [pk_sub hw]
              refine v_iload (pc := 78) X (hd := dX7_carts_78) (kk := ?_)
              refine v_istore_n (pc := 80) X (hd := dX7_carts_80) (kk := ?_)
              refine v_iload_n (pc := 81) X (hd := dX7_carts_81) (kk := ?_)
              refine v_iload (pc := 82) X (hd := dX7_carts_82) (kk := ?_)
              refine v_isub (pc := 84) X (hd := dX7_carts_84) (kk := ?_)
              refine v_istore_n (pc := 85) X (hd := dX7_carts_85) (kk := ?_)
              rw [pk_sub hml.1]
              refine v_iincN (pc := 86) X (hd := dX7_carts_86) (kk := ?_)
              refine v_goto (pc := 89) X (tgt := 31) (hd := dX7_carts_89) (kk := ?_)
              refine v_sub [some (.ref m), some (.int (nI j)), some (.int (nI (a - mN (1000 + we1 / 100) a q))), some (.int (nI (q - wN (1000 + we1 / 100) (mN (1000 + we1 / 100) a q)))), some (.int (nI (n + 1))), none, none] (by intro i v hv; match i, hv with | 0, hv => exact hv | 1, hv => exact hv | 2, hv => exact hv | 3, hv => exact hv | 4, hv => exact hv | 5, hv => simp at hv | 6, hv => simp at hv) ?_
              rw [show crN (1000 + we1 / 100) (f + 1) a q n = crN (1000 + we1 / 100) f (a - mN (1000 + we1 / 100) a q) (q - wN (1000 + we1 / 100) (mN (1000 + we1 / 100) a q)) (n + 1) from by show (if a = 0 then _ else _) = _; rw [if_neg ha0, if_neg hm0]]
              exact ih _ _ _ (by omega) (by omega) (by omega)
            · have hw : q < wN (1000 + we1 / 100) (mN (1000 + we1 / 100) a q) := by
                rcases Nat.lt_or_ge q (wN (1000 + we1 / 100) (mN (1000 + we1 / 100) a q)) with q1 | q1
                · exact q1
                · exact absurd (by rw [pk_sub q1]; exact nI_pos' (by omega)) c71
              refine v_iconst (pc := 74) X (v := nI (q - wN (1000 + we1 / 100) (mN (1000 + we1 / 100) a q))) (hv := by rw [show q - wN (1000 + we1 / 100) (mN (1000 + we1 / 100) a q) = 0 by omega]; rfl) (hd := dX7_carts_74) (kk := ?_)
              refine v_goto (pc := 75) X (tgt := 80) (hd := dX7_carts_75) (kk := ?_)
              refine v_istore_n (pc := 80) X (hd := dX7_carts_80) (kk := ?_)
              refine v_iload_n (pc := 81) X (hd := dX7_carts_81) (kk := ?_)
              refine v_iload (pc := 82) X (hd := dX7_carts_82) (kk := ?_)
              refine v_isub (pc := 84) X (hd := dX7_carts_84) (kk := ?_)
              refine v_istore_n (pc := 85) X (hd := dX7_carts_85) (kk := ?_)
              rw [pk_sub hml.1]
              refine v_iincN (pc := 86) X (hd := dX7_carts_86) (kk := ?_)
              refine v_goto (pc := 89) X (tgt := 31) (hd := dX7_carts_89) (kk := ?_)
              refine v_sub [some (.ref m), some (.int (nI j)), some (.int (nI (a - mN (1000 + we1 / 100) a q))), some (.int (nI (q - wN (1000 + we1 / 100) (mN (1000 + we1 / 100) a q)))), some (.int (nI (n + 1))), none, none] (by intro i v hv; match i, hv with | 0, hv => exact hv | 1, hv => exact hv | 2, hv => exact hv | 3, hv => exact hv | 4, hv => exact hv | 5, hv => simp at hv | 6, hv => simp at hv) ?_
              rw [show crN (1000 + we1 / 100) (f + 1) a q n = crN (1000 + we1 / 100) f (a - mN (1000 + we1 / 100) a q) (q - wN (1000 + we1 / 100) (mN (1000 + we1 / 100) a q)) (n + 1) from by show (if a = 0 then _ else _) = _; rw [if_neg ha0, if_neg hm0]]
              exact ih _ _ _ (by omega) (by omega) (by omega)
          · have hm0 : mN (1000 + we1 / 100) a q = 0 := (nI_eq (by have := mN_le (1000 + we1 / 100) a q; omega) (by omega)).mp ((Classical.not_not.mp c46).trans nI_z.symm)
            refine v_bipush (pc := 49) X (v := (-9)) (hd := dX7_carts_49) (kk := ?_)
            exact v_endp (pc := 51) X hr hlk (hd := dX7_carts_51) (hf := by show _ = crN _ (f + 1) a q n; unfold crN; rw [if_neg ha0, if_pos hm0])
    refine v_aload_n (pc := 10) X (hd := dX7_carts_10) (kk := ?_)
    refine v_iload_n (pc := 11) X (hd := dX7_carts_11) (kk := ?_)
    refine v_iconst (pc := 12) X (v := nI 2) (hd := dX7_carts_12) (kk := ?_)
    refine v_callVp (pc := 13) X (hd := dX7_carts_13) (w := wv_X7_75) (hC := c_X7_inStack l E _ _ _ _ _ _ _ _ _ _ _ _ _ (j) 2) (hp := ⟨hM, by omega⟩) (hb := by first | assumption | exact pset_s _ _ _ | exact (pset_n (by omega)).trans (by assumption)) (kk := ?_)
    rw [e2]
    refine v_istore_n (pc := 16) X (hd := dX7_carts_16) (kk := ?_)
    refine v_aload_n (pc := 17) X (hd := dX7_carts_17) (kk := ?_)
    refine v_aload_n (pc := 18) X (hd := dX7_carts_18) (kk := ?_)
    refine v_iload_n (pc := 19) X (hd := dX7_carts_19) (kk := ?_)
    refine v_iconst (pc := 20) X (v := nI 1) (hd := dX7_carts_20) (kk := ?_)
    refine v_callVp (pc := 21) X (hd := dX7_carts_21) (w := wv_X7_75) (hC := c_X7_inStack l E _ _ _ _ _ _ _ _ _ _ _ _ _ (j) 1) (hp := ⟨hM, by omega⟩) (hb := by first | assumption | exact pset_s _ _ _ | exact (pset_n (by omega)).trans (by assumption)) (kk := ?_)
    rw [e1]
    refine v_callVp (pc := 24) X (hd := dX7_carts_24) (w := wv_X7_88) (hC := c_X7_bears l E _ _ _ _ _ _ _ _ _ _ _ _ _ b) (hp := ⟨hM, by omega⟩) (hb := by first | assumption | exact pset_s _ _ _ | exact (pset_n (by omega)).trans (by assumption)) (kk := ?_)
    rw [eq0]
    refine v_istore_n (pc := 27) X (hd := dX7_carts_27) (kk := ?_)
    refine v_iconst (pc := 28) X (v := nI 0) (hd := dX7_carts_28) (kk := ?_)
    refine v_istore (pc := 29) X (hd := dX7_carts_29) (kk := ?_)
    rw [show qCarts w (nI j) = crN (1000 + we1 / 100) (t1 + 1) t1 q0 0 from by unfold qCarts; rw [if_pos c5, ej, e1, eb1, eq0, e2, nx_nI s4, nx_nI (by omega), e3, fW_of s5, nx_nI (by omega)]]
    exact K (t1 + 1) t1 q0 0 (by omega) s4 hq0
  · refine v_iconst (pc := 8) X (v := (-1)) (hd := dX7_carts_8) (kk := ?_)
    exact v_endp (pc := 9) X hr hlk (hd := dX7_carts_9) (hf := by unfold qCarts; rw [if_neg c5])
set_option maxRecDepth 100000 in
set_option maxHeartbeats 4000000 in
theorem c_X7_worth (l : Launch) (E : pE) (m : Nat) (w pa he te re : Nat → Int32) (np : Nat) (rr : Bool) (ty at_ st ki co : Int32) (x pr : Int32) (nh nb ns : Nat) : pC l E yX7_worth cX7_worth 5 (some .int) { frames := 1, cells := 0, slots := 0, locals := 22 } 0 0 [.ref m, .int x, .int pr] (fun h _ => MD m w pa he te re (nI np) (bI (rr = true)) ty at_ st ki co h ∧ Iv w nh nb ns) (pFp ((qWorth w x pr))) := by
  refine pC_of (by decide) (by simp [Value.category]) (Nat.le_of_ble_eq_true rfl) ?_
  intro h z hp p__ e__ s__ m__ args__ below__ meth__ c__ X hr hlk hname
  obtain ⟨hM, I⟩ := hp
  have hM0 := hM
  obtain ⟨M0, M1, M2, M3, M4, M5⟩ := hM0
  obtain ⟨hn6, hb4, hs12, en, eb, es⟩ := I.1
  refine v_aload_n (pc := 0) X (hd := dX7_worth_0) (kk := ?_)
  refine v_iload_n (pc := 1) X (hd := dX7_worth_1) (kk := ?_)
  refine v_callVp (pc := 2) X (hd := dX7_worth_2) (w := wv_X7_40) (hC := c_X7_isHouse l E _ _ _ _ _ _ _ _ _ _ _ _ _ _) (hp := by first | assumption | exact trivial) (hb := by first | assumption | exact pset_s _ _ _ | exact (pset_n (by omega)).trans (by assumption)) (kk := ?_)
  refine v_ifeqB (pc := 5) X (tgt := 18) (hd := dX7_worth_5) (kt := fun c5 => ?_) (kf := fun c5 => ?_)
  · refine v_iconst (pc := 18) X (v := (-1)) (hd := dX7_worth_18) (kk := ?_)
    exact v_endp (pc := 19) X hr hlk (hd := dX7_worth_19) (hf := by unfold qWorth; rw [if_neg (fun q => c5 q.1)])
  · refine v_iload_n (pc := 8) X (hd := dX7_worth_8) (kk := ?_)
    refine v_iflt (pc := 9) X (tgt := 18) (hd := dX7_worth_9) (kt := fun c9 => ?_) (kf := fun c9 => ?_)
    · refine v_iconst (pc := 18) X (v := (-1)) (hd := dX7_worth_18) (kk := ?_)
      exact v_endp (pc := 19) X hr hlk (hd := dX7_worth_19) (hf := by unfold qWorth; rw [if_neg (fun q => by have q1 := q.2.1; rw [n_le] at q1; rw [n_lt] at c9; omega)])
    · refine v_iload_n (pc := 12) X (hd := dX7_worth_12) (kk := ?_)
      refine v_ldc (v := nI 2000000000) (pc := 13) X (hw := wq_X7_177) (hd := dX7_worth_13) (kk := ?_)
      refine v_icmple (pc := 15) X (tgt := 20) (hd := dX7_worth_15) (kt := fun c15 => ?_) (kf := fun c15 => ?_)
      · obtain ⟨j, hj, rfl, ej⟩ := gH_j en (by omega) c5
        refine v_aload_n (pc := 20) X (hd := dX7_worth_20) (kk := ?_)
        refine v_iload_n (pc := 21) X (hd := dX7_worth_21) (kk := ?_)
        refine v_iconst (pc := 22) X (v := nI 1) (hd := dX7_worth_22) (kk := ?_)
        refine v_callVp (pc := 23) X (hd := dX7_worth_23) (w := wv_X7_44) (hC := c_X7_inHouse l E _ _ _ _ _ _ _ _ _ _ _ _ _ (j) 1) (hp := ⟨hM, by omega⟩) (hb := by first | assumption | exact pset_s _ _ _ | exact (pset_n (by omega)).trans (by assumption)) (kk := ?_)
        refine v_i2l (pc := 26) X (hd := dX7_worth_26) (kk := ?_)
        refine v_iload_n (pc := 27) X (hd := dX7_worth_27) (kk := ?_)
        refine v_i2l (pc := 28) X (hd := dX7_worth_28) (kk := ?_)
        refine v_lmul (pc := 29) X (hd := dX7_worth_29) (kk := ?_)
        refine v_lstore_n (pc := 30) X (hd := dX7_worth_30) (kk := ?_)
        refine v_lload_n (pc := 31) X (hd := dX7_worth_31) (kk := ?_)
        refine v_ldc2 (pc := 32) X (v := 2147483647) (hw := wq_X7_178) (hd := dX7_worth_32) (kk := ?_)
        refine v_lcmp (pc := 35) X (hd := dX7_worth_35) (kk := ?_)
        refine v_ifle (pc := 36) X (tgt := 44) (hd := dX7_worth_36) (kt := fun c36 => ?_) (kf := fun c36 => ?_)
        · refine v_lload_n (pc := 44) X (hd := dX7_worth_44) (kk := ?_)
          refine v_l2i (pc := 45) X (hd := dX7_worth_45) (kk := ?_)
          exact v_endp (pc := 46) X hr hlk (hd := dX7_worth_46) (hf := by unfold qWorth; rw [if_pos ⟨c5, n_nlt c9, c15⟩, ej, if_pos c36])
        · refine v_bipush (pc := 39) X (v := (-9)) (hd := dX7_worth_39) (kk := ?_)
          refine v_goto (pc := 41) X (tgt := 46) (hd := dX7_worth_41) (kk := ?_)
          exact v_endp (pc := 46) X hr hlk (hd := dX7_worth_46) (hf := by unfold qWorth; rw [if_pos ⟨c5, n_nlt c9, c15⟩, ej, if_neg c36])
      · refine v_iconst (pc := 18) X (v := (-1)) (hd := dX7_worth_18) (kk := ?_)
        exact v_endp (pc := 19) X hr hlk (hd := dX7_worth_19) (hf := by unfold qWorth; rw [if_neg (fun q => c15 q.2.2)])
set_option maxRecDepth 100000 in
set_option maxHeartbeats 4000000 in
theorem c_X7_nextToCut (l : Launch) (E : pE) (m : Nat) (w pa he te re : Nat → Int32) (np : Nat) (rr : Bool) (ty at_ st ki co : Int32) (x : Int32) (nh nb ns : Nat) : pC l E yX7_nextToCut cX7_nextToCut 6 (some .int) { frames := 5, cells := 0, slots := 0, locals := 116 } 0 0 [.ref m, .int x] (fun h _ => MD m w pa he te re (nI np) (bI (rr = true)) ty at_ st ki co h ∧ Iv w nh nb ns) (pFp ((qNext w nh x))) := by
  refine pC_of (by decide) (by simp [Value.category]) (Nat.le_of_ble_eq_true rfl) ?_
  intro h z hp p__ e__ s__ m__ args__ below__ meth__ c__ X hr hlk hname
  obtain ⟨hM, I⟩ := hp
  have hM0 := hM
  obtain ⟨M0, M1, M2, M3, M4, M5⟩ := hM0
  obtain ⟨hn6, hb4, hs12, en, eb, es⟩ := I.1
  refine v_aload_n (pc := 0) X (hd := dX7_nextToCut_0) (kk := ?_)
  refine v_iload_n (pc := 1) X (hd := dX7_nextToCut_1) (kk := ?_)
  refine v_callVp (pc := 2) X (hd := dX7_nextToCut_2) (w := wv_X7_48) (hC := c_X7_isBank l E _ _ _ _ _ _ _ _ _ _ _ _ _ _) (hp := by first | assumption | exact trivial) (hb := by first | assumption | exact pset_s _ _ _ | exact (pset_n (by omega)).trans (by assumption)) (kk := ?_)
  refine v_ifneB (pc := 5) X (tgt := 10) (hd := dX7_nextToCut_5) (kt := fun c5 => ?_) (kf := fun c5 => ?_)
  · obtain ⟨j, hj, rfl, ej⟩ := gH_j eb (by omega) c5
    refine v_bipush (pc := 10) X (v := (-9)) (hd := dX7_nextToCut_10) (kk := ?_)
    refine v_istore_n (pc := 12) X (hd := dX7_nextToCut_12) (kk := ?_)
    refine v_iconst (pc := 13) X (v := nI 0) (hd := dX7_nextToCut_13) (kk := ?_)
    refine v_istore_n (pc := 14) X (hd := dX7_nextToCut_14) (kk := ?_)
    refine v_iconst (pc := 15) X (v := nI 0) (hd := dX7_nextToCut_15) (kk := ?_)
    refine v_istore (pc := 16) X (hd := dX7_nextToCut_16) (kk := ?_)
    refine v_forp (pc := 18) (M := nh) (Lf := fun i => [some (.ref m), some (.int (nI j)), some (.int (nfF w nh j i)), some (.int (nmF w nh j i)), some (.int (nI i)), none]) (hL := by rfl) (step := ?_) (out := ?_)
    · intro i hi kk
      refine v_iload (pc := 18) X (hd := dX7_nextToCut_18) (kk := ?_)
      refine v_aload_n (pc := 20) X (hd := dX7_nextToCut_20) (kk := ?_)
      refine g_X7_7 (pc := 21) X (hd := dX7_nextToCut_21) (hh := by first | assumption | exact pset_s _ _ _ | exact (pset_n (by omega)).trans (by assumption)) (kk := ?_)
      refine v_iconst (pc := 24) X (v := nI 1) (hd := dX7_nextToCut_24) (kk := ?_)
      refine v_ialdN (pc := 25) X (j := 1) (hd := dX7_nextToCut_25) (hh := by first | assumption | exact pset_s _ _ _ | exact (pset_n (by omega)).trans (by assumption)) (hi := by first | rfl | (simp only [pk_mul, nI_add]; done)) (hj := by omega) (kk := ?_)
      rw [en]
      refine v_icmpge (pc := 26) X (tgt := 70) (hd := dX7_nextToCut_26) (kt := fun c26 => ?_) (kf := fun c26 => ?_)
      · exact absurd c26 (nI_ge hi (by omega))
      · refine v_aload_n (pc := 29) X (hd := dX7_nextToCut_29) (kk := ?_)
        refine v_iload (pc := 30) X (hd := dX7_nextToCut_30) (kk := ?_)
        refine v_iload_n (pc := 32) X (hd := dX7_nextToCut_32) (kk := ?_)
        refine v_callVp (pc := 33) X (hd := dX7_nextToCut_33) (w := wv_X7_68) (hC := c_X7_mayCut l E _ _ _ _ _ _ _ _ _ _ _ _ _ i j nh) (hp := ⟨hM, by omega, by omega, hn6, en, fun q => I.spz hi q, fun k hk q => I.spz hk q⟩) (hb := by first | assumption | exact pset_s _ _ _ | exact (pset_n (by omega)).trans (by assumption)) (kk := ?_)
        refine v_istore (pc := 36) X (hd := dX7_nextToCut_36) (kk := ?_)
        refine v_iload (pc := 38) X (hd := dX7_nextToCut_38) (kk := ?_)
        refine v_iload_n (pc := 40) X (hd := dX7_nextToCut_40) (kk := ?_)
        refine v_icmple (pc := 41) X (tgt := 49) (hd := dX7_nextToCut_41) (kt := fun c41 => ?_) (kf := fun c41 => ?_)
        · refine v_iload_n (pc := 49) X (hd := dX7_nextToCut_49) (kk := ?_)
          refine v_istore_n (pc := 50) X (hd := dX7_nextToCut_50) (kk := ?_)
          refine v_iload (pc := 51) X (hd := dX7_nextToCut_51) (kk := ?_)
          refine v_iload_n (pc := 53) X (hd := dX7_nextToCut_53) (kk := ?_)
          refine v_icmple (pc := 54) X (tgt := 62) (hd := dX7_nextToCut_54) (kt := fun c54 => ?_) (kf := fun c54 => ?_)
          · refine v_iload_n (pc := 62) X (hd := dX7_nextToCut_62) (kk := ?_)
            refine v_istore_n (pc := 63) X (hd := dX7_nextToCut_63) (kk := ?_)
            refine v_iincN (pc := 64) X (hd := dX7_nextToCut_64) (kk := ?_)
            refine v_goto (pc := 67) X (tgt := 18) (hd := dX7_nextToCut_67) (kk := ?_)
            rw [show nfF w nh j (i + 1) = nfF w nh j i from if_neg (fun q => by rw [n_lt] at q; rw [n_le] at c41; omega), show nmF w nh j (i + 1) = nmF w nh j i from if_neg (fun q => by rw [n_lt] at q; rw [n_le] at c41; omega)] at kk
            exact v_sub _ (by intro i v hv; match i, hv with | 0, hv => exact hv | 1, hv => exact hv | 2, hv => exact hv | 3, hv => exact hv | 4, hv => exact hv | 5, hv => simp at hv) kk
          · exact absurd c41 c54
        · refine v_iload (pc := 44) X (hd := dX7_nextToCut_44) (kk := ?_)
          refine v_goto (pc := 46) X (tgt := 50) (hd := dX7_nextToCut_46) (kk := ?_)
          refine v_istore_n (pc := 50) X (hd := dX7_nextToCut_50) (kk := ?_)
          refine v_iload (pc := 51) X (hd := dX7_nextToCut_51) (kk := ?_)
          refine v_iload_n (pc := 53) X (hd := dX7_nextToCut_53) (kk := ?_)
          refine v_icmple (pc := 54) X (tgt := 62) (hd := dX7_nextToCut_54) (kt := fun c54 => ?_) (kf := fun c54 => ?_)
          · exact absurd c54 c41
          · refine v_iload (pc := 57) X (hd := dX7_nextToCut_57) (kk := ?_)
            refine v_goto (pc := 59) X (tgt := 63) (hd := dX7_nextToCut_59) (kk := ?_)
            refine v_istore_n (pc := 63) X (hd := dX7_nextToCut_63) (kk := ?_)
            refine v_iincN (pc := 64) X (hd := dX7_nextToCut_64) (kk := ?_)
            refine v_goto (pc := 67) X (tgt := 18) (hd := dX7_nextToCut_67) (kk := ?_)
            rw [show nfF w nh j (i + 1) = nI i from if_pos (n_nle c41), show nmF w nh j (i + 1) = fMay w nh i j from if_pos (n_nle c41)] at kk
            exact v_sub _ (by intro i v hv; match i, hv with | 0, hv => exact hv | 1, hv => exact hv | 2, hv => exact hv | 3, hv => exact hv | 4, hv => exact hv | 5, hv => simp at hv) kk
    · skip
      refine v_iload (pc := 18) X (hd := dX7_nextToCut_18) (kk := ?_)
      refine v_aload_n (pc := 20) X (hd := dX7_nextToCut_20) (kk := ?_)
      refine g_X7_7 (pc := 21) X (hd := dX7_nextToCut_21) (hh := by first | assumption | exact pset_s _ _ _ | exact (pset_n (by omega)).trans (by assumption)) (kk := ?_)
      refine v_iconst (pc := 24) X (v := nI 1) (hd := dX7_nextToCut_24) (kk := ?_)
      refine v_ialdN (pc := 25) X (j := 1) (hd := dX7_nextToCut_25) (hh := by first | assumption | exact pset_s _ _ _ | exact (pset_n (by omega)).trans (by assumption)) (hi := by first | rfl | (simp only [pk_mul, nI_add]; done)) (hj := by omega) (kk := ?_)
      rw [en]
      refine v_icmpge (pc := 26) X (tgt := 70) (hd := dX7_nextToCut_26) (kt := fun c26 => ?_) (kf := fun c26 => ?_)
      · refine v_iload_n (pc := 70) X (hd := dX7_nextToCut_70) (kk := ?_)
        exact v_endp (pc := 71) X hr hlk (hd := dX7_nextToCut_71) (hf := by unfold qNext; rw [if_pos c5, ej])
      · exact absurd (Int32.le_refl _) c26
  · refine v_iconst (pc := 8) X (v := (-1)) (hd := dX7_nextToCut_8) (kk := ?_)
    exact v_endp (pc := 9) X hr hlk (hd := dX7_nextToCut_9) (hf := by unfold qNext; rw [if_neg c5])
