/-! the law's own small methods -/
theorem sp_step (v : Nat → Int32) (b k : Nat) : fSp v b (k + 1) = fSp v b k + bt (v (24 + 7 * b + 3)) k * v (6 + 3 * k + 0) := by
  show fSp v b k + _ = _
  rcases bt_b (v (24 + 7 * b + 3)) k with q | q
  · rw [if_neg (bt_z q), q, Int32.zero_mul, nI_z]
  · rw [if_pos (show hR v k b from q.trans nI_t.symm), q, Int32.one_mul]
theorem lf_step (v : Nat → Int32) (b k : Nat) (a : Int32) : fLeft v b a (k + 1) = fLeft v b a k - bt (v (24 + 7 * b + 3)) k * (v (24 + 7 * b + 0) * v (6 + 3 * k + 0) / a) := by
  show fLeft v b a k - _ = _
  rcases bt_b (v (24 + 7 * b + 3)) k with q | q
  · rw [if_neg (bt_z q), q, Int32.zero_mul, nI_z]
  · rw [if_pos (show hR v k b from q.trans nI_t.symm), q, Int32.one_mul]
def miF (v : Nat → Int32) (b i o : Nat) (m0 : Int32) : Nat → Int32
  | 0 => m0
  | k + 1 => if hR v k b ∧ hcN v b k < o then miF v b i o m0 k + (if k = i then nI 1 else nI 0) else miF v b i o m0 k
theorem miF_at {v : Nat → Int32} {b i o : Nat} {m0 : Int32} (hr : hR v i b) : ∀ n, miF v b i o m0 n = m0 + (if i < n ∧ hcN v b i < o then nI 1 else nI 0) := by
  intro n
  induction n with
  | zero => rw [if_neg (fun q => by omega)]; exact (add_n0 _).symm
  | succ n ih =>
    show (if hR v n b ∧ hcN v b n < o then miF v b i o m0 n + (if n = i then nI 1 else nI 0) else miF v b i o m0 n) = _
    rw [ih]
    by_cases e : n = i
    · subst e
      rw [if_neg (show ¬ (n < n ∧ hcN v b n < o) from fun q => by omega), if_pos (show n = n from rfl)]
      by_cases c : hcN v b n < o
      · rw [if_pos ⟨hr, c⟩, if_pos ⟨by omega, c⟩, add_n0]
      · rw [if_neg (fun q => c q.2), if_neg (fun q => c q.2)]
    · rw [if_neg (show ¬ n = i from e), add_n0]
      have e2 : (i < n + 1 ∧ hcN v b i < o) ↔ (i < n ∧ hcN v b i < o) := by constructor <;> intro q <;> exact ⟨by omega, q.2⟩
      simp only [e2]
      split <;> rfl
theorem dec1 {a : Nat} (h : 0 < a) : nI a + Int32.ofInt (-1) = nI (a - 1) := by
  rw [show Int32.ofInt (-1) = -(nI 1) by decide +kernel, ← Int32.sub_eq_add_neg]
  exact pk_sub h
theorem mx_t {x : Int32} (h : x ≤ 0) : nI 0 = if x < 0 then nI 0 else x := by
  rw [← n_max0, if_neg (fun q => by rw [nI_z] at q; rw [n_lt] at q; rw [n_le] at h; omega)]
theorem mx_f {x : Int32} (h : ¬ x ≤ 0) : x = if x < 0 then nI 0 else x := by
  rw [if_neg (fun q => h (by rw [n_le]; rw [n_lt] at q; omega))]
theorem sub_c (a b c : Int32) : a - c - b = a - b - c := by
  simp only [Int32.sub_eq_add_neg, Int32.add_assoc]
  rw [Int32.add_comm (-c) (-b)]
theorem n_nle0 {a : Nat} (h : a < 2 ^ 31) (q : ¬ nI a ≤ 0) : 0 < a := by
  rcases Nat.eq_zero_or_pos a with w | w
  · exact absurd (by rw [w, nI_z]; exact Int32.le_refl _) q
  · exact w
theorem n_le0 {a : Nat} (h : a < 2 ^ 31) (q : nI a ≤ 0) : a = 0 := by
  rw [← nI_z] at q
  have := (nI_leI h (by omega)).mp q
  omega
theorem ld_n {we T : Nat} (h1 : we ≤ 100000) (h2 : T ≤ 1000) : T * (1000 + we / 100) < 2 ^ 30 := Nat.lt_of_le_of_lt (Nat.mul_le_mul h2 (show 1000 + we / 100 ≤ 2000 by omega)) (by decide)
theorem ld_at {we T : Nat} (h1 : we ≤ 100000) (h2 : T ≤ 1000) : fLoad (nI we) (nI T) = nI ((T * (1000 + we / 100) + 999) / 1000) := by
  have h3 := ld_n h1 h2
  unfold fLoad fW
  rw [pk_div (by omega) (by omega) (by omega), nI_add, pk_mul, nI_add, pk_div (by omega) (by omega) (by omega)]
theorem th_x {we tn wi : Nat} (h1 : we ≤ 100000) (h2 : tn ≤ 3) (h3 : wi ≤ 9) : we * wi * (tn + 1) ≤ we * 36 := by
  have e := Nat.mul_le_mul h3 (show tn + 1 ≤ 4 by omega)
  rw [Nat.mul_assoc]
  exact Nat.mul_le_mul_left we e
theorem th_n {we tn wi : Nat} (h1 : we ≤ 100000) (h2 : tn ≤ 3) (h3 : wi ≤ 9) : nI we - nI ((we * wi * (tn + 1) + 63) / 64) = nI (we * (64 - wi * (tn + 1)) / 64) := by
  have e := fp_e h2 h3
  have e2 := th_x h1 h2 h3
  rw [pk_sub (by omega)]
  refine congrArg nI ?_
  rw [Nat.mul_sub, ← Nat.mul_assoc]
  omega
theorem th_f {x : Int32} : (nI 100000 ≤ x → nI 100000 = if nI 100000 < x then nI 100000 else x) ∧ (¬ nI 100000 ≤ x → x = if nI 100000 < x then nI 100000 else x) := by
  constructor
  · intro h
    by_cases c : nI 100000 < x
    · rw [if_pos c]
    · rw [if_neg c]
      exact n_eq (by rw [n_le] at h; rw [n_lt] at c; omega)
  · intro h
    rw [if_neg (fun c => h (by rw [n_le]; rw [n_lt] at c; omega))]
theorem dn_step (v : Nat → Int32) (k : Nat) : (v (76 + 5 * k + 3) ≤ nI 30000 → fDryN v (k + 1) = fDryN v k + nI 1) ∧ (¬ v (76 + 5 * k + 3) ≤ nI 30000 → fDryN v (k + 1) = fDryN v k + nI 0) :=
  ⟨fun h => by show fDryN v k + _ = _; rw [if_pos h], fun h => by show fDryN v k + _ = _; rw [if_neg h]⟩
theorem sh_fin {v : Nat → Int32} {nh nb ns i j Al S : Nat} (I : Iv v nh nb ns) (hi0 : i < nh) (r17 : hR v i j) (hA2 : Al ≤ 5000) (hL : ∀ n, n ≤ nh → fLeft v j (fSp v j nh) n = nI (Al - flN v j Al S n)) : miF v j i (Al - flN v j Al S nh) (v (24 + 7 * j + 0) * v (6 + 3 * i + 0) / fSp v j nh) nh = fShare v nh i j := by
  unfold fShare
  rw [miF_at r17, if_pos r17, hL nh (Nat.le_refl _), sh_ahead, if_neg (show ¬ nh ≤ i by omega)]
  congr 1
  have h7 := sh_sp (b := j) I i (by omega)
  have h8 := I.1.1
  by_cases q : hcN v j i < Al - flN v j Al S nh
  · rw [if_pos ⟨hi0, q⟩, if_pos ((nI_ltI (by omega) (by omega)).mpr q)]
  · rw [if_neg (fun w => q w.2), if_neg (fun w => q ((nI_ltI (by omega) (by omega)).mp w))]
theorem goes_fin {v v3 : Nat → Int32} {k ns : Nat} (es : v 3 = nI ns) (e3 : ∀ q, v3 q = if q = 0 + 3 then nI ns - nI 1 else goF v k (5 * (ns - 1 - k)) q) (q : Nat) : gGo v k ns q = v3 q := by
  rw [e3]
  unfold gGo
  rw [goF_at, goF_at]
  by_cases q3 : q = 3
  · rw [if_pos (show q = 0 + 3 by omega), if_neg (show ¬ (76 + 5 * k ≤ q ∧ q < 76 + 5 * k + 5 * (ns - 1 - k)) from fun w => by omega), q3, ← es]
    rfl
  · rw [if_neg (show ¬ q = 0 + 3 by omega)]
    by_cases c : 76 + 5 * k ≤ q ∧ q < 76 + 5 * k + 5 * (ns - 1 - k)
    · rw [if_pos c, if_pos c]
      exact if_neg (by omega)
    · rw [if_neg c, if_neg c]
      exact if_neg q3
set_option maxRecDepth 100000 in
set_option maxHeartbeats 4000000 in
theorem c_L_low (l : Launch) (E : pE) (x : Int32) (n : Nat) : pC l E yL_low cL_low 2 (some .int) { frames := 0, cells := 0, slots := 0, locals := 0 } 0 0 [.int x, .int (nI n)] (fun h _ => 0 < n ∧ n < 2 ^ 31) (pFi (fun h r h' => h' = h ∧ ∃ j, j < n ∧ r = nI j)) := by
  refine pC_of (by decide) (by simp [Value.category]) (Nat.le_of_ble_eq_true rfl) ?_
  intro h z hp p__ e__ s__ m__ args__ below__ meth__ c__ X hr hlk hname
  refine v_iload_n (pc := 0) X (hd := dL_low_0) (kk := ?_)
  refine v_ldc (v := nI 2147483647) (pc := 1) X (hw := wq_L_8) (hd := dL_low_1) (kk := ?_)
  refine v_iand (pc := 3) X (hd := dL_low_3) (kk := ?_)
  obtain ⟨j, hj, ej⟩ := pk_andE x (m := nI 2147483647) 31 (by decide +kernel)
  rw [ej]
  refine v_iload_n (pc := 4) X (hd := dL_low_4) (kk := ?_)
  refine v_iremN (pc := 5) X (a := j) (d := n) (hd := dL_low_5) (hx := rfl) (hy := rfl) (ha := hj) (h0 := hp.1) (hd2 := hp.2) (kk := ?_)
  exact v_endi (pc := 6) X hr hlk (hd := dL_low_6) (hf := ⟨rfl, j % n, Nat.mod_lt _ hp.1, rfl⟩)
set_option maxRecDepth 100000 in
set_option maxHeartbeats 4000000 in
theorem c_L_share (l : Launch) (E : pE) (y : Nat) (v : Nat → Int32) (i j nh nb ns : Nat) : pC l E yL_share cL_share 10 (some .int) { frames := 0, cells := 0, slots := 0, locals := 0 } 0 0 [.ref y, .ref (y + 1), .ref (y + 2), .int (nI i), .int (nI j)] (fun h _ => LA y v h ∧ Iv v nh nb ns ∧ i < nh ∧ j < nb) (pFp ((fShare v nh i j))) := by
  refine pC_of (by decide) (by simp [Value.category]) (Nat.le_of_ble_eq_true rfl) ?_
  intro h z hp p__ e__ s__ m__ args__ below__ meth__ c__ X hr hlk hname
  obtain ⟨B, I, hi0, hj0⟩ := hp
  obtain ⟨hn6, hb4, hs12, en, eb, es⟩ := I.1
  refine v_aload_n (pc := 0) X (hd := dL_share_0) (kk := ?_)
  refine v_bipush (pc := 1) X (v := nI 7) (hd := dL_share_1) (kk := ?_)
  refine v_iload (pc := 3) X (hd := dL_share_3) (kk := ?_)
  refine v_imul (pc := 5) X (hd := dL_share_5) (kk := ?_)
  refine v_iconst (pc := 6) X (v := nI 3) (hd := dL_share_6) (kk := ?_)
  refine v_iadd (pc := 7) X (hd := dL_share_7) (kk := ?_)
  refine v_ldB (pc := 8) X (x := v (24 + 7 * j + 3)) (7 * j + 3) B (hd := dL_share_8) (hi := by first | rfl | (simp only [pk_mul, nI_add]; done)) (hj := by omega) (hx := rfl) (kk := ?_)
  refine v_istore (pc := 9) X (hd := dL_share_9) (kk := ?_)
  refine v_iload (pc := 11) X (hd := dL_share_11) (kk := ?_)
  refine v_iload_n (pc := 13) X (hd := dL_share_13) (kk := ?_)
  refine v_ishr (pc := 14) X (hd := dL_share_14) (kk := ?_)
  refine v_iconst (pc := 15) X (v := nI 1) (hd := dL_share_15) (kk := ?_)
  refine v_iand (pc := 16) X (hd := dL_share_16) (kk := ?_)
  refine v_ifne (pc := 17) X (tgt := 22) (hd := dL_share_17) (kt := fun c17 => ?_) (kf := fun c17 => ?_)
  · have r17 : hR v i j := bt_n0 (x := v (24 + 7 * j + 3)) (i := i) c17
    have hne := I.spz hi0 r17
    obtain ⟨Al, S, hA, hA2, hS2, eS, eS2, hall⟩ := sh_all I hj0
    obtain ⟨hS, hF, ho, hL⟩ := hall i hi0 r17
    refine v_iconst (pc := 22) X (v := nI 0) (hd := dL_share_22) (kk := ?_)
    refine v_istore (pc := 23) X (hd := dL_share_23) (kk := ?_)
    refine v_iconst (pc := 25) X (v := nI 0) (hd := dL_share_25) (kk := ?_)
    refine v_istore (pc := 26) X (hd := dL_share_26) (kk := ?_)
    refine v_forp (pc := 28) (M := nh) (Lf := fun k => [some (.ref y), some (.ref (y + 1)), some (.ref (y + 2)), some (.int (nI i)), some (.int (nI j)), some (.int (v (24 + 7 * j + 3))), some (.int (fSp v j k)), some (.int (nI k)), none, none]) (hL := by rfl) (step := ?_) (out := ?_)
    · intro k hk kk
      refine v_iload (pc := 28) X (hd := dL_share_28) (kk := ?_)
      refine v_aload_n (pc := 30) X (hd := dL_share_30) (kk := ?_)
      refine v_iconst (pc := 31) X (v := nI 1) (hd := dL_share_31) (kk := ?_)
      refine v_ldG (pc := 32) X (x := nI nh) (1) B (hd := dL_share_32) (hi := by first | rfl | (simp only [pk_mul, nI_add]; done)) (hj := by omega) (hx := en) (kk := ?_)
      refine v_icmpge (pc := 33) X (tgt := 61) (hd := dL_share_33) (kt := fun c33 => ?_) (kf := fun c33 => ?_)
      · exact absurd c33 (nI_ge hk (by omega))
      · refine v_iload (pc := 36) X (hd := dL_share_36) (kk := ?_)
        refine v_iload (pc := 38) X (hd := dL_share_38) (kk := ?_)
        refine v_iload (pc := 40) X (hd := dL_share_40) (kk := ?_)
        refine v_ishr (pc := 42) X (hd := dL_share_42) (kk := ?_)
        refine v_iconst (pc := 43) X (v := nI 1) (hd := dL_share_43) (kk := ?_)
        refine v_iand (pc := 44) X (hd := dL_share_44) (kk := ?_)
        refine v_aload_n (pc := 45) X (hd := dL_share_45) (kk := ?_)
        refine v_iconst (pc := 46) X (v := nI 3) (hd := dL_share_46) (kk := ?_)
        refine v_iload (pc := 47) X (hd := dL_share_47) (kk := ?_)
        refine v_imul (pc := 49) X (hd := dL_share_49) (kk := ?_)
        refine v_ldH (pc := 50) X (x := v (6 + 3 * k + 0)) (3 * k) B (hd := dL_share_50) (hi := by first | rfl | (simp only [pk_mul, nI_add]; done)) (hj := by omega) (hx := rfl) (kk := ?_)
        refine v_imul (pc := 51) X (hd := dL_share_51) (kk := ?_)
        refine v_iadd (pc := 52) X (hd := dL_share_52) (kk := ?_)
        refine v_istore (pc := 53) X (hd := dL_share_53) (kk := ?_)
        refine v_iincN (pc := 55) X (hd := dL_share_55) (kk := ?_)
        refine v_goto (pc := 58) X (tgt := 28) (hd := dL_share_58) (kk := ?_)
        rw [sp_step] at kk
        exact kk
    · skip
      refine v_iload (pc := 28) X (hd := dL_share_28) (kk := ?_)
      refine v_aload_n (pc := 30) X (hd := dL_share_30) (kk := ?_)
      refine v_iconst (pc := 31) X (v := nI 1) (hd := dL_share_31) (kk := ?_)
      refine v_ldG (pc := 32) X (x := nI nh) (1) B (hd := dL_share_32) (hi := by first | rfl | (simp only [pk_mul, nI_add]; done)) (hj := by omega) (hx := en) (kk := ?_)
      refine v_icmpge (pc := 33) X (tgt := 61) (hd := dL_share_33) (kt := fun c33 => ?_) (kf := fun c33 => ?_)
      · refine v_aload_n (pc := 61) X (hd := dL_share_61) (kk := ?_)
        refine v_bipush (pc := 62) X (v := nI 7) (hd := dL_share_62) (kk := ?_)
        refine v_iload (pc := 64) X (hd := dL_share_64) (kk := ?_)
        refine v_imul (pc := 66) X (hd := dL_share_66) (kk := ?_)
        refine v_ldB (pc := 67) X (x := v (24 + 7 * j + 0)) (7 * j) B (hd := dL_share_67) (hi := by first | rfl | (simp only [pk_mul, nI_add]; done)) (hj := by omega) (hx := rfl) (kk := ?_)
        refine v_istore (pc := 68) X (hd := dL_share_68) (kk := ?_)
        refine v_iconst (pc := 70) X (v := nI 0) (hd := dL_share_70) (kk := ?_)
        refine v_istore (pc := 71) X (hd := dL_share_71) (kk := ?_)
        refine v_forp (pc := 73) (M := nh) (Lf := fun k => [some (.ref y), some (.ref (y + 1)), some (.ref (y + 2)), some (.int (nI i)), some (.int (nI j)), some (.int (v (24 + 7 * j + 3))), some (.int (fSp v j nh)), some (.int (fLeft v j (fSp v j nh) k)), some (.int (nI k)), none]) (hL := by rfl) (step := ?_) (out := ?_)
        · intro k hk kk
          refine v_iload (pc := 73) X (hd := dL_share_73) (kk := ?_)
          refine v_aload_n (pc := 75) X (hd := dL_share_75) (kk := ?_)
          refine v_iconst (pc := 76) X (v := nI 1) (hd := dL_share_76) (kk := ?_)
          refine v_ldG (pc := 77) X (x := nI nh) (1) B (hd := dL_share_77) (hi := by first | rfl | (simp only [pk_mul, nI_add]; done)) (hj := by omega) (hx := en) (kk := ?_)
          refine v_icmpge (pc := 78) X (tgt := 117) (hd := dL_share_78) (kt := fun c78 => ?_) (kf := fun c78 => ?_)
          · exact absurd c78 (nI_ge hk (by omega))
          · refine v_iload (pc := 81) X (hd := dL_share_81) (kk := ?_)
            refine v_iload (pc := 83) X (hd := dL_share_83) (kk := ?_)
            refine v_iload (pc := 85) X (hd := dL_share_85) (kk := ?_)
            refine v_ishr (pc := 87) X (hd := dL_share_87) (kk := ?_)
            refine v_iconst (pc := 88) X (v := nI 1) (hd := dL_share_88) (kk := ?_)
            refine v_iand (pc := 89) X (hd := dL_share_89) (kk := ?_)
            refine v_aload_n (pc := 90) X (hd := dL_share_90) (kk := ?_)
            refine v_bipush (pc := 91) X (v := nI 7) (hd := dL_share_91) (kk := ?_)
            refine v_iload (pc := 93) X (hd := dL_share_93) (kk := ?_)
            refine v_imul (pc := 95) X (hd := dL_share_95) (kk := ?_)
            refine v_ldB (pc := 96) X (x := v (24 + 7 * j + 0)) (7 * j) B (hd := dL_share_96) (hi := by first | rfl | (simp only [pk_mul, nI_add]; done)) (hj := by omega) (hx := rfl) (kk := ?_)
            refine v_aload_n (pc := 97) X (hd := dL_share_97) (kk := ?_)
            refine v_iconst (pc := 98) X (v := nI 3) (hd := dL_share_98) (kk := ?_)
            refine v_iload (pc := 99) X (hd := dL_share_99) (kk := ?_)
            refine v_imul (pc := 101) X (hd := dL_share_101) (kk := ?_)
            refine v_ldH (pc := 102) X (x := v (6 + 3 * k + 0)) (3 * k) B (hd := dL_share_102) (hi := by first | rfl | (simp only [pk_mul, nI_add]; done)) (hj := by omega) (hx := rfl) (kk := ?_)
            refine v_imul (pc := 103) X (hd := dL_share_103) (kk := ?_)
            refine v_iload (pc := 104) X (hd := dL_share_104) (kk := ?_)
            refine v_idiv (pc := 106) X (hd := dL_share_106) (hne := hne) (kk := ?_)
            refine v_imul (pc := 107) X (hd := dL_share_107) (kk := ?_)
            refine v_isub (pc := 108) X (hd := dL_share_108) (kk := ?_)
            refine v_istore (pc := 109) X (hd := dL_share_109) (kk := ?_)
            refine v_iincN (pc := 111) X (hd := dL_share_111) (kk := ?_)
            refine v_goto (pc := 114) X (tgt := 73) (hd := dL_share_114) (kk := ?_)
            rw [lf_step] at kk
            exact kk
        · skip
          rw [hL nh (Nat.le_refl _)]
          refine v_iload (pc := 73) X (hd := dL_share_73) (kk := ?_)
          refine v_aload_n (pc := 75) X (hd := dL_share_75) (kk := ?_)
          refine v_iconst (pc := 76) X (v := nI 1) (hd := dL_share_76) (kk := ?_)
          refine v_ldG (pc := 77) X (x := nI nh) (1) B (hd := dL_share_77) (hi := by first | rfl | (simp only [pk_mul, nI_add]; done)) (hj := by omega) (hx := en) (kk := ?_)
          refine v_icmpge (pc := 78) X (tgt := 117) (hd := dL_share_78) (kt := fun c78 => ?_) (kf := fun c78 => ?_)
          · refine v_aload_n (pc := 117) X (hd := dL_share_117) (kk := ?_)
            refine v_bipush (pc := 118) X (v := nI 7) (hd := dL_share_118) (kk := ?_)
            refine v_iload (pc := 120) X (hd := dL_share_120) (kk := ?_)
            refine v_imul (pc := 122) X (hd := dL_share_122) (kk := ?_)
            refine v_ldB (pc := 123) X (x := v (24 + 7 * j + 0)) (7 * j) B (hd := dL_share_123) (hi := by first | rfl | (simp only [pk_mul, nI_add]; done)) (hj := by omega) (hx := rfl) (kk := ?_)
            refine v_aload_n (pc := 124) X (hd := dL_share_124) (kk := ?_)
            refine v_iconst (pc := 125) X (v := nI 3) (hd := dL_share_125) (kk := ?_)
            refine v_iload_n (pc := 126) X (hd := dL_share_126) (kk := ?_)
            refine v_imul (pc := 127) X (hd := dL_share_127) (kk := ?_)
            refine v_ldH (pc := 128) X (x := v (6 + 3 * i + 0)) (3 * i) B (hd := dL_share_128) (hi := by first | rfl | (simp only [pk_mul, nI_add]; done)) (hj := by omega) (hx := rfl) (kk := ?_)
            refine v_imul (pc := 129) X (hd := dL_share_129) (kk := ?_)
            refine v_iload (pc := 130) X (hd := dL_share_130) (kk := ?_)
            refine v_idiv (pc := 132) X (hd := dL_share_132) (hne := hne) (kk := ?_)
            refine v_istore (pc := 133) X (hd := dL_share_133) (kk := ?_)
            refine v_iconst (pc := 135) X (v := nI 0) (hd := dL_share_135) (kk := ?_)
            refine v_istore (pc := 136) X (hd := dL_share_136) (kk := ?_)
            refine v_forp (pc := 138) (M := nh) (Lf := fun k => [some (.ref y), some (.ref (y + 1)), some (.ref (y + 2)), some (.int (nI i)), some (.int (nI j)), some (.int (v (24 + 7 * j + 3))), some (.int (fSp v j nh)), some (.int (nI (Al - flN v j Al S nh - hcN v j k))), some (.int (miF v j i (Al - flN v j Al S nh) (v (24 + 7 * j + 0) * v (6 + 3 * i + 0) / fSp v j nh) k)), some (.int (nI k))]) (hL := by rfl) (step := ?_) (out := ?_)
            · intro k hk kk
              refine v_iload (pc := 138) X (hd := dL_share_138) (kk := ?_)
              refine v_aload_n (pc := 140) X (hd := dL_share_140) (kk := ?_)
              refine v_iconst (pc := 141) X (v := nI 1) (hd := dL_share_141) (kk := ?_)
              refine v_ldG (pc := 142) X (x := nI nh) (1) B (hd := dL_share_142) (hi := by first | rfl | (simp only [pk_mul, nI_add]; done)) (hj := by omega) (hx := en) (kk := ?_)
              refine v_icmpge (pc := 143) X (tgt := 187) (hd := dL_share_143) (kt := fun c143 => ?_) (kf := fun c143 => ?_)
              · exact absurd c143 (nI_ge hk (by omega))
              · refine v_iload (pc := 146) X (hd := dL_share_146) (kk := ?_)
                refine v_iload (pc := 148) X (hd := dL_share_148) (kk := ?_)
                refine v_ishr (pc := 150) X (hd := dL_share_150) (kk := ?_)
                refine v_iconst (pc := 151) X (v := nI 1) (hd := dL_share_151) (kk := ?_)
                refine v_iand (pc := 152) X (hd := dL_share_152) (kk := ?_)
                refine v_iconst (pc := 153) X (v := nI 1) (hd := dL_share_153) (kk := ?_)
                refine v_icmpne (pc := 154) X (tgt := 181) (hd := dL_share_154) (kt := fun c154 => ?_) (kf := fun c154 => ?_)
                · refine v_iincN (pc := 181) X (hd := dL_share_181) (kk := ?_)
                  refine v_goto (pc := 184) X (tgt := 138) (hd := dL_share_184) (kk := ?_)
                  rw [hcN_n c154, show miF v j i (Al - flN v j Al S nh) (v (24 + 7 * j + 0) * v (6 + 3 * i + 0) / fSp v j nh) (k + 1) = miF v j i (Al - flN v j Al S nh) (v (24 + 7 * j + 0) * v (6 + 3 * i + 0) / fSp v j nh) k from if_neg (fun q => c154 q.1)] at kk
                  exact kk
                · have r154 : hR v k j := Classical.not_not.mp c154
                  refine v_iload (pc := 157) X (hd := dL_share_157) (kk := ?_)
                  refine v_ifle (pc := 159) X (tgt := 181) (hd := dL_share_159) (kt := fun c159 => ?_) (kf := fun c159 => ?_)
                  · have z159 : Al - flN v j Al S nh - hcN v j k = 0 := n_le0 (by omega) c159
                    refine v_iincN (pc := 181) X (hd := dL_share_181) (kk := ?_)
                    refine v_goto (pc := 184) X (tgt := 138) (hd := dL_share_184) (kk := ?_)
                    rw [show Al - flN v j Al S nh - hcN v j (k + 1) = Al - flN v j Al S nh - hcN v j k from by rw [hcN_s r154]; omega, show miF v j i (Al - flN v j Al S nh) (v (24 + 7 * j + 0) * v (6 + 3 * i + 0) / fSp v j nh) (k + 1) = miF v j i (Al - flN v j Al S nh) (v (24 + 7 * j + 0) * v (6 + 3 * i + 0) / fSp v j nh) k from if_neg (fun q => by omega)] at kk
                    exact kk
                  · have z159 : 0 < Al - flN v j Al S nh - hcN v j k := n_nle0 (by omega) c159
                    refine v_iload (pc := 162) X (hd := dL_share_162) (kk := ?_)
                    refine v_iload (pc := 164) X (hd := dL_share_164) (kk := ?_)
                    refine v_iload_n (pc := 166) X (hd := dL_share_166) (kk := ?_)
                    refine v_icmpne (pc := 167) X (tgt := 174) (hd := dL_share_167) (kt := fun c167 => ?_) (kf := fun c167 => ?_)
                    · have k167 : ¬ k = i := fun q => c167 (by rw [q])
                      refine v_iconst (pc := 174) X (v := nI 0) (hd := dL_share_174) (kk := ?_)
                      refine v_iadd (pc := 175) X (hd := dL_share_175) (kk := ?_)
                      refine v_istore (pc := 176) X (hd := dL_share_176) (kk := ?_)
                      refine v_iinc (pc := 178) X (hd := dL_share_178) (v := nI (Al - flN v j Al S nh - hcN v j (k + 1))) (hv := by rw [dec1 z159, hcN_s r154]; exact congrArg nI (by omega)) (kk := ?_)
                      refine v_iincN (pc := 181) X (hd := dL_share_181) (kk := ?_)
                      refine v_goto (pc := 184) X (tgt := 138) (hd := dL_share_184) (kk := ?_)
                      rw [show miF v j i (Al - flN v j Al S nh) (v (24 + 7 * j + 0) * v (6 + 3 * i + 0) / fSp v j nh) (k + 1) = miF v j i (Al - flN v j Al S nh) (v (24 + 7 * j + 0) * v (6 + 3 * i + 0) / fSp v j nh) k + nI 0 from by show (if _ then _ else _) = _; rw [if_pos ⟨r154, by omega⟩, if_neg k167]] at kk
                      exact kk
                    · have k167 : k = i := (nI_eq (by omega) (by omega)).mp (Classical.not_not.mp c167)
                      refine v_iconst (pc := 170) X (v := nI 1) (hd := dL_share_170) (kk := ?_)
                      refine v_goto (pc := 171) X (tgt := 175) (hd := dL_share_171) (kk := ?_)
                      refine v_iadd (pc := 175) X (hd := dL_share_175) (kk := ?_)
                      refine v_istore (pc := 176) X (hd := dL_share_176) (kk := ?_)
                      refine v_iinc (pc := 178) X (hd := dL_share_178) (v := nI (Al - flN v j Al S nh - hcN v j (k + 1))) (hv := by rw [dec1 z159, hcN_s r154]; exact congrArg nI (by omega)) (kk := ?_)
                      refine v_iincN (pc := 181) X (hd := dL_share_181) (kk := ?_)
                      refine v_goto (pc := 184) X (tgt := 138) (hd := dL_share_184) (kk := ?_)
                      rw [show miF v j i (Al - flN v j Al S nh) (v (24 + 7 * j + 0) * v (6 + 3 * i + 0) / fSp v j nh) (k + 1) = miF v j i (Al - flN v j Al S nh) (v (24 + 7 * j + 0) * v (6 + 3 * i + 0) / fSp v j nh) k + nI 1 from by show (if _ then _ else _) = _; rw [if_pos ⟨r154, by omega⟩, if_pos k167]] at kk
                      exact kk
            · skip
              refine v_iload (pc := 138) X (hd := dL_share_138) (kk := ?_)
              refine v_aload_n (pc := 140) X (hd := dL_share_140) (kk := ?_)
              refine v_iconst (pc := 141) X (v := nI 1) (hd := dL_share_141) (kk := ?_)
              refine v_ldG (pc := 142) X (x := nI nh) (1) B (hd := dL_share_142) (hi := by first | rfl | (simp only [pk_mul, nI_add]; done)) (hj := by omega) (hx := en) (kk := ?_)
              refine v_icmpge (pc := 143) X (tgt := 187) (hd := dL_share_143) (kt := fun c143 => ?_) (kf := fun c143 => ?_)
              · refine v_iload (pc := 187) X (hd := dL_share_187) (kk := ?_)
                exact v_endp (pc := 189) X hr hlk (hd := dL_share_189) (hf := sh_fin I hi0 r17 hA2 hL)
              · exact absurd (Int32.le_refl _) c143
          · exact absurd (Int32.le_refl _) c78
      · exact absurd (Int32.le_refl _) c33
  · refine v_iconst (pc := 20) X (v := nI 0) (hd := dL_share_20) (kk := ?_)
    exact v_endp (pc := 21) X hr hlk (hd := dL_share_21) (hf := by unfold fShare; exact (if_neg (bt_z (x := v (24 + 7 * j + 3)) (i := i) (Classical.not_not.mp c17))).symm)
set_option maxRecDepth 100000 in
set_option maxHeartbeats 4000000 in
theorem c_L_may (l : Launch) (E : pE) (y : Nat) (v : Nat → Int32) (i j nh nb ns : Nat) : pC l E yL_may cL_may 7 (some .int) { frames := 1, cells := 0, slots := 0, locals := 29 } 0 0 [.ref y, .ref (y + 1), .ref (y + 2), .ref (y + 3), .int (nI i), .int (nI j)] (fun h _ => LA y v h ∧ Iv v nh nb ns ∧ i < nh ∧ j < nb) (pFp ((fMay v nh i j))) := by
  refine pC_of (by decide) (by simp [Value.category]) (Nat.le_of_ble_eq_true rfl) ?_
  intro h z hp p__ e__ s__ m__ args__ below__ meth__ c__ X hr hlk hname
  obtain ⟨B, I, hi0, hj0⟩ := hp
  obtain ⟨hn6, hb4, hs12, en, eb, es⟩ := I.1
  refine v_aload_n (pc := 0) X (hd := dL_may_0) (kk := ?_)
  refine v_aload_n (pc := 1) X (hd := dL_may_1) (kk := ?_)
  refine v_aload_n (pc := 2) X (hd := dL_may_2) (kk := ?_)
  refine v_iload (pc := 3) X (hd := dL_may_3) (kk := ?_)
  refine v_iload (pc := 5) X (hd := dL_may_5) (kk := ?_)
  refine v_callSp (pc := 7) X (hd := dL_may_7) (w := wv_L_9) (hC := c_L_share l E y v i j nh nb ns) (hp := ⟨B, I, hi0, hj0⟩) (kk := ?_)
  refine v_aload_n (pc := 10) X (hd := dL_may_10) (kk := ?_)
  refine v_iconst (pc := 11) X (v := nI 4) (hd := dL_may_11) (kk := ?_)
  refine v_iload (pc := 12) X (hd := dL_may_12) (kk := ?_)
  refine v_imul (pc := 14) X (hd := dL_may_14) (kk := ?_)
  refine v_iload (pc := 15) X (hd := dL_may_15) (kk := ?_)
  refine v_iadd (pc := 17) X (hd := dL_may_17) (kk := ?_)
  refine v_ldC (pc := 18) X (x := v (52 + 4 * i + j)) (4 * i + j) B (hd := dL_may_18) (hi := by first | rfl | (simp only [pk_mul, nI_add]; done)) (hj := by omega) (hx := congrArg _ (by omega)) (kk := ?_)
  refine v_isub (pc := 19) X (hd := dL_may_19) (kk := ?_)
  refine v_istore (pc := 20) X (hd := dL_may_20) (kk := ?_)
  refine v_iload (pc := 22) X (hd := dL_may_22) (kk := ?_)
  refine v_ifle (pc := 24) X (tgt := 32) (hd := dL_may_24) (kt := fun c24 => ?_) (kf := fun c24 => ?_)
  · refine v_iconst (pc := 32) X (v := nI 0) (hd := dL_may_32) (kk := ?_)
    exact v_endp (pc := 33) X hr hlk (hd := dL_may_33) (hf := mx_t c24)
  · refine v_iload (pc := 27) X (hd := dL_may_27) (kk := ?_)
    refine v_goto (pc := 29) X (tgt := 33) (hd := dL_may_29) (kk := ?_)
    exact v_endp (pc := 33) X hr hlk (hd := dL_may_33) (hf := mx_f c24)
set_option maxRecDepth 100000 in
set_option maxHeartbeats 4000000 in
theorem c_L_bears (l : Launch) (E : pE) (y : Nat) (v : Nat → Int32) (j : Nat) : pC l E yL_bears cL_bears 4 (some .int) { frames := 0, cells := 0, slots := 0, locals := 0 } 0 0 [.ref y, .ref (y + 2), .int (nI j)] (fun h _ => LA y v h ∧ j < 4) (pFp ((fBear (v (24 + 7 * j + 1)) (v 4) (v (24 + 7 * j + 2))))) := by
  refine pC_of (by decide) (by simp [Value.category]) (Nat.le_of_ble_eq_true rfl) ?_
  intro h z hp p__ e__ s__ m__ args__ below__ meth__ c__ X hr hlk hname
  obtain ⟨B, hj0⟩ := hp
  refine v_aload_n (pc := 0) X (hd := dL_bears_0) (kk := ?_)
  refine v_bipush (pc := 1) X (v := nI 7) (hd := dL_bears_1) (kk := ?_)
  refine v_iload_n (pc := 3) X (hd := dL_bears_3) (kk := ?_)
  refine v_imul (pc := 4) X (hd := dL_bears_4) (kk := ?_)
  refine v_iconst (pc := 5) X (v := nI 1) (hd := dL_bears_5) (kk := ?_)
  refine v_iadd (pc := 6) X (hd := dL_bears_6) (kk := ?_)
  refine v_ldB (pc := 7) X (x := v (24 + 7 * j + 1)) (7 * j + 1) B (hd := dL_bears_7) (hi := by first | rfl | (simp only [pk_mul, nI_add]; done)) (hj := by omega) (hx := rfl) (kk := ?_)
  refine v_aload_n (pc := 8) X (hd := dL_bears_8) (kk := ?_)
  refine v_bipush (pc := 9) X (v := nI 7) (hd := dL_bears_9) (kk := ?_)
  refine v_iload_n (pc := 11) X (hd := dL_bears_11) (kk := ?_)
  refine v_imul (pc := 12) X (hd := dL_bears_12) (kk := ?_)
  refine v_iconst (pc := 13) X (v := nI 2) (hd := dL_bears_13) (kk := ?_)
  refine v_iadd (pc := 14) X (hd := dL_bears_14) (kk := ?_)
  refine v_ldB (pc := 15) X (x := v (24 + 7 * j + 2)) (7 * j + 2) B (hd := dL_bears_15) (hi := by first | rfl | (simp only [pk_mul, nI_add]; done)) (hj := by omega) (hx := rfl) (kk := ?_)
  refine v_isub (pc := 16) X (hd := dL_bears_16) (kk := ?_)
  refine v_bipush (pc := 17) X (v := nI 40) (hd := dL_bears_17) (kk := ?_)
  refine v_aload_n (pc := 19) X (hd := dL_bears_19) (kk := ?_)
  refine v_iconst (pc := 20) X (v := nI 4) (hd := dL_bears_20) (kk := ?_)
  refine v_ldG (pc := 21) X (x := v 4) (4) B (hd := dL_bears_21) (hi := by first | rfl | (simp only [pk_mul, nI_add]; done)) (hj := by omega) (hx := rfl) (kk := ?_)
  refine v_imul (pc := 22) X (hd := dL_bears_22) (kk := ?_)
  refine v_isub (pc := 23) X (hd := dL_bears_23) (kk := ?_)
  refine v_istore_n (pc := 24) X (hd := dL_bears_24) (kk := ?_)
  refine v_iload_n (pc := 25) X (hd := dL_bears_25) (kk := ?_)
  refine v_ifle (pc := 26) X (tgt := 33) (hd := dL_bears_26) (kt := fun c26 => ?_) (kf := fun c26 => ?_)
  · refine v_iconst (pc := 33) X (v := nI 0) (hd := dL_bears_33) (kk := ?_)
    exact v_endp (pc := 34) X hr hlk (hd := dL_bears_34) (hf := by unfold fBear; rw [sub_c (v (24 + 7 * j + 1)) (v (24 + 7 * j + 2)) (nI 40 * v 4)]; exact mx_t c26)
  · refine v_iload_n (pc := 29) X (hd := dL_bears_29) (kk := ?_)
    refine v_goto (pc := 30) X (tgt := 34) (hd := dL_bears_30) (kk := ?_)
    exact v_endp (pc := 34) X hr hlk (hd := dL_bears_34) (hf := by unfold fBear; rw [sub_c (v (24 + 7 * j + 1)) (v (24 + 7 * j + 2)) (nI 40 * v 4)]; exact mx_f c26)
set_option maxRecDepth 100000 in
set_option maxHeartbeats 4000000 in
theorem c_L_heavy (l : Launch) (E : pE) (y : Nat) (v : Nat → Int32) (k T we : Nat) : pC l E yL_heavy cL_heavy 4 (some .int) { frames := 0, cells := 0, slots := 0, locals := 0 } 0 0 [.ref (y + 4), .int (nI k), .int (nI T)] (fun h _ => LA y v h ∧ k < 12 ∧ v (76 + 5 * k + 3) = nI we ∧ we ≤ 100000 ∧ T ≤ 1000) (pFp ((fLoad (v (76 + 5 * k + 3)) (nI T)))) := by
  refine pC_of (by decide) (by simp [Value.category]) (Nat.le_of_ble_eq_true rfl) ?_
  intro h z hp p__ e__ s__ m__ args__ below__ meth__ c__ X hr hlk hname
  obtain ⟨B, hk, ew, hw, hT⟩ := hp
  refine v_iload_n (pc := 0) X (hd := dL_heavy_0) (kk := ?_)
  refine v_sipush (pc := 1) X (v := nI 1000) (hd := dL_heavy_1) (kk := ?_)
  refine v_aload_n (pc := 4) X (hd := dL_heavy_4) (kk := ?_)
  refine v_iconst (pc := 5) X (v := nI 5) (hd := dL_heavy_5) (kk := ?_)
  refine v_iload_n (pc := 6) X (hd := dL_heavy_6) (kk := ?_)
  refine v_imul (pc := 7) X (hd := dL_heavy_7) (kk := ?_)
  refine v_iconst (pc := 8) X (v := nI 3) (hd := dL_heavy_8) (kk := ?_)
  refine v_iadd (pc := 9) X (hd := dL_heavy_9) (kk := ?_)
  refine v_ldT (pc := 10) X (x := nI we) (5 * k + 3) B (hd := dL_heavy_10) (hi := by first | rfl | (simp only [pk_mul, nI_add]; done)) (hj := by omega) (hx := ew) (kk := ?_)
  refine v_bipush (pc := 11) X (v := nI 100) (hd := dL_heavy_11) (kk := ?_)
  refine v_idivN (pc := 13) X (a := we) (d := 100) (hd := dL_heavy_13) (hx := by first | rfl | (simp only [pk_mul, nI_add]; done)) (hy := by first | rfl | (simp only [pk_mul, nI_add]; done)) (ha := by omega) (h0 := by omega) (hd2 := by omega) (kk := ?_)
  refine v_iadd (pc := 14) X (hd := dL_heavy_14) (kk := ?_)
  refine v_imul (pc := 15) X (hd := dL_heavy_15) (kk := ?_)
  rw [nI_add, pk_mul]
  have hq := ld_n hw hT
  refine v_istore_n (pc := 16) X (hd := dL_heavy_16) (kk := ?_)
  refine v_iload_n (pc := 17) X (hd := dL_heavy_17) (kk := ?_)
  refine v_sipush (pc := 18) X (v := nI 1000) (hd := dL_heavy_18) (kk := ?_)
  refine v_idivN (pc := 21) X (a := T * (1000 + we / 100)) (d := 1000) (hd := dL_heavy_21) (hx := by first | rfl | (simp only [pk_mul, nI_add]; done)) (hy := by first | rfl | (simp only [pk_mul, nI_add]; done)) (ha := by omega) (h0 := by omega) (hd2 := by omega) (kk := ?_)
  refine v_iload_n (pc := 22) X (hd := dL_heavy_22) (kk := ?_)
  refine v_sipush (pc := 23) X (v := nI 1000) (hd := dL_heavy_23) (kk := ?_)
  refine v_iremN (pc := 26) X (a := T * (1000 + we / 100)) (d := 1000) (hd := dL_heavy_26) (hx := by first | rfl | (simp only [pk_mul, nI_add]; done)) (hy := by first | rfl | (simp only [pk_mul, nI_add]; done)) (ha := by omega) (h0 := by omega) (hd2 := by omega) (kk := ?_)
  refine v_ifle (pc := 27) X (tgt := 34) (hd := dL_heavy_27) (kt := fun c27 => ?_) (kf := fun c27 => ?_)
  · refine v_iconst (pc := 34) X (v := nI 0) (hd := dL_heavy_34) (kk := ?_)
    refine v_iadd (pc := 35) X (hd := dL_heavy_35) (kk := ?_)
    exact v_endp (pc := 36) X hr hlk (hd := dL_heavy_36) (hf := by rw [ew, ld_at hw hT, nI_add]; refine congrArg nI ?_; have q := n_le0 (by omega) c27; omega)
  · refine v_iconst (pc := 30) X (v := nI 1) (hd := dL_heavy_30) (kk := ?_)
    refine v_goto (pc := 31) X (tgt := 35) (hd := dL_heavy_31) (kk := ?_)
    refine v_iadd (pc := 35) X (hd := dL_heavy_35) (kk := ?_)
    exact v_endp (pc := 36) X hr hlk (hd := dL_heavy_36) (hf := by rw [ew, ld_at hw hT, nI_add]; refine congrArg nI ?_; have q := n_nle0 (by omega) c27; omega)
set_option maxRecDepth 100000 in
set_option maxHeartbeats 4000000 in
theorem c_L_goes (l : Launch) (E : pE) (y : Nat) (v : Nat → Int32) (k ns : Nat) : pC l E yL_goes cL_goes 4 none { frames := 0, cells := 0, slots := 0, locals := 0 } 0 0 [.ref y, .ref (y + 4), .int (nI k)] (fun h _ => LA y v h ∧ v 3 = nI ns ∧ k < ns ∧ ns ≤ 12) (pFv (fun h h' => LA y (gGo v k ns) h' ∧ pO y (y + 5) h h')) := by
  refine pC_of (by decide) (by simp [Value.category]) (Nat.le_of_ble_eq_true rfl) ?_
  intro h z hp p__ e__ s__ m__ args__ below__ meth__ c__ X hr hlk hname
  obtain ⟨B, es, hk, hs12⟩ := hp
  refine v_iconst (pc := 0) X (v := nI 5) (hd := dL_goes_0) (kk := ?_)
  refine v_iload_n (pc := 1) X (hd := dL_goes_1) (kk := ?_)
  refine v_imul (pc := 2) X (hd := dL_goes_2) (kk := ?_)
  rw [pk_mul]
  refine v_istore_n (pc := 3) X (hd := dL_goes_3) (kk := ?_)
  refine v_for (pc := 4) (M := 5 * (ns - 1 - k)) (Lf := fun i => [some (.ref y), some (.ref (y + 4)), some (.int (nI k)), some (.int (nI (5 * k + i)))]) (I := fun i h1 => LA y (goF v k i) h1 ∧ pO y (y + 5) h h1) (h0 := ⟨B, pO.rf⟩) (hL := by rfl) (step := ?_) (out := ?_)
  · intro i h1 hi hI kk
    refine v_iload_n (pc := 4) X (hd := dL_goes_4) (kk := ?_)
    refine v_iconst (pc := 5) X (v := nI 5) (hd := dL_goes_5) (kk := ?_)
    refine v_aload_n (pc := 6) X (hd := dL_goes_6) (kk := ?_)
    refine v_iconst (pc := 7) X (v := nI 3) (hd := dL_goes_7) (kk := ?_)
    refine v_ldG (pc := 8) X (x := nI ns) (3) hI.1 (hd := dL_goes_8) (hi := by first | rfl | (simp only [pk_mul, nI_add]; done)) (hj := by omega) (hx := (goF_3 v k _).trans es) (kk := ?_)
    refine v_imul (pc := 9) X (hd := dL_goes_9) (kk := ?_)
    refine v_iconst (pc := 10) X (v := nI 5) (hd := dL_goes_10) (kk := ?_)
    refine v_isub (pc := 11) X (hd := dL_goes_11) (kk := ?_)
    rw [pk_mul, pk_sub (by omega)]
    refine v_icmpge (pc := 12) X (tgt := 29) (hd := dL_goes_12) (kt := fun c12 => ?_) (kf := fun c12 => ?_)
    · exact absurd c12 (nI_ge (by omega) (by omega))
    · refine v_aload_n (pc := 15) X (hd := dL_goes_15) (kk := ?_)
      refine v_iload_n (pc := 16) X (hd := dL_goes_16) (kk := ?_)
      refine v_aload_n (pc := 17) X (hd := dL_goes_17) (kk := ?_)
      refine v_iload_n (pc := 18) X (hd := dL_goes_18) (kk := ?_)
      refine v_iconst (pc := 19) X (v := nI 5) (hd := dL_goes_19) (kk := ?_)
      refine v_iadd (pc := 20) X (hd := dL_goes_20) (kk := ?_)
      refine v_ldT (pc := 21) X (x := goF v k i (76 + 5 * k + i + 5)) (5 * k + i + 5) hI.1 (hd := dL_goes_21) (hi := by first | rfl | (simp only [pk_mul, nI_add]; done)) (hj := by omega) (hx := by rw [show 76 + (5 * k + i + 5) = 76 + 5 * k + i + 5 by omega]) (kk := ?_)
      refine v_staT (pc := 22) X (5 * k + i) hI.1 (hd := dL_goes_22) (hi := rfl) (hj := by omega) (kk := fun h2 v2 e2 B2 O2 => ?_)
      refine v_iincN (pc := 23) X (hd := dL_goes_23) (kk := ?_)
      refine v_goto (pc := 26) X (tgt := 4) (hd := dL_goes_26) (kk := ?_)
      exact kk h2 ⟨B2.cg (fun q hq => by rw [e2, show 76 + (5 * k + i) = 76 + 5 * k + i by omega]; rfl), hI.2.tr O2⟩
  · intro h1 hI
    refine v_iload_n (pc := 4) X (hd := dL_goes_4) (kk := ?_)
    refine v_iconst (pc := 5) X (v := nI 5) (hd := dL_goes_5) (kk := ?_)
    refine v_aload_n (pc := 6) X (hd := dL_goes_6) (kk := ?_)
    refine v_iconst (pc := 7) X (v := nI 3) (hd := dL_goes_7) (kk := ?_)
    refine v_ldG (pc := 8) X (x := nI ns) (3) hI.1 (hd := dL_goes_8) (hi := by first | rfl | (simp only [pk_mul, nI_add]; done)) (hj := by omega) (hx := (goF_3 v k _).trans es) (kk := ?_)
    refine v_imul (pc := 9) X (hd := dL_goes_9) (kk := ?_)
    refine v_iconst (pc := 10) X (v := nI 5) (hd := dL_goes_10) (kk := ?_)
    refine v_isub (pc := 11) X (hd := dL_goes_11) (kk := ?_)
    rw [pk_mul, pk_sub (by omega)]
    refine v_icmpge (pc := 12) X (tgt := 29) (hd := dL_goes_12) (kt := fun c12 => ?_) (kf := fun c12 => ?_)
    · refine v_aload_n (pc := 29) X (hd := dL_goes_29) (kk := ?_)
      refine v_iconst (pc := 30) X (v := nI 3) (hd := dL_goes_30) (kk := ?_)
      refine v_dup2 (pc := 31) X (hd := dL_goes_31) (kk := ?_)
      refine v_ldG (pc := 32) X (x := nI ns) (3) hI.1 (hd := dL_goes_32) (hi := by first | rfl | (simp only [pk_mul, nI_add]; done)) (hj := by omega) (hx := (goF_3 v k _).trans es) (kk := ?_)
      refine v_iconst (pc := 33) X (v := nI 1) (hd := dL_goes_33) (kk := ?_)
      refine v_isub (pc := 34) X (hd := dL_goes_34) (kk := ?_)
      refine v_staG (pc := 35) X 3 hI.1 (hd := dL_goes_35) (hi := rfl) (hj := by omega) (kk := fun h3 v3 e3 B3 O3 => ?_)
      exact v_endv (pc := 36) X hr hlk (hd := dL_goes_36) (hf := ⟨B3.cg (fun q hq => goes_fin es e3 q), hI.2.tr O3⟩)
    · exact absurd ((nI_leI (by omega) (by omega)).mpr (by omega)) c12
set_option maxRecDepth 100000 in
set_option maxHeartbeats 4000000 in
theorem c_L_then (l : Launch) (E : pE) (we tn wi : Nat) (ra : Int32) : pC l E yL_then cL_then 5 (some .int) { frames := 0, cells := 0, slots := 0, locals := 0 } 0 0 [.int (nI we), .int (nI tn), .int (nI wi), .int ra] (fun h _ => we ≤ 100000 ∧ tn ≤ 3 ∧ wi ≤ 9) (pFp ((fDried (nI we) (nI tn) (nI wi) ra))) := by
  refine pC_of (by decide) (by simp [Value.category]) (Nat.le_of_ble_eq_true rfl) ?_
  intro h z hp p__ e__ s__ m__ args__ below__ meth__ c__ X hr hlk hname
  refine v_iload_n (pc := 0) X (hd := dL_then_0) (kk := ?_)
  refine v_iload_n (pc := 1) X (hd := dL_then_1) (kk := ?_)
  refine v_iload_n (pc := 2) X (hd := dL_then_2) (kk := ?_)
  refine v_imul (pc := 3) X (hd := dL_then_3) (kk := ?_)
  refine v_iload_n (pc := 4) X (hd := dL_then_4) (kk := ?_)
  refine v_iconst (pc := 5) X (v := nI 1) (hd := dL_then_5) (kk := ?_)
  refine v_iadd (pc := 6) X (hd := dL_then_6) (kk := ?_)
  refine v_imul (pc := 7) X (hd := dL_then_7) (kk := ?_)
  refine v_bipush (pc := 8) X (v := nI 63) (hd := dL_then_8) (kk := ?_)
  refine v_iadd (pc := 10) X (hd := dL_then_10) (kk := ?_)
  refine v_bipush (pc := 11) X (v := nI 64) (hd := dL_then_11) (kk := ?_)
  refine v_idivN (pc := 13) X (a := (we * wi) * (tn + 1) + 63) (d := 64) (hd := dL_then_13) (hx := by first | rfl | (simp only [pk_mul, nI_add]; done)) (hy := by first | rfl | (simp only [pk_mul, nI_add]; done)) (ha := by have := th_x hp.1 hp.2.1 hp.2.2; omega) (h0 := by omega) (hd2 := by omega) (kk := ?_)
  refine v_isub (pc := 14) X (hd := dL_then_14) (kk := ?_)
  rw [th_n hp.1 hp.2.1 hp.2.2]
  refine v_sipush (pc := 15) X (v := nI 1500) (hd := dL_then_15) (kk := ?_)
  refine v_iload_n (pc := 18) X (hd := dL_then_18) (kk := ?_)
  refine v_imul (pc := 19) X (hd := dL_then_19) (kk := ?_)
  refine v_iadd (pc := 20) X (hd := dL_then_20) (kk := ?_)
  refine v_istore (pc := 21) X (hd := dL_then_21) (kk := ?_)
  refine v_iload (pc := 23) X (hd := dL_then_23) (kk := ?_)
  refine v_ldc (v := nI 100000) (pc := 25) X (hw := wq_L_15) (hd := dL_then_25) (kk := ?_)
  refine v_icmpge (pc := 27) X (tgt := 35) (hd := dL_then_27) (kt := fun c27 => ?_) (kf := fun c27 => ?_)
  · refine v_ldc (v := nI 100000) (pc := 35) X (hw := wq_L_15) (hd := dL_then_35) (kk := ?_)
    exact v_endp (pc := 37) X hr hlk (hd := dL_then_37) (hf := by rw [fDried_of ra hp.1 hp.2.1 hp.2.2]; exact th_f.1 c27)
  · refine v_iload (pc := 30) X (hd := dL_then_30) (kk := ?_)
    refine v_goto (pc := 32) X (tgt := 37) (hd := dL_then_32) (kk := ?_)
    exact v_endp (pc := 37) X hr hlk (hd := dL_then_37) (hf := by rw [fDried_of ra hp.1 hp.2.1 hp.2.2]; exact th_f.2 c27)
set_option maxRecDepth 100000 in
set_option maxHeartbeats 4000000 in
theorem c_L_dry (l : Launch) (E : pE) (y : Nat) (v : Nat → Int32) (ns : Nat) : pC l E yL_dry cL_dry 4 (some .int) { frames := 0, cells := 0, slots := 0, locals := 0 } 0 0 [.ref y, .ref (y + 4)] (fun h _ => LA y v h ∧ v 3 = nI ns ∧ ns ≤ 12) (pFp ((fDryN v ns))) := by
  refine pC_of (by decide) (by simp [Value.category]) (Nat.le_of_ble_eq_true rfl) ?_
  intro h z hp p__ e__ s__ m__ args__ below__ meth__ c__ X hr hlk hname
  obtain ⟨B, es, hs12⟩ := hp
  refine v_iconst (pc := 0) X (v := nI 0) (hd := dL_dry_0) (kk := ?_)
  refine v_istore_n (pc := 1) X (hd := dL_dry_1) (kk := ?_)
  refine v_iconst (pc := 2) X (v := nI 0) (hd := dL_dry_2) (kk := ?_)
  refine v_istore_n (pc := 3) X (hd := dL_dry_3) (kk := ?_)
  refine v_forp (pc := 4) (M := ns) (Lf := fun k => [some (.ref y), some (.ref (y + 4)), some (.int (fDryN v k)), some (.int (nI k))]) (hL := by rfl) (step := ?_) (out := ?_)
  · intro k hk kk
    refine v_iload_n (pc := 4) X (hd := dL_dry_4) (kk := ?_)
    refine v_aload_n (pc := 5) X (hd := dL_dry_5) (kk := ?_)
    refine v_iconst (pc := 6) X (v := nI 3) (hd := dL_dry_6) (kk := ?_)
    refine v_ldG (pc := 7) X (x := nI ns) (3) B (hd := dL_dry_7) (hi := by first | rfl | (simp only [pk_mul, nI_add]; done)) (hj := by omega) (hx := es) (kk := ?_)
    refine v_icmpge (pc := 8) X (tgt := 38) (hd := dL_dry_8) (kt := fun c8 => ?_) (kf := fun c8 => ?_)
    · exact absurd c8 (nI_ge hk (by omega))
    · refine v_iload_n (pc := 11) X (hd := dL_dry_11) (kk := ?_)
      refine v_aload_n (pc := 12) X (hd := dL_dry_12) (kk := ?_)
      refine v_iconst (pc := 13) X (v := nI 5) (hd := dL_dry_13) (kk := ?_)
      refine v_iload_n (pc := 14) X (hd := dL_dry_14) (kk := ?_)
      refine v_imul (pc := 15) X (hd := dL_dry_15) (kk := ?_)
      refine v_iconst (pc := 16) X (v := nI 3) (hd := dL_dry_16) (kk := ?_)
      refine v_iadd (pc := 17) X (hd := dL_dry_17) (kk := ?_)
      refine v_ldT (pc := 18) X (x := v (76 + 5 * k + 3)) (5 * k + 3) B (hd := dL_dry_18) (hi := by first | rfl | (simp only [pk_mul, nI_add]; done)) (hj := by omega) (hx := rfl) (kk := ?_)
      refine v_sipush (pc := 19) X (v := nI 30000) (hd := dL_dry_19) (kk := ?_)
      refine v_icmple (pc := 22) X (tgt := 29) (hd := dL_dry_22) (kt := fun c22 => ?_) (kf := fun c22 => ?_)
      · refine v_iconst (pc := 29) X (v := nI 1) (hd := dL_dry_29) (kk := ?_)
        refine v_iadd (pc := 30) X (hd := dL_dry_30) (kk := ?_)
        refine v_istore_n (pc := 31) X (hd := dL_dry_31) (kk := ?_)
        refine v_iincN (pc := 32) X (hd := dL_dry_32) (kk := ?_)
        refine v_goto (pc := 35) X (tgt := 4) (hd := dL_dry_35) (kk := ?_)
        rw [(dn_step v k).1 c22] at kk
        exact kk
      · refine v_iconst (pc := 25) X (v := nI 0) (hd := dL_dry_25) (kk := ?_)
        refine v_goto (pc := 26) X (tgt := 30) (hd := dL_dry_26) (kk := ?_)
        refine v_iadd (pc := 30) X (hd := dL_dry_30) (kk := ?_)
        refine v_istore_n (pc := 31) X (hd := dL_dry_31) (kk := ?_)
        refine v_iincN (pc := 32) X (hd := dL_dry_32) (kk := ?_)
        refine v_goto (pc := 35) X (tgt := 4) (hd := dL_dry_35) (kk := ?_)
        rw [(dn_step v k).2 c22] at kk
        exact kk
  · skip
    refine v_iload_n (pc := 4) X (hd := dL_dry_4) (kk := ?_)
    refine v_aload_n (pc := 5) X (hd := dL_dry_5) (kk := ?_)
    refine v_iconst (pc := 6) X (v := nI 3) (hd := dL_dry_6) (kk := ?_)
    refine v_ldG (pc := 7) X (x := nI ns) (3) B (hd := dL_dry_7) (hi := by first | rfl | (simp only [pk_mul, nI_add]; done)) (hj := by omega) (hx := es) (kk := ?_)
    refine v_icmpge (pc := 8) X (tgt := 38) (hd := dL_dry_8) (kt := fun c8 => ?_) (kf := fun c8 => ?_)
    · refine v_iload_n (pc := 38) X (hd := dL_dry_38) (kk := ?_)
      exact v_endp (pc := 39) X hr hlk (hd := dL_dry_39) (hf := rfl)
    · exact absurd (Int32.le_refl _) c8
