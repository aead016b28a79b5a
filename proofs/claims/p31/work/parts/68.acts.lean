/-! acts: one of the law's steps -/
section ACE
variable {w v1 v2 v3 v4 v5 v6 v7 v8 : Nat → Int32} {nh nb ns i j : Nat} {c d t : Int32}
theorem eq_come (hn : nh < 6) (en : w 1 = nI nh) (e1 : ∀ q, v1 q = if q = 6 + (3 * nh) then c else w q) (e2 : ∀ q, v2 q = if q = 6 + (3 * nh + 1) then nI 0 else v1 q) (e3 : ∀ q, v3 q = if q = 6 + (3 * nh + 2) then nI 0 else v2 q) (e4 : ∀ q, v4 q = zc v3 nh 4 q) (e5 : ∀ q, v5 q = if q = 0 + 1 then nI nh + nI 1 else v4 q) (q : Nat) : v5 q = gCome w c nh q := by
  have h3 : upd (upd (upd w (6 + 3 * nh) c) (6 + 3 * nh + 1) (nI 0)) (6 + 3 * nh + 2) (nI 0) = v3 := by
    funext q
    rw [e3]
    by_cases a : q = 6 + 3 * nh + 2
    · rw [if_pos (by omega), a, pk_us]
    · rw [if_neg (by omega), pk_un a, e2]
      by_cases b : q = 6 + 3 * nh + 1
      · rw [if_pos (by omega), b, pk_us]
      · rw [if_neg (by omega), pk_un b, e1]
        rfl
  unfold gCome
  rw [h3, e5, upd_at]
  by_cases a : q = 1
  · rw [if_pos (by omega), if_pos a, zc_at, if_neg (by omega), e3, if_neg (by omega), e2, if_neg (by omega), e1, if_neg (by omega), en]
  · rw [if_neg (by omega), if_neg a, e4]
theorem eq_add (hn : nb < 4) (eb : w 2 = nI nb) (e4 : ∀ q, v4 q = abF w c d nb 7 q) (e5 : ∀ q, v5 q = if q = 0 + 2 then nI nb + nI 1 else v4 q) (q : Nat) : v5 q = gAdd w c d nb q := by
  unfold gAdd
  rw [e5, upd_at]
  by_cases a : q = 2
  · rw [if_pos (by omega), if_pos a, abF_at, if_neg (by omega), eb]
  · rw [if_neg (by omega), if_neg a, e4]
theorem eq_cut {bb ns : Nat} (hi : i < 6) (hb : bb < 4) (hs : ns < 12) (es : w 3 = nI ns) (e1 : ∀ q, v1 q = if q = 76 + (5 * ns) then nI i else w q) (e2 : ∀ q, v2 q = if q = 76 + (5 * ns + 1) then nI bb else v1 q) (e3 : ∀ q, v3 q = if q = 76 + (5 * ns + 2) then t else v2 q) (e4 : ∀ q, v4 q = if q = 76 + (5 * ns + 3) then nI 100000 else v3 q) (e5 : ∀ q, v5 q = if q = 76 + (5 * ns + 4) then nI 0 else v4 q) (e6 : ∀ q, v6 q = if q = 0 + 3 then nI ns + nI 1 else v5 q) (e7 : ∀ q, v7 q = if q = 52 + (4 * i + bb) then w (52 + 4 * i + bb) + t else v6 q) (e8 : ∀ q, v8 q = if q = 24 + (7 * bb + 4) then w (24 + 7 * bb + 4) + t else v7 q) (q : Nat) : v8 q = gCut w ns (nI i) (nI bb) t q := by
  rw [gCut_at hi hb hs, es, e8]
  by_cases a8 : q = 24 + 7 * bb + 4
  · rw [if_pos (by omega), if_neg (by omega), if_neg (by omega), if_neg (by omega), if_neg (by omega), if_neg (by omega), if_neg (by omega), if_pos a8]
  · rw [if_neg (by omega), e7]
    by_cases a7 : q = 52 + 4 * i + bb
    · rw [if_pos (by omega), if_neg (by omega), if_neg (by omega), if_neg (by omega), if_neg (by omega), if_neg (by omega), if_neg (by omega), if_neg a8, if_pos a7]
    · rw [if_neg (by omega), if_neg a8, if_neg a7, e6]
      by_cases a6 : q = 3
      · rw [if_pos (by omega), if_pos a6]
      · rw [if_neg (by omega), if_neg a6, e5]
        by_cases a5 : q = 76 + 5 * ns + 4
        · rw [if_pos (by omega), if_pos a5]
        · rw [if_neg (by omega), if_neg a5, e4]
          by_cases a4 : q = 76 + 5 * ns + 3
          · rw [if_pos (by omega), if_pos a4]
          · rw [if_neg (by omega), if_neg a4, e3]
            by_cases a3 : q = 76 + 5 * ns + 2
            · rw [if_pos (by omega), if_pos a3]
            · rw [if_neg (by omega), if_neg a3, e2]
              by_cases a2 : q = 76 + 5 * ns + 1
              · rw [if_pos (by omega), if_pos a2]
              · rw [if_neg (by omega), if_neg a2, e1]
theorem eq_end (I : Iv w nh nb ns) (e2 : ∀ q, v2 q = zrF (eyF w ns) 24 q) (e3 : ∀ q, v3 q = if q = 0 + 0 then w 0 + nI 1 else v2 q) (e4 : ∀ q, v4 q = if q = 0 + 3 then nI 0 else v3 q) (e5 : ∀ q, v5 q = if q = 0 + 4 then nI 0 else v4 q) (q : Nat) : v5 q = gEnd w ns q := by
  rw [gEnd_at I, e5]
  by_cases a4 : q = 4
  · rw [if_pos (by omega), if_neg (by omega), if_pos a4]
  · rw [if_neg (by omega), if_neg a4, e4]
    by_cases a3 : q = 3
    · rw [if_pos (by omega), if_neg (by omega), if_neg (by omega), if_pos a3]
    · rw [if_neg (by omega), if_neg a3, e3]
      by_cases a0 : q = 0
      · rw [if_pos (by omega), if_pos a0]
      · rw [if_neg (by omega), if_neg a0, e2, zrF_at]
theorem eq_day (hs : ns ≤ 12) {wi ra : Int32} (e2 : ∀ q, v2 q = dyF w wi ra ns q) (e3 : ∀ q, v3 q = if q = 0 + 4 then ra else v2 q) (e4 : ∀ q, v4 q = if q = 0 + 5 then w 5 + nI 1 else v3 q) (q : Nat) : v4 q = gDay w wi ra ns q := by
  unfold gDay
  rw [e4, upd_at]
  by_cases a5 : q = 5
  · rw [if_pos (by omega), if_pos a5, pk_un (by omega), dyF_o _ _ _ _ _ (fun k => by omega)]
  · rw [if_neg (by omega), if_neg a5, e3, upd_at]
    by_cases a4 : q = 4
    · rw [if_pos (by omega), if_pos a4]
    · rw [if_neg (by omega), if_neg a4, e2]
theorem gEnd_0 (I : Iv w nh nb ns) : gEnd w ns 0 = w 0 + nI 1 := by rw [gEnd_at I, if_pos rfl]
theorem may_n (I : Iv w nh nb ns) (hi : i < nh) (hj : j < nb) : ∃ M, M ≤ 45001 ∧ fMay w nh i j = nI M := by
  obtain ⟨S, s1, s2⟩ := I.share hi hj
  obtain ⟨⟨c, -, c2, c3⟩, -⟩ := I.2.2.2.2.2.2.2.1 i j (by have := I.1.1; omega) (by have := I.1.2.1; omega)
  unfold fMay
  rw [s2, c3]
  rcases Nat.lt_or_ge S c with q | q
  · rw [if_pos ?_]
    · exact ⟨0, by omega, rfl⟩
    · have e : (nI S - nI c).toInt = (S : Int) - c := by
        rw [Int32.toInt_sub, nI_toInt (by omega), nI_toInt (by omega)]
        simp only [Int.bmod_def]
        omega
      rw [n_lt, e, Int32.toInt_zero]
      omega
  · rw [pk_sub q, if_neg (n_nn (by omega))]
    exact ⟨S - c, by omega, rfl⟩
end ACE
abbrev rmAC : Room := { frames := 6, cells := 0, slots := 0, locals := 143 }
set_option maxRecDepth 100000 in
set_option maxHeartbeats 4000000 in
theorem ac_come {p__ : Program} {l : Launch} {e__ : Env} {s__ : State} {m__ : MethodId} {args__ : Array Value} {below__ : List Frame} {meth__ : Method} {c__ : Code} {E : pE} {h0 h : pH} {z x y n nh nb ns vv way : Nat} {w : Nat → Int32} {zz : Int32} (X : pCx p__ s__ m__ args__ c__ cL_acts 14 RL E (pA h0 z)) (hr : meth__.sig.returnType = some .boolean) (hlk : meth__.locks = false) (B : LB x y w w h) (I : Iv w nh nb ns) (W : W2 w nh ns) (Y : isN (w 0) 0 n) (hn9 : n ≤ 900) (hvv : vv < 10000000) : pV p__ l e__ rmAC s__ m__ args__ below__ meth__ c__ 14 E (pA h0 z) (MQ below__ (pQ E (pFi (fun h r h' => r = nI 1 ∧ LV x y (n + 1) h')) h0 z) args__ s__ 0 0 (pA h0 z)) z h 0 0 31 [some (.ref x), some (.ref y), some (.ref (y + 1)), some (.ref (y + 2)), some (.ref (y + 3)), some (.ref (y + 4)), some (.int zz), some (.int (nI vv)), some (.int (nI way)), none, none, none, none, none] [] := by
  obtain ⟨hn6, hb4, hs12, en, eb, es⟩ := I.1
  refine v_aload_n (pc := 31) X (hd := dL_acts_31) (kk := ?_)
  refine v_iconst (pc := 32) X (v := nI 1) (hd := dL_acts_32) (kk := ?_)
  refine v_ldG (pc := 33) X (x := nI nh) (1) B.2.1 (hd := dL_acts_33) (hi := by first | rfl | (simp only [pk_mul, nI_add]; done)) (hj := by omega) (hx := en) (kk := ?_)
  refine v_bipush (pc := 34) X (v := nI 6) (hd := dL_acts_34) (kk := ?_)
  refine v_icmpne (pc := 36) X (tgt := 65) (hd := dL_acts_36) (kt := fun c36 => ?_) (kf := fun c36 => ?_)
  · have hn : nh < 6 := by
      have : nh ≠ 6 := fun q => c36 (by rw [q])
      omega
    refine v_aload_n (pc := 65) X (hd := dL_acts_65) (kk := ?_)
    refine v_iconst (pc := 66) X (v := nI 3) (hd := dL_acts_66) (kk := ?_)
    refine v_aload_n (pc := 67) X (hd := dL_acts_67) (kk := ?_)
    refine v_iconst (pc := 68) X (v := nI 1) (hd := dL_acts_68) (kk := ?_)
    refine v_ldG (pc := 69) X (x := nI nh) (1) B.2.1 (hd := dL_acts_69) (hi := by first | rfl | (simp only [pk_mul, nI_add]; done)) (hj := by omega) (hx := en) (kk := ?_)
    refine v_imul (pc := 70) X (hd := dL_acts_70) (kk := ?_)
    refine v_iconst (pc := 71) X (v := nI 1) (hd := dL_acts_71) (kk := ?_)
    refine v_iload (pc := 72) X (hd := dL_acts_72) (kk := ?_)
    refine v_bipush (pc := 74) X (v := nI 9) (hd := dL_acts_74) (kk := ?_)
    refine v_iremN (pc := 76) X (a := vv) (d := 9) (hd := dL_acts_76) (hx := by first | rfl | (simp only [pk_mul, nI_add]; done)) (hy := by first | rfl | (simp only [pk_mul, nI_add]; done)) (ha := by omega) (h0 := by omega) (hd2 := by omega) (kk := ?_)
    refine v_iadd (pc := 77) X (hd := dL_acts_77) (kk := ?_)
    rw [nI_add]
    refine v_stH (pc := 78) X (3 * nh) B (hd := dL_acts_78) (hi := by simp only [pk_mul]; done) (hj := by omega) (kk := fun h_1 v_1 e_1 B_1 => ?_)
    refine v_aload_n (pc := 79) X (hd := dL_acts_79) (kk := ?_)
    refine v_iconst (pc := 80) X (v := nI 3) (hd := dL_acts_80) (kk := ?_)
    refine v_aload_n (pc := 81) X (hd := dL_acts_81) (kk := ?_)
    refine v_iconst (pc := 82) X (v := nI 1) (hd := dL_acts_82) (kk := ?_)
    refine v_ldG (pc := 83) X (x := nI nh) (1) B_1.2.1 (hd := dL_acts_83) (hi := by first | rfl | (simp only [pk_mul, nI_add]; done)) (hj := by omega) (hx := by rw [e_1, if_neg (by omega)]; exact en) (kk := ?_)
    refine v_imul (pc := 84) X (hd := dL_acts_84) (kk := ?_)
    refine v_iconst (pc := 85) X (v := nI 1) (hd := dL_acts_85) (kk := ?_)
    refine v_iadd (pc := 86) X (hd := dL_acts_86) (kk := ?_)
    refine v_iconst (pc := 87) X (v := nI 0) (hd := dL_acts_87) (kk := ?_)
    refine v_stH (pc := 88) X (3 * nh + 1) B_1 (hd := dL_acts_88) (hi := by first | rfl | (simp only [pk_mul, nI_add]; done)) (hj := by omega) (kk := fun h_2 v_2 e_2 B_2 => ?_)
    refine v_aload_n (pc := 89) X (hd := dL_acts_89) (kk := ?_)
    refine v_iconst (pc := 90) X (v := nI 3) (hd := dL_acts_90) (kk := ?_)
    refine v_aload_n (pc := 91) X (hd := dL_acts_91) (kk := ?_)
    refine v_iconst (pc := 92) X (v := nI 1) (hd := dL_acts_92) (kk := ?_)
    refine v_ldG (pc := 93) X (x := nI nh) (1) B_2.2.1 (hd := dL_acts_93) (hi := by first | rfl | (simp only [pk_mul, nI_add]; done)) (hj := by omega) (hx := by rw [e_2, if_neg (by omega), e_1, if_neg (by omega)]; exact en) (kk := ?_)
    refine v_imul (pc := 94) X (hd := dL_acts_94) (kk := ?_)
    refine v_iconst (pc := 95) X (v := nI 2) (hd := dL_acts_95) (kk := ?_)
    refine v_iadd (pc := 96) X (hd := dL_acts_96) (kk := ?_)
    refine v_iconst (pc := 97) X (v := nI 0) (hd := dL_acts_97) (kk := ?_)
    refine v_stH (pc := 98) X (3 * nh + 2) B_2 (hd := dL_acts_98) (hi := by first | rfl | (simp only [pk_mul, nI_add]; done)) (hj := by omega) (kk := fun h_3 v_3 e_3 B_3 => ?_)
    refine v_iconst (pc := 99) X (v := nI 0) (hd := dL_acts_99) (kk := ?_)
    refine v_istore (pc := 100) X (hd := dL_acts_100) (kk := ?_)
    refine v_for (pc := 102) (M := 4) (Lf := fun i => [some (.ref x), some (.ref y), some (.ref (y + 1)), some (.ref (y + 2)), some (.ref (y + 3)), some (.ref (y + 4)), some (.int zz), some (.int (nI vv)), some (.int (nI way)), some (.int (nI (i))), none, none, none, none]) (I := fun i h1 => ∃ v9, LB x y w v9 h1 ∧ ∀ q, v9 q = zc v_3 nh i q) (h0 := ⟨v_3, B_3, fun q => rfl⟩) (hL := by rfl) (step := ?_) (out := ?_)
    · intro i h1 hi hI kk
      obtain ⟨v9, B9, e9⟩ := hI
      refine v_iload (pc := 102) X (hd := dL_acts_102) (kk := ?_)
      refine v_iconst (pc := 104) X (v := nI 4) (hd := dL_acts_104) (kk := ?_)
      refine v_icmpge (pc := 105) X (tgt := 126) (hd := dL_acts_105) (kt := fun c105 => ?_) (kf := fun c105 => ?_)
      · exact absurd c105 (nI_ge hi (by omega))
      · refine v_aload (pc := 108) X (hd := dL_acts_108) (kk := ?_)
        refine v_iconst (pc := 110) X (v := nI 4) (hd := dL_acts_110) (kk := ?_)
        refine v_aload_n (pc := 111) X (hd := dL_acts_111) (kk := ?_)
        refine v_iconst (pc := 112) X (v := nI 1) (hd := dL_acts_112) (kk := ?_)
        refine v_ldG (pc := 113) X (x := nI nh) (1) B9.2.1 (hd := dL_acts_113) (hi := by first | rfl | (simp only [pk_mul, nI_add]; done)) (hj := by omega) (hx := by rw [e9, zc_at, if_neg (by omega), e_3, if_neg (by omega), e_2, if_neg (by omega), e_1, if_neg (by omega)]; exact en) (kk := ?_)
        refine v_imul (pc := 114) X (hd := dL_acts_114) (kk := ?_)
        refine v_iload (pc := 115) X (hd := dL_acts_115) (kk := ?_)
        refine v_iadd (pc := 117) X (hd := dL_acts_117) (kk := ?_)
        refine v_iconst (pc := 118) X (v := nI 0) (hd := dL_acts_118) (kk := ?_)
        refine v_stC (pc := 119) X (4 * nh + i) B9 (hd := dL_acts_119) (hi := by first | rfl | (simp only [pk_mul, nI_add]; done)) (hj := by omega) (kk := fun h_4 v_4 e_4 B_4 => ?_)
        refine v_iincN (pc := 120) X (hd := dL_acts_120) (kk := ?_)
        refine v_goto (pc := 123) X (tgt := 102) (hd := dL_acts_123) (kk := ?_)
        exact kk h_4 ⟨v_4, B_4, fun q => by rw [e_4, e9 q, show 52 + (4 * nh + i) = 52 + 4 * nh + i by omega]; rfl⟩
    · intro h1 hI
      obtain ⟨v9, B9, e9⟩ := hI
      refine v_iload (pc := 102) X (hd := dL_acts_102) (kk := ?_)
      refine v_iconst (pc := 104) X (v := nI 4) (hd := dL_acts_104) (kk := ?_)
      refine v_icmpge (pc := 105) X (tgt := 126) (hd := dL_acts_105) (kt := fun c105 => ?_) (kf := fun c105 => ?_)
      · refine v_aload_n (pc := 126) X (hd := dL_acts_126) (kk := ?_)
        refine v_iconst (pc := 127) X (v := nI 1) (hd := dL_acts_127) (kk := ?_)
        refine v_dup2 (pc := 128) X (hd := dL_acts_128) (kk := ?_)
        refine v_ldG (pc := 129) X (x := nI nh) (1) B9.2.1 (hd := dL_acts_129) (hi := by first | rfl | (simp only [pk_mul, nI_add]; done)) (hj := by omega) (hx := by rw [e9, zc_at, if_neg (by omega), e_3, if_neg (by omega), e_2, if_neg (by omega), e_1, if_neg (by omega)]; exact en) (kk := ?_)
        refine v_iconst (pc := 130) X (v := nI 1) (hd := dL_acts_130) (kk := ?_)
        refine v_iadd (pc := 131) X (hd := dL_acts_131) (kk := ?_)
        refine v_stG (pc := 132) X (1) B9 (hd := dL_acts_132) (hi := by first | rfl | (simp only [pk_mul, nI_add]; done)) (hj := by omega) (kk := fun h_5 v_5 e_5 B_5 => ?_)
        refine v_aload_n (pc := 133) X (hd := dL_acts_133) (kk := ?_)
        refine v_iconst (pc := 134) X (v := nI 1) (hd := dL_acts_134) (kk := ?_)
        refine v_iload (pc := 135) X (hd := dL_acts_135) (kk := ?_)
        refine v_bipush (pc := 137) X (v := nI 9) (hd := dL_acts_137) (kk := ?_)
        refine v_iremN (pc := 139) X (a := vv) (d := 9) (hd := dL_acts_139) (hx := by first | rfl | (simp only [pk_mul, nI_add]; done)) (hy := by first | rfl | (simp only [pk_mul, nI_add]; done)) (ha := by omega) (h0 := by omega) (hd2 := by omega) (kk := ?_)
        refine v_iadd (pc := 140) X (hd := dL_acts_140) (kk := ?_)
        rw [nI_add 1]
        have k1 : kCome w (nI (1 + vv % 9)) := ⟨gI_in (by omega) (by omega) (by omega), by rw [en]; exact fun q => by have := (nI_eq (by omega) (by omega)).mp q; omega⟩
        refine v_act (pc := 141) X B_5 I (hd := dL_acts_141) (wv := wv_L_45) (hC := fun pa te nu np st en => c_X6_come l E x w pa np 0 te st en nu (nI (1 + vv % 9)) nh nb ns) (S := fun k0 => ⟨_, _, _, iCome I k0⟩) (hhi := fun k0 => hiCome I k0) (kk := fun h_6 D0_6 D1_6 => ?_)
        have B_6 := D1_6 (k1)
        refine v_topv (y := nI nh) (hx := by unfold rCome; rw [if_pos k1.1, if_neg k1.2, en]) (kk := ?_)
        refine v_aload_n (pc := 144) X (hd := dL_acts_144) (kk := ?_)
        refine v_iconst (pc := 145) X (v := nI 1) (hd := dL_acts_145) (kk := ?_)
        refine v_ldG (pc := 146) X (x := nI nh + nI 1) (1) B_6.2.1 (hd := dL_acts_146) (hi := by first | rfl | (simp only [pk_mul, nI_add]; done)) (hj := by omega) (hx := by rw [e_5, if_pos (by omega)]) (kk := ?_)
        refine v_iconst (pc := 147) X (v := nI 1) (hd := dL_acts_147) (kk := ?_)
        refine v_isub (pc := 148) X (hd := dL_acts_148) (kk := ?_)
        refine v_icmpne (pc := 149) X (tgt := 156) (hd := dL_acts_149) (kt := fun c149 => ?_) (kf := fun c149 => ?_)
        · exact absurd (by rw [nI_add, pk_sub (by omega)]; exact congrArg nI (by omega)) c149
        · refine v_iconst (pc := 152) X (v := nI 1) (hd := dL_acts_152) (kk := ?_)
          refine v_goto (pc := 153) X (tgt := 157) (hd := dL_acts_153) (kk := ?_)
          exact v_endbi (pc := 157) X hr hlk (hd := dL_acts_157) (hn := by rw [nI_t]; rfl) (hf := ⟨rfl, LV.fin B_6 (fun q => eq_come hn en e_1 e_2 e_3 e9 e_5 q) (iCome I k1) (w2Come I W hn) (by rw [gCome_eq I _ hn, pk_un (by omega), pk_un (by omega)]; exact Y.mono (by omega))⟩)
      · exact absurd (Int32.le_refl _) c105
  · have h6 : w 1 = nI 6 := en.trans (Classical.not_not.mp c36)
    refine v_aload_n (pc := 39) X (hd := dL_acts_39) (kk := ?_)
    refine v_iconst (pc := 40) X (v := nI 1) (hd := dL_acts_40) (kk := ?_)
    refine v_act (pc := 41) X B I (hd := dL_acts_41) (wv := wv_L_45) (hC := fun pa te nu np st en => c_X6_come l E x w pa np 0 te st en nu (nI 1) nh nb ns) (S := fun k0 => ⟨_, _, _, iCome I k0⟩) (hhi := fun k0 => hiCome I k0) (kk := fun h_7 D0_7 D1_7 => ?_)
    have B_7 := D0_7 (fun q => q.2 h6)
    refine v_topv (y := (-3)) (hx := by unfold rCome; rw [if_pos (by decide +kernel), if_pos h6]) (kk := ?_)
    refine v_bipush (pc := 44) X (v := (-3)) (hd := dL_acts_44) (kk := ?_)
    refine v_icmpne (pc := 46) X (tgt := 63) (hd := dL_acts_46) (kt := fun c46 => ?_) (kf := fun c46 => ?_)
    · exact absurd rfl c46
    · refine v_aload_n (pc := 49) X (hd := dL_acts_49) (kk := ?_)
      refine v_bipush (pc := 50) X (v := nI 10) (hd := dL_acts_50) (kk := ?_)
      refine v_act (pc := 52) X B_7 I (hd := dL_acts_52) (wv := wv_L_45) (hC := fun pa te nu np st en => c_X6_come l E x w pa np 0 te st en nu (nI 10) nh nb ns) (S := fun k0 => ⟨_, _, _, iCome I k0⟩) (hhi := fun k0 => hiCome I k0) (kk := fun h_8 D0_8 D1_8 => ?_)
      have B_8 := D0_8 (fun q => absurd q.1 (by decide +kernel))
      refine v_topv (y := (-1)) (hx := by unfold rCome; rw [if_neg (by decide +kernel)]) (kk := ?_)
      refine v_iconst (pc := 55) X (v := (-1)) (hd := dL_acts_55) (kk := ?_)
      refine v_icmpne (pc := 56) X (tgt := 63) (hd := dL_acts_56) (kt := fun c56 => ?_) (kf := fun c56 => ?_)
      · exact absurd rfl c56
      · refine v_iconst (pc := 59) X (v := nI 1) (hd := dL_acts_59) (kk := ?_)
        refine v_goto (pc := 60) X (tgt := 64) (hd := dL_acts_60) (kk := ?_)
        exact v_endbi (pc := 64) X hr hlk (hd := dL_acts_64) (hn := by rw [nI_t]; rfl) (hf := ⟨rfl, LV.fin B_8 (fun q => rfl) I W (Y.mono (by omega))⟩)
set_option maxRecDepth 100000 in
set_option maxHeartbeats 4000000 in
theorem ac_add {p__ : Program} {l : Launch} {e__ : Env} {s__ : State} {m__ : MethodId} {args__ : Array Value} {below__ : List Frame} {meth__ : Method} {c__ : Code} {E : pE} {h0 h : pH} {z x y n nh nb ns vv way : Nat} {w : Nat → Int32} {zz : Int32} (X : pCx p__ s__ m__ args__ c__ cL_acts 14 RL E (pA h0 z)) (hr : meth__.sig.returnType = some .boolean) (hlk : meth__.locks = false) (B : LB x y w w h) (I : Iv w nh nb ns) (W : W2 w nh ns) (Y : isN (w 0) 0 n) (hn9 : n ≤ 900) (hvv : vv < 10000000) : pV p__ l e__ rmAC s__ m__ args__ below__ meth__ c__ 14 E (pA h0 z) (MQ below__ (pQ E (pFi (fun h r h' => r = nI 1 ∧ LV x y (n + 1) h')) h0 z) args__ s__ 0 0 (pA h0 z)) z h 0 0 170 [some (.ref x), some (.ref y), some (.ref (y + 1)), some (.ref (y + 2)), some (.ref (y + 3)), some (.ref (y + 4)), some (.int zz), some (.int (nI vv)), some (.int (nI way)), none, none, none, none, none] [] := by
  obtain ⟨hn6, hb4, hs12, en, eb, es⟩ := I.1
  refine v_aload_n (pc := 170) X (hd := dL_acts_170) (kk := ?_)
  refine v_iconst (pc := 171) X (v := nI 2) (hd := dL_acts_171) (kk := ?_)
  refine v_ldG (pc := 172) X (x := nI nb) (2) B.2.1 (hd := dL_acts_172) (hi := by first | rfl | (simp only [pk_mul, nI_add]; done)) (hj := by omega) (hx := eb) (kk := ?_)
  refine v_iconst (pc := 173) X (v := nI 4) (hd := dL_acts_173) (kk := ?_)
  refine v_icmpne (pc := 174) X (tgt := 208) (hd := dL_acts_174) (kt := fun c174 => ?_) (kf := fun c174 => ?_)
  · have hn : nb < 4 := by
      have : nb ≠ 4 := fun q => c174 (by rw [q])
      omega
    refine v_iconst (pc := 208) X (v := nI 0) (hd := dL_acts_208) (kk := ?_)
    refine v_istore (pc := 209) X (hd := dL_acts_209) (kk := ?_)
    refine v_for (pc := 211) (M := 7) (Lf := fun i => [some (.ref x), some (.ref y), some (.ref (y + 1)), some (.ref (y + 2)), some (.ref (y + 3)), some (.ref (y + 4)), some (.int zz), some (.int (nI vv)), some (.int (nI way)), some (.int (nI (i))), none, none, none, none]) (I := fun i h1 => ∃ v9, LB x y w v9 h1 ∧ ∀ q, v9 q = abF w (nI (vv % 5001)) (nI (100 + vv / 7 % 2901)) nb i q) (h0 := ⟨w, B, fun q => rfl⟩) (hL := by rfl) (step := ?_) (out := ?_)
    · intro i h1 hi hI kk
      obtain ⟨v9, B9, e9⟩ := hI
      refine v_iload (pc := 211) X (hd := dL_acts_211) (kk := ?_)
      refine v_bipush (pc := 213) X (v := nI 7) (hd := dL_acts_213) (kk := ?_)
      refine v_icmpge (pc := 215) X (tgt := 271) (hd := dL_acts_215) (kt := fun c215 => ?_) (kf := fun c215 => ?_)
      · exact absurd c215 (nI_ge hi (by omega))
      · refine v_aload_n (pc := 218) X (hd := dL_acts_218) (kk := ?_)
        refine v_bipush (pc := 219) X (v := nI 7) (hd := dL_acts_219) (kk := ?_)
        refine v_aload_n (pc := 221) X (hd := dL_acts_221) (kk := ?_)
        refine v_iconst (pc := 222) X (v := nI 2) (hd := dL_acts_222) (kk := ?_)
        refine v_ldG (pc := 223) X (x := nI nb) (2) B9.2.1 (hd := dL_acts_223) (hi := by first | rfl | (simp only [pk_mul, nI_add]; done)) (hj := by omega) (hx := by rw [e9, abF_at, if_neg (by omega)]; exact eb) (kk := ?_)
        refine v_imul (pc := 224) X (hd := dL_acts_224) (kk := ?_)
        refine v_iload (pc := 225) X (hd := dL_acts_225) (kk := ?_)
        refine v_iadd (pc := 227) X (hd := dL_acts_227) (kk := ?_)
        refine v_iload (pc := 228) X (hd := dL_acts_228) (kk := ?_)
        refine v_ifne (pc := 230) X (tgt := 242) (hd := dL_acts_230) (kt := fun c230 => ?_) (kf := fun c230 => ?_)
        · have q230 : i ≠ 0 := fun q => c230 (by rw [q]; exact nI_z)
          refine v_iload (pc := 242) X (hd := dL_acts_242) (kk := ?_)
          refine v_iconst (pc := 244) X (v := nI 1) (hd := dL_acts_244) (kk := ?_)
          refine v_icmpne (pc := 245) X (tgt := 263) (hd := dL_acts_245) (kt := fun c245 => ?_) (kf := fun c245 => ?_)
          · have q245 : i ≠ 1 := fun q => c245 (by rw [q])
            refine v_iconst (pc := 263) X (v := nI 0) (hd := dL_acts_263) (kk := ?_)
            refine v_topv (y := if i = 0 then nI (vv % 5001) else if i = 1 then nI (100 + vv / 7 % 2901) else nI 0) (hx := by rw [if_neg q230, if_neg q245]) (kk := ?_)
            refine v_stB (pc := 264) X (7 * nb + i) B9 (hd := dL_acts_264) (hi := by simp only [pk_mul, nI_add]; done) (hj := by omega) (kk := fun h_1 v_1 e_1 B_1 => ?_)
            refine v_iincN (pc := 265) X (hd := dL_acts_265) (kk := ?_)
            refine v_goto (pc := 268) X (tgt := 211) (hd := dL_acts_268) (kk := ?_)
            exact kk h_1 ⟨v_1, B_1, fun q => by rw [e_1, e9 q, show 24 + (7 * nb + i) = 24 + 7 * nb + i by omega]; rfl⟩
          · have q245 : i = 1 := (nI_eq (by omega) (by omega)).mp (Classical.not_not.mp c245)
            refine v_bipush (pc := 248) X (v := nI 100) (hd := dL_acts_248) (kk := ?_)
            refine v_iload (pc := 250) X (hd := dL_acts_250) (kk := ?_)
            refine v_bipush (pc := 252) X (v := nI 7) (hd := dL_acts_252) (kk := ?_)
            refine v_idivN (pc := 254) X (a := vv) (d := 7) (hd := dL_acts_254) (hx := by first | rfl | (simp only [pk_mul, nI_add]; done)) (hy := by first | rfl | (simp only [pk_mul, nI_add]; done)) (ha := by omega) (h0 := by omega) (hd2 := by omega) (kk := ?_)
            refine v_sipush (pc := 255) X (v := nI 2901) (hd := dL_acts_255) (kk := ?_)
            refine v_iremN (pc := 258) X (a := vv / 7) (d := 2901) (hd := dL_acts_258) (hx := by first | rfl | (simp only [pk_mul, nI_add]; done)) (hy := by first | rfl | (simp only [pk_mul, nI_add]; done)) (ha := by omega) (h0 := by omega) (hd2 := by omega) (kk := ?_)
            refine v_iadd (pc := 259) X (hd := dL_acts_259) (kk := ?_)
            refine v_goto (pc := 260) X (tgt := 264) (hd := dL_acts_260) (kk := ?_)
            rw [nI_add 100]
            refine v_topv (y := if i = 0 then nI (vv % 5001) else if i = 1 then nI (100 + vv / 7 % 2901) else nI 0) (hx := by rw [if_neg q230, if_pos q245]) (kk := ?_)
            refine v_stB (pc := 264) X (7 * nb + i) B9 (hd := dL_acts_264) (hi := by simp only [pk_mul, nI_add]; done) (hj := by omega) (kk := fun h_2 v_2 e_2 B_2 => ?_)
            refine v_iincN (pc := 265) X (hd := dL_acts_265) (kk := ?_)
            refine v_goto (pc := 268) X (tgt := 211) (hd := dL_acts_268) (kk := ?_)
            exact kk h_2 ⟨v_2, B_2, fun q => by rw [e_2, e9 q, show 24 + (7 * nb + i) = 24 + 7 * nb + i by omega]; rfl⟩
        · have q230 : i = 0 := n_le0 (by omega) (by rw [Classical.not_not.mp c230]; exact Int32.le_refl _)
          refine v_iload (pc := 233) X (hd := dL_acts_233) (kk := ?_)
          refine v_sipush (pc := 235) X (v := nI 5001) (hd := dL_acts_235) (kk := ?_)
          refine v_iremN (pc := 238) X (a := vv) (d := 5001) (hd := dL_acts_238) (hx := by first | rfl | (simp only [pk_mul, nI_add]; done)) (hy := by first | rfl | (simp only [pk_mul, nI_add]; done)) (ha := by omega) (h0 := by omega) (hd2 := by omega) (kk := ?_)
          refine v_goto (pc := 239) X (tgt := 264) (hd := dL_acts_239) (kk := ?_)
          refine v_topv (y := if i = 0 then nI (vv % 5001) else if i = 1 then nI (100 + vv / 7 % 2901) else nI 0) (hx := by rw [if_pos q230]) (kk := ?_)
          refine v_stB (pc := 264) X (7 * nb + i) B9 (hd := dL_acts_264) (hi := by simp only [pk_mul, nI_add]; done) (hj := by omega) (kk := fun h_3 v_3 e_3 B_3 => ?_)
          refine v_iincN (pc := 265) X (hd := dL_acts_265) (kk := ?_)
          refine v_goto (pc := 268) X (tgt := 211) (hd := dL_acts_268) (kk := ?_)
          exact kk h_3 ⟨v_3, B_3, fun q => by rw [e_3, e9 q, show 24 + (7 * nb + i) = 24 + 7 * nb + i by omega]; rfl⟩
    · intro h1 hI
      obtain ⟨v9, B9, e9⟩ := hI
      refine v_iload (pc := 211) X (hd := dL_acts_211) (kk := ?_)
      refine v_bipush (pc := 213) X (v := nI 7) (hd := dL_acts_213) (kk := ?_)
      refine v_icmpge (pc := 215) X (tgt := 271) (hd := dL_acts_215) (kt := fun c215 => ?_) (kf := fun c215 => ?_)
      · refine v_aload_n (pc := 271) X (hd := dL_acts_271) (kk := ?_)
        refine v_iconst (pc := 272) X (v := nI 2) (hd := dL_acts_272) (kk := ?_)
        refine v_dup2 (pc := 273) X (hd := dL_acts_273) (kk := ?_)
        refine v_ldG (pc := 274) X (x := nI nb) (2) B9.2.1 (hd := dL_acts_274) (hi := by first | rfl | (simp only [pk_mul, nI_add]; done)) (hj := by omega) (hx := by rw [e9, abF_at, if_neg (by omega)]; exact eb) (kk := ?_)
        refine v_iconst (pc := 275) X (v := nI 1) (hd := dL_acts_275) (kk := ?_)
        refine v_iadd (pc := 276) X (hd := dL_acts_276) (kk := ?_)
        refine v_stG (pc := 277) X (2) B9 (hd := dL_acts_277) (hi := by first | rfl | (simp only [pk_mul, nI_add]; done)) (hj := by omega) (kk := fun h_4 v_4 e_4 B_4 => ?_)
        refine v_aload_n (pc := 278) X (hd := dL_acts_278) (kk := ?_)
        refine v_iload (pc := 279) X (hd := dL_acts_279) (kk := ?_)
        refine v_sipush (pc := 281) X (v := nI 5001) (hd := dL_acts_281) (kk := ?_)
        refine v_iremN (pc := 284) X (a := vv) (d := 5001) (hd := dL_acts_284) (hx := by first | rfl | (simp only [pk_mul, nI_add]; done)) (hy := by first | rfl | (simp only [pk_mul, nI_add]; done)) (ha := by omega) (h0 := by omega) (hd2 := by omega) (kk := ?_)
        refine v_bipush (pc := 285) X (v := nI 100) (hd := dL_acts_285) (kk := ?_)
        refine v_iload (pc := 287) X (hd := dL_acts_287) (kk := ?_)
        refine v_bipush (pc := 289) X (v := nI 7) (hd := dL_acts_289) (kk := ?_)
        refine v_idivN (pc := 291) X (a := vv) (d := 7) (hd := dL_acts_291) (hx := by first | rfl | (simp only [pk_mul, nI_add]; done)) (hy := by first | rfl | (simp only [pk_mul, nI_add]; done)) (ha := by omega) (h0 := by omega) (hd2 := by omega) (kk := ?_)
        refine v_sipush (pc := 292) X (v := nI 2901) (hd := dL_acts_292) (kk := ?_)
        refine v_iremN (pc := 295) X (a := vv / 7) (d := 2901) (hd := dL_acts_295) (hx := by first | rfl | (simp only [pk_mul, nI_add]; done)) (hy := by first | rfl | (simp only [pk_mul, nI_add]; done)) (ha := by omega) (h0 := by omega) (hd2 := by omega) (kk := ?_)
        refine v_iadd (pc := 296) X (hd := dL_acts_296) (kk := ?_)
        rw [nI_add 100]
        have k1 : kAdd w (nI (vv % 5001)) (nI (100 + vv / 7 % 2901)) := ⟨⟨gI_in (by omega) (by omega) (by omega), gI_in (by omega) (by omega) (by omega)⟩, by rw [eb]; exact fun q => by have := (nI_eq (by omega) (by omega)).mp q; omega⟩
        refine v_act (pc := 297) X B_4 I (hd := dL_acts_297) (wv := wv_L_48) (hC := fun pa te nu np st en => c_X6_addBank l E x w pa np 0 te st en nu (nI (vv % 5001)) (nI (100 + vv / 7 % 2901)) nh nb ns) (S := fun k0 => ⟨_, _, _, iAdd I k0⟩) (hhi := fun k0 => hiAdd I k0) (kk := fun h_5 D0_5 D1_5 => ?_)
        have B_5 := D1_5 (k1)
        refine v_topv (y := nI nb) (hx := by unfold rAdd; rw [if_pos k1.1, if_neg k1.2, eb]) (kk := ?_)
        refine v_aload_n (pc := 300) X (hd := dL_acts_300) (kk := ?_)
        refine v_iconst (pc := 301) X (v := nI 2) (hd := dL_acts_301) (kk := ?_)
        refine v_ldG (pc := 302) X (x := nI nb + nI 1) (2) B_5.2.1 (hd := dL_acts_302) (hi := by first | rfl | (simp only [pk_mul, nI_add]; done)) (hj := by omega) (hx := by rw [e_4, if_pos (by omega)]) (kk := ?_)
        refine v_iconst (pc := 303) X (v := nI 1) (hd := dL_acts_303) (kk := ?_)
        refine v_isub (pc := 304) X (hd := dL_acts_304) (kk := ?_)
        refine v_icmpne (pc := 305) X (tgt := 312) (hd := dL_acts_305) (kt := fun c305 => ?_) (kf := fun c305 => ?_)
        · exact absurd (by rw [nI_add, pk_sub (by omega)]; exact congrArg nI (by omega)) c305
        · refine v_iconst (pc := 308) X (v := nI 1) (hd := dL_acts_308) (kk := ?_)
          refine v_goto (pc := 309) X (tgt := 313) (hd := dL_acts_309) (kk := ?_)
          exact v_endbi (pc := 313) X hr hlk (hd := dL_acts_313) (hn := by rw [nI_t]; rfl) (hf := ⟨rfl, LV.fin B_5 (fun q => eq_add hn eb e9 e_4 q) (iAdd I k1) (w2Add I W hn) (by rw [gAdd_eq I _ _ hn, pk_un (by omega), pk_un (by omega), pk_un (by omega)]; exact Y.mono (by omega))⟩)
      · exact absurd (Int32.le_refl _) c215
  · have h6 : w 2 = nI 4 := eb.trans (Classical.not_not.mp c174)
    refine v_aload_n (pc := 177) X (hd := dL_acts_177) (kk := ?_)
    refine v_iconst (pc := 178) X (v := nI 0) (hd := dL_acts_178) (kk := ?_)
    refine v_bipush (pc := 179) X (v := nI 100) (hd := dL_acts_179) (kk := ?_)
    refine v_act (pc := 181) X B I (hd := dL_acts_181) (wv := wv_L_48) (hC := fun pa te nu np st en => c_X6_addBank l E x w pa np 0 te st en nu (nI 0) (nI 100) nh nb ns) (S := fun k0 => ⟨_, _, _, iAdd I k0⟩) (hhi := fun k0 => hiAdd I k0) (kk := fun h_6 D0_6 D1_6 => ?_)
    have B_6 := D0_6 (fun q => q.2 h6)
    refine v_topv (y := (-3)) (hx := by unfold rAdd; rw [if_pos (by decide +kernel), if_pos h6]) (kk := ?_)
    refine v_bipush (pc := 184) X (v := (-3)) (hd := dL_acts_184) (kk := ?_)
    refine v_icmpne (pc := 186) X (tgt := 206) (hd := dL_acts_186) (kt := fun c186 => ?_) (kf := fun c186 => ?_)
    · exact absurd rfl c186
    · refine v_aload_n (pc := 189) X (hd := dL_acts_189) (kk := ?_)
      refine v_sipush (pc := 190) X (v := nI 5001) (hd := dL_acts_190) (kk := ?_)
      refine v_bipush (pc := 193) X (v := nI 100) (hd := dL_acts_193) (kk := ?_)
      refine v_act (pc := 195) X B_6 I (hd := dL_acts_195) (wv := wv_L_48) (hC := fun pa te nu np st en => c_X6_addBank l E x w pa np 0 te st en nu (nI 5001) (nI 100) nh nb ns) (S := fun k0 => ⟨_, _, _, iAdd I k0⟩) (hhi := fun k0 => hiAdd I k0) (kk := fun h_7 D0_7 D1_7 => ?_)
      have B_7 := D0_7 (fun q => absurd q.1 (by decide +kernel))
      refine v_topv (y := (-1)) (hx := by unfold rAdd; rw [if_neg (by decide +kernel)]) (kk := ?_)
      refine v_iconst (pc := 198) X (v := (-1)) (hd := dL_acts_198) (kk := ?_)
      refine v_icmpne (pc := 199) X (tgt := 206) (hd := dL_acts_199) (kt := fun c199 => ?_) (kf := fun c199 => ?_)
      · exact absurd rfl c199
      · refine v_iconst (pc := 202) X (v := nI 1) (hd := dL_acts_202) (kk := ?_)
        refine v_goto (pc := 203) X (tgt := 207) (hd := dL_acts_203) (kk := ?_)
        exact v_endbi (pc := 207) X hr hlk (hd := dL_acts_207) (hn := by rw [nI_t]; rfl) (hf := ⟨rfl, LV.fin B_7 (fun q => rfl) I W (Y.mono (by omega))⟩)
set_option maxRecDepth 100000 in
set_option maxHeartbeats 4000000 in
theorem ac_set {p__ : Program} {l : Launch} {e__ : Env} {s__ : State} {m__ : MethodId} {args__ : Array Value} {below__ : List Frame} {meth__ : Method} {c__ : Code} {E : pE} {h0 h : pH} {z x y n nh nb ns vv way i j : Nat} {w : Nat → Int32} {zz : Int32} (X : pCx p__ s__ m__ args__ c__ cL_acts 14 RL E (pA h0 z)) (hr : meth__.sig.returnType = some .boolean) (hlk : meth__.locks = false) (B : LB x y w w h) (I : Iv w nh nb ns) (W : W2 w nh ns) (Y : isN (w 0) 0 n) (hn9 : n ≤ 900) (hvv : vv < 10000000) (hi : i < nh) (hj : j < nb) : pV p__ l e__ rmAC s__ m__ args__ below__ meth__ c__ 14 E (pA h0 z) (MQ below__ (pQ E (pFi (fun h r h' => r = nI 1 ∧ LV x y (n + 1) h')) h0 z) args__ s__ 0 0 (pA h0 z)) z h 0 0 339 [some (.ref x), some (.ref y), some (.ref (y + 1)), some (.ref (y + 2)), some (.ref (y + 3)), some (.ref (y + 4)), some (.int zz), some (.int (nI vv)), some (.int (nI way)), some (.int (nI (i))), some (.int (nI (j))), none, none, none] [] := by
  obtain ⟨hn6, hb4, hs12, en, eb, es⟩ := I.1
  have ei : nx (nI i) = i := nx_nI (by omega)
  have ej : nx (nI j) = j := nx_nI (by omega)
  have gi : gH (w 1) (nI i) := by rw [en]; exact gH_in (by omega) hi
  have gj : gH (w 2) (nI j) := by rw [eb]; exact gH_in (by omega) hj
  refine v_iload (pc := 339) X (hd := dL_acts_339) (kk := ?_)
  refine v_iconst (pc := 341) X (v := nI 2) (hd := dL_acts_341) (kk := ?_)
  refine v_iremN (pc := 342) X (a := vv) (d := 2) (hd := dL_acts_342) (hx := by first | rfl | (simp only [pk_mul, nI_add]; done)) (hy := by first | rfl | (simp only [pk_mul, nI_add]; done)) (ha := by omega) (h0 := by omega) (hd2 := by omega) (kk := ?_)
  refine v_ifne (pc := 343) X (tgt := 355) (hd := dL_acts_343) (kt := fun c343 => ?_) (kf := fun c343 => ?_)
  · refine v_aload_n (pc := 355) X (hd := dL_acts_355) (kk := ?_)
    refine v_bipush (pc := 356) X (v := nI 7) (hd := dL_acts_356) (kk := ?_)
    refine v_iload (pc := 358) X (hd := dL_acts_358) (kk := ?_)
    refine v_imul (pc := 360) X (hd := dL_acts_360) (kk := ?_)
    refine v_ldB (pc := 361) X (x := w (24 + 7 * j + 0)) (7 * j) B.2.1 (hd := dL_acts_361) (hi := by first | rfl | (simp only [pk_mul, nI_add]; done)) (hj := by omega) (hx := rfl) (kk := ?_)
    refine v_istore (pc := 362) X (hd := dL_acts_362) (kk := ?_)
    refine v_iload (pc := 364) X (hd := dL_acts_364) (kk := ?_)
    refine v_iconst (pc := 366) X (v := nI 2) (hd := dL_acts_366) (kk := ?_)
    refine v_iremN (pc := 367) X (a := vv) (d := 2) (hd := dL_acts_367) (hx := by first | rfl | (simp only [pk_mul, nI_add]; done)) (hy := by first | rfl | (simp only [pk_mul, nI_add]; done)) (ha := by omega) (h0 := by omega) (hd2 := by omega) (kk := ?_)
    refine v_ifne (pc := 368) X (tgt := 414) (hd := dL_acts_368) (kt := fun c368 => ?_) (kf := fun c368 => ?_)
    · refine v_aload_n (pc := 414) X (hd := dL_acts_414) (kk := ?_)
      refine v_bipush (pc := 415) X (v := nI 7) (hd := dL_acts_415) (kk := ?_)
      refine v_iload (pc := 417) X (hd := dL_acts_417) (kk := ?_)
      refine v_imul (pc := 419) X (hd := dL_acts_419) (kk := ?_)
      refine v_iload (pc := 420) X (hd := dL_acts_420) (kk := ?_)
      refine v_bipush (pc := 422) X (v := nI 24) (hd := dL_acts_422) (kk := ?_)
      refine v_idivN (pc := 424) X (a := vv) (d := 24) (hd := dL_acts_424) (hx := by first | rfl | (simp only [pk_mul, nI_add]; done)) (hy := by first | rfl | (simp only [pk_mul, nI_add]; done)) (ha := by omega) (h0 := by omega) (hd2 := by omega) (kk := ?_)
      refine v_sipush (pc := 425) X (v := nI 5001) (hd := dL_acts_425) (kk := ?_)
      refine v_iremN (pc := 428) X (a := vv / 24) (d := 5001) (hd := dL_acts_428) (hx := by first | rfl | (simp only [pk_mul, nI_add]; done)) (hy := by first | rfl | (simp only [pk_mul, nI_add]; done)) (ha := by omega) (h0 := by omega) (hd2 := by omega) (kk := ?_)
      refine v_stB (pc := 429) X (7 * j) B (hd := dL_acts_429) (hi := by first | rfl | (simp only [pk_mul, nI_add]; done)) (hj := by omega) (kk := fun h_1 v_1 e_1 B_1 => ?_)
      refine v_aload_n (pc := 430) X (hd := dL_acts_430) (kk := ?_)
      refine v_iload (pc := 431) X (hd := dL_acts_431) (kk := ?_)
      refine v_iload (pc := 433) X (hd := dL_acts_433) (kk := ?_)
      refine v_bipush (pc := 435) X (v := nI 24) (hd := dL_acts_435) (kk := ?_)
      refine v_idivN (pc := 437) X (a := vv) (d := 24) (hd := dL_acts_437) (hx := by first | rfl | (simp only [pk_mul, nI_add]; done)) (hy := by first | rfl | (simp only [pk_mul, nI_add]; done)) (ha := by omega) (h0 := by omega) (hd2 := by omega) (kk := ?_)
      refine v_sipush (pc := 438) X (v := nI 5001) (hd := dL_acts_438) (kk := ?_)
      refine v_iremN (pc := 441) X (a := vv / 24) (d := 5001) (hd := dL_acts_441) (hx := by first | rfl | (simp only [pk_mul, nI_add]; done)) (hy := by first | rfl | (simp only [pk_mul, nI_add]; done)) (ha := by omega) (h0 := by omega) (hd2 := by omega) (kk := ?_)
      have k1 : kAllow w (nI j) (nI (vv / 24 % 5001)) := ⟨gj, gI_in (by omega) (by omega) (by omega)⟩
      refine v_act (pc := 442) X B_1 I (hd := dL_acts_442) (wv := wv_L_54) (hC := fun pa te nu np st en => c_X6_setAllowance l E x w pa np 0 te st en nu (nI j) (nI (vv / 24 % 5001)) nh nb ns) (S := fun k0 => ⟨_, _, _, iAllow I k0⟩) (hhi := fun k0 => hiAllow I k0) (kk := fun h_2 D0_2 D1_2 => ?_)
      have B_2 := D1_2 (k1)
      refine v_topv (y := w (24 + 7 * j + 0)) (hx := by unfold rAllow; rw [if_pos k1, ej]) (kk := ?_)
      refine v_iload (pc := 445) X (hd := dL_acts_445) (kk := ?_)
      refine v_icmpne (pc := 447) X (tgt := 454) (hd := dL_acts_447) (kt := fun c447 => ?_) (kf := fun c447 => ?_)
      · exact absurd rfl c447
      · refine v_iconst (pc := 450) X (v := nI 1) (hd := dL_acts_450) (kk := ?_)
        refine v_goto (pc := 451) X (tgt := 455) (hd := dL_acts_451) (kk := ?_)
        exact v_endbi (pc := 455) X hr hlk (hd := dL_acts_455) (hn := by rw [nI_t]; rfl) (hf := ⟨rfl, LV.fin B_2 (fun q => by unfold gAllow; rw [ej, e_1]; rfl) (iAllow I k1) (by unfold gAllow; rw [ej]; exact w2Upd W (by omega) (by omega)) (by unfold gAllow; rw [pk_un (by omega)]; exact Y.mono (by omega))⟩)
    · exact absurd (Classical.not_not.mp c368) c343
  · refine v_aload_n (pc := 346) X (hd := dL_acts_346) (kk := ?_)
    refine v_iconst (pc := 347) X (v := nI 3) (hd := dL_acts_347) (kk := ?_)
    refine v_iload (pc := 348) X (hd := dL_acts_348) (kk := ?_)
    refine v_imul (pc := 350) X (hd := dL_acts_350) (kk := ?_)
    refine v_ldH (pc := 351) X (x := w (6 + 3 * i + 0)) (3 * i) B.2.1 (hd := dL_acts_351) (hi := by first | rfl | (simp only [pk_mul, nI_add]; done)) (hj := by omega) (hx := rfl) (kk := ?_)
    refine v_goto (pc := 352) X (tgt := 362) (hd := dL_acts_352) (kk := ?_)
    refine v_istore (pc := 362) X (hd := dL_acts_362) (kk := ?_)
    refine v_iload (pc := 364) X (hd := dL_acts_364) (kk := ?_)
    refine v_iconst (pc := 366) X (v := nI 2) (hd := dL_acts_366) (kk := ?_)
    refine v_iremN (pc := 367) X (a := vv) (d := 2) (hd := dL_acts_367) (hx := by first | rfl | (simp only [pk_mul, nI_add]; done)) (hy := by first | rfl | (simp only [pk_mul, nI_add]; done)) (ha := by omega) (h0 := by omega) (hd2 := by omega) (kk := ?_)
    refine v_ifne (pc := 368) X (tgt := 414) (hd := dL_acts_368) (kt := fun c368 => ?_) (kf := fun c368 => ?_)
    · exact absurd (Classical.not_not.mp c343) c368
    · refine v_aload_n (pc := 371) X (hd := dL_acts_371) (kk := ?_)
      refine v_iconst (pc := 372) X (v := nI 3) (hd := dL_acts_372) (kk := ?_)
      refine v_iload (pc := 373) X (hd := dL_acts_373) (kk := ?_)
      refine v_imul (pc := 375) X (hd := dL_acts_375) (kk := ?_)
      refine v_iconst (pc := 376) X (v := nI 1) (hd := dL_acts_376) (kk := ?_)
      refine v_iload (pc := 377) X (hd := dL_acts_377) (kk := ?_)
      refine v_bipush (pc := 379) X (v := nI 24) (hd := dL_acts_379) (kk := ?_)
      refine v_idivN (pc := 381) X (a := vv) (d := 24) (hd := dL_acts_381) (hx := by first | rfl | (simp only [pk_mul, nI_add]; done)) (hy := by first | rfl | (simp only [pk_mul, nI_add]; done)) (ha := by omega) (h0 := by omega) (hd2 := by omega) (kk := ?_)
      refine v_bipush (pc := 382) X (v := nI 9) (hd := dL_acts_382) (kk := ?_)
      refine v_iremN (pc := 384) X (a := vv / 24) (d := 9) (hd := dL_acts_384) (hx := by first | rfl | (simp only [pk_mul, nI_add]; done)) (hy := by first | rfl | (simp only [pk_mul, nI_add]; done)) (ha := by omega) (h0 := by omega) (hd2 := by omega) (kk := ?_)
      refine v_iadd (pc := 385) X (hd := dL_acts_385) (kk := ?_)
      rw [nI_add 1]
      refine v_stH (pc := 386) X (3 * i) B (hd := dL_acts_386) (hi := by first | rfl | (simp only [pk_mul, nI_add]; done)) (hj := by omega) (kk := fun h_3 v_3 e_3 B_3 => ?_)
      refine v_aload_n (pc := 387) X (hd := dL_acts_387) (kk := ?_)
      refine v_iload (pc := 388) X (hd := dL_acts_388) (kk := ?_)
      refine v_iconst (pc := 390) X (v := nI 1) (hd := dL_acts_390) (kk := ?_)
      refine v_iload (pc := 391) X (hd := dL_acts_391) (kk := ?_)
      refine v_bipush (pc := 393) X (v := nI 24) (hd := dL_acts_393) (kk := ?_)
      refine v_idivN (pc := 395) X (a := vv) (d := 24) (hd := dL_acts_395) (hx := by first | rfl | (simp only [pk_mul, nI_add]; done)) (hy := by first | rfl | (simp only [pk_mul, nI_add]; done)) (ha := by omega) (h0 := by omega) (hd2 := by omega) (kk := ?_)
      refine v_bipush (pc := 396) X (v := nI 9) (hd := dL_acts_396) (kk := ?_)
      refine v_iremN (pc := 398) X (a := vv / 24) (d := 9) (hd := dL_acts_398) (hx := by first | rfl | (simp only [pk_mul, nI_add]; done)) (hy := by first | rfl | (simp only [pk_mul, nI_add]; done)) (ha := by omega) (h0 := by omega) (hd2 := by omega) (kk := ?_)
      refine v_iadd (pc := 399) X (hd := dL_acts_399) (kk := ?_)
      rw [nI_add 1]
      have k1 : kSet w (nI i) (nI (1 + vv / 24 % 9)) := ⟨gi, gI_in (by omega) (by omega) (by omega)⟩
      refine v_act (pc := 400) X B_3 I (hd := dL_acts_400) (wv := wv_L_51) (hC := fun pa te nu np st en => c_X6_setSpades l E x w pa np 0 te st en nu (nI i) (nI (1 + vv / 24 % 9)) nh nb ns) (S := fun k0 => ⟨_, _, _, iSet I k0⟩) (hhi := fun k0 => hiSet I k0) (kk := fun h_4 D0_4 D1_4 => ?_)
      have B_4 := D1_4 (k1)
      refine v_topv (y := w (6 + 3 * i + 0)) (hx := by unfold rSet; rw [if_pos k1, ei]) (kk := ?_)
      refine v_iload (pc := 403) X (hd := dL_acts_403) (kk := ?_)
      refine v_icmpne (pc := 405) X (tgt := 412) (hd := dL_acts_405) (kt := fun c405 => ?_) (kf := fun c405 => ?_)
      · exact absurd rfl c405
      · refine v_iconst (pc := 408) X (v := nI 1) (hd := dL_acts_408) (kk := ?_)
        refine v_goto (pc := 409) X (tgt := 413) (hd := dL_acts_409) (kk := ?_)
        exact v_endbi (pc := 413) X hr hlk (hd := dL_acts_413) (hn := by rw [nI_t]; rfl) (hf := ⟨rfl, LV.fin B_4 (fun q => by unfold gSet; rw [ei, e_3]; rfl) (iSet I k1) (by unfold gSet; rw [ei]; exact w2Upd W (by omega) (by omega)) (by unfold gSet; rw [pk_un (by omega)]; exact Y.mono (by omega))⟩)
set_option maxRecDepth 100000 in
set_option maxHeartbeats 4000000 in
theorem ac_grant {p__ : Program} {l : Launch} {e__ : Env} {s__ : State} {m__ : MethodId} {args__ : Array Value} {below__ : List Frame} {meth__ : Method} {c__ : Code} {E : pE} {h0 h : pH} {z x y n nh nb ns vv way i j r : Nat} {w : Nat → Int32} {zz : Int32} (X : pCx p__ s__ m__ args__ c__ cL_acts 14 RL E (pA h0 z)) (hr : meth__.sig.returnType = some .boolean) (hlk : meth__.locks = false) (B : LB x y w w h) (I : Iv w nh nb ns) (W : W2 w nh ns) (Y : isN (w 0) 0 n) (hn9 : n ≤ 900) (hvv : vv < 10000000) (hi : i < nh) (hj : j < nb) (hr2 : r < 2) : pV p__ l e__ rmAC s__ m__ args__ below__ meth__ c__ 14 E (pA h0 z) (MQ below__ (pQ E (pFi (fun h r h' => r = nI 1 ∧ LV x y (n + 1) h')) h0 z) args__ s__ 0 0 (pA h0 z)) z h 0 0 477 [some (.ref x), some (.ref y), some (.ref (y + 1)), some (.ref (y + 2)), some (.ref (y + 3)), some (.ref (y + 4)), some (.int zz), some (.int (nI vv)), some (.int (nI way)), some (.int (nI (i))), some (.int (nI (j))), none, none, none] [.int (nI r)] := by
  obtain ⟨hn6, hb4, hs12, en, eb, es⟩ := I.1
  have ei : nx (nI i) = i := nx_nI (by omega)
  have ej : nx (nI j) = j := nx_nI (by omega)
  have gi : gH (w 1) (nI i) := by rw [en]; exact gH_in (by omega) hi
  have gj : gH (w 2) (nI j) := by rw [eb]; exact gH_in (by omega) hj
  refine v_istore (pc := 477) X (hd := dL_acts_477) (kk := ?_)
  refine v_iconst (pc := 479) X (v := nI 0) (hd := dL_acts_479) (kk := ?_)
  refine v_istore (pc := 480) X (hd := dL_acts_480) (kk := ?_)
  refine v_aload_n (pc := 482) X (hd := dL_acts_482) (kk := ?_)
  refine v_bipush (pc := 483) X (v := nI 7) (hd := dL_acts_483) (kk := ?_)
  refine v_iload (pc := 485) X (hd := dL_acts_485) (kk := ?_)
  refine v_imul (pc := 487) X (hd := dL_acts_487) (kk := ?_)
  refine v_iconst (pc := 488) X (v := nI 3) (hd := dL_acts_488) (kk := ?_)
  refine v_iadd (pc := 489) X (hd := dL_acts_489) (kk := ?_)
  refine v_aload_n (pc := 490) X (hd := dL_acts_490) (kk := ?_)
  refine v_bipush (pc := 491) X (v := nI 7) (hd := dL_acts_491) (kk := ?_)
  refine v_iload (pc := 493) X (hd := dL_acts_493) (kk := ?_)
  refine v_imul (pc := 495) X (hd := dL_acts_495) (kk := ?_)
  refine v_iconst (pc := 496) X (v := nI 3) (hd := dL_acts_496) (kk := ?_)
  refine v_iadd (pc := 497) X (hd := dL_acts_497) (kk := ?_)
  refine v_ldB (pc := 498) X (x := w (24 + 7 * j + 3)) (7 * j + 3) B.2.1 (hd := dL_acts_498) (hi := by first | rfl | (simp only [pk_mul, nI_add]; done)) (hj := by omega) (hx := rfl) (kk := ?_)
  refine v_iconst (pc := 499) X (v := nI 1) (hd := dL_acts_499) (kk := ?_)
  refine v_iload (pc := 500) X (hd := dL_acts_500) (kk := ?_)
  refine v_ishl (pc := 502) X (hd := dL_acts_502) (kk := ?_)
  refine v_iconst (pc := 503) X (v := (-1)) (hd := dL_acts_503) (kk := ?_)
  refine v_ixor (pc := 504) X (hd := dL_acts_504) (kk := ?_)
  refine v_iand (pc := 505) X (hd := dL_acts_505) (kk := ?_)
  refine v_iload (pc := 506) X (hd := dL_acts_506) (kk := ?_)
  refine v_iload (pc := 508) X (hd := dL_acts_508) (kk := ?_)
  refine v_ishl (pc := 510) X (hd := dL_acts_510) (kk := ?_)
  refine v_ior (pc := 511) X (hd := dL_acts_511) (kk := ?_)
  refine v_topv (y := sGrant (w (24 + 7 * j + 3)) i (nI r)) (hx := rfl) (kk := ?_)
  refine v_stB (pc := 512) X (7 * j + 3) B (hd := dL_acts_512) (hi := by first | rfl | (simp only [pk_mul, nI_add]; done)) (hj := by omega) (kk := fun h_1 v_1 e_1 B_1 => ?_)
  refine v_iconst (pc := 513) X (v := nI 0) (hd := dL_acts_513) (kk := ?_)
  refine v_istore (pc := 514) X (hd := dL_acts_514) (kk := ?_)
  refine v_forp (pc := 516) (M := 6) (Lf := fun k => [some (.ref x), some (.ref y), some (.ref (y + 1)), some (.ref (y + 2)), some (.ref (y + 3)), some (.ref (y + 4)), some (.int zz), some (.int (nI vv)), some (.int (nI way)), some (.int (nI (i))), some (.int (nI (j))), some (.int (nI (r))), some (.int (fOnes (sGrant (w (24 + 7 * j + 3)) i (nI r)) k)), some (.int (nI (k)))]) (hL := by rfl) (step := ?_) (out := ?_)
  · intro k hk kk
    refine v_iload (pc := 516) X (hd := dL_acts_516) (kk := ?_)
    refine v_bipush (pc := 518) X (v := nI 6) (hd := dL_acts_518) (kk := ?_)
    refine v_icmpge (pc := 520) X (tgt := 548) (hd := dL_acts_520) (kt := fun c520 => ?_) (kf := fun c520 => ?_)
    · exact absurd c520 (nI_ge hk (by omega))
    · refine v_iload (pc := 523) X (hd := dL_acts_523) (kk := ?_)
      refine v_aload_n (pc := 525) X (hd := dL_acts_525) (kk := ?_)
      refine v_bipush (pc := 526) X (v := nI 7) (hd := dL_acts_526) (kk := ?_)
      refine v_iload (pc := 528) X (hd := dL_acts_528) (kk := ?_)
      refine v_imul (pc := 530) X (hd := dL_acts_530) (kk := ?_)
      refine v_iconst (pc := 531) X (v := nI 3) (hd := dL_acts_531) (kk := ?_)
      refine v_iadd (pc := 532) X (hd := dL_acts_532) (kk := ?_)
      refine v_ldB (pc := 533) X (x := sGrant (w (24 + 7 * j + 3)) i (nI r)) (7 * j + 3) B_1.2.1 (hd := dL_acts_533) (hi := by first | rfl | (simp only [pk_mul, nI_add]; done)) (hj := by omega) (hx := by rw [e_1, if_pos (by omega)]) (kk := ?_)
      refine v_iload (pc := 534) X (hd := dL_acts_534) (kk := ?_)
      refine v_ishr (pc := 536) X (hd := dL_acts_536) (kk := ?_)
      refine v_iconst (pc := 537) X (v := nI 1) (hd := dL_acts_537) (kk := ?_)
      refine v_iand (pc := 538) X (hd := dL_acts_538) (kk := ?_)
      refine v_iadd (pc := 539) X (hd := dL_acts_539) (kk := ?_)
      refine v_istore (pc := 540) X (hd := dL_acts_540) (kk := ?_)
      refine v_iincN (pc := 542) X (hd := dL_acts_542) (kk := ?_)
      refine v_goto (pc := 545) X (tgt := 516) (hd := dL_acts_545) (kk := ?_)
      exact kk
  · skip
    refine v_iload (pc := 516) X (hd := dL_acts_516) (kk := ?_)
    refine v_bipush (pc := 518) X (v := nI 6) (hd := dL_acts_518) (kk := ?_)
    refine v_icmpge (pc := 520) X (tgt := 548) (hd := dL_acts_520) (kt := fun c520 => ?_) (kf := fun c520 => ?_)
    · refine v_aload_n (pc := 548) X (hd := dL_acts_548) (kk := ?_)
      refine v_iload (pc := 549) X (hd := dL_acts_549) (kk := ?_)
      refine v_iload (pc := 551) X (hd := dL_acts_551) (kk := ?_)
      refine v_iload (pc := 553) X (hd := dL_acts_553) (kk := ?_)
      have k1 : kGrant w (nI i) (nI j) (nI r) := ⟨gi, gj, gI_in (by omega) (by omega) (by omega)⟩
      refine v_act (pc := 555) X B_1 I (hd := dL_acts_555) (wv := wv_L_57) (hC := fun pa te nu np st en => c_X6_grant l E x w pa np 0 te st en nu (nI i) (nI j) (nI r) nh nb ns) (S := fun k0 => ⟨_, _, _, iGrant I k0⟩) (hhi := fun k0 => hiGrant I k0) (kk := fun h_2 D0_2 D1_2 => ?_)
      have B_2 := D1_2 (k1)
      refine v_topv (y := fOnes (sGrant (w (24 + 7 * j + 3)) i (nI r)) 6) (hx := by unfold rGrant; rw [if_pos k1, ei, ej]) (kk := ?_)
      refine v_iload (pc := 558) X (hd := dL_acts_558) (kk := ?_)
      refine v_icmpne (pc := 560) X (tgt := 567) (hd := dL_acts_560) (kt := fun c560 => ?_) (kf := fun c560 => ?_)
      · exact absurd rfl c560
      · refine v_iconst (pc := 563) X (v := nI 1) (hd := dL_acts_563) (kk := ?_)
        refine v_goto (pc := 564) X (tgt := 568) (hd := dL_acts_564) (kk := ?_)
        exact v_endbi (pc := 568) X hr hlk (hd := dL_acts_568) (hn := by rw [nI_t]; rfl) (hf := ⟨rfl, LV.fin B_2 (fun q => by unfold gGrant; rw [ei, ej, e_1]; rfl) (iGrant I k1) (w2Grant I W k1) (by unfold gGrant; rw [pk_un (by omega)]; exact Y.mono (by omega))⟩)
    · exact absurd (Int32.le_refl _) c520
set_option maxRecDepth 100000 in
set_option maxHeartbeats 4000000 in
theorem ac_cut2 {p__ : Program} {l : Launch} {e__ : Env} {s__ : State} {m__ : MethodId} {args__ : Array Value} {below__ : List Frame} {meth__ : Method} {c__ : Code} {E : pE} {h0 h : pH} {z x y n nh nb ns vv way i j T M T9 : Nat} {w : Nat → Int32} {zz : Int32} (X : pCx p__ s__ m__ args__ c__ cL_acts 14 RL E (pA h0 z)) (hr : meth__.sig.returnType = some .boolean) (hlk : meth__.locks = false) (B : LB x y w w h) (I : Iv w nh nb ns) (W : W2 w nh ns) (Y : isN (w 0) 0 n) (hn9 : n ≤ 900) (hvv : vv < 10000000) (hi : i < nh) (hj : j < nb) (hT1 : 1 ≤ T) (hT2 : T ≤ 1000) (hM : M ≤ 45001) (eM : fMay w nh i j = nI M) : pV p__ l e__ rmAC s__ m__ args__ below__ meth__ c__ 14 E (pA h0 z) (MQ below__ (pQ E (pFi (fun h r h' => r = nI 1 ∧ LV x y (n + 1) h')) h0 z) args__ s__ 0 0 (pA h0 z)) z h 0 0 644 [some (.ref x), some (.ref y), some (.ref (y + 1)), some (.ref (y + 2)), some (.ref (y + 3)), some (.ref (y + 4)), some (.int zz), some (.int (nI vv)), some (.int (nI way)), some (.int (nI (i))), some (.int (nI (j))), some (.int (nI (M))), some (.int (nI (T9))), none] [.int (nI T)] := by
  obtain ⟨hn6, hb4, hs12, en, eb, es⟩ := I.1
  have ei : nx (nI i) = i := nx_nI (by omega)
  have ej : nx (nI j) = j := nx_nI (by omega)
  have gi : gH (w 1) (nI i) := by rw [en]; exact gH_in (by omega) hi
  have gj : gH (w 2) (nI j) := by rw [eb]; exact gH_in (by omega) hj
  refine v_istore (pc := 644) X (hd := dL_acts_644) (kk := ?_)
  refine v_iload (pc := 646) X (hd := dL_acts_646) (kk := ?_)
  refine v_iload (pc := 648) X (hd := dL_acts_648) (kk := ?_)
  refine v_icmple (pc := 650) X (tgt := 674) (hd := dL_acts_650) (kt := fun c650 => ?_) (kf := fun c650 => ?_)
  · have q650 : T ≤ M := (nI_leI (by omega) (by omega)).mp c650
    have k9 : nI T ≤ fMay w nh (nx (nI i)) (nx (nI j)) := by rw [ei, ej, eM]; exact c650
    refine v_aload_n (pc := 674) X (hd := dL_acts_674) (kk := ?_)
    refine v_iconst (pc := 675) X (v := nI 3) (hd := dL_acts_675) (kk := ?_)
    refine v_ldG (pc := 676) X (x := nI ns) (3) B.2.1 (hd := dL_acts_676) (hi := by first | rfl | (simp only [pk_mul, nI_add]; done)) (hj := by omega) (hx := es) (kk := ?_)
    refine v_bipush (pc := 677) X (v := nI 12) (hd := dL_acts_677) (kk := ?_)
    refine v_icmpne (pc := 679) X (tgt := 703) (hd := dL_acts_679) (kt := fun c679 => ?_) (kf := fun c679 => ?_)
    · have hs : ns < 12 := by
        have : ns ≠ 12 := fun q => c679 (by rw [q])
        omega
      have k8 : ¬ w 3 = nI 12 := by rw [es]; exact c679
      refine v_iconst (pc := 703) X (v := nI 5) (hd := dL_acts_703) (kk := ?_)
      refine v_aload_n (pc := 704) X (hd := dL_acts_704) (kk := ?_)
      refine v_iconst (pc := 705) X (v := nI 3) (hd := dL_acts_705) (kk := ?_)
      refine v_ldG (pc := 706) X (x := nI ns) (3) B.2.1 (hd := dL_acts_706) (hi := by first | rfl | (simp only [pk_mul, nI_add]; done)) (hj := by omega) (hx := es) (kk := ?_)
      refine v_imul (pc := 707) X (hd := dL_acts_707) (kk := ?_)
      refine v_istore (pc := 708) X (hd := dL_acts_708) (kk := ?_)
      refine v_aload (pc := 710) X (hd := dL_acts_710) (kk := ?_)
      refine v_iload (pc := 712) X (hd := dL_acts_712) (kk := ?_)
      refine v_iload (pc := 714) X (hd := dL_acts_714) (kk := ?_)
      refine v_stT (pc := 716) X (5 * ns) B (hd := dL_acts_716) (hi := by first | rfl | (simp only [pk_mul, nI_add]; done)) (hj := by omega) (kk := fun h_1 v_1 e_1 B_1 => ?_)
      refine v_aload (pc := 717) X (hd := dL_acts_717) (kk := ?_)
      refine v_iload (pc := 719) X (hd := dL_acts_719) (kk := ?_)
      refine v_iconst (pc := 721) X (v := nI 1) (hd := dL_acts_721) (kk := ?_)
      refine v_iadd (pc := 722) X (hd := dL_acts_722) (kk := ?_)
      refine v_iload (pc := 723) X (hd := dL_acts_723) (kk := ?_)
      refine v_stT (pc := 725) X (5 * ns + 1) B_1 (hd := dL_acts_725) (hi := by first | rfl | (simp only [pk_mul, nI_add]; done)) (hj := by omega) (kk := fun h_2 v_2 e_2 B_2 => ?_)
      refine v_aload (pc := 726) X (hd := dL_acts_726) (kk := ?_)
      refine v_iload (pc := 728) X (hd := dL_acts_728) (kk := ?_)
      refine v_iconst (pc := 730) X (v := nI 2) (hd := dL_acts_730) (kk := ?_)
      refine v_iadd (pc := 731) X (hd := dL_acts_731) (kk := ?_)
      refine v_iload (pc := 732) X (hd := dL_acts_732) (kk := ?_)
      refine v_stT (pc := 734) X (5 * ns + 2) B_2 (hd := dL_acts_734) (hi := by first | rfl | (simp only [pk_mul, nI_add]; done)) (hj := by omega) (kk := fun h_3 v_3 e_3 B_3 => ?_)
      refine v_aload (pc := 735) X (hd := dL_acts_735) (kk := ?_)
      refine v_iload (pc := 737) X (hd := dL_acts_737) (kk := ?_)
      refine v_iconst (pc := 739) X (v := nI 3) (hd := dL_acts_739) (kk := ?_)
      refine v_iadd (pc := 740) X (hd := dL_acts_740) (kk := ?_)
      refine v_ldc (v := nI 100000) (pc := 741) X (hw := wq_L_15) (hd := dL_acts_741) (kk := ?_)
      refine v_stT (pc := 743) X (5 * ns + 3) B_3 (hd := dL_acts_743) (hi := by first | rfl | (simp only [pk_mul, nI_add]; done)) (hj := by omega) (kk := fun h_4 v_4 e_4 B_4 => ?_)
      refine v_aload (pc := 744) X (hd := dL_acts_744) (kk := ?_)
      refine v_iload (pc := 746) X (hd := dL_acts_746) (kk := ?_)
      refine v_iconst (pc := 748) X (v := nI 4) (hd := dL_acts_748) (kk := ?_)
      refine v_iadd (pc := 749) X (hd := dL_acts_749) (kk := ?_)
      refine v_iconst (pc := 750) X (v := nI 0) (hd := dL_acts_750) (kk := ?_)
      refine v_stT (pc := 751) X (5 * ns + 4) B_4 (hd := dL_acts_751) (hi := by first | rfl | (simp only [pk_mul, nI_add]; done)) (hj := by omega) (kk := fun h_5 v_5 e_5 B_5 => ?_)
      refine v_aload_n (pc := 752) X (hd := dL_acts_752) (kk := ?_)
      refine v_iconst (pc := 753) X (v := nI 3) (hd := dL_acts_753) (kk := ?_)
      refine v_dup2 (pc := 754) X (hd := dL_acts_754) (kk := ?_)
      refine v_ldG (pc := 755) X (x := nI ns) (3) B_5.2.1 (hd := dL_acts_755) (hi := by first | rfl | (simp only [pk_mul, nI_add]; done)) (hj := by omega) (hx := by rw [e_5, if_neg (by omega), e_4, if_neg (by omega), e_3, if_neg (by omega), e_2, if_neg (by omega), e_1, if_neg (by omega)]; exact es) (kk := ?_)
      refine v_iconst (pc := 756) X (v := nI 1) (hd := dL_acts_756) (kk := ?_)
      refine v_iadd (pc := 757) X (hd := dL_acts_757) (kk := ?_)
      refine v_stG (pc := 758) X (3) B_5 (hd := dL_acts_758) (hi := by first | rfl | (simp only [pk_mul, nI_add]; done)) (hj := by omega) (kk := fun h_6 v_6 e_6 B_6 => ?_)
      refine v_aload (pc := 759) X (hd := dL_acts_759) (kk := ?_)
      refine v_iconst (pc := 761) X (v := nI 4) (hd := dL_acts_761) (kk := ?_)
      refine v_iload (pc := 762) X (hd := dL_acts_762) (kk := ?_)
      refine v_imul (pc := 764) X (hd := dL_acts_764) (kk := ?_)
      refine v_iload (pc := 765) X (hd := dL_acts_765) (kk := ?_)
      refine v_iadd (pc := 767) X (hd := dL_acts_767) (kk := ?_)
      refine v_dup2 (pc := 768) X (hd := dL_acts_768) (kk := ?_)
      refine v_ldC (pc := 769) X (x := w (52 + 4 * i + j)) (4 * i + j) B_6.2.1 (hd := dL_acts_769) (hi := by first | rfl | (simp only [pk_mul, nI_add]; done)) (hj := by omega) (hx := by (rw [e_6, if_neg (by omega), e_5, if_neg (by omega), e_4, if_neg (by omega), e_3, if_neg (by omega), e_2, if_neg (by omega), e_1, if_neg (by omega)]) <;> first | rfl | exact congrArg _ (by omega)) (kk := ?_)
      refine v_iload (pc := 770) X (hd := dL_acts_770) (kk := ?_)
      refine v_iadd (pc := 772) X (hd := dL_acts_772) (kk := ?_)
      refine v_stC (pc := 773) X (4 * i + j) B_6 (hd := dL_acts_773) (hi := by first | rfl | (simp only [pk_mul, nI_add]; done)) (hj := by omega) (kk := fun h_7 v_7 e_7 B_7 => ?_)
      refine v_aload_n (pc := 774) X (hd := dL_acts_774) (kk := ?_)
      refine v_bipush (pc := 775) X (v := nI 7) (hd := dL_acts_775) (kk := ?_)
      refine v_iload (pc := 777) X (hd := dL_acts_777) (kk := ?_)
      refine v_imul (pc := 779) X (hd := dL_acts_779) (kk := ?_)
      refine v_iconst (pc := 780) X (v := nI 4) (hd := dL_acts_780) (kk := ?_)
      refine v_iadd (pc := 781) X (hd := dL_acts_781) (kk := ?_)
      refine v_dup2 (pc := 782) X (hd := dL_acts_782) (kk := ?_)
      refine v_ldB (pc := 783) X (x := w (24 + 7 * j + 4)) (7 * j + 4) B_7.2.1 (hd := dL_acts_783) (hi := by first | rfl | (simp only [pk_mul, nI_add]; done)) (hj := by omega) (hx := by (rw [e_7, if_neg (by omega), e_6, if_neg (by omega), e_5, if_neg (by omega), e_4, if_neg (by omega), e_3, if_neg (by omega), e_2, if_neg (by omega), e_1, if_neg (by omega)]) <;> first | rfl | exact congrArg _ (by omega)) (kk := ?_)
      refine v_iload (pc := 784) X (hd := dL_acts_784) (kk := ?_)
      refine v_iadd (pc := 786) X (hd := dL_acts_786) (kk := ?_)
      refine v_stB (pc := 787) X (7 * j + 4) B_7 (hd := dL_acts_787) (hi := by first | rfl | (simp only [pk_mul, nI_add]; done)) (hj := by omega) (kk := fun h_8 v_8 e_8 B_8 => ?_)
      refine v_aload_n (pc := 788) X (hd := dL_acts_788) (kk := ?_)
      refine v_iload (pc := 789) X (hd := dL_acts_789) (kk := ?_)
      refine v_iload (pc := 791) X (hd := dL_acts_791) (kk := ?_)
      refine v_iload (pc := 793) X (hd := dL_acts_793) (kk := ?_)
      have k1 : kCut w nh (nI i) (nI j) (nI T) := ⟨⟨gi, gj, gI_in (lo := 1) hT1 hT2 (by omega)⟩, k9, k8⟩
      refine v_act (pc := 795) X B_8 I (hd := dL_acts_795) (wv := wv_L_65) (hC := fun pa te nu np st en => c_X6_cut l E x w pa np 0 te st en nu (nI i) (nI j) (nI T) nh nb ns) (S := fun k0 => ⟨_, _, _, iCut I k0⟩) (hhi := fun k0 => hiCut I k0) (kk := fun h_9 D0_9 D1_9 => ?_)
      have B_9 := D1_9 (k1)
      refine v_topv (y := nI ns) (hx := by unfold rCut; rw [if_pos k1.1, if_pos k9, if_neg k8, es]) (kk := ?_)
      refine v_aload_n (pc := 798) X (hd := dL_acts_798) (kk := ?_)
      refine v_iconst (pc := 799) X (v := nI 3) (hd := dL_acts_799) (kk := ?_)
      refine v_ldG (pc := 800) X (x := nI ns + nI 1) (3) B_9.2.1 (hd := dL_acts_800) (hi := by first | rfl | (simp only [pk_mul, nI_add]; done)) (hj := by omega) (hx := by rw [e_8, if_neg (by omega), e_7, if_neg (by omega), e_6, if_pos (by omega)]) (kk := ?_)
      refine v_iconst (pc := 801) X (v := nI 1) (hd := dL_acts_801) (kk := ?_)
      refine v_isub (pc := 802) X (hd := dL_acts_802) (kk := ?_)
      refine v_icmpne (pc := 803) X (tgt := 810) (hd := dL_acts_803) (kt := fun c803 => ?_) (kf := fun c803 => ?_)
      · exact absurd (by rw [nI_add, pk_sub (by omega)]; exact congrArg nI (by omega)) c803
      · refine v_iconst (pc := 806) X (v := nI 1) (hd := dL_acts_806) (kk := ?_)
        refine v_goto (pc := 807) X (tgt := 811) (hd := dL_acts_807) (kk := ?_)
        exact v_endbi (pc := 811) X hr hlk (hd := dL_acts_811) (hn := by rw [nI_t]; rfl) (hf := ⟨rfl, LV.fin B_9 (fun q => eq_cut (by omega) (by omega) hs es e_1 e_2 e_3 e_4 e_5 e_6 e_7 e_8 q) (iCut I k1) (w2Cut I W k1) (by rw [gCut_at (by omega) (by omega) hs, if_neg (by omega), if_neg (by omega), if_neg (by omega), if_neg (by omega), if_neg (by omega), if_neg (by omega), if_neg (by omega), if_neg (by omega)]; exact Y.mono (by omega))⟩)
    · have k8 : w 3 = nI 12 := es.trans (Classical.not_not.mp c679)
      refine v_aload_n (pc := 682) X (hd := dL_acts_682) (kk := ?_)
      refine v_iload (pc := 683) X (hd := dL_acts_683) (kk := ?_)
      refine v_iload (pc := 685) X (hd := dL_acts_685) (kk := ?_)
      refine v_iload (pc := 687) X (hd := dL_acts_687) (kk := ?_)
      refine v_act (pc := 689) X B I (hd := dL_acts_689) (wv := wv_L_65) (hC := fun pa te nu np st en => c_X6_cut l E x w pa np 0 te st en nu (nI i) (nI j) (nI T) nh nb ns) (S := fun k0 => ⟨_, _, _, iCut I k0⟩) (hhi := fun k0 => hiCut I k0) (kk := fun h_10 D0_10 D1_10 => ?_)
      have B_10 := D0_10 (fun q => q.2.2 k8)
      refine v_topv (y := (-3)) (hx := by unfold rCut; rw [if_pos ⟨gi, gj, gI_in (lo := 1) hT1 hT2 (by omega)⟩, if_pos k9, if_pos k8]) (kk := ?_)
      refine v_bipush (pc := 692) X (v := (-3)) (hd := dL_acts_692) (kk := ?_)
      refine v_icmpne (pc := 694) X (tgt := 701) (hd := dL_acts_694) (kt := fun c694 => ?_) (kf := fun c694 => ?_)
      · exact absurd rfl c694
      · refine v_iconst (pc := 697) X (v := nI 1) (hd := dL_acts_697) (kk := ?_)
        refine v_goto (pc := 698) X (tgt := 702) (hd := dL_acts_698) (kk := ?_)
        exact v_endbi (pc := 702) X hr hlk (hd := dL_acts_702) (hn := by rw [nI_t]; rfl) (hf := ⟨rfl, LV.fin B_10 (fun q => rfl) I W (Y.mono (by omega))⟩)
  · have k9 : ¬ nI T ≤ fMay w nh (nx (nI i)) (nx (nI j)) := by rw [ei, ej, eM]; exact c650
    refine v_aload_n (pc := 653) X (hd := dL_acts_653) (kk := ?_)
    refine v_iload (pc := 654) X (hd := dL_acts_654) (kk := ?_)
    refine v_iload (pc := 656) X (hd := dL_acts_656) (kk := ?_)
    refine v_iload (pc := 658) X (hd := dL_acts_658) (kk := ?_)
    refine v_act (pc := 660) X B I (hd := dL_acts_660) (wv := wv_L_65) (hC := fun pa te nu np st en => c_X6_cut l E x w pa np 0 te st en nu (nI i) (nI j) (nI T) nh nb ns) (S := fun k0 => ⟨_, _, _, iCut I k0⟩) (hhi := fun k0 => hiCut I k0) (kk := fun h_11 D0_11 D1_11 => ?_)
    have B_11 := D0_11 (fun q => k9 q.2.1)
    refine v_topv (y := (-2)) (hx := by unfold rCut; rw [if_pos ⟨gi, gj, gI_in (lo := 1) hT1 hT2 (by omega)⟩, if_neg k9]) (kk := ?_)
    refine v_bipush (pc := 663) X (v := (-2)) (hd := dL_acts_663) (kk := ?_)
    refine v_icmpne (pc := 665) X (tgt := 672) (hd := dL_acts_665) (kt := fun c665 => ?_) (kf := fun c665 => ?_)
    · exact absurd rfl c665
    · refine v_iconst (pc := 668) X (v := nI 1) (hd := dL_acts_668) (kk := ?_)
      refine v_goto (pc := 669) X (tgt := 673) (hd := dL_acts_669) (kk := ?_)
      exact v_endbi (pc := 673) X hr hlk (hd := dL_acts_673) (hn := by rw [nI_t]; rfl) (hf := ⟨rfl, LV.fin B_11 (fun q => rfl) I W (Y.mono (by omega))⟩)
set_option maxRecDepth 100000 in
set_option maxHeartbeats 4000000 in
theorem ac_cut1 {p__ : Program} {l : Launch} {e__ : Env} {s__ : State} {m__ : MethodId} {args__ : Array Value} {below__ : List Frame} {meth__ : Method} {c__ : Code} {E : pE} {h0 h : pH} {z x y n nh nb ns vv way i j T0 M : Nat} {w : Nat → Int32} {zz : Int32} (X : pCx p__ s__ m__ args__ c__ cL_acts 14 RL E (pA h0 z)) (hr : meth__.sig.returnType = some .boolean) (hlk : meth__.locks = false) (B : LB x y w w h) (I : Iv w nh nb ns) (W : W2 w nh ns) (Y : isN (w 0) 0 n) (hn9 : n ≤ 900) (hvv : vv < 10000000) (hi : i < nh) (hj : j < nb) (hT1 : 1 ≤ T0) (hT2 : T0 ≤ 100000) (hM : M ≤ 45001) (eM : fMay w nh i j = nI M) : pV p__ l e__ rmAC s__ m__ args__ below__ meth__ c__ 14 E (pA h0 z) (MQ below__ (pQ E (pFi (fun h r h' => r = nI 1 ∧ LV x y (n + 1) h')) h0 z) args__ s__ 0 0 (pA h0 z)) z h 0 0 626 [some (.ref x), some (.ref y), some (.ref (y + 1)), some (.ref (y + 2)), some (.ref (y + 3)), some (.ref (y + 4)), some (.int zz), some (.int (nI vv)), some (.int (nI way)), some (.int (nI (i))), some (.int (nI (j))), some (.int (nI (M))), none, none] [.int (nI T0)] := by
  obtain ⟨hn6, hb4, hs12, en, eb, es⟩ := I.1
  have ei : nx (nI i) = i := nx_nI (by omega)
  have ej : nx (nI j) = j := nx_nI (by omega)
  have gi : gH (w 1) (nI i) := by rw [en]; exact gH_in (by omega) hi
  have gj : gH (w 2) (nI j) := by rw [eb]; exact gH_in (by omega) hj
  refine v_istore (pc := 626) X (hd := dL_acts_626) (kk := ?_)
  refine v_iload (pc := 628) X (hd := dL_acts_628) (kk := ?_)
  refine v_sipush (pc := 630) X (v := nI 1000) (hd := dL_acts_630) (kk := ?_)
  refine v_icmple (pc := 633) X (tgt := 642) (hd := dL_acts_633) (kt := fun c633 => ?_) (kf := fun c633 => ?_)
  · have q633 : T0 ≤ 1000 := (nI_leI (by omega) (by omega)).mp c633
    refine v_iload (pc := 642) X (hd := dL_acts_642) (kk := ?_)
    exact ac_cut2 X hr hlk B I W Y hn9 hvv hi hj (by omega) (by omega) hM eM
  · refine v_sipush (pc := 636) X (v := nI 1000) (hd := dL_acts_636) (kk := ?_)
    refine v_goto (pc := 639) X (tgt := 644) (hd := dL_acts_639) (kk := ?_)
    exact ac_cut2 X hr hlk B I W Y hn9 hvv hi hj (by omega) (by omega) hM eM
set_option maxRecDepth 100000 in
set_option maxHeartbeats 4000000 in
theorem ac_rep {p__ : Program} {l : Launch} {e__ : Env} {s__ : State} {m__ : MethodId} {args__ : Array Value} {below__ : List Frame} {meth__ : Method} {c__ : Code} {E : pE} {h0 h : pH} {z x y n nh nb ns vv way i j : Nat} {w : Nat → Int32} {zz : Int32} (X : pCx p__ s__ m__ args__ c__ cL_acts 14 RL E (pA h0 z)) (hr : meth__.sig.returnType = some .boolean) (hlk : meth__.locks = false) (B : LB x y w w h) (I : Iv w nh nb ns) (W : W2 w nh ns) (Y : isN (w 0) 0 n) (hn9 : n ≤ 900) (hvv : vv < 10000000) (hi : i < nh) (hj : j < nb) : pV p__ l e__ rmAC s__ m__ args__ below__ meth__ c__ 14 E (pA h0 z) (MQ below__ (pQ E (pFi (fun h r h' => r = nI 1 ∧ LV x y (n + 1) h')) h0 z) args__ s__ 0 0 (pA h0 z)) z h 0 0 840 [some (.ref x), some (.ref y), some (.ref (y + 1)), some (.ref (y + 2)), some (.ref (y + 3)), some (.ref (y + 4)), some (.int zz), some (.int (nI vv)), some (.int (nI way)), some (.int (nI (i))), some (.int (nI (j))), none, none, none] [] := by
  obtain ⟨hn6, hb4, hs12, en, eb, es⟩ := I.1
  have ei : nx (nI i) = i := nx_nI (by omega)
  have ej : nx (nI j) = j := nx_nI (by omega)
  have gi : gH (w 1) (nI i) := by rw [en]; exact gH_in (by omega) hi
  have gj : gH (w 2) (nI j) := by rw [eb]; exact gH_in (by omega) hj
  refine v_aload_n (pc := 840) X (hd := dL_acts_840) (kk := ?_)
  refine v_bipush (pc := 841) X (v := nI 7) (hd := dL_acts_841) (kk := ?_)
  refine v_iload (pc := 843) X (hd := dL_acts_843) (kk := ?_)
  refine v_imul (pc := 845) X (hd := dL_acts_845) (kk := ?_)
  refine v_iconst (pc := 846) X (v := nI 2) (hd := dL_acts_846) (kk := ?_)
  refine v_iadd (pc := 847) X (hd := dL_acts_847) (kk := ?_)
  refine v_ldB (pc := 848) X (x := w (24 + 7 * j + 2)) (7 * j + 2) B.2.1 (hd := dL_acts_848) (hi := by first | rfl | (simp only [pk_mul, nI_add]; done)) (hj := by omega) (hx := rfl) (kk := ?_)
  refine v_istore (pc := 849) X (hd := dL_acts_849) (kk := ?_)
  refine v_aload_n (pc := 851) X (hd := dL_acts_851) (kk := ?_)
  refine v_bipush (pc := 852) X (v := nI 7) (hd := dL_acts_852) (kk := ?_)
  refine v_iload (pc := 854) X (hd := dL_acts_854) (kk := ?_)
  refine v_imul (pc := 856) X (hd := dL_acts_856) (kk := ?_)
  refine v_iconst (pc := 857) X (v := nI 2) (hd := dL_acts_857) (kk := ?_)
  refine v_iadd (pc := 858) X (hd := dL_acts_858) (kk := ?_)
  refine v_iconst (pc := 859) X (v := nI 0) (hd := dL_acts_859) (kk := ?_)
  refine v_stB (pc := 860) X (7 * j + 2) B (hd := dL_acts_860) (hi := by first | rfl | (simp only [pk_mul, nI_add]; done)) (hj := by omega) (kk := fun h_1 v_1 e_1 B_1 => ?_)
  refine v_aload_n (pc := 861) X (hd := dL_acts_861) (kk := ?_)
  refine v_iload (pc := 862) X (hd := dL_acts_862) (kk := ?_)
  have k1 : kRep w (nI j) := gj
  refine v_act (pc := 864) X B_1 I (hd := dL_acts_864) (wv := wv_L_72) (hC := fun pa te nu np st en => c_X6_repair l E x w pa np 0 te st en nu (nI j) nh nb ns) (S := fun k0 => ⟨_, _, _, iRep I k0⟩) (hhi := fun k0 => hiRep I k0) (kk := fun h_2 D0_2 D1_2 => ?_)
  have B_2 := D1_2 (k1)
  refine v_topv (y := w (24 + 7 * j + 2)) (hx := by unfold rRep; rw [if_pos k1, ej]) (kk := ?_)
  refine v_iload (pc := 867) X (hd := dL_acts_867) (kk := ?_)
  refine v_icmpne (pc := 869) X (tgt := 876) (hd := dL_acts_869) (kt := fun c869 => ?_) (kf := fun c869 => ?_)
  · exact absurd rfl c869
  · refine v_iconst (pc := 872) X (v := nI 1) (hd := dL_acts_872) (kk := ?_)
    refine v_goto (pc := 873) X (tgt := 877) (hd := dL_acts_873) (kk := ?_)
    exact v_endbi (pc := 877) X hr hlk (hd := dL_acts_877) (hn := by rw [nI_t]; rfl) (hf := ⟨rfl, LV.fin B_2 (fun q => by unfold gRep; rw [ej, e_1]; rfl) (iRep I k1) (by unfold gRep; rw [ej]; exact w2Upd W (by omega) (by omega)) (by unfold gRep; rw [pk_un (by omega)]; exact Y.mono (by omega))⟩)
set_option maxRecDepth 100000 in
set_option maxHeartbeats 4000000 in
theorem ac_end {p__ : Program} {l : Launch} {e__ : Env} {s__ : State} {m__ : MethodId} {args__ : Array Value} {below__ : List Frame} {meth__ : Method} {c__ : Code} {E : pE} {h0 h : pH} {z x y n nh nb ns vv way i j : Nat} {w : Nat → Int32} {zz : Int32} (X : pCx p__ s__ m__ args__ c__ cL_acts 14 RL E (pA h0 z)) (hr : meth__.sig.returnType = some .boolean) (hlk : meth__.locks = false) (B : LB x y w w h) (I : Iv w nh nb ns) (W : W2 w nh ns) (Y : isN (w 0) 0 n) (hn9 : n ≤ 900) (hvv : vv < 10000000) (hi : i < nh) (hj : j < nb) : pV p__ l e__ rmAC s__ m__ args__ below__ meth__ c__ 14 E (pA h0 z) (MQ below__ (pQ E (pFi (fun h r h' => r = nI 1 ∧ LV x y (n + 1) h')) h0 z) args__ s__ 0 0 (pA h0 z)) z h 0 0 892 [some (.ref x), some (.ref y), some (.ref (y + 1)), some (.ref (y + 2)), some (.ref (y + 3)), some (.ref (y + 4)), some (.int zz), some (.int (nI vv)), some (.int (nI way)), some (.int (nI (i))), some (.int (nI (j))), none, none, none] [] := by
  obtain ⟨hn6, hb4, hs12, en, eb, es⟩ := I.1
  have ei : nx (nI i) = i := nx_nI (by omega)
  have ej : nx (nI j) = j := nx_nI (by omega)
  have gi : gH (w 1) (nI i) := by rw [en]; exact gH_in (by omega) hi
  have gj : gH (w 2) (nI j) := by rw [eb]; exact gH_in (by omega) hj
  refine v_iconst (pc := 892) X (v := nI 0) (hd := dL_acts_892) (kk := ?_)
  refine v_istore (pc := 893) X (hd := dL_acts_893) (kk := ?_)
  refine v_iconst (pc := 895) X (v := nI 0) (hd := dL_acts_895) (kk := ?_)
  refine v_istore (pc := 896) X (hd := dL_acts_896) (kk := ?_)
  refine v_for (pc := 898) (M := ns) (Lf := fun k => [some (.ref x), some (.ref y), some (.ref (y + 1)), some (.ref (y + 2)), some (.ref (y + 3)), some (.ref (y + 4)), some (.int zz), some (.int (nI vv)), some (.int (nI way)), some (.int (nI (i))), some (.int (nI (j))), some (.int (eyS w k)), some (.int (nI (k))), none]) (I := fun k h1 => ∃ v9, LB x y w v9 h1 ∧ ∀ q, v9 q = eyF w k q) (h0 := ⟨w, B, fun q => rfl⟩) (hL := by rfl) (step := ?_) (out := ?_)
  · intro k h1 hk hI kk
    obtain ⟨v9, B9, e9⟩ := hI
    obtain ⟨o, bb, ts, we, tn, s1, s2, s3, s4, s5, s6, u0, u1, u2, u3, u4⟩ := I.2.2.2.2.2.2.2.2.1 k hk
    refine v_iload (pc := 898) X (hd := dL_acts_898) (kk := ?_)
    refine v_aload_n (pc := 900) X (hd := dL_acts_900) (kk := ?_)
    refine v_iconst (pc := 901) X (v := nI 3) (hd := dL_acts_901) (kk := ?_)
    refine v_ldG (pc := 902) X (x := nI ns) (3) B9.2.1 (hd := dL_acts_902) (hi := by first | rfl | (simp only [pk_mul, nI_add]; done)) (hj := by omega) (hx := by rw [e9, eyF_o I k (by omega) _ (by omega)]; exact es) (kk := ?_)
    refine v_icmpge (pc := 903) X (tgt := 955) (hd := dL_acts_903) (kt := fun c903 => ?_) (kf := fun c903 => ?_)
    · exact absurd c903 (nI_ge hk (by omega))
    · refine v_iload (pc := 906) X (hd := dL_acts_906) (kk := ?_)
      refine v_aload (pc := 908) X (hd := dL_acts_908) (kk := ?_)
      refine v_iconst (pc := 910) X (v := nI 5) (hd := dL_acts_910) (kk := ?_)
      refine v_iload (pc := 911) X (hd := dL_acts_911) (kk := ?_)
      refine v_imul (pc := 913) X (hd := dL_acts_913) (kk := ?_)
      refine v_iconst (pc := 914) X (v := nI 2) (hd := dL_acts_914) (kk := ?_)
      refine v_iadd (pc := 915) X (hd := dL_acts_915) (kk := ?_)
      refine v_ldT (pc := 916) X (x := eyF w k (76 + 5 * k + 2)) (5 * k + 2) B9.2.1 (hd := dL_acts_916) (hi := by first | rfl | (simp only [pk_mul, nI_add]; done)) (hj := by omega) (hx := e9 _) (kk := ?_)
      refine v_iadd (pc := 917) X (hd := dL_acts_917) (kk := ?_)
      refine v_istore (pc := 918) X (hd := dL_acts_918) (kk := ?_)
      refine v_aload_n (pc := 920) X (hd := dL_acts_920) (kk := ?_)
      refine v_bipush (pc := 921) X (v := nI 7) (hd := dL_acts_921) (kk := ?_)
      refine v_aload (pc := 923) X (hd := dL_acts_923) (kk := ?_)
      refine v_iconst (pc := 925) X (v := nI 5) (hd := dL_acts_925) (kk := ?_)
      refine v_iload (pc := 926) X (hd := dL_acts_926) (kk := ?_)
      refine v_imul (pc := 928) X (hd := dL_acts_928) (kk := ?_)
      refine v_iconst (pc := 929) X (v := nI 1) (hd := dL_acts_929) (kk := ?_)
      refine v_iadd (pc := 930) X (hd := dL_acts_930) (kk := ?_)
      refine v_ldT (pc := 931) X (x := nI bb) (5 * k + 1) B9.2.1 (hd := dL_acts_931) (hi := by first | rfl | (simp only [pk_mul, nI_add]; done)) (hj := by omega) (hx := by rw [e9, eyF_o I k (by omega) _ (by omega)]; exact u1) (kk := ?_)
      refine v_imul (pc := 932) X (hd := dL_acts_932) (kk := ?_)
      refine v_bipush (pc := 933) X (v := nI 6) (hd := dL_acts_933) (kk := ?_)
      refine v_iadd (pc := 935) X (hd := dL_acts_935) (kk := ?_)
      refine v_dup2 (pc := 936) X (hd := dL_acts_936) (kk := ?_)
      refine v_ldB (pc := 937) X (x := eyF w k (24 + 7 * bb + 6)) (7 * bb + 6) B9.2.1 (hd := dL_acts_937) (hi := by first | rfl | (simp only [pk_mul, nI_add]; done)) (hj := by omega) (hx := e9 _) (kk := ?_)
      refine v_aload (pc := 938) X (hd := dL_acts_938) (kk := ?_)
      refine v_iconst (pc := 940) X (v := nI 5) (hd := dL_acts_940) (kk := ?_)
      refine v_iload (pc := 941) X (hd := dL_acts_941) (kk := ?_)
      refine v_imul (pc := 943) X (hd := dL_acts_943) (kk := ?_)
      refine v_iconst (pc := 944) X (v := nI 2) (hd := dL_acts_944) (kk := ?_)
      refine v_iadd (pc := 945) X (hd := dL_acts_945) (kk := ?_)
      refine v_ldT (pc := 946) X (x := eyF w k (76 + 5 * k + 2)) (5 * k + 2) B9.2.1 (hd := dL_acts_946) (hi := by first | rfl | (simp only [pk_mul, nI_add]; done)) (hj := by omega) (hx := e9 _) (kk := ?_)
      refine v_iadd (pc := 947) X (hd := dL_acts_947) (kk := ?_)
      refine v_stB (pc := 948) X (7 * bb + 6) B9 (hd := dL_acts_948) (hi := by first | rfl | (simp only [pk_mul, nI_add]; done)) (hj := by omega) (kk := fun h_1 v_1 e_1 B_1 => ?_)
      refine v_iincN (pc := 949) X (hd := dL_acts_949) (kk := ?_)
      refine v_goto (pc := 952) X (tgt := 898) (hd := dL_acts_952) (kk := ?_)
      exact kk h_1 ⟨v_1, B_1, fun q => by rw [e_1, e9 q, show 24 + (7 * bb + 6) = 24 + 7 * bb + 6 by omega]; show _ = upd _ _ _ q; rw [eyF_o I k (by omega) (76 + 5 * k + 1) (by omega), u1, nx_nI (show bb < 2 ^ 31 by omega)]; rfl⟩
  · intro h1 hI
    obtain ⟨v9, B9, e9⟩ := hI
    refine v_iload (pc := 898) X (hd := dL_acts_898) (kk := ?_)
    refine v_aload_n (pc := 900) X (hd := dL_acts_900) (kk := ?_)
    refine v_iconst (pc := 901) X (v := nI 3) (hd := dL_acts_901) (kk := ?_)
    refine v_ldG (pc := 902) X (x := nI ns) (3) B9.2.1 (hd := dL_acts_902) (hi := by first | rfl | (simp only [pk_mul, nI_add]; done)) (hj := by omega) (hx := by rw [e9, eyF_o I ns (by omega) _ (by omega)]; exact es) (kk := ?_)
    refine v_icmpge (pc := 903) X (tgt := 955) (hd := dL_acts_903) (kt := fun c903 => ?_) (kf := fun c903 => ?_)
    · refine v_iconst (pc := 955) X (v := nI 0) (hd := dL_acts_955) (kk := ?_)
      refine v_istore (pc := 956) X (hd := dL_acts_956) (kk := ?_)
      refine v_for (pc := 958) (M := 24) (Lf := fun k => [some (.ref x), some (.ref y), some (.ref (y + 1)), some (.ref (y + 2)), some (.ref (y + 3)), some (.ref (y + 4)), some (.int zz), some (.int (nI vv)), some (.int (nI way)), some (.int (nI (i))), some (.int (nI (j))), some (.int (eyS w ns)), some (.int (nI (k))), none]) (I := fun k h1 => ∃ v8, LB x y w v8 h1 ∧ ∀ q, v8 q = zrF (eyF w ns) k q) (h0 := ⟨v9, B9, e9⟩) (hL := by rfl) (step := ?_) (out := ?_)
      · intro k h1 hk hI kk
        obtain ⟨v8, B8, e8⟩ := hI
        refine v_iload (pc := 958) X (hd := dL_acts_958) (kk := ?_)
        refine v_bipush (pc := 960) X (v := nI 24) (hd := dL_acts_960) (kk := ?_)
        refine v_icmpge (pc := 962) X (tgt := 977) (hd := dL_acts_962) (kt := fun c962 => ?_) (kf := fun c962 => ?_)
        · exact absurd c962 (nI_ge hk (by omega))
        · refine v_aload (pc := 965) X (hd := dL_acts_965) (kk := ?_)
          refine v_iload (pc := 967) X (hd := dL_acts_967) (kk := ?_)
          refine v_iconst (pc := 969) X (v := nI 0) (hd := dL_acts_969) (kk := ?_)
          refine v_stC (pc := 970) X (k) B8 (hd := dL_acts_970) (hi := by first | rfl | (simp only [pk_mul, nI_add]; done)) (hj := by omega) (kk := fun h_2 v_2 e_2 B_2 => ?_)
          refine v_iincN (pc := 971) X (hd := dL_acts_971) (kk := ?_)
          refine v_goto (pc := 974) X (tgt := 958) (hd := dL_acts_974) (kk := ?_)
          exact kk h_2 ⟨v_2, B_2, fun q => by rw [e_2, e8 q]; rfl⟩
      · intro h1 hI
        obtain ⟨v8, B8, e8⟩ := hI
        refine v_iload (pc := 958) X (hd := dL_acts_958) (kk := ?_)
        refine v_bipush (pc := 960) X (v := nI 24) (hd := dL_acts_960) (kk := ?_)
        refine v_icmpge (pc := 962) X (tgt := 977) (hd := dL_acts_962) (kt := fun c962 => ?_) (kf := fun c962 => ?_)
        · refine v_aload_n (pc := 977) X (hd := dL_acts_977) (kk := ?_)
          refine v_iconst (pc := 978) X (v := nI 0) (hd := dL_acts_978) (kk := ?_)
          refine v_dup2 (pc := 979) X (hd := dL_acts_979) (kk := ?_)
          refine v_ldG (pc := 980) X (x := w 0) (0) B8.2.1 (hd := dL_acts_980) (hi := by first | rfl | (simp only [pk_mul, nI_add]; done)) (hj := by omega) (hx := by rw [e8, zrF_at, if_neg (by omega), eyF_o I ns (Nat.le_refl _) _ (by omega)]) (kk := ?_)
          refine v_iconst (pc := 981) X (v := nI 1) (hd := dL_acts_981) (kk := ?_)
          refine v_iadd (pc := 982) X (hd := dL_acts_982) (kk := ?_)
          refine v_stG (pc := 983) X (0) B8 (hd := dL_acts_983) (hi := by first | rfl | (simp only [pk_mul, nI_add]; done)) (hj := by omega) (kk := fun h_3 v_3 e_3 B_3 => ?_)
          refine v_aload_n (pc := 984) X (hd := dL_acts_984) (kk := ?_)
          refine v_iconst (pc := 985) X (v := nI 3) (hd := dL_acts_985) (kk := ?_)
          refine v_iconst (pc := 986) X (v := nI 0) (hd := dL_acts_986) (kk := ?_)
          refine v_stG (pc := 987) X (3) B_3 (hd := dL_acts_987) (hi := by first | rfl | (simp only [pk_mul, nI_add]; done)) (hj := by omega) (kk := fun h_4 v_4 e_4 B_4 => ?_)
          refine v_aload_n (pc := 988) X (hd := dL_acts_988) (kk := ?_)
          refine v_iconst (pc := 989) X (v := nI 4) (hd := dL_acts_989) (kk := ?_)
          refine v_iconst (pc := 990) X (v := nI 0) (hd := dL_acts_990) (kk := ?_)
          refine v_stG (pc := 991) X (4) B_4 (hd := dL_acts_991) (hi := by first | rfl | (simp only [pk_mul, nI_add]; done)) (hj := by omega) (kk := fun h_5 v_5 e_5 B_5 => ?_)
          refine v_aload_n (pc := 992) X (hd := dL_acts_992) (kk := ?_)
          have k1 : kEnd w := fun q => by obtain ⟨r, r1, r2, r3⟩ := Y; rw [r3] at q; have := (nI_eq (by omega) (by omega)).mp q; omega
          refine v_act (pc := 993) X B_5 I (hd := dL_acts_993) (wv := wv_L_75) (hC := fun pa te nu np st en => c_X6_endYear l E x w pa np 0 te st en nu  nh nb ns) (S := fun k0 => ⟨_, _, _, iEnd I k0⟩) (hhi := fun k0 => hiEnd I) (kk := fun h_6 D0_6 D1_6 => ?_)
          have B_6 := D1_6 (k1)
          refine v_topv (y := eyS w ns) (hx := by unfold rEnd; rw [if_pos k1]) (kk := ?_)
          refine v_iload (pc := 996) X (hd := dL_acts_996) (kk := ?_)
          refine v_icmpne (pc := 998) X (tgt := 1005) (hd := dL_acts_998) (kt := fun c998 => ?_) (kf := fun c998 => ?_)
          · exact absurd rfl c998
          · refine v_iconst (pc := 1001) X (v := nI 1) (hd := dL_acts_1001) (kk := ?_)
            refine v_goto (pc := 1002) X (tgt := 1006) (hd := dL_acts_1002) (kk := ?_)
            exact v_endbi (pc := 1006) X hr hlk (hd := dL_acts_1006) (hn := by rw [nI_t]; rfl) (hf := ⟨rfl, LV.fin B_6 (fun q => eq_end I e8 e_3 e_4 e_5 q) (iEnd I k1) (w2End I W) (by rw [gEnd_0 I]; obtain ⟨r, r1, r2, r3⟩ := Y; exact ⟨r + 1, by omega, by omega, by rw [r3, nI_add]⟩)⟩)
        · exact absurd (Int32.le_refl _) c962
    · exact absurd (Int32.le_refl _) c903
set_option maxRecDepth 100000 in
set_option maxHeartbeats 4000000 in
theorem ac_day {p__ : Program} {l : Launch} {e__ : Env} {s__ : State} {m__ : MethodId} {args__ : Array Value} {below__ : List Frame} {meth__ : Method} {c__ : Code} {E : pE} {h0 h : pH} {z x y n nh nb ns vv way i j wi ra : Nat} {w : Nat → Int32} {zz : Int32} (X : pCx p__ s__ m__ args__ c__ cL_acts 14 RL E (pA h0 z)) (hr : meth__.sig.returnType = some .boolean) (hlk : meth__.locks = false) (B : LB x y w w h) (I : Iv w nh nb ns) (W : W2 w nh ns) (Y : isN (w 0) 0 n) (hn9 : n ≤ 900) (hvv : vv < 10000000) (hi : i < nh) (hj : j < nb) (hwi : wi ≤ 9) (hra : ra ≤ 9) : pV p__ l e__ rmAC s__ m__ args__ below__ meth__ c__ 14 E (pA h0 z) (MQ below__ (pQ E (pFi (fun h r h' => r = nI 1 ∧ LV x y (n + 1) h')) h0 z) args__ s__ 0 0 (pA h0 z)) z h 0 0 1036 [some (.ref x), some (.ref y), some (.ref (y + 1)), some (.ref (y + 2)), some (.ref (y + 3)), some (.ref (y + 4)), some (.int zz), some (.int (nI vv)), some (.int (nI way)), some (.int (nI (i))), some (.int (nI (j))), some (.int (nI (wi))), none, none] [.int (nI ra)] := by
  obtain ⟨hn6, hb4, hs12, en, eb, es⟩ := I.1
  have ei : nx (nI i) = i := nx_nI (by omega)
  have ej : nx (nI j) = j := nx_nI (by omega)
  have gi : gH (w 1) (nI i) := by rw [en]; exact gH_in (by omega) hi
  have gj : gH (w 2) (nI j) := by rw [eb]; exact gH_in (by omega) hj
  refine v_istore (pc := 1036) X (hd := dL_acts_1036) (kk := ?_)
  refine v_iconst (pc := 1038) X (v := nI 0) (hd := dL_acts_1038) (kk := ?_)
  refine v_istore (pc := 1039) X (hd := dL_acts_1039) (kk := ?_)
  refine v_for (pc := 1041) (M := ns) (Lf := fun k => [some (.ref x), some (.ref y), some (.ref (y + 1)), some (.ref (y + 2)), some (.ref (y + 3)), some (.ref (y + 4)), some (.int zz), some (.int (nI vv)), some (.int (nI way)), some (.int (nI (i))), some (.int (nI (j))), some (.int (nI (wi))), some (.int (nI (ra))), some (.int (nI (k)))]) (I := fun k h1 => ∃ v9, LB x y w v9 h1 ∧ ∀ q, v9 q = dyF w (nI wi) (nI ra) k q) (h0 := ⟨w, B, fun q => rfl⟩) (hL := by rfl) (step := ?_) (out := ?_)
  · intro k h1 hk hI kk
    obtain ⟨v9, B9, e9⟩ := hI
    obtain ⟨o, bb, ts, we, tn, s1, s2, s3, s4, s5, s6, u0, u1, u2, u3, u4⟩ := I.2.2.2.2.2.2.2.2.1 k hk
    refine v_iload (pc := 1041) X (hd := dL_acts_1041) (kk := ?_)
    refine v_aload_n (pc := 1043) X (hd := dL_acts_1043) (kk := ?_)
    refine v_iconst (pc := 1044) X (v := nI 3) (hd := dL_acts_1044) (kk := ?_)
    refine v_ldG (pc := 1045) X (x := nI ns) (3) B9.2.1 (hd := dL_acts_1045) (hi := by first | rfl | (simp only [pk_mul, nI_add]; done)) (hj := by omega) (hx := by rw [e9, dyF_o _ _ _ _ _ (fun k => by omega)]; exact es) (kk := ?_)
    refine v_icmpge (pc := 1046) X (tgt := 1089) (hd := dL_acts_1046) (kt := fun c1046 => ?_) (kf := fun c1046 => ?_)
    · exact absurd c1046 (nI_ge hk (by omega))
    · refine v_aload (pc := 1049) X (hd := dL_acts_1049) (kk := ?_)
      refine v_iconst (pc := 1051) X (v := nI 5) (hd := dL_acts_1051) (kk := ?_)
      refine v_iload (pc := 1052) X (hd := dL_acts_1052) (kk := ?_)
      refine v_imul (pc := 1054) X (hd := dL_acts_1054) (kk := ?_)
      refine v_iconst (pc := 1055) X (v := nI 3) (hd := dL_acts_1055) (kk := ?_)
      refine v_iadd (pc := 1056) X (hd := dL_acts_1056) (kk := ?_)
      refine v_aload (pc := 1057) X (hd := dL_acts_1057) (kk := ?_)
      refine v_iconst (pc := 1059) X (v := nI 5) (hd := dL_acts_1059) (kk := ?_)
      refine v_iload (pc := 1060) X (hd := dL_acts_1060) (kk := ?_)
      refine v_imul (pc := 1062) X (hd := dL_acts_1062) (kk := ?_)
      refine v_iconst (pc := 1063) X (v := nI 3) (hd := dL_acts_1063) (kk := ?_)
      refine v_iadd (pc := 1064) X (hd := dL_acts_1064) (kk := ?_)
      refine v_ldT (pc := 1065) X (x := nI we) (5 * k + 3) B9.2.1 (hd := dL_acts_1065) (hi := by first | rfl | (simp only [pk_mul, nI_add]; done)) (hj := by omega) (hx := by rw [e9]; show dyF _ _ _ _ (76 + 5 * k + 3) = _; rw [dyF_at, if_neg (by omega)]; exact u3) (kk := ?_)
      refine v_aload (pc := 1066) X (hd := dL_acts_1066) (kk := ?_)
      refine v_iconst (pc := 1068) X (v := nI 5) (hd := dL_acts_1068) (kk := ?_)
      refine v_iload (pc := 1069) X (hd := dL_acts_1069) (kk := ?_)
      refine v_imul (pc := 1071) X (hd := dL_acts_1071) (kk := ?_)
      refine v_iconst (pc := 1072) X (v := nI 4) (hd := dL_acts_1072) (kk := ?_)
      refine v_iadd (pc := 1073) X (hd := dL_acts_1073) (kk := ?_)
      refine v_ldT (pc := 1074) X (x := nI tn) (5 * k + 4) B9.2.1 (hd := dL_acts_1074) (hi := by first | rfl | (simp only [pk_mul, nI_add]; done)) (hj := by omega) (hx := by rw [e9, dyF_o _ _ _ _ _ (fun k => by omega)]; exact u4) (kk := ?_)
      refine v_iload (pc := 1075) X (hd := dL_acts_1075) (kk := ?_)
      refine v_iload (pc := 1077) X (hd := dL_acts_1077) (kk := ?_)
      refine v_callSp (pc := 1079) X (hd := dL_acts_1079) (w := wv_L_79) (hC := c_L_then l E we tn wi (nI ra)) (hp := ⟨s5, s6, hwi⟩) (kk := ?_)
      refine v_stT (pc := 1082) X (5 * k + 3) B9 (hd := dL_acts_1082) (hi := by first | rfl | (simp only [pk_mul, nI_add]; done)) (hj := by omega) (kk := fun h_1 v_1 e_1 B_1 => ?_)
      refine v_iincN (pc := 1083) X (hd := dL_acts_1083) (kk := ?_)
      refine v_goto (pc := 1086) X (tgt := 1041) (hd := dL_acts_1086) (kk := ?_)
      exact kk h_1 ⟨v_1, B_1, fun q => by rw [e_1, e9 q, show 76 + (5 * k + 3) = 76 + 5 * k + 3 by omega]; show _ = upd _ _ _ q; rw [dyF_at w (nI wi) (nI ra) k k, if_neg (show ¬ k < k by omega), dyF_o w _ _ k (76 + 5 * k + 4) (fun k => by omega), u3, u4]; rfl⟩
  · intro h1 hI
    obtain ⟨v9, B9, e9⟩ := hI
    refine v_iload (pc := 1041) X (hd := dL_acts_1041) (kk := ?_)
    refine v_aload_n (pc := 1043) X (hd := dL_acts_1043) (kk := ?_)
    refine v_iconst (pc := 1044) X (v := nI 3) (hd := dL_acts_1044) (kk := ?_)
    refine v_ldG (pc := 1045) X (x := nI ns) (3) B9.2.1 (hd := dL_acts_1045) (hi := by first | rfl | (simp only [pk_mul, nI_add]; done)) (hj := by omega) (hx := by rw [e9, dyF_o _ _ _ _ _ (fun k => by omega)]; exact es) (kk := ?_)
    refine v_icmpge (pc := 1046) X (tgt := 1089) (hd := dL_acts_1046) (kt := fun c1046 => ?_) (kf := fun c1046 => ?_)
    · refine v_aload_n (pc := 1089) X (hd := dL_acts_1089) (kk := ?_)
      refine v_iconst (pc := 1090) X (v := nI 4) (hd := dL_acts_1090) (kk := ?_)
      refine v_iload (pc := 1091) X (hd := dL_acts_1091) (kk := ?_)
      refine v_stG (pc := 1093) X (4) B9 (hd := dL_acts_1093) (hi := by first | rfl | (simp only [pk_mul, nI_add]; done)) (hj := by omega) (kk := fun h_2 v_2 e_2 B_2 => ?_)
      refine v_aload_n (pc := 1094) X (hd := dL_acts_1094) (kk := ?_)
      refine v_iconst (pc := 1095) X (v := nI 5) (hd := dL_acts_1095) (kk := ?_)
      refine v_dup2 (pc := 1096) X (hd := dL_acts_1096) (kk := ?_)
      refine v_ldG (pc := 1097) X (x := w 5) (5) B_2.2.1 (hd := dL_acts_1097) (hi := by first | rfl | (simp only [pk_mul, nI_add]; done)) (hj := by omega) (hx := by rw [e_2, if_neg (by omega), e9, dyF_o _ _ _ _ _ (fun k => by omega)]) (kk := ?_)
      refine v_iconst (pc := 1098) X (v := nI 1) (hd := dL_acts_1098) (kk := ?_)
      refine v_iadd (pc := 1099) X (hd := dL_acts_1099) (kk := ?_)
      refine v_stG (pc := 1100) X (5) B_2 (hd := dL_acts_1100) (hi := by first | rfl | (simp only [pk_mul, nI_add]; done)) (hj := by omega) (kk := fun h_3 v_3 e_3 B_3 => ?_)
      refine v_aload_n (pc := 1101) X (hd := dL_acts_1101) (kk := ?_)
      refine v_iload (pc := 1102) X (hd := dL_acts_1102) (kk := ?_)
      refine v_iload (pc := 1104) X (hd := dL_acts_1104) (kk := ?_)
      have k1 : kDay (nI wi) (nI ra) := ⟨gI_in (by omega) hwi (by omega), gI_in (by omega) hra (by omega)⟩
      refine v_act (pc := 1106) X B_3 I (hd := dL_acts_1106) (wv := wv_L_83) (hC := fun pa te nu np st en => c_X6_day l E x w pa np 0 te st en nu (nI wi) (nI ra) nh nb ns) (S := fun k0 => ⟨_, _, _, iDay I k0⟩) (hhi := fun k0 => hiDay I) (kk := fun h_4 D0_4 D1_4 => ?_)
      have B_4 := D1_4 (k1)
      refine v_topv (y := fDryN (gDay w (nI wi) (nI ra) ns) ns) (hx := by unfold rDay; rw [if_pos k1]) (kk := ?_)
      refine v_aload_n (pc := 1109) X (hd := dL_acts_1109) (kk := ?_)
      refine v_aload (pc := 1110) X (hd := dL_acts_1110) (kk := ?_)
      refine v_callSp (pc := 1112) X (hd := dL_acts_1112) (w := wv_L_86) (hC := c_L_dry l E y v_3 ns) (hp := ⟨B_4.2.1, by rw [e_3, if_neg (by omega), e_2, if_neg (by omega), e9, dyF_o _ _ _ _ _ (fun k => by omega)]; exact es, hs12⟩) (kk := ?_)
      refine v_icmpne (pc := 1115) X (tgt := 1122) (hd := dL_acts_1115) (kt := fun c1115 => ?_) (kf := fun c1115 => ?_)
      · exact absurd (congrArg (fun f => fDryN f ns) (funext (fun q => (eq_day hs12 e9 e_2 e_3 q).symm))) c1115
      · refine v_iconst (pc := 1118) X (v := nI 1) (hd := dL_acts_1118) (kk := ?_)
        refine v_goto (pc := 1119) X (tgt := 1123) (hd := dL_acts_1119) (kk := ?_)
        exact v_endbi (pc := 1123) X hr hlk (hd := dL_acts_1123) (hn := by rw [nI_t]; rfl) (hf := ⟨rfl, LV.fin B_4 (fun q => eq_day hs12 e9 e_2 e_3 q) (iDay I k1) (w2Day W) (by unfold gDay; rw [pk_un (by omega), pk_un (by omega), dyF_o _ _ _ _ _ (fun k => by omega)]; exact Y.mono (by omega))⟩)
    · exact absurd (Int32.le_refl _) c1046
set_option maxRecDepth 100000 in
set_option maxHeartbeats 4000000 in
theorem ac_day0 {p__ : Program} {l : Launch} {e__ : Env} {s__ : State} {m__ : MethodId} {args__ : Array Value} {below__ : List Frame} {meth__ : Method} {c__ : Code} {E : pE} {h0 h : pH} {z x y n nh nb ns vv way i j : Nat} {w : Nat → Int32} {zz : Int32} (X : pCx p__ s__ m__ args__ c__ cL_acts 14 RL E (pA h0 z)) (hr : meth__.sig.returnType = some .boolean) (hlk : meth__.locks = false) (B : LB x y w w h) (I : Iv w nh nb ns) (W : W2 w nh ns) (Y : isN (w 0) 0 n) (hn9 : n ≤ 900) (hvv : vv < 10000000) (hi : i < nh) (hj : j < nb) : pV p__ l e__ rmAC s__ m__ args__ below__ meth__ c__ 14 E (pA h0 z) (MQ below__ (pQ E (pFi (fun h r h' => r = nI 1 ∧ LV x y (n + 1) h')) h0 z) args__ s__ 0 0 (pA h0 z)) z h 0 0 1007 [some (.ref x), some (.ref y), some (.ref (y + 1)), some (.ref (y + 2)), some (.ref (y + 3)), some (.ref (y + 4)), some (.int zz), some (.int (nI vv)), some (.int (nI way)), some (.int (nI (i))), some (.int (nI (j))), none, none, none] [] := by
  obtain ⟨hn6, hb4, hs12, en, eb, es⟩ := I.1
  refine v_iload (pc := 1007) X (hd := dL_acts_1007) (kk := ?_)
  refine v_bipush (pc := 1009) X (v := nI 10) (hd := dL_acts_1009) (kk := ?_)
  refine v_iremN (pc := 1011) X (a := vv) (d := 10) (hd := dL_acts_1011) (hx := by first | rfl | (simp only [pk_mul, nI_add]; done)) (hy := by first | rfl | (simp only [pk_mul, nI_add]; done)) (ha := by omega) (h0 := by omega) (hd2 := by omega) (kk := ?_)
  refine v_istore (pc := 1012) X (hd := dL_acts_1012) (kk := ?_)
  refine v_iload (pc := 1014) X (hd := dL_acts_1014) (kk := ?_)
  refine v_bipush (pc := 1016) X (v := nI 10) (hd := dL_acts_1016) (kk := ?_)
  refine v_idivN (pc := 1018) X (a := vv) (d := 10) (hd := dL_acts_1018) (hx := by first | rfl | (simp only [pk_mul, nI_add]; done)) (hy := by first | rfl | (simp only [pk_mul, nI_add]; done)) (ha := by omega) (h0 := by omega) (hd2 := by omega) (kk := ?_)
  refine v_iconst (pc := 1019) X (v := nI 3) (hd := dL_acts_1019) (kk := ?_)
  refine v_iremN (pc := 1020) X (a := vv / 10) (d := 3) (hd := dL_acts_1020) (hx := by first | rfl | (simp only [pk_mul, nI_add]; done)) (hy := by first | rfl | (simp only [pk_mul, nI_add]; done)) (ha := by omega) (h0 := by omega) (hd2 := by omega) (kk := ?_)
  refine v_ifle (pc := 1021) X (tgt := 1028) (hd := dL_acts_1021) (kt := fun c1021 => ?_) (kf := fun c1021 => ?_)
  · refine v_iload (pc := 1028) X (hd := dL_acts_1028) (kk := ?_)
    refine v_bipush (pc := 1030) X (v := nI 30) (hd := dL_acts_1030) (kk := ?_)
    refine v_idivN (pc := 1032) X (a := vv) (d := 30) (hd := dL_acts_1032) (hx := by first | rfl | (simp only [pk_mul, nI_add]; done)) (hy := by first | rfl | (simp only [pk_mul, nI_add]; done)) (ha := by omega) (h0 := by omega) (hd2 := by omega) (kk := ?_)
    refine v_bipush (pc := 1033) X (v := nI 10) (hd := dL_acts_1033) (kk := ?_)
    refine v_iremN (pc := 1035) X (a := vv / 30) (d := 10) (hd := dL_acts_1035) (hx := by first | rfl | (simp only [pk_mul, nI_add]; done)) (hy := by first | rfl | (simp only [pk_mul, nI_add]; done)) (ha := by omega) (h0 := by omega) (hd2 := by omega) (kk := ?_)
    exact ac_day X hr hlk B I W Y hn9 hvv hi hj (by omega) (by omega)
  · refine v_iconst (pc := 1024) X (v := nI 0) (hd := dL_acts_1024) (kk := ?_)
    refine v_goto (pc := 1025) X (tgt := 1036) (hd := dL_acts_1025) (kk := ?_)
    exact ac_day X hr hlk B I W Y hn9 hvv hi hj (by omega) (by omega)
set_option maxRecDepth 100000 in
set_option maxHeartbeats 4000000 in
theorem ac_main {p__ : Program} {l : Launch} {e__ : Env} {s__ : State} {m__ : MethodId} {args__ : Array Value} {below__ : List Frame} {meth__ : Method} {c__ : Code} {E : pE} {h0 h : pH} {z x y n nh nb ns vv way : Nat} {w : Nat → Int32} {zz : Int32} (X : pCx p__ s__ m__ args__ c__ cL_acts 14 RL E (pA h0 z)) (hr : meth__.sig.returnType = some .boolean) (hlk : meth__.locks = false) (B : LB x y w w h) (I : Iv w nh nb ns) (W : W2 w nh ns) (Y : isN (w 0) 0 n) (hn9 : n ≤ 900) (hvv : vv < 10000000) (hway : way < 26) (hnh : 0 < nh) (hnb : 0 < nb) : pV p__ l e__ rmAC s__ m__ args__ below__ meth__ c__ 14 E (pA h0 z) (MQ below__ (pQ E (pFi (fun h r h' => r = nI 1 ∧ LV x y (n + 1) h')) h0 z) args__ s__ 0 0 (pA h0 z)) z h 0 0 314 [some (.ref x), some (.ref y), some (.ref (y + 1)), some (.ref (y + 2)), some (.ref (y + 3)), some (.ref (y + 4)), some (.int zz), some (.int (nI vv)), some (.int (nI way)), none, none, none, none, none] [] := by
  obtain ⟨hn6, hb4, hs12, en, eb, es⟩ := I.1
  refine v_iload (pc := 314) X (hd := dL_acts_314) (kk := ?_)
  refine v_aload_n (pc := 316) X (hd := dL_acts_316) (kk := ?_)
  refine v_iconst (pc := 317) X (v := nI 1) (hd := dL_acts_317) (kk := ?_)
  refine v_ldG (pc := 318) X (x := nI nh) (1) B.2.1 (hd := dL_acts_318) (hi := by first | rfl | (simp only [pk_mul, nI_add]; done)) (hj := by omega) (hx := en) (kk := ?_)
  
  refine v_iremN (pc := 319) X (a := vv) (d := nh) (hd := dL_acts_319) (hx := by first | rfl | (simp only [pk_mul, nI_add]; done)) (hy := by first | rfl | (simp only [pk_mul, nI_add]; done)) (ha := by omega) (h0 := by omega) (hd2 := by omega) (kk := ?_)
  obtain ⟨i, hi, ei9⟩ : ∃ i, i < nh ∧ vv % nh = i := ⟨_, Nat.mod_lt _ hnh, rfl⟩
  rw [ei9]
  refine v_istore (pc := 320) X (hd := dL_acts_320) (kk := ?_)
  refine v_iload (pc := 322) X (hd := dL_acts_322) (kk := ?_)
  refine v_bipush (pc := 324) X (v := nI 6) (hd := dL_acts_324) (kk := ?_)
  refine v_idivN (pc := 326) X (a := vv) (d := 6) (hd := dL_acts_326) (hx := by first | rfl | (simp only [pk_mul, nI_add]; done)) (hy := by first | rfl | (simp only [pk_mul, nI_add]; done)) (ha := by omega) (h0 := by omega) (hd2 := by omega) (kk := ?_)
  refine v_aload_n (pc := 327) X (hd := dL_acts_327) (kk := ?_)
  refine v_iconst (pc := 328) X (v := nI 2) (hd := dL_acts_328) (kk := ?_)
  refine v_ldG (pc := 329) X (x := nI nb) (2) B.2.1 (hd := dL_acts_329) (hi := by first | rfl | (simp only [pk_mul, nI_add]; done)) (hj := by omega) (hx := eb) (kk := ?_)
  refine v_iremN (pc := 330) X (a := vv / 6) (d := nb) (hd := dL_acts_330) (hx := by first | rfl | (simp only [pk_mul, nI_add]; done)) (hy := by first | rfl | (simp only [pk_mul, nI_add]; done)) (ha := by omega) (h0 := by omega) (hd2 := by omega) (kk := ?_)
  obtain ⟨j, hj, ej9⟩ : ∃ j, j < nb ∧ vv / 6 % nb = j := ⟨_, Nat.mod_lt _ hnb, rfl⟩
  rw [ej9]
  refine v_istore (pc := 331) X (hd := dL_acts_331) (kk := ?_)
  refine v_iload (pc := 333) X (hd := dL_acts_333) (kk := ?_)
  refine v_iconst (pc := 335) X (v := nI 2) (hd := dL_acts_335) (kk := ?_)
  refine v_icmpne (pc := 336) X (tgt := 456) (hd := dL_acts_336) (kt := fun c336 => ?_) (kf := fun c336 => ?_)
  · refine v_iload (pc := 456) X (hd := dL_acts_456) (kk := ?_)
    refine v_iconst (pc := 458) X (v := nI 5) (hd := dL_acts_458) (kk := ?_)
    refine v_icmpge (pc := 459) X (tgt := 569) (hd := dL_acts_459) (kt := fun c459 => ?_) (kf := fun c459 => ?_)
    · refine v_iload (pc := 569) X (hd := dL_acts_569) (kk := ?_)
      refine v_bipush (pc := 571) X (v := nI 11) (hd := dL_acts_571) (kk := ?_)
      refine v_icmpge (pc := 573) X (tgt := 812) (hd := dL_acts_573) (kt := fun c573 => ?_) (kf := fun c573 => ?_)
      · refine v_iload (pc := 812) X (hd := dL_acts_812) (kk := ?_)
        refine v_bipush (pc := 814) X (v := nI 19) (hd := dL_acts_814) (kk := ?_)
        refine v_icmpge (pc := 816) X (tgt := 833) (hd := dL_acts_816) (kt := fun c816 => ?_) (kf := fun c816 => ?_)
        · refine v_iload (pc := 833) X (hd := dL_acts_833) (kk := ?_)
          refine v_bipush (pc := 835) X (v := nI 19) (hd := dL_acts_835) (kk := ?_)
          refine v_icmpne (pc := 837) X (tgt := 878) (hd := dL_acts_837) (kt := fun c837 => ?_) (kf := fun c837 => ?_)
          · refine v_iload (pc := 878) X (hd := dL_acts_878) (kk := ?_)
            refine v_bipush (pc := 880) X (v := nI 20) (hd := dL_acts_880) (kk := ?_)
            refine v_icmpne (pc := 882) X (tgt := 1007) (hd := dL_acts_882) (kt := fun c882 => ?_) (kf := fun c882 => ?_)
            · exact ac_day0 X hr hlk B I W Y hn9 hvv hi hj
            · refine v_iload (pc := 885) X (hd := dL_acts_885) (kk := ?_)
              refine v_iconst (pc := 887) X (v := nI 3) (hd := dL_acts_887) (kk := ?_)
              refine v_iremN (pc := 888) X (a := vv) (d := 3) (hd := dL_acts_888) (hx := by first | rfl | (simp only [pk_mul, nI_add]; done)) (hy := by first | rfl | (simp only [pk_mul, nI_add]; done)) (ha := by omega) (h0 := by omega) (hd2 := by omega) (kk := ?_)
              refine v_ifne (pc := 889) X (tgt := 1007) (hd := dL_acts_889) (kt := fun c889 => ?_) (kf := fun c889 => ?_)
              · exact ac_day0 X hr hlk B I W Y hn9 hvv hi hj
              · exact ac_end X hr hlk B I W Y hn9 hvv hi hj
          · exact ac_rep X hr hlk B I W Y hn9 hvv hi hj
        · refine v_aload_n (pc := 819) X (hd := dL_acts_819) (kk := ?_)
          refine v_aload_n (pc := 820) X (hd := dL_acts_820) (kk := ?_)
          refine v_aload_n (pc := 821) X (hd := dL_acts_821) (kk := ?_)
          refine v_aload_n (pc := 822) X (hd := dL_acts_822) (kk := ?_)
          refine v_aload (pc := 823) X (hd := dL_acts_823) (kk := ?_)
          refine v_iload (pc := 825) X (hd := dL_acts_825) (kk := ?_)
          refine v_iload (pc := 827) X (hd := dL_acts_827) (kk := ?_)
          refine v_callSi (pc := 829) X (hd := dL_acts_829) (w := wv_L_68) (hC := c_L_stacked l E x y n vv way) (hp := ⟨⟨w, nh, nb, ns, B, I, W, Y⟩, hn9, hvv, hway⟩) (kk := fun r9 h9 q9 => ?_)
          obtain ⟨rfl, q9⟩ := q9
          exact v_endbi (pc := 832) X hr hlk (hd := dL_acts_832) (hn := by rw [nI_t]; rfl) (hf := ⟨rfl, q9⟩)
      · refine v_aload_n (pc := 576) X (hd := dL_acts_576) (kk := ?_)
        refine v_aload_n (pc := 577) X (hd := dL_acts_577) (kk := ?_)
        refine v_aload_n (pc := 578) X (hd := dL_acts_578) (kk := ?_)
        refine v_aload (pc := 579) X (hd := dL_acts_579) (kk := ?_)
        refine v_iload (pc := 581) X (hd := dL_acts_581) (kk := ?_)
        refine v_iload (pc := 583) X (hd := dL_acts_583) (kk := ?_)
        refine v_callSp (pc := 585) X (hd := dL_acts_585) (w := wv_L_61) (hC := c_L_may l E y w i j nh nb ns) (hp := ⟨B.2.1, I, hi, hj⟩) (kk := ?_)
        obtain ⟨M, hM, eM⟩ := may_n I hi hj
        rw [eM]
        refine v_istore (pc := 588) X (hd := dL_acts_588) (kk := ?_)
        refine v_iload (pc := 590) X (hd := dL_acts_590) (kk := ?_)
        refine v_ifeq (pc := 592) X (tgt := 602) (hd := dL_acts_592) (kt := fun c592 => ?_) (kf := fun c592 => ?_)
        · refine v_iconst (pc := 602) X (v := nI 1) (hd := dL_acts_602) (kk := ?_)
          refine v_iload (pc := 603) X (hd := dL_acts_603) (kk := ?_)
          refine v_bipush (pc := 605) X (v := nI 24) (hd := dL_acts_605) (kk := ?_)
          refine v_idivN (pc := 607) X (a := vv) (d := 24) (hd := dL_acts_607) (hx := by first | rfl | (simp only [pk_mul, nI_add]; done)) (hy := by first | rfl | (simp only [pk_mul, nI_add]; done)) (ha := by omega) (h0 := by omega) (hd2 := by omega) (kk := ?_)
          refine v_sipush (pc := 608) X (v := nI 1000) (hd := dL_acts_608) (kk := ?_)
          refine v_iremN (pc := 611) X (a := vv / 24) (d := 1000) (hd := dL_acts_611) (hx := by first | rfl | (simp only [pk_mul, nI_add]; done)) (hy := by first | rfl | (simp only [pk_mul, nI_add]; done)) (ha := by omega) (h0 := by omega) (hd2 := by omega) (kk := ?_)
          refine v_iadd (pc := 612) X (hd := dL_acts_612) (kk := ?_)
          refine v_goto (pc := 613) X (tgt := 626) (hd := dL_acts_613) (kk := ?_)
          rw [nI_add 1]
          exact ac_cut1 X hr hlk B I W Y hn9 hvv hi hj (by omega) (by omega) hM eM
        · have q592 : 0 < M := by
            rcases Nat.eq_zero_or_pos M with q | q
            · exact absurd (by rw [q]; exact nI_z) c592
            · exact q
          refine v_iload (pc := 595) X (hd := dL_acts_595) (kk := ?_)
          refine v_iconst (pc := 597) X (v := nI 5) (hd := dL_acts_597) (kk := ?_)
          refine v_iremN (pc := 598) X (a := vv) (d := 5) (hd := dL_acts_598) (hx := by first | rfl | (simp only [pk_mul, nI_add]; done)) (hy := by first | rfl | (simp only [pk_mul, nI_add]; done)) (ha := by omega) (h0 := by omega) (hd2 := by omega) (kk := ?_)
          refine v_ifne (pc := 599) X (tgt := 616) (hd := dL_acts_599) (kt := fun c599 => ?_) (kf := fun c599 => ?_)
          · refine v_iconst (pc := 616) X (v := nI 1) (hd := dL_acts_616) (kk := ?_)
            refine v_iload (pc := 617) X (hd := dL_acts_617) (kk := ?_)
            refine v_bipush (pc := 619) X (v := nI 24) (hd := dL_acts_619) (kk := ?_)
            refine v_idivN (pc := 621) X (a := vv) (d := 24) (hd := dL_acts_621) (hx := by first | rfl | (simp only [pk_mul, nI_add]; done)) (hy := by first | rfl | (simp only [pk_mul, nI_add]; done)) (ha := by omega) (h0 := by omega) (hd2 := by omega) (kk := ?_)
            refine v_iload (pc := 622) X (hd := dL_acts_622) (kk := ?_)
            refine v_iremN (pc := 624) X (a := vv / 24) (d := M) (hd := dL_acts_624) (hx := by first | rfl | (simp only [pk_mul, nI_add]; done)) (hy := by first | rfl | (simp only [pk_mul, nI_add]; done)) (ha := by omega) (h0 := by omega) (hd2 := by omega) (kk := ?_)
            refine v_iadd (pc := 625) X (hd := dL_acts_625) (kk := ?_)
            rw [nI_add 1]
            exact ac_cut1 X hr hlk B I W Y hn9 hvv hi hj (by omega) (by have := Nat.mod_lt (vv / 24) q592; omega) hM eM
          · refine v_iconst (pc := 602) X (v := nI 1) (hd := dL_acts_602) (kk := ?_)
            refine v_iload (pc := 603) X (hd := dL_acts_603) (kk := ?_)
            refine v_bipush (pc := 605) X (v := nI 24) (hd := dL_acts_605) (kk := ?_)
            refine v_idivN (pc := 607) X (a := vv) (d := 24) (hd := dL_acts_607) (hx := by first | rfl | (simp only [pk_mul, nI_add]; done)) (hy := by first | rfl | (simp only [pk_mul, nI_add]; done)) (ha := by omega) (h0 := by omega) (hd2 := by omega) (kk := ?_)
            refine v_sipush (pc := 608) X (v := nI 1000) (hd := dL_acts_608) (kk := ?_)
            refine v_iremN (pc := 611) X (a := vv / 24) (d := 1000) (hd := dL_acts_611) (hx := by first | rfl | (simp only [pk_mul, nI_add]; done)) (hy := by first | rfl | (simp only [pk_mul, nI_add]; done)) (ha := by omega) (h0 := by omega) (hd2 := by omega) (kk := ?_)
            refine v_iadd (pc := 612) X (hd := dL_acts_612) (kk := ?_)
            refine v_goto (pc := 613) X (tgt := 626) (hd := dL_acts_613) (kk := ?_)
            rw [nI_add 1]
            exact ac_cut1 X hr hlk B I W Y hn9 hvv hi hj (by omega) (by omega) hM eM
    · refine v_iload (pc := 462) X (hd := dL_acts_462) (kk := ?_)
      refine v_bipush (pc := 464) X (v := nI 24) (hd := dL_acts_464) (kk := ?_)
      refine v_idivN (pc := 466) X (a := vv) (d := 24) (hd := dL_acts_466) (hx := by first | rfl | (simp only [pk_mul, nI_add]; done)) (hy := by first | rfl | (simp only [pk_mul, nI_add]; done)) (ha := by omega) (h0 := by omega) (hd2 := by omega) (kk := ?_)
      refine v_iconst (pc := 467) X (v := nI 4) (hd := dL_acts_467) (kk := ?_)
      refine v_iremN (pc := 468) X (a := vv / 24) (d := 4) (hd := dL_acts_468) (hx := by first | rfl | (simp only [pk_mul, nI_add]; done)) (hy := by first | rfl | (simp only [pk_mul, nI_add]; done)) (ha := by omega) (h0 := by omega) (hd2 := by omega) (kk := ?_)
      refine v_ifle (pc := 469) X (tgt := 476) (hd := dL_acts_469) (kt := fun c469 => ?_) (kf := fun c469 => ?_)
      · refine v_iconst (pc := 476) X (v := nI 0) (hd := dL_acts_476) (kk := ?_)
        exact ac_grant X hr hlk B I W Y hn9 hvv hi hj (by omega)
      · refine v_iconst (pc := 472) X (v := nI 1) (hd := dL_acts_472) (kk := ?_)
        refine v_goto (pc := 473) X (tgt := 477) (hd := dL_acts_473) (kk := ?_)
        exact ac_grant X hr hlk B I W Y hn9 hvv hi hj (by omega)
  · exact ac_set X hr hlk B I W Y hn9 hvv hi hj
set_option maxRecDepth 100000 in
set_option maxHeartbeats 4000000 in
theorem c_L_acts (l : Launch) (E : pE) (x y n : Nat) (zz : Int32) : pC l E yL_acts cL_acts 14 (some .boolean) rmAC 0 0 [.ref x, .ref y, .ref (y + 1), .ref (y + 2), .ref (y + 3), .ref (y + 4), .int zz] (fun h _ => LV x y n h ∧ n ≤ 900) (pFi (fun h r h' => r = nI 1 ∧ LV x y (n + 1) h')) := by
  refine pC_of (by decide) (by simp [Value.category]) (Nat.le_of_ble_eq_true rfl) ?_
  intro h z hp p__ e__ s__ m__ args__ below__ meth__ c__ X hr hlk hname
  obtain ⟨⟨w, nh, nb, ns, B, I, W, Y⟩, hn9⟩ := hp
  obtain ⟨hn6, hb4, hs12, en, eb, es⟩ := I.1
  refine v_iload (pc := 0) X (hd := dL_acts_0) (kk := ?_)
  refine v_iconst (pc := 2) X (v := nI 5) (hd := dL_acts_2) (kk := ?_)
  refine v_ishr (pc := 3) X (hd := dL_acts_3) (kk := ?_)
  refine v_ldc (v := nI 10000000) (pc := 4) X (hw := wq_L_41) (hd := dL_acts_4) (kk := ?_)
  refine v_callSi (pc := 6) X (hd := dL_acts_6) (w := wv_L_42) (hC := c_L_low l E (zz >>> (nI 5 &&& 31)) 10000000) (hp := ⟨by omega, by omega⟩) (kk := fun r6 h6 q6 => ?_)
  obtain ⟨rfl, vv, hvv, rfl⟩ := q6
  refine v_istore (pc := 9) X (hd := dL_acts_9) (kk := ?_)
  refine v_iload (pc := 11) X (hd := dL_acts_11) (kk := ?_)
  refine v_bipush (pc := 13) X (v := nI 26) (hd := dL_acts_13) (kk := ?_)
  refine v_callSi (pc := 15) X (hd := dL_acts_15) (w := wv_L_42) (hC := c_L_low l E zz 26) (hp := ⟨by omega, by omega⟩) (kk := fun r15 h15 q15 => ?_)
  obtain ⟨rfl, way, hway, rfl⟩ := q15
  refine v_istore (pc := 18) X (hd := dL_acts_18) (kk := ?_)
  refine v_iload (pc := 20) X (hd := dL_acts_20) (kk := ?_)
  refine v_ifeq (pc := 22) X (tgt := 31) (hd := dL_acts_22) (kt := fun c22 => ?_) (kf := fun c22 => ?_)
  · exact ac_come X hr hlk B I W Y hn9 hvv
  · refine v_aload_n (pc := 25) X (hd := dL_acts_25) (kk := ?_)
    refine v_iconst (pc := 26) X (v := nI 1) (hd := dL_acts_26) (kk := ?_)
    refine v_ldG (pc := 27) X (x := nI nh) (1) B.2.1 (hd := dL_acts_27) (hi := by first | rfl | (simp only [pk_mul, nI_add]; done)) (hj := by omega) (hx := en) (kk := ?_)
    refine v_ifne (pc := 28) X (tgt := 158) (hd := dL_acts_28) (kt := fun c28 => ?_) (kf := fun c28 => ?_)
    · have hnh : 0 < nh := by
        rcases Nat.eq_zero_or_pos nh with q | q
        · exact absurd (by rw [q]; exact nI_z) c28
        · exact q
      refine v_iload (pc := 158) X (hd := dL_acts_158) (kk := ?_)
      refine v_iconst (pc := 160) X (v := nI 1) (hd := dL_acts_160) (kk := ?_)
      refine v_icmpeq (pc := 161) X (tgt := 170) (hd := dL_acts_161) (kt := fun c161 => ?_) (kf := fun c161 => ?_)
      · exact ac_add X hr hlk B I W Y hn9 hvv
      · refine v_aload_n (pc := 164) X (hd := dL_acts_164) (kk := ?_)
        refine v_iconst (pc := 165) X (v := nI 2) (hd := dL_acts_165) (kk := ?_)
        refine v_ldG (pc := 166) X (x := nI nb) (2) B.2.1 (hd := dL_acts_166) (hi := by first | rfl | (simp only [pk_mul, nI_add]; done)) (hj := by omega) (hx := eb) (kk := ?_)
        refine v_ifne (pc := 167) X (tgt := 314) (hd := dL_acts_167) (kt := fun c167 => ?_) (kf := fun c167 => ?_)
        · have hnb : 0 < nb := by
            rcases Nat.eq_zero_or_pos nb with q | q
            · exact absurd (by rw [q]; exact nI_z) c167
            · exact q
          exact ac_main X hr hlk B I W Y hn9 hvv hway hnh hnb
        · exact ac_add X hr hlk B I W Y hn9 hvv
    · exact ac_come X hr hlk B I W Y hn9 hvv
