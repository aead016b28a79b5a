set_option maxRecDepth 100000 in
set_option maxHeartbeats 4000000 in
theorem lc_14 {p : Program} {l : Launch} {e : Env} {s : State} {m : MethodId} {args : Array Value} {below : List Frame} {meth : Method} {c : Code} {E : pE} {Q : State → Prop} {z : Nat} {h : pH} {b x kx L0 : Nat} {xs : Nat → Int32} (X : pCx p s m args c cL_law 4 RL E (Al s)) (hX : va_X b L0 xs s s.heap) (hbl : b < s.heap.size) (hL : L0 ≤ 2048) (hk : 4 * kx + 4 ≤ L0) (I : LI x h) (kk : ∀ h9 : pH, LI x h9 → pV p l e room_1 s m args below meth c 4 E (Al s) Q z h9 746 7201 944 (LL b x kx) []) : pV p l e room_1 s m args below meth c 4 E (Al s) Q z h 746 7201 572 (LL b x kx) [] := by
  obtain ⟨w, pa, he, te, nu, np, tn, at_, st, ki, co, st1, en1, K, M, I, T⟩ := I
  obtain ⟨nh, nb, ns, V⟩ := I.2.1.1
  obtain ⟨a0, a1, B⟩ := K.ob
  refine v_aload_n (pc := 572) X (hd := dL_law_572) (kk := ?_)
  refine v_callVi (pc := 573) X (hd := dL_law_573) (w := wv_L_73) (hC := c_X6_undo l E x w pa np tn te st1 en1 nu) (hp := ⟨K, I.1⟩) (hb := B) (hR := ⟨Nat.le_of_ble_eq_true rfl, Nat.le_of_ble_eq_true rfl⟩) (hf := ⟨Nat.le_of_ble_eq_true rfl, Nat.le_of_ble_eq_true rfl⟩) (kk := fun r1 h1 q1 => ?_)
  have O1 : pO x (x + 740) h h1 := by
    rcases q1 with ⟨_, _, q⟩ | ⟨_, _, _, q⟩
    · rw [q]; exact pO.rf
    · exact q
  have M1 : MD (x + 740) w pa he te nu (nI np) (bI (false = true)) (nI tn) at_ st ki co h1 := M.off (fun q h3 h4 => O1 q (Or.inr h3))
  refine v_aload_n (pc := 576) X (hd := dL_law_576) (kk := ?_)
  refine v_callVi (pc := 577) X (hd := dL_law_577) (w := wv_L_76) (hC := c_X7_undo l E (x + 740) w pa he te nu np false (nI tn) at_ st ki co) (hp := ⟨M1, I.1⟩) (hb := M1.1) (hR := ⟨Nat.le_of_ble_eq_true rfl, Nat.le_of_ble_eq_true rfl⟩) (hf := ⟨Nat.le_of_ble_eq_true rfl, Nat.le_of_ble_eq_true rfl⟩) (kk := fun r2 h2 q2 => ?_)
  obtain ⟨e9, J⟩ := LI.undo q1 K M1 q2 I T
  refine v_icmpeq (pc := 580) X (tgt := 944) (hd := dL_law_580) (kt := fun _ => kk h2 J) (kf := fun c9 => absurd e9 c9)
set_option maxRecDepth 100000 in
set_option maxHeartbeats 4000000 in
theorem lc_15 {p : Program} {l : Launch} {e : Env} {s : State} {m : MethodId} {args : Array Value} {below : List Frame} {meth : Method} {c : Code} {E : pE} {Q : State → Prop} {z : Nat} {h : pH} {b x kx L0 : Nat} {xs : Nat → Int32} (X : pCx p s m args c cL_law 4 RL E (Al s)) (hX : va_X b L0 xs s s.heap) (hbl : b < s.heap.size) (hL : L0 ≤ 2048) (hk : 4 * kx + 4 ≤ L0) (I : LI x h) (kk : ∀ h9 : pH, LI x h9 → pV p l e room_1 s m args below meth c 4 E (Al s) Q z h9 746 7201 944 (LL b x kx) []) : pV p l e room_1 s m args below meth c 4 E (Al s) Q z h 746 7201 585 (LL b x kx) [] := by
  obtain ⟨w, pa, he, te, nu, np, tn, at_, st, ki, co, st1, en1, K, M, I, T⟩ := I
  obtain ⟨nh, nb, ns, V⟩ := I.2.1.1
  obtain ⟨a0, a1, B⟩ := K.ob
  refine v_aload_n (pc := 585) X (hd := dL_law_585) (kk := ?_)
  refine v_aload_n (pc := 586) X (hd := dL_law_586) (kk := ?_)
  refine v_iload_n (pc := 587) X (hd := dL_law_587) (kk := ?_)
  refine v_iconst (pc := 588) X (v := nI 1) (hd := dL_law_588) (kk := ?_)
  refine v_iadd (pc := 589) X (hd := dL_law_589) (kk := ?_)
  refine v_xld (pc := 590) X hX hbl hL (4 * kx + 1) (hd := dL_law_590) (hi := nI_add _ _) (hj := by omega) (kk := ?_)
  refine v_callVi (pc := 591) X (hd := dL_law_591) (w := wv_L_77) (hC := c_X6_append l E x w pa np tn te st1 en1 nu (xs (4 * kx + 1))) (hp := ⟨K, T.1, I.1⟩) (hb := B) (hR := ⟨Nat.le_of_ble_eq_true rfl, Nat.le_of_ble_eq_true rfl⟩) (hf := ⟨Nat.le_of_ble_eq_true rfl, Nat.le_of_ble_eq_true rfl⟩) (kk := fun r1 h1 q1 => ?_)
  have O1 : pO x (x + 740) h h1 := q1.2.2
  have M1 : MD (x + 740) w pa he te nu (nI np) (bI (false = true)) (nI tn) at_ st ki co h1 := M.off (fun q h3 h4 => O1 q (Or.inr h3))
  refine v_aload_n (pc := 594) X (hd := dL_law_594) (kk := ?_)
  refine v_aload_n (pc := 595) X (hd := dL_law_595) (kk := ?_)
  refine v_iload_n (pc := 596) X (hd := dL_law_596) (kk := ?_)
  refine v_iconst (pc := 597) X (v := nI 1) (hd := dL_law_597) (kk := ?_)
  refine v_iadd (pc := 598) X (hd := dL_law_598) (kk := ?_)
  refine v_xld (pc := 599) X hX hbl hL (4 * kx + 1) (hd := dL_law_599) (hi := nI_add _ _) (hj := by omega) (kk := ?_)
  refine v_callVi (pc := 600) X (hd := dL_law_600) (w := wv_L_80) (hC := c_X7_append l E (x + 740) w pa he te nu np false tn at_ st ki co (xs (4 * kx + 1))) (hp := ⟨M1, T.1⟩) (hb := M1.1) (hR := ⟨Nat.le_of_ble_eq_true rfl, Nat.le_of_ble_eq_true rfl⟩) (hf := ⟨Nat.le_of_ble_eq_true rfl, Nat.le_of_ble_eq_true rfl⟩) (kk := fun r2 h2 q2 => ?_)
  obtain ⟨e9, J⟩ := LI.app q1 M1 q2 I T
  refine v_icmpeq (pc := 603) X (tgt := 944) (hd := dL_law_603) (kt := fun _ => kk h2 J) (kf := fun c9 => absurd e9 c9)
set_option maxRecDepth 100000 in
set_option maxHeartbeats 4000000 in
theorem lc_16 {p : Program} {l : Launch} {e : Env} {s : State} {m : MethodId} {args : Array Value} {below : List Frame} {meth : Method} {c : Code} {E : pE} {Q : State → Prop} {z : Nat} {h : pH} {b x kx L0 : Nat} {xs : Nat → Int32} (X : pCx p s m args c cL_law 4 RL E (Al s)) (hX : va_X b L0 xs s s.heap) (hbl : b < s.heap.size) (hL : L0 ≤ 2048) (hk : 4 * kx + 4 ≤ L0) (I : LI x h) (kk : ∀ h9 : pH, LI x h9 → pV p l e room_1 s m args below meth c 4 E (Al s) Q z h9 746 7201 944 (LL b x kx) []) : pV p l e room_1 s m args below meth c 4 E (Al s) Q z h 746 7201 608 (LL b x kx) [] := by
  obtain ⟨w, pa, he, te, nu, np, tn, at_, st, ki, co, st1, en1, K, M, I, T⟩ := I
  obtain ⟨nh, nb, ns, V⟩ := I.2.1.1
  obtain ⟨a0, a1, B⟩ := K.ob
  refine v_aload_n (pc := 608) X (hd := dL_law_608) (kk := ?_)
  refine v_callVi (pc := 609) X (hd := dL_law_609) (w := wv_L_81) (hC := c_X6_clearText l E x w pa np tn te st1 en1 nu) (hp := ⟨K, I.1⟩) (hb := B) (hR := ⟨Nat.le_of_ble_eq_true rfl, Nat.le_of_ble_eq_true rfl⟩) (hf := ⟨Nat.le_of_ble_eq_true rfl, Nat.le_of_ble_eq_true rfl⟩) (kk := fun r1 h1 q1 => ?_)
  have O1 : pO x (x + 740) h h1 := q1.2.2
  have M1 : MD (x + 740) w pa he te nu (nI np) (bI (false = true)) (nI tn) at_ st ki co h1 := M.off (fun q h3 h4 => O1 q (Or.inr h3))
  refine v_aload_n (pc := 612) X (hd := dL_law_612) (kk := ?_)
  refine v_callVi (pc := 613) X (hd := dL_law_613) (w := wv_L_84) (hC := c_X7_clearText l E (x + 740) w pa he te nu np false (nI tn) at_ st ki co) (hp := M1) (hb := M1.1) (hR := ⟨Nat.le_of_ble_eq_true rfl, Nat.le_of_ble_eq_true rfl⟩) (hf := ⟨Nat.le_of_ble_eq_true rfl, Nat.le_of_ble_eq_true rfl⟩) (kk := fun r2 h2 q2 => ?_)
  obtain ⟨e9, J⟩ := LI.clr q1 q2 I
  refine v_icmpeq (pc := 616) X (tgt := 944) (hd := dL_law_616) (kt := fun _ => kk h2 J) (kf := fun c9 => absurd e9 c9)
set_option maxRecDepth 100000 in
set_option maxHeartbeats 4000000 in
theorem lc_17 {p : Program} {l : Launch} {e : Env} {s : State} {m : MethodId} {args : Array Value} {below : List Frame} {meth : Method} {c : Code} {E : pE} {Q : State → Prop} {z : Nat} {h : pH} {b x kx L0 : Nat} {xs : Nat → Int32} (X : pCx p s m args c cL_law 4 RL E (Al s)) (hX : va_X b L0 xs s s.heap) (hbl : b < s.heap.size) (hL : L0 ≤ 2048) (hk : 4 * kx + 4 ≤ L0) (I : LI x h) (kk : ∀ h9 : pH, LI x h9 → pV p l e room_1 s m args below meth c 4 E (Al s) Q z h9 746 7201 944 (LL b x kx) []) : pV p l e room_1 s m args below meth c 4 E (Al s) Q z h 746 7201 621 (LL b x kx) [] := by
  obtain ⟨w, pa, he, te, nu, np, tn, at_, st, ki, co, st1, en1, K, M, I, T⟩ := I
  obtain ⟨nh, nb, ns, V⟩ := I.2.1.1
  obtain ⟨a0, a1, B⟩ := K.ob
  refine v_aload_n (pc := 621) X (hd := dL_law_621) (kk := ?_)
  refine v_callVi (pc := 622) X (hd := dL_law_622) (w := wv_L_85) (hC := c_X6_run l E x w pa np tn te st1 en1 nu) (hp := ⟨K, I, T⟩) (hb := B) (hR := ⟨Nat.le_of_ble_eq_true rfl, Nat.le_of_ble_eq_true rfl⟩) (hf := ⟨Nat.le_of_ble_eq_true rfl, Nat.le_of_ble_eq_true rfl⟩) (kk := fun r1 h1 q1 => ?_)
  have O1 : pO x (x + 740) h h1 := q1.1
  have M1 : MD (x + 740) w pa he te nu (nI np) (bI (false = true)) (nI tn) at_ st ki co h1 := M.off (fun q h3 h4 => O1 q (Or.inr h3))
  refine v_aload_n (pc := 625) X (hd := dL_law_625) (kk := ?_)
  refine v_callVi (pc := 626) X (hd := dL_law_626) (w := wv_L_88) (hC := c_X7_run l E (x + 740) w pa he te nu np tn at_ st ki co) (hp := ⟨M1, T, I.2.1.1, I.1⟩) (hb := M1.1) (hR := ⟨Nat.le_of_ble_eq_true rfl, Nat.le_of_ble_eq_true rfl⟩) (hf := ⟨Nat.le_of_ble_eq_true rfl, Nat.le_of_ble_eq_true rfl⟩) (kk := fun r2 h2 q2 => ?_)
  obtain ⟨e9, J⟩ := LI.run q1 q2 I T
  refine v_icmpeq (pc := 629) X (tgt := 944) (hd := dL_law_629) (kt := fun _ => kk h2 J) (kf := fun c9 => absurd e9 c9)
set_option maxRecDepth 100000 in
set_option maxHeartbeats 4000000 in
theorem lc_18 {p : Program} {l : Launch} {e : Env} {s : State} {m : MethodId} {args : Array Value} {below : List Frame} {meth : Method} {c : Code} {E : pE} {Q : State → Prop} {z : Nat} {h : pH} {b x kx L0 : Nat} {xs : Nat → Int32} (X : pCx p s m args c cL_law 4 RL E (Al s)) (hX : va_X b L0 xs s s.heap) (hbl : b < s.heap.size) (hL : L0 ≤ 2048) (hk : 4 * kx + 4 ≤ L0) (I : LI x h) (kk : ∀ h9 : pH, LI x h9 → pV p l e room_1 s m args below meth c 4 E (Al s) Q z h9 746 7201 944 (LL b x kx) []) : pV p l e room_1 s m args below meth c 4 E (Al s) Q z h 746 7201 634 (LL b x kx) [] := by
  obtain ⟨w, pa, he, te, nu, np, tn, at_, st, ki, co, st1, en1, K, M, I, T⟩ := I
  obtain ⟨nh, nb, ns, V⟩ := I.2.1.1
  obtain ⟨a0, a1, B⟩ := K.ob
  refine v_aload_n (pc := 634) X (hd := dL_law_634) (kk := ?_)
  refine v_aload_n (pc := 635) X (hd := dL_law_635) (kk := ?_)
  refine v_iload_n (pc := 636) X (hd := dL_law_636) (kk := ?_)
  refine v_iconst (pc := 637) X (v := nI 1) (hd := dL_law_637) (kk := ?_)
  refine v_iadd (pc := 638) X (hd := dL_law_638) (kk := ?_)
  refine v_xld (pc := 639) X hX hbl hL (4 * kx + 1) (hd := dL_law_639) (hi := nI_add _ _) (hj := by omega) (kk := ?_)
  refine v_callVp (pc := 640) X (hd := dL_law_640) (w := wv_L_89) (hC := c_X6_count l E x w pa np tn te st1 en1 nu (xs (4 * kx + 1)) nh nb ns) (hp := ⟨K, V⟩) (hb := B) (hR := ⟨Nat.le_of_ble_eq_true rfl, Nat.le_of_ble_eq_true rfl⟩) (hf := ⟨Nat.le_of_ble_eq_true rfl, Nat.le_of_ble_eq_true rfl⟩) (kk := ?_)
  refine v_aload_n (pc := 643) X (hd := dL_law_643) (kk := ?_)
  refine v_aload_n (pc := 644) X (hd := dL_law_644) (kk := ?_)
  refine v_iload_n (pc := 645) X (hd := dL_law_645) (kk := ?_)
  refine v_iconst (pc := 646) X (v := nI 1) (hd := dL_law_646) (kk := ?_)
  refine v_iadd (pc := 647) X (hd := dL_law_647) (kk := ?_)
  refine v_xld (pc := 648) X hX hbl hL (4 * kx + 1) (hd := dL_law_648) (hi := nI_add _ _) (hj := by omega) (kk := ?_)
  refine v_callVp (pc := 649) X (hd := dL_law_649) (w := wv_L_92) (hC := c_X7_count l E (x + 740) w pa he te nu np false (nI tn) at_ st ki co (xs (4 * kx + 1)) nh nb ns) (hp := ⟨M, V⟩) (hb := M.1) (hR := ⟨Nat.le_of_ble_eq_true rfl, Nat.le_of_ble_eq_true rfl⟩) (hf := ⟨Nat.le_of_ble_eq_true rfl, Nat.le_of_ble_eq_true rfl⟩) (kk := ?_)
  refine v_icmpeq (pc := 652) X (tgt := 944) (hd := dL_law_652) (kt := fun _ => kk h ⟨w, pa, he, te, nu, np, tn, at_, st, ki, co, st1, en1, K, M, I, T⟩) (kf := fun c9 => absurd rfl c9)
set_option maxRecDepth 100000 in
set_option maxHeartbeats 4000000 in
theorem lc_19 {p : Program} {l : Launch} {e : Env} {s : State} {m : MethodId} {args : Array Value} {below : List Frame} {meth : Method} {c : Code} {E : pE} {Q : State → Prop} {z : Nat} {h : pH} {b x kx L0 : Nat} {xs : Nat → Int32} (X : pCx p s m args c cL_law 4 RL E (Al s)) (hX : va_X b L0 xs s s.heap) (hbl : b < s.heap.size) (hL : L0 ≤ 2048) (hk : 4 * kx + 4 ≤ L0) (I : LI x h) (kk : ∀ h9 : pH, LI x h9 → pV p l e room_1 s m args below meth c 4 E (Al s) Q z h9 746 7201 944 (LL b x kx) []) : pV p l e room_1 s m args below meth c 4 E (Al s) Q z h 746 7201 657 (LL b x kx) [] := by
  obtain ⟨w, pa, he, te, nu, np, tn, at_, st, ki, co, st1, en1, K, M, I, T⟩ := I
  obtain ⟨nh, nb, ns, V⟩ := I.2.1.1
  obtain ⟨a0, a1, B⟩ := K.ob
  refine v_aload_n (pc := 657) X (hd := dL_law_657) (kk := ?_)
  refine v_aload_n (pc := 658) X (hd := dL_law_658) (kk := ?_)
  refine v_iload_n (pc := 659) X (hd := dL_law_659) (kk := ?_)
  refine v_iconst (pc := 660) X (v := nI 1) (hd := dL_law_660) (kk := ?_)
  refine v_iadd (pc := 661) X (hd := dL_law_661) (kk := ?_)
  refine v_xld (pc := 662) X hX hbl hL (4 * kx + 1) (hd := dL_law_662) (hi := nI_add _ _) (hj := by omega) (kk := ?_)
  refine v_aload_n (pc := 663) X (hd := dL_law_663) (kk := ?_)
  refine v_iload_n (pc := 664) X (hd := dL_law_664) (kk := ?_)
  refine v_iconst (pc := 665) X (v := nI 2) (hd := dL_law_665) (kk := ?_)
  refine v_iadd (pc := 666) X (hd := dL_law_666) (kk := ?_)
  refine v_xld (pc := 667) X hX hbl hL (4 * kx + 2) (hd := dL_law_667) (hi := nI_add _ _) (hj := by omega) (kk := ?_)
  refine v_callVp (pc := 668) X (hd := dL_law_668) (w := wv_L_93) (hC := c_X6_household l E x w pa np tn te st1 en1 nu (xs (4 * kx + 1)) (xs (4 * kx + 2)) nh nb ns) (hp := ⟨K, V⟩) (hb := B) (hR := ⟨Nat.le_of_ble_eq_true rfl, Nat.le_of_ble_eq_true rfl⟩) (hf := ⟨Nat.le_of_ble_eq_true rfl, Nat.le_of_ble_eq_true rfl⟩) (kk := ?_)
  refine v_aload_n (pc := 671) X (hd := dL_law_671) (kk := ?_)
  refine v_aload_n (pc := 672) X (hd := dL_law_672) (kk := ?_)
  refine v_iload_n (pc := 673) X (hd := dL_law_673) (kk := ?_)
  refine v_iconst (pc := 674) X (v := nI 1) (hd := dL_law_674) (kk := ?_)
  refine v_iadd (pc := 675) X (hd := dL_law_675) (kk := ?_)
  refine v_xld (pc := 676) X hX hbl hL (4 * kx + 1) (hd := dL_law_676) (hi := nI_add _ _) (hj := by omega) (kk := ?_)
  refine v_aload_n (pc := 677) X (hd := dL_law_677) (kk := ?_)
  refine v_iload_n (pc := 678) X (hd := dL_law_678) (kk := ?_)
  refine v_iconst (pc := 679) X (v := nI 2) (hd := dL_law_679) (kk := ?_)
  refine v_iadd (pc := 680) X (hd := dL_law_680) (kk := ?_)
  refine v_xld (pc := 681) X hX hbl hL (4 * kx + 2) (hd := dL_law_681) (hi := nI_add _ _) (hj := by omega) (kk := ?_)
  refine v_callVp (pc := 682) X (hd := dL_law_682) (w := wv_L_96) (hC := c_X7_household l E (x + 740) w pa he te nu np false (nI tn) at_ st ki co (xs (4 * kx + 1)) (xs (4 * kx + 2)) nh nb ns) (hp := ⟨M, V⟩) (hb := M.1) (hR := ⟨Nat.le_of_ble_eq_true rfl, Nat.le_of_ble_eq_true rfl⟩) (hf := ⟨Nat.le_of_ble_eq_true rfl, Nat.le_of_ble_eq_true rfl⟩) (kk := ?_)
  refine v_icmpeq (pc := 685) X (tgt := 944) (hd := dL_law_685) (kt := fun _ => kk h ⟨w, pa, he, te, nu, np, tn, at_, st, ki, co, st1, en1, K, M, I, T⟩) (kf := fun c9 => absurd rfl c9)
set_option maxRecDepth 100000 in
set_option maxHeartbeats 4000000 in
theorem lc_20 {p : Program} {l : Launch} {e : Env} {s : State} {m : MethodId} {args : Array Value} {below : List Frame} {meth : Method} {c : Code} {E : pE} {Q : State → Prop} {z : Nat} {h : pH} {b x kx L0 : Nat} {xs : Nat → Int32} (X : pCx p s m args c cL_law 4 RL E (Al s)) (hX : va_X b L0 xs s s.heap) (hbl : b < s.heap.size) (hL : L0 ≤ 2048) (hk : 4 * kx + 4 ≤ L0) (I : LI x h) (kk : ∀ h9 : pH, LI x h9 → pV p l e room_1 s m args below meth c 4 E (Al s) Q z h9 746 7201 944 (LL b x kx) []) : pV p l e room_1 s m args below meth c 4 E (Al s) Q z h 746 7201 690 (LL b x kx) [] := by
  obtain ⟨w, pa, he, te, nu, np, tn, at_, st, ki, co, st1, en1, K, M, I, T⟩ := I
  obtain ⟨nh, nb, ns, V⟩ := I.2.1.1
  obtain ⟨a0, a1, B⟩ := K.ob
  refine v_aload_n (pc := 690) X (hd := dL_law_690) (kk := ?_)
  refine v_aload_n (pc := 691) X (hd := dL_law_691) (kk := ?_)
  refine v_iload_n (pc := 692) X (hd := dL_law_692) (kk := ?_)
  refine v_iconst (pc := 693) X (v := nI 1) (hd := dL_law_693) (kk := ?_)
  refine v_iadd (pc := 694) X (hd := dL_law_694) (kk := ?_)
  refine v_xld (pc := 695) X hX hbl hL (4 * kx + 1) (hd := dL_law_695) (hi := nI_add _ _) (hj := by omega) (kk := ?_)
  refine v_aload_n (pc := 696) X (hd := dL_law_696) (kk := ?_)
  refine v_iload_n (pc := 697) X (hd := dL_law_697) (kk := ?_)
  refine v_iconst (pc := 698) X (v := nI 2) (hd := dL_law_698) (kk := ?_)
  refine v_iadd (pc := 699) X (hd := dL_law_699) (kk := ?_)
  refine v_xld (pc := 700) X hX hbl hL (4 * kx + 2) (hd := dL_law_700) (hi := nI_add _ _) (hj := by omega) (kk := ?_)
  refine v_callVp (pc := 701) X (hd := dL_law_701) (w := wv_L_97) (hC := c_X6_bank l E x w pa np tn te st1 en1 nu (xs (4 * kx + 1)) (xs (4 * kx + 2)) nh nb ns) (hp := ⟨K, V⟩) (hb := B) (hR := ⟨Nat.le_of_ble_eq_true rfl, Nat.le_of_ble_eq_true rfl⟩) (hf := ⟨Nat.le_of_ble_eq_true rfl, Nat.le_of_ble_eq_true rfl⟩) (kk := ?_)
  refine v_aload_n (pc := 704) X (hd := dL_law_704) (kk := ?_)
  refine v_aload_n (pc := 705) X (hd := dL_law_705) (kk := ?_)
  refine v_iload_n (pc := 706) X (hd := dL_law_706) (kk := ?_)
  refine v_iconst (pc := 707) X (v := nI 1) (hd := dL_law_707) (kk := ?_)
  refine v_iadd (pc := 708) X (hd := dL_law_708) (kk := ?_)
  refine v_xld (pc := 709) X hX hbl hL (4 * kx + 1) (hd := dL_law_709) (hi := nI_add _ _) (hj := by omega) (kk := ?_)
  refine v_aload_n (pc := 710) X (hd := dL_law_710) (kk := ?_)
  refine v_iload_n (pc := 711) X (hd := dL_law_711) (kk := ?_)
  refine v_iconst (pc := 712) X (v := nI 2) (hd := dL_law_712) (kk := ?_)
  refine v_iadd (pc := 713) X (hd := dL_law_713) (kk := ?_)
  refine v_xld (pc := 714) X hX hbl hL (4 * kx + 2) (hd := dL_law_714) (hi := nI_add _ _) (hj := by omega) (kk := ?_)
  refine v_callVp (pc := 715) X (hd := dL_law_715) (w := wv_L_100) (hC := c_X7_bank l E (x + 740) w pa he te nu np false (nI tn) at_ st ki co (xs (4 * kx + 1)) (xs (4 * kx + 2)) nh nb ns) (hp := ⟨M, V⟩) (hb := M.1) (hR := ⟨Nat.le_of_ble_eq_true rfl, Nat.le_of_ble_eq_true rfl⟩) (hf := ⟨Nat.le_of_ble_eq_true rfl, Nat.le_of_ble_eq_true rfl⟩) (kk := ?_)
  refine v_icmpeq (pc := 718) X (tgt := 944) (hd := dL_law_718) (kt := fun _ => kk h ⟨w, pa, he, te, nu, np, tn, at_, st, ki, co, st1, en1, K, M, I, T⟩) (kf := fun c9 => absurd rfl c9)
set_option maxRecDepth 100000 in
set_option maxHeartbeats 4000000 in
theorem lc_21 {p : Program} {l : Launch} {e : Env} {s : State} {m : MethodId} {args : Array Value} {below : List Frame} {meth : Method} {c : Code} {E : pE} {Q : State → Prop} {z : Nat} {h : pH} {b x kx L0 : Nat} {xs : Nat → Int32} (X : pCx p s m args c cL_law 4 RL E (Al s)) (hX : va_X b L0 xs s s.heap) (hbl : b < s.heap.size) (hL : L0 ≤ 2048) (hk : 4 * kx + 4 ≤ L0) (I : LI x h) (kk : ∀ h9 : pH, LI x h9 → pV p l e room_1 s m args below meth c 4 E (Al s) Q z h9 746 7201 944 (LL b x kx) []) : pV p l e room_1 s m args below meth c 4 E (Al s) Q z h 746 7201 723 (LL b x kx) [] := by
  obtain ⟨w, pa, he, te, nu, np, tn, at_, st, ki, co, st1, en1, K, M, I, T⟩ := I
  obtain ⟨nh, nb, ns, V⟩ := I.2.1.1
  obtain ⟨a0, a1, B⟩ := K.ob
  refine v_aload_n (pc := 723) X (hd := dL_law_723) (kk := ?_)
  refine v_aload_n (pc := 724) X (hd := dL_law_724) (kk := ?_)
  refine v_iload_n (pc := 725) X (hd := dL_law_725) (kk := ?_)
  refine v_iconst (pc := 726) X (v := nI 1) (hd := dL_law_726) (kk := ?_)
  refine v_iadd (pc := 727) X (hd := dL_law_727) (kk := ?_)
  refine v_xld (pc := 728) X hX hbl hL (4 * kx + 1) (hd := dL_law_728) (hi := nI_add _ _) (hj := by omega) (kk := ?_)
  refine v_aload_n (pc := 729) X (hd := dL_law_729) (kk := ?_)
  refine v_iload_n (pc := 730) X (hd := dL_law_730) (kk := ?_)
  refine v_iconst (pc := 731) X (v := nI 2) (hd := dL_law_731) (kk := ?_)
  refine v_iadd (pc := 732) X (hd := dL_law_732) (kk := ?_)
  refine v_xld (pc := 733) X hX hbl hL (4 * kx + 2) (hd := dL_law_733) (hi := nI_add _ _) (hj := by omega) (kk := ?_)
  refine v_aload_n (pc := 734) X (hd := dL_law_734) (kk := ?_)
  refine v_iload_n (pc := 735) X (hd := dL_law_735) (kk := ?_)
  refine v_iconst (pc := 736) X (v := nI 3) (hd := dL_law_736) (kk := ?_)
  refine v_iadd (pc := 737) X (hd := dL_law_737) (kk := ?_)
  refine v_xld (pc := 738) X hX hbl hL (4 * kx + 3) (hd := dL_law_738) (hi := nI_add _ _) (hj := by omega) (kk := ?_)
  refine v_callVp (pc := 739) X (hd := dL_law_739) (w := wv_L_101) (hC := c_X6_right l E x w pa np tn te st1 en1 nu (xs (4 * kx + 1)) (xs (4 * kx + 2)) (xs (4 * kx + 3)) nh nb ns) (hp := ⟨K, V⟩) (hb := B) (hR := ⟨Nat.le_of_ble_eq_true rfl, Nat.le_of_ble_eq_true rfl⟩) (hf := ⟨Nat.le_of_ble_eq_true rfl, Nat.le_of_ble_eq_true rfl⟩) (kk := ?_)
  refine v_aload_n (pc := 742) X (hd := dL_law_742) (kk := ?_)
  refine v_aload_n (pc := 743) X (hd := dL_law_743) (kk := ?_)
  refine v_iload_n (pc := 744) X (hd := dL_law_744) (kk := ?_)
  refine v_iconst (pc := 745) X (v := nI 1) (hd := dL_law_745) (kk := ?_)
  refine v_iadd (pc := 746) X (hd := dL_law_746) (kk := ?_)
  refine v_xld (pc := 747) X hX hbl hL (4 * kx + 1) (hd := dL_law_747) (hi := nI_add _ _) (hj := by omega) (kk := ?_)
  refine v_aload_n (pc := 748) X (hd := dL_law_748) (kk := ?_)
  refine v_iload_n (pc := 749) X (hd := dL_law_749) (kk := ?_)
  refine v_iconst (pc := 750) X (v := nI 2) (hd := dL_law_750) (kk := ?_)
  refine v_iadd (pc := 751) X (hd := dL_law_751) (kk := ?_)
  refine v_xld (pc := 752) X hX hbl hL (4 * kx + 2) (hd := dL_law_752) (hi := nI_add _ _) (hj := by omega) (kk := ?_)
  refine v_aload_n (pc := 753) X (hd := dL_law_753) (kk := ?_)
  refine v_iload_n (pc := 754) X (hd := dL_law_754) (kk := ?_)
  refine v_iconst (pc := 755) X (v := nI 3) (hd := dL_law_755) (kk := ?_)
  refine v_iadd (pc := 756) X (hd := dL_law_756) (kk := ?_)
  refine v_xld (pc := 757) X hX hbl hL (4 * kx + 3) (hd := dL_law_757) (hi := nI_add _ _) (hj := by omega) (kk := ?_)
  refine v_callVp (pc := 758) X (hd := dL_law_758) (w := wv_L_104) (hC := c_X7_right l E (x + 740) w pa he te nu np false (nI tn) at_ st ki co (xs (4 * kx + 1)) (xs (4 * kx + 2)) (xs (4 * kx + 3)) nh nb ns) (hp := ⟨M, V⟩) (hb := M.1) (hR := ⟨Nat.le_of_ble_eq_true rfl, Nat.le_of_ble_eq_true rfl⟩) (hf := ⟨Nat.le_of_ble_eq_true rfl, Nat.le_of_ble_eq_true rfl⟩) (kk := ?_)
  refine v_icmpeq (pc := 761) X (tgt := 944) (hd := dL_law_761) (kt := fun _ => kk h ⟨w, pa, he, te, nu, np, tn, at_, st, ki, co, st1, en1, K, M, I, T⟩) (kf := fun c9 => absurd rfl c9)
set_option maxRecDepth 100000 in
set_option maxHeartbeats 4000000 in
theorem lc_22 {p : Program} {l : Launch} {e : Env} {s : State} {m : MethodId} {args : Array Value} {below : List Frame} {meth : Method} {c : Code} {E : pE} {Q : State → Prop} {z : Nat} {h : pH} {b x kx L0 : Nat} {xs : Nat → Int32} (X : pCx p s m args c cL_law 4 RL E (Al s)) (hX : va_X b L0 xs s s.heap) (hbl : b < s.heap.size) (hL : L0 ≤ 2048) (hk : 4 * kx + 4 ≤ L0) (I : LI x h) (kk : ∀ h9 : pH, LI x h9 → pV p l e room_1 s m args below meth c 4 E (Al s) Q z h9 746 7201 944 (LL b x kx) []) : pV p l e room_1 s m args below meth c 4 E (Al s) Q z h 746 7201 766 (LL b x kx) [] := by
  obtain ⟨w, pa, he, te, nu, np, tn, at_, st, ki, co, st1, en1, K, M, I, T⟩ := I
  obtain ⟨nh, nb, ns, V⟩ := I.2.1.1
  obtain ⟨a0, a1, B⟩ := K.ob
  refine v_aload_n (pc := 766) X (hd := dL_law_766) (kk := ?_)
  refine v_aload_n (pc := 767) X (hd := dL_law_767) (kk := ?_)
  refine v_iload_n (pc := 768) X (hd := dL_law_768) (kk := ?_)
  refine v_iconst (pc := 769) X (v := nI 1) (hd := dL_law_769) (kk := ?_)
  refine v_iadd (pc := 770) X (hd := dL_law_770) (kk := ?_)
  refine v_xld (pc := 771) X hX hbl hL (4 * kx + 1) (hd := dL_law_771) (hi := nI_add _ _) (hj := by omega) (kk := ?_)
  refine v_aload_n (pc := 772) X (hd := dL_law_772) (kk := ?_)
  refine v_iload_n (pc := 773) X (hd := dL_law_773) (kk := ?_)
  refine v_iconst (pc := 774) X (v := nI 2) (hd := dL_law_774) (kk := ?_)
  refine v_iadd (pc := 775) X (hd := dL_law_775) (kk := ?_)
  refine v_xld (pc := 776) X hX hbl hL (4 * kx + 2) (hd := dL_law_776) (hi := nI_add _ _) (hj := by omega) (kk := ?_)
  refine v_callVp (pc := 777) X (hd := dL_law_777) (w := wv_L_105) (hC := c_X6_stack l E x w pa np tn te st1 en1 nu (xs (4 * kx + 1)) (xs (4 * kx + 2)) nh nb ns) (hp := ⟨K, V⟩) (hb := B) (hR := ⟨Nat.le_of_ble_eq_true rfl, Nat.le_of_ble_eq_true rfl⟩) (hf := ⟨Nat.le_of_ble_eq_true rfl, Nat.le_of_ble_eq_true rfl⟩) (kk := ?_)
  refine v_aload_n (pc := 780) X (hd := dL_law_780) (kk := ?_)
  refine v_aload_n (pc := 781) X (hd := dL_law_781) (kk := ?_)
  refine v_iload_n (pc := 782) X (hd := dL_law_782) (kk := ?_)
  refine v_iconst (pc := 783) X (v := nI 1) (hd := dL_law_783) (kk := ?_)
  refine v_iadd (pc := 784) X (hd := dL_law_784) (kk := ?_)
  refine v_xld (pc := 785) X hX hbl hL (4 * kx + 1) (hd := dL_law_785) (hi := nI_add _ _) (hj := by omega) (kk := ?_)
  refine v_aload_n (pc := 786) X (hd := dL_law_786) (kk := ?_)
  refine v_iload_n (pc := 787) X (hd := dL_law_787) (kk := ?_)
  refine v_iconst (pc := 788) X (v := nI 2) (hd := dL_law_788) (kk := ?_)
  refine v_iadd (pc := 789) X (hd := dL_law_789) (kk := ?_)
  refine v_xld (pc := 790) X hX hbl hL (4 * kx + 2) (hd := dL_law_790) (hi := nI_add _ _) (hj := by omega) (kk := ?_)
  refine v_callVp (pc := 791) X (hd := dL_law_791) (w := wv_L_108) (hC := c_X7_stack l E (x + 740) w pa he te nu np false (nI tn) at_ st ki co (xs (4 * kx + 1)) (xs (4 * kx + 2)) nh nb ns) (hp := ⟨M, V⟩) (hb := M.1) (hR := ⟨Nat.le_of_ble_eq_true rfl, Nat.le_of_ble_eq_true rfl⟩) (hf := ⟨Nat.le_of_ble_eq_true rfl, Nat.le_of_ble_eq_true rfl⟩) (kk := ?_)
  refine v_icmpeq (pc := 794) X (tgt := 944) (hd := dL_law_794) (kt := fun _ => kk h ⟨w, pa, he, te, nu, np, tn, at_, st, ki, co, st1, en1, K, M, I, T⟩) (kf := fun c9 => absurd rfl c9)
set_option maxRecDepth 100000 in
set_option maxHeartbeats 4000000 in
theorem lc_23 {p : Program} {l : Launch} {e : Env} {s : State} {m : MethodId} {args : Array Value} {below : List Frame} {meth : Method} {c : Code} {E : pE} {Q : State → Prop} {z : Nat} {h : pH} {b x kx L0 : Nat} {xs : Nat → Int32} (X : pCx p s m args c cL_law 4 RL E (Al s)) (hX : va_X b L0 xs s s.heap) (hbl : b < s.heap.size) (hL : L0 ≤ 2048) (hk : 4 * kx + 4 ≤ L0) (I : LI x h) (kk : ∀ h9 : pH, LI x h9 → pV p l e room_1 s m args below meth c 4 E (Al s) Q z h9 746 7201 944 (LL b x kx) []) : pV p l e room_1 s m args below meth c 4 E (Al s) Q z h 746 7201 799 (LL b x kx) [] := by
  obtain ⟨w, pa, he, te, nu, np, tn, at_, st, ki, co, st1, en1, K, M, I, T⟩ := I
  obtain ⟨nh, nb, ns, V⟩ := I.2.1.1
  obtain ⟨a0, a1, B⟩ := K.ob
  refine v_aload_n (pc := 799) X (hd := dL_law_799) (kk := ?_)
  refine v_aload_n (pc := 800) X (hd := dL_law_800) (kk := ?_)
  refine v_iload_n (pc := 801) X (hd := dL_law_801) (kk := ?_)
  refine v_iconst (pc := 802) X (v := nI 1) (hd := dL_law_802) (kk := ?_)
  refine v_iadd (pc := 803) X (hd := dL_law_803) (kk := ?_)
  refine v_xld (pc := 804) X hX hbl hL (4 * kx + 1) (hd := dL_law_804) (hi := nI_add _ _) (hj := by omega) (kk := ?_)
  refine v_aload_n (pc := 805) X (hd := dL_law_805) (kk := ?_)
  refine v_iload_n (pc := 806) X (hd := dL_law_806) (kk := ?_)
  refine v_iconst (pc := 807) X (v := nI 2) (hd := dL_law_807) (kk := ?_)
  refine v_iadd (pc := 808) X (hd := dL_law_808) (kk := ?_)
  refine v_xld (pc := 809) X hX hbl hL (4 * kx + 2) (hd := dL_law_809) (hi := nI_add _ _) (hj := by omega) (kk := ?_)
  refine v_aload_n (pc := 810) X (hd := dL_law_810) (kk := ?_)
  refine v_iload_n (pc := 811) X (hd := dL_law_811) (kk := ?_)
  refine v_iconst (pc := 812) X (v := nI 3) (hd := dL_law_812) (kk := ?_)
  refine v_iadd (pc := 813) X (hd := dL_law_813) (kk := ?_)
  refine v_xld (pc := 814) X hX hbl hL (4 * kx + 3) (hd := dL_law_814) (hi := nI_add _ _) (hj := by omega) (kk := ?_)
  refine v_callVp (pc := 815) X (hd := dL_law_815) (w := wv_L_109) (hC := c_X6_dryIn l E x w pa np tn te st1 en1 nu (xs (4 * kx + 1)) (xs (4 * kx + 2)) (xs (4 * kx + 3)) nh nb ns) (hp := ⟨K, V⟩) (hb := B) (hR := ⟨Nat.le_of_ble_eq_true rfl, Nat.le_of_ble_eq_true rfl⟩) (hf := ⟨Nat.le_of_ble_eq_true rfl, Nat.le_of_ble_eq_true rfl⟩) (kk := ?_)
  refine v_aload_n (pc := 818) X (hd := dL_law_818) (kk := ?_)
  refine v_aload_n (pc := 819) X (hd := dL_law_819) (kk := ?_)
  refine v_iload_n (pc := 820) X (hd := dL_law_820) (kk := ?_)
  refine v_iconst (pc := 821) X (v := nI 1) (hd := dL_law_821) (kk := ?_)
  refine v_iadd (pc := 822) X (hd := dL_law_822) (kk := ?_)
  refine v_xld (pc := 823) X hX hbl hL (4 * kx + 1) (hd := dL_law_823) (hi := nI_add _ _) (hj := by omega) (kk := ?_)
  refine v_aload_n (pc := 824) X (hd := dL_law_824) (kk := ?_)
  refine v_iload_n (pc := 825) X (hd := dL_law_825) (kk := ?_)
  refine v_iconst (pc := 826) X (v := nI 2) (hd := dL_law_826) (kk := ?_)
  refine v_iadd (pc := 827) X (hd := dL_law_827) (kk := ?_)
  refine v_xld (pc := 828) X hX hbl hL (4 * kx + 2) (hd := dL_law_828) (hi := nI_add _ _) (hj := by omega) (kk := ?_)
  refine v_aload_n (pc := 829) X (hd := dL_law_829) (kk := ?_)
  refine v_iload_n (pc := 830) X (hd := dL_law_830) (kk := ?_)
  refine v_iconst (pc := 831) X (v := nI 3) (hd := dL_law_831) (kk := ?_)
  refine v_iadd (pc := 832) X (hd := dL_law_832) (kk := ?_)
  refine v_xld (pc := 833) X hX hbl hL (4 * kx + 3) (hd := dL_law_833) (hi := nI_add _ _) (hj := by omega) (kk := ?_)
  refine v_callVp (pc := 834) X (hd := dL_law_834) (w := wv_L_112) (hC := c_X7_dryIn l E (x + 740) w pa he te nu np false (nI tn) at_ st ki co (xs (4 * kx + 1)) (xs (4 * kx + 2)) (xs (4 * kx + 3)) nh nb ns) (hp := ⟨M, V⟩) (hb := M.1) (hR := ⟨Nat.le_of_ble_eq_true rfl, Nat.le_of_ble_eq_true rfl⟩) (hf := ⟨Nat.le_of_ble_eq_true rfl, Nat.le_of_ble_eq_true rfl⟩) (kk := ?_)
  refine v_icmpeq (pc := 837) X (tgt := 944) (hd := dL_law_837) (kt := fun _ => kk h ⟨w, pa, he, te, nu, np, tn, at_, st, ki, co, st1, en1, K, M, I, T⟩) (kf := fun c9 => absurd rfl c9)
set_option maxRecDepth 100000 in
set_option maxHeartbeats 4000000 in
theorem lc_24 {p : Program} {l : Launch} {e : Env} {s : State} {m : MethodId} {args : Array Value} {below : List Frame} {meth : Method} {c : Code} {E : pE} {Q : State → Prop} {z : Nat} {h : pH} {b x kx L0 : Nat} {xs : Nat → Int32} (X : pCx p s m args c cL_law 4 RL E (Al s)) (hX : va_X b L0 xs s s.heap) (hbl : b < s.heap.size) (hL : L0 ≤ 2048) (hk : 4 * kx + 4 ≤ L0) (I : LI x h) (kk : ∀ h9 : pH, LI x h9 → pV p l e room_1 s m args below meth c 4 E (Al s) Q z h9 746 7201 944 (LL b x kx) []) : pV p l e room_1 s m args below meth c 4 E (Al s) Q z h 746 7201 842 (LL b x kx) [] := by
  obtain ⟨w, pa, he, te, nu, np, tn, at_, st, ki, co, st1, en1, K, M, I, T⟩ := I
  obtain ⟨nh, nb, ns, V⟩ := I.2.1.1
  obtain ⟨a0, a1, B⟩ := K.ob
  refine v_aload_n (pc := 842) X (hd := dL_law_842) (kk := ?_)
  refine v_aload_n (pc := 843) X (hd := dL_law_843) (kk := ?_)
  refine v_iload_n (pc := 844) X (hd := dL_law_844) (kk := ?_)
  refine v_iconst (pc := 845) X (v := nI 1) (hd := dL_law_845) (kk := ?_)
  refine v_iadd (pc := 846) X (hd := dL_law_846) (kk := ?_)
  refine v_xld (pc := 847) X hX hbl hL (4 * kx + 1) (hd := dL_law_847) (hi := nI_add _ _) (hj := by omega) (kk := ?_)
  refine v_callVp (pc := 848) X (hd := dL_law_848) (w := wv_L_113) (hC := c_X6_cartLoad l E x w pa np tn te st1 en1 nu (xs (4 * kx + 1)) nh nb ns) (hp := ⟨K, V⟩) (hb := B) (hR := ⟨Nat.le_of_ble_eq_true rfl, Nat.le_of_ble_eq_true rfl⟩) (hf := ⟨Nat.le_of_ble_eq_true rfl, Nat.le_of_ble_eq_true rfl⟩) (kk := ?_)
  refine v_aload_n (pc := 851) X (hd := dL_law_851) (kk := ?_)
  refine v_aload_n (pc := 852) X (hd := dL_law_852) (kk := ?_)
  refine v_iload_n (pc := 853) X (hd := dL_law_853) (kk := ?_)
  refine v_iconst (pc := 854) X (v := nI 1) (hd := dL_law_854) (kk := ?_)
  refine v_iadd (pc := 855) X (hd := dL_law_855) (kk := ?_)
  refine v_xld (pc := 856) X hX hbl hL (4 * kx + 1) (hd := dL_law_856) (hi := nI_add _ _) (hj := by omega) (kk := ?_)
  refine v_callVp (pc := 857) X (hd := dL_law_857) (w := wv_L_116) (hC := c_X7_cartLoad l E (x + 740) w pa he te nu np false (nI tn) at_ st ki co (xs (4 * kx + 1)) nh nb ns) (hp := ⟨M, V⟩) (hb := M.1) (hR := ⟨Nat.le_of_ble_eq_true rfl, Nat.le_of_ble_eq_true rfl⟩) (hf := ⟨Nat.le_of_ble_eq_true rfl, Nat.le_of_ble_eq_true rfl⟩) (kk := ?_)
  refine v_icmpeq (pc := 860) X (tgt := 944) (hd := dL_law_860) (kt := fun _ => kk h ⟨w, pa, he, te, nu, np, tn, at_, st, ki, co, st1, en1, K, M, I, T⟩) (kf := fun c9 => absurd rfl c9)
set_option maxRecDepth 100000 in
set_option maxHeartbeats 4000000 in
theorem lc_25 {p : Program} {l : Launch} {e : Env} {s : State} {m : MethodId} {args : Array Value} {below : List Frame} {meth : Method} {c : Code} {E : pE} {Q : State → Prop} {z : Nat} {h : pH} {b x kx L0 : Nat} {xs : Nat → Int32} (X : pCx p s m args c cL_law 4 RL E (Al s)) (hX : va_X b L0 xs s s.heap) (hbl : b < s.heap.size) (hL : L0 ≤ 2048) (hk : 4 * kx + 4 ≤ L0) (I : LI x h) (kk : ∀ h9 : pH, LI x h9 → pV p l e room_1 s m args below meth c 4 E (Al s) Q z h9 746 7201 944 (LL b x kx) []) : pV p l e room_1 s m args below meth c 4 E (Al s) Q z h 746 7201 865 (LL b x kx) [] := by
  obtain ⟨w, pa, he, te, nu, np, tn, at_, st, ki, co, st1, en1, K, M, I, T⟩ := I
  obtain ⟨nh, nb, ns, V⟩ := I.2.1.1
  obtain ⟨a0, a1, B⟩ := K.ob
  refine v_aload_n (pc := 865) X (hd := dL_law_865) (kk := ?_)
  refine v_aload_n (pc := 866) X (hd := dL_law_866) (kk := ?_)
  refine v_iload_n (pc := 867) X (hd := dL_law_867) (kk := ?_)
  refine v_iconst (pc := 868) X (v := nI 1) (hd := dL_law_868) (kk := ?_)
  refine v_iadd (pc := 869) X (hd := dL_law_869) (kk := ?_)
  refine v_xld (pc := 870) X hX hbl hL (4 * kx + 1) (hd := dL_law_870) (hi := nI_add _ _) (hj := by omega) (kk := ?_)
  refine v_callVp (pc := 871) X (hd := dL_law_871) (w := wv_L_117) (hC := c_X6_carts l E x w pa np tn te st1 en1 nu (xs (4 * kx + 1)) nh nb ns) (hp := ⟨K, V⟩) (hb := B) (hR := ⟨Nat.le_of_ble_eq_true rfl, Nat.le_of_ble_eq_true rfl⟩) (hf := ⟨Nat.le_of_ble_eq_true rfl, Nat.le_of_ble_eq_true rfl⟩) (kk := ?_)
  refine v_aload_n (pc := 874) X (hd := dL_law_874) (kk := ?_)
  refine v_aload_n (pc := 875) X (hd := dL_law_875) (kk := ?_)
  refine v_iload_n (pc := 876) X (hd := dL_law_876) (kk := ?_)
  refine v_iconst (pc := 877) X (v := nI 1) (hd := dL_law_877) (kk := ?_)
  refine v_iadd (pc := 878) X (hd := dL_law_878) (kk := ?_)
  refine v_xld (pc := 879) X hX hbl hL (4 * kx + 1) (hd := dL_law_879) (hi := nI_add _ _) (hj := by omega) (kk := ?_)
  refine v_callVp (pc := 880) X (hd := dL_law_880) (w := wv_L_120) (hC := c_X7_carts l E (x + 740) w pa he te nu np false (nI tn) at_ st ki co (xs (4 * kx + 1)) nh nb ns) (hp := ⟨M, V⟩) (hb := M.1) (hR := ⟨Nat.le_of_ble_eq_true rfl, Nat.le_of_ble_eq_true rfl⟩) (hf := ⟨Nat.le_of_ble_eq_true rfl, Nat.le_of_ble_eq_true rfl⟩) (kk := ?_)
  refine v_icmpeq (pc := 883) X (tgt := 944) (hd := dL_law_883) (kt := fun _ => kk h ⟨w, pa, he, te, nu, np, tn, at_, st, ki, co, st1, en1, K, M, I, T⟩) (kf := fun c9 => absurd rfl c9)
set_option maxRecDepth 100000 in
set_option maxHeartbeats 4000000 in
theorem lc_26 {p : Program} {l : Launch} {e : Env} {s : State} {m : MethodId} {args : Array Value} {below : List Frame} {meth : Method} {c : Code} {E : pE} {Q : State → Prop} {z : Nat} {h : pH} {b x kx L0 : Nat} {xs : Nat → Int32} (X : pCx p s m args c cL_law 4 RL E (Al s)) (hX : va_X b L0 xs s s.heap) (hbl : b < s.heap.size) (hL : L0 ≤ 2048) (hk : 4 * kx + 4 ≤ L0) (I : LI x h) (kk : ∀ h9 : pH, LI x h9 → pV p l e room_1 s m args below meth c 4 E (Al s) Q z h9 746 7201 944 (LL b x kx) []) : pV p l e room_1 s m args below meth c 4 E (Al s) Q z h 746 7201 888 (LL b x kx) [] := by
  obtain ⟨w, pa, he, te, nu, np, tn, at_, st, ki, co, st1, en1, K, M, I, T⟩ := I
  obtain ⟨nh, nb, ns, V⟩ := I.2.1.1
  obtain ⟨a0, a1, B⟩ := K.ob
  refine v_aload_n (pc := 888) X (hd := dL_law_888) (kk := ?_)
  refine v_aload_n (pc := 889) X (hd := dL_law_889) (kk := ?_)
  refine v_iload_n (pc := 890) X (hd := dL_law_890) (kk := ?_)
  refine v_iconst (pc := 891) X (v := nI 1) (hd := dL_law_891) (kk := ?_)
  refine v_iadd (pc := 892) X (hd := dL_law_892) (kk := ?_)
  refine v_xld (pc := 893) X hX hbl hL (4 * kx + 1) (hd := dL_law_893) (hi := nI_add _ _) (hj := by omega) (kk := ?_)
  refine v_aload_n (pc := 894) X (hd := dL_law_894) (kk := ?_)
  refine v_iload_n (pc := 895) X (hd := dL_law_895) (kk := ?_)
  refine v_iconst (pc := 896) X (v := nI 2) (hd := dL_law_896) (kk := ?_)
  refine v_iadd (pc := 897) X (hd := dL_law_897) (kk := ?_)
  refine v_xld (pc := 898) X hX hbl hL (4 * kx + 2) (hd := dL_law_898) (hi := nI_add _ _) (hj := by omega) (kk := ?_)
  refine v_callVp (pc := 899) X (hd := dL_law_899) (w := wv_L_121) (hC := c_X6_worth l E x w pa np tn te st1 en1 nu (xs (4 * kx + 1)) (xs (4 * kx + 2)) nh nb ns) (hp := ⟨K, V⟩) (hb := B) (hR := ⟨Nat.le_of_ble_eq_true rfl, Nat.le_of_ble_eq_true rfl⟩) (hf := ⟨Nat.le_of_ble_eq_true rfl, Nat.le_of_ble_eq_true rfl⟩) (kk := ?_)
  refine v_aload_n (pc := 902) X (hd := dL_law_902) (kk := ?_)
  refine v_aload_n (pc := 903) X (hd := dL_law_903) (kk := ?_)
  refine v_iload_n (pc := 904) X (hd := dL_law_904) (kk := ?_)
  refine v_iconst (pc := 905) X (v := nI 1) (hd := dL_law_905) (kk := ?_)
  refine v_iadd (pc := 906) X (hd := dL_law_906) (kk := ?_)
  refine v_xld (pc := 907) X hX hbl hL (4 * kx + 1) (hd := dL_law_907) (hi := nI_add _ _) (hj := by omega) (kk := ?_)
  refine v_aload_n (pc := 908) X (hd := dL_law_908) (kk := ?_)
  refine v_iload_n (pc := 909) X (hd := dL_law_909) (kk := ?_)
  refine v_iconst (pc := 910) X (v := nI 2) (hd := dL_law_910) (kk := ?_)
  refine v_iadd (pc := 911) X (hd := dL_law_911) (kk := ?_)
  refine v_xld (pc := 912) X hX hbl hL (4 * kx + 2) (hd := dL_law_912) (hi := nI_add _ _) (hj := by omega) (kk := ?_)
  refine v_callVp (pc := 913) X (hd := dL_law_913) (w := wv_L_124) (hC := c_X7_worth l E (x + 740) w pa he te nu np false (nI tn) at_ st ki co (xs (4 * kx + 1)) (xs (4 * kx + 2)) nh nb ns) (hp := ⟨M, V⟩) (hb := M.1) (hR := ⟨Nat.le_of_ble_eq_true rfl, Nat.le_of_ble_eq_true rfl⟩) (hf := ⟨Nat.le_of_ble_eq_true rfl, Nat.le_of_ble_eq_true rfl⟩) (kk := ?_)
  refine v_icmpeq (pc := 916) X (tgt := 944) (hd := dL_law_916) (kt := fun _ => kk h ⟨w, pa, he, te, nu, np, tn, at_, st, ki, co, st1, en1, K, M, I, T⟩) (kf := fun c9 => absurd rfl c9)
set_option maxRecDepth 100000 in
set_option maxHeartbeats 4000000 in
theorem lc_27 {p : Program} {l : Launch} {e : Env} {s : State} {m : MethodId} {args : Array Value} {below : List Frame} {meth : Method} {c : Code} {E : pE} {Q : State → Prop} {z : Nat} {h : pH} {b x kx L0 : Nat} {xs : Nat → Int32} (X : pCx p s m args c cL_law 4 RL E (Al s)) (hX : va_X b L0 xs s s.heap) (hbl : b < s.heap.size) (hL : L0 ≤ 2048) (hk : 4 * kx + 4 ≤ L0) (I : LI x h) (kk : ∀ h9 : pH, LI x h9 → pV p l e room_1 s m args below meth c 4 E (Al s) Q z h9 746 7201 944 (LL b x kx) []) : pV p l e room_1 s m args below meth c 4 E (Al s) Q z h 746 7201 921 (LL b x kx) [] := by
  obtain ⟨w, pa, he, te, nu, np, tn, at_, st, ki, co, st1, en1, K, M, I, T⟩ := I
  obtain ⟨nh, nb, ns, V⟩ := I.2.1.1
  obtain ⟨a0, a1, B⟩ := K.ob
  refine v_aload_n (pc := 921) X (hd := dL_law_921) (kk := ?_)
  refine v_aload_n (pc := 922) X (hd := dL_law_922) (kk := ?_)
  refine v_iload_n (pc := 923) X (hd := dL_law_923) (kk := ?_)
  refine v_iconst (pc := 924) X (v := nI 1) (hd := dL_law_924) (kk := ?_)
  refine v_iadd (pc := 925) X (hd := dL_law_925) (kk := ?_)
  refine v_xld (pc := 926) X hX hbl hL (4 * kx + 1) (hd := dL_law_926) (hi := nI_add _ _) (hj := by omega) (kk := ?_)
  refine v_callVp (pc := 927) X (hd := dL_law_927) (w := wv_L_125) (hC := c_X6_nextToCut l E x w pa np tn te st1 en1 nu (xs (4 * kx + 1)) nh nb ns) (hp := ⟨K, V⟩) (hb := B) (hR := ⟨Nat.le_of_ble_eq_true rfl, Nat.le_of_ble_eq_true rfl⟩) (hf := ⟨Nat.le_of_ble_eq_true rfl, Nat.le_of_ble_eq_true rfl⟩) (kk := ?_)
  refine v_aload_n (pc := 930) X (hd := dL_law_930) (kk := ?_)
  refine v_aload_n (pc := 931) X (hd := dL_law_931) (kk := ?_)
  refine v_iload_n (pc := 932) X (hd := dL_law_932) (kk := ?_)
  refine v_iconst (pc := 933) X (v := nI 1) (hd := dL_law_933) (kk := ?_)
  refine v_iadd (pc := 934) X (hd := dL_law_934) (kk := ?_)
  refine v_xld (pc := 935) X hX hbl hL (4 * kx + 1) (hd := dL_law_935) (hi := nI_add _ _) (hj := by omega) (kk := ?_)
  refine v_callVp (pc := 936) X (hd := dL_law_936) (w := wv_L_128) (hC := c_X7_nextToCut l E (x + 740) w pa he te nu np false (nI tn) at_ st ki co (xs (4 * kx + 1)) nh nb ns) (hp := ⟨M, V⟩) (hb := M.1) (hR := ⟨Nat.le_of_ble_eq_true rfl, Nat.le_of_ble_eq_true rfl⟩) (hf := ⟨Nat.le_of_ble_eq_true rfl, Nat.le_of_ble_eq_true rfl⟩) (kk := ?_)
  refine v_icmpeq (pc := 939) X (tgt := 944) (hd := dL_law_939) (kt := fun _ => kk h ⟨w, pa, he, te, nu, np, tn, at_, st, ki, co, st1, en1, K, M, I, T⟩) (kf := fun c9 => absurd rfl c9)
