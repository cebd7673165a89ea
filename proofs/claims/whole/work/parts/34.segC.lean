/-! the law, case by case -/
set_option maxHeartbeats 4000000 in
set_option maxRecDepth 100000 in
theorem sl_seg_positionOf {p : Program} {l : Launch} {e : Env} {s : State} {m : MethodId} {below : List Frame} {meth : Method} {c : Code} {H : Heap} {locs : List Loc} {cells slots : Nat} {Q : State → Prop} {Γ : sl_G} {α μ : Nat → Nat} {ao bb L e0 i : Nat} {xs : Nat → Int32} {g : sl_W} {th0 : Int32} {f0 : Nat → Int64} {ls : Array Slot} (hlt : l.stackTraces = false) (hC : sl_C Γ p s m meth c cL_law 7 RL) (hz : ¬ sl_A Γ bb) (hX : va_X bb L xs s s.heap) (hbl : bb < s.heap.size) (hL : L ≤ 2560) (hi : i + 5 ≤ L) (hG : sl_I Γ g s H locs) (hI : sl_LT Γ α μ ao e0 th0 f0 g) (he : e0 < 100000) (hcs : cells + 4 ≤ 601024) (hss : slots + 40 ≤ 7293034) (hl : lv_has ls 7 [(4, .int (nI i)), (3, .ref ao), (2, .ref (μ 0)), (1, .ref (α 0)), (0, .ref bb)]) (kk : ∀ (e1 : Nat) (th1 : Int32) (f1 : Nat → Int64) (g1 : sl_W) (H1 : Heap) (locs1 : List Loc) (ls1 : Array Slot) (k1 n1 : Nat), e1 ≤ e0 + 1 → sl_LT Γ α μ ao e1 th1 f1 g1 → sl_I Γ g1 s H1 locs1 → lv_has ls1 7 [(4, .int (nI i)), (3, .ref ao), (2, .ref (μ 0)), (1, .ref (α 0)), (0, .ref bb)] → k1 ≤ cells + 4 → n1 ≤ slots + 40 → W p l e room_1 s m #[.ref bb] below meth c H1 locs1 k1 n1 Q (F0 m 1039 ls1 [])) : W p l e room_1 s m #[.ref bb] below meth c H locs cells slots Q (F0 m 499 ls []) := by
  have hx := hC.1
  have hb := hC.2.1
  obtain ⟨β, n, ep, tl, lo, T, C, E, hK, hM, hJ, h40⟩ := id hI
  have hw := sl_Mdl.wf hM
  refine lv_aload_n hx hb dL_law_499 rfl (lv_at hl 3 rfl) ?_
  refine lv_aload_n hx hb dL_law_500 rfl (lv_at hl 4 rfl) ?_
  refine lv_iload hx hb dL_law_501 (lv_at hl 0 rfl) ?_
  refine lv_iconst (v := 1) hx hb dL_law_503 (by decide) ?_
  refine lv_iadd hx hb dL_law_504 ?_
  refine sl_topi (y := nI (i + 1)) (nI_add i 1) ?_
  refine va_sld hx hb hX hbl hz hG.2 (i := nI (i + 1)) (vp_in_nI (by omega) (by omega)) dL_law_505 ?_
  refine sl_topi (y := xs (i + 1)) (by rw [nI_clamp (by omega)]) ?_
  refine lv_aload_n hx hb dL_law_506 rfl (lv_at hl 1 rfl) ?_
  refine sl_calli (sl_runSW (As := [.ref (α 0), .int (xs (i + 1)), .ref ao]) (rest := []) hC hG (kL_positionOf l hlt Γ g α β n ep tl lo T C E hK ao f0 h40 (xs (i + 1))) mi_L_positionOf lk_RL_104 rfl rfl ⟨Nat.le_of_ble_eq_true rfl, Nat.le_of_ble_eq_true rfl⟩ rfl hl.1 rfl (Nat.le_of_ble_eq_true rfl) dL_law_507 ⟨(by show _ + _ ≤ 601024; omega), (by show _ + _ ≤ 7293034; omega)⟩) hG (fun r_507 u_507 H locs hr_507 hG => ?_)
  have hG : sl_I Γ u_507 s H locs := hG
  have hM2 := hM.cg (sl_Wr.md hr_507)
  refine lv_istore (lv' := [(5, .int r_507), (4, .int (nI i)), (3, .ref ao), (2, .ref (μ 0)), (1, .ref (α 0)), (0, .ref bb)]) hx hb dL_law_510 hl (by decide) rfl (fun ls hl => ?_)
  refine lv_aload_n hx hb dL_law_512 rfl (lv_at hl 3 rfl) ?_
  refine lv_aload_n hx hb dL_law_513 rfl (lv_at hl 5 rfl) ?_
  refine lv_iload hx hb dL_law_514 (lv_at hl 1 rfl) ?_
  refine lv_iconst (v := 1) hx hb dL_law_516 (by decide) ?_
  refine lv_iadd hx hb dL_law_517 ?_
  refine sl_topi (y := nI (i + 1)) (nI_add i 1) ?_
  refine va_sld hx hb hX hbl hz hG.2 (i := nI (i + 1)) (vp_in_nI (by omega) (by omega)) dL_law_518 ?_
  refine sl_topi (y := xs (i + 1)) (by rw [nI_clamp (by omega)]) ?_
  refine sl_calli (sl_runV (As := [.int (xs (i + 1))]) (rest := []) hC hG (kX5_positionOf l Γ u_507 μ n ep tl lo T C E th0 hM2 (xs (i + 1))) mi_X5_positionOf lk_RL_106 20 hM2.1 rfl rfl rfl ⟨Nat.le_of_ble_eq_true rfl, Nat.le_of_ble_eq_true rfl⟩ rfl hl.1 rfl (Nat.le_of_ble_eq_true rfl) dL_law_519 ⟨(by show _ + _ ≤ 601024; omega), (by show _ + _ ≤ 7293034; omega)⟩) hG (fun r_519 u_519 H locs hr_519 hG => ?_)
  have hG : sl_I Γ u_519 s H locs := hG
  obtain ⟨th9, f9, hT9, hrr, hf9⟩ := sl_ag_positionOf hK hJ hw h40 hr_507 hr_519
  subst hrr
  obtain ⟨β9, n9, ep9, tl9, lo9, T9, C9, E9, hK9, hM9, hJ9, h49⟩ := id hT9
  refine lv_istore (lv' := [(6, .int r_519), (5, .int r_507), (4, .int (nI i)), (3, .ref ao), (2, .ref (μ 0)), (1, .ref (α 0)), (0, .ref bb)]) hx hb dL_law_522 hl (by decide) rfl (fun ls hl => ?_)
  refine lv_aload_n hx hb dL_law_524 rfl (lv_at hl 4 rfl) ?_
  refine sl_calli (sl_runV (As := []) (rest := []) hC hG (kX5_thrown l Γ u_519 μ n9 ep9 tl9 lo9 T9 C9 E9 r_507 hM9) mi_X5_thrown lk_RL_70 20 hM9.1 rfl rfl rfl ⟨Nat.le_of_ble_eq_true rfl, Nat.le_of_ble_eq_true rfl⟩ rfl hl.1 rfl (Nat.le_of_ble_eq_true rfl) dL_law_525 ⟨(by show _ + _ ≤ 601024; omega), (by show _ + _ ≤ 7293034; omega)⟩) hG (fun r_525 u_525 H locs hr_525 hG => ?_)
  refine sl_topi (y := r_507) hr_525 ?_
  refine lv_iload hx hb dL_law_528 (lv_at hl 1 rfl) ?_
  refine lv_icmp_eq (tgt := 535) hx hb dL_law_530 (by decide) (fun c_530 => ?_) (fun c_530 => ?_)
  · refine lv_iload hx hb dL_law_535 (lv_at hl 1 rfl) ?_
    refine lv_if_ne (tgt := 552) hx hb dL_law_537 (by decide) (fun c_537 => ?_) (fun c_537 => ?_)
    · refine lv_goto (tgt := 1039) hx hb dL_law_552 (by decide) ?_
      exact kk (e0) _ _ _ _ _ _ _ _ (by omega) hT9 hG (lv_sub hl [2, 3, 4, 5, 6] rfl) (by omega) (by omega)
    · refine lv_aload_n hx hb dL_law_540 rfl (lv_at hl 3 rfl) ?_
      refine lv_iconst (v := 0) hx hb dL_law_541 (by decide) ?_
      refine sl_laldN hC hG 40 h49 (j := 0) rfl (by omega) (by omega) dL_law_542 ?_
      refine lv_iload hx hb dL_law_543 (lv_at hl 0 rfl) ?_
      refine lv_i2l hx hb dL_law_545 rfl ?_
      refine W.lcmp hx hb dL_law_546 ?_
      refine sl_topi (y := 0) (by rw [hf9 c_537]; exact sl_cmp0 _) ?_
      refine lv_if_eq (tgt := 552) hx hb dL_law_547 (by decide) (fun c_547 => ?_) (fun c_547 => ?_)
      · refine lv_goto (tgt := 1039) hx hb dL_law_552 (by decide) ?_
        exact kk (e0) _ _ _ _ _ _ _ _ (by omega) hT9 hG (lv_sub hl [2, 3, 4, 5, 6] rfl) (by omega) (by omega)
      · exact absurd c_547 (by decide)
  · exact absurd rfl c_530
set_option maxHeartbeats 4000000 in
set_option maxRecDepth 100000 in
theorem sl_seg_stateOf {p : Program} {l : Launch} {e : Env} {s : State} {m : MethodId} {below : List Frame} {meth : Method} {c : Code} {H : Heap} {locs : List Loc} {cells slots : Nat} {Q : State → Prop} {Γ : sl_G} {α μ : Nat → Nat} {ao bb L e0 i : Nat} {xs : Nat → Int32} {g : sl_W} {th0 : Int32} {f0 : Nat → Int64} {ls : Array Slot} (hlt : l.stackTraces = false) (hC : sl_C Γ p s m meth c cL_law 7 RL) (hz : ¬ sl_A Γ bb) (hX : va_X bb L xs s s.heap) (hbl : bb < s.heap.size) (hL : L ≤ 2560) (hi : i + 5 ≤ L) (hG : sl_I Γ g s H locs) (hI : sl_LT Γ α μ ao e0 th0 f0 g) (he : e0 < 100000) (hcs : cells + 4 ≤ 601024) (hss : slots + 40 ≤ 7293034) (hl : lv_has ls 7 [(4, .int (nI i)), (3, .ref ao), (2, .ref (μ 0)), (1, .ref (α 0)), (0, .ref bb)]) (kk : ∀ (e1 : Nat) (th1 : Int32) (f1 : Nat → Int64) (g1 : sl_W) (H1 : Heap) (locs1 : List Loc) (ls1 : Array Slot) (k1 n1 : Nat), e1 ≤ e0 + 1 → sl_LT Γ α μ ao e1 th1 f1 g1 → sl_I Γ g1 s H1 locs1 → lv_has ls1 7 [(4, .int (nI i)), (3, .ref ao), (2, .ref (μ 0)), (1, .ref (α 0)), (0, .ref bb)] → k1 ≤ cells + 4 → n1 ≤ slots + 40 → W p l e room_1 s m #[.ref bb] below meth c H1 locs1 k1 n1 Q (F0 m 1039 ls1 [])) : W p l e room_1 s m #[.ref bb] below meth c H locs cells slots Q (F0 m 555 ls []) := by
  have hx := hC.1
  have hb := hC.2.1
  obtain ⟨β, n, ep, tl, lo, T, C, E, hK, hM, hJ, h40⟩ := id hI
  have hw := sl_Mdl.wf hM
  refine lv_aload_n hx hb dL_law_555 rfl (lv_at hl 3 rfl) ?_
  refine lv_aload_n hx hb dL_law_556 rfl (lv_at hl 4 rfl) ?_
  refine lv_iload hx hb dL_law_557 (lv_at hl 0 rfl) ?_
  refine lv_iconst (v := 1) hx hb dL_law_559 (by decide) ?_
  refine lv_iadd hx hb dL_law_560 ?_
  refine sl_topi (y := nI (i + 1)) (nI_add i 1) ?_
  refine va_sld hx hb hX hbl hz hG.2 (i := nI (i + 1)) (vp_in_nI (by omega) (by omega)) dL_law_561 ?_
  refine sl_topi (y := xs (i + 1)) (by rw [nI_clamp (by omega)]) ?_
  refine lv_aload_n hx hb dL_law_562 rfl (lv_at hl 1 rfl) ?_
  refine sl_calli (sl_runSW (As := [.ref (α 0), .int (xs (i + 1)), .ref ao]) (rest := []) hC hG (kL_stateOf l hlt Γ g α β n ep tl lo T C E hK ao f0 h40 (xs (i + 1))) mi_L_stateOf lk_RL_107 rfl rfl ⟨Nat.le_of_ble_eq_true rfl, Nat.le_of_ble_eq_true rfl⟩ rfl hl.1 rfl (Nat.le_of_ble_eq_true rfl) dL_law_563 ⟨(by show _ + _ ≤ 601024; omega), (by show _ + _ ≤ 7293034; omega)⟩) hG (fun r_563 u_563 H locs hr_563 hG => ?_)
  have hG : sl_I Γ u_563 s H locs := hG
  have hM2 := hM.cg (sl_Wr.md hr_563)
  refine lv_istore (lv' := [(5, .int r_563), (4, .int (nI i)), (3, .ref ao), (2, .ref (μ 0)), (1, .ref (α 0)), (0, .ref bb)]) hx hb dL_law_566 hl (by decide) rfl (fun ls hl => ?_)
  refine lv_aload_n hx hb dL_law_568 rfl (lv_at hl 3 rfl) ?_
  refine lv_aload_n hx hb dL_law_569 rfl (lv_at hl 5 rfl) ?_
  refine lv_iload hx hb dL_law_570 (lv_at hl 1 rfl) ?_
  refine lv_iconst (v := 1) hx hb dL_law_572 (by decide) ?_
  refine lv_iadd hx hb dL_law_573 ?_
  refine sl_topi (y := nI (i + 1)) (nI_add i 1) ?_
  refine va_sld hx hb hX hbl hz hG.2 (i := nI (i + 1)) (vp_in_nI (by omega) (by omega)) dL_law_574 ?_
  refine sl_topi (y := xs (i + 1)) (by rw [nI_clamp (by omega)]) ?_
  refine sl_calli (sl_runV (As := [.int (xs (i + 1))]) (rest := []) hC hG (kX5_stateOf l Γ u_563 μ n ep tl lo T C E th0 hM2 (xs (i + 1))) mi_X5_stateOf lk_RL_109 20 hM2.1 rfl rfl rfl ⟨Nat.le_of_ble_eq_true rfl, Nat.le_of_ble_eq_true rfl⟩ rfl hl.1 rfl (Nat.le_of_ble_eq_true rfl) dL_law_575 ⟨(by show _ + _ ≤ 601024; omega), (by show _ + _ ≤ 7293034; omega)⟩) hG (fun r_575 u_575 H locs hr_575 hG => ?_)
  have hG : sl_I Γ u_575 s H locs := hG
  obtain ⟨th9, f9, hT9, hrr, hf9⟩ := sl_ag_stateOf hK hJ hw h40 hr_563 hr_575
  subst hrr
  obtain ⟨β9, n9, ep9, tl9, lo9, T9, C9, E9, hK9, hM9, hJ9, h49⟩ := id hT9
  refine lv_istore (lv' := [(6, .int r_575), (5, .int r_563), (4, .int (nI i)), (3, .ref ao), (2, .ref (μ 0)), (1, .ref (α 0)), (0, .ref bb)]) hx hb dL_law_578 hl (by decide) rfl (fun ls hl => ?_)
  refine lv_aload_n hx hb dL_law_580 rfl (lv_at hl 4 rfl) ?_
  refine sl_calli (sl_runV (As := []) (rest := []) hC hG (kX5_thrown l Γ u_575 μ n9 ep9 tl9 lo9 T9 C9 E9 r_563 hM9) mi_X5_thrown lk_RL_70 20 hM9.1 rfl rfl rfl ⟨Nat.le_of_ble_eq_true rfl, Nat.le_of_ble_eq_true rfl⟩ rfl hl.1 rfl (Nat.le_of_ble_eq_true rfl) dL_law_581 ⟨(by show _ + _ ≤ 601024; omega), (by show _ + _ ≤ 7293034; omega)⟩) hG (fun r_581 u_581 H locs hr_581 hG => ?_)
  refine sl_topi (y := r_563) hr_581 ?_
  refine lv_iload hx hb dL_law_584 (lv_at hl 1 rfl) ?_
  refine lv_icmp_eq (tgt := 591) hx hb dL_law_586 (by decide) (fun c_586 => ?_) (fun c_586 => ?_)
  · refine lv_iload hx hb dL_law_591 (lv_at hl 1 rfl) ?_
    refine lv_if_ne (tgt := 608) hx hb dL_law_593 (by decide) (fun c_593 => ?_) (fun c_593 => ?_)
    · refine lv_goto (tgt := 1039) hx hb dL_law_608 (by decide) ?_
      exact kk (e0) _ _ _ _ _ _ _ _ (by omega) hT9 hG (lv_sub hl [2, 3, 4, 5, 6] rfl) (by omega) (by omega)
    · refine lv_aload_n hx hb dL_law_596 rfl (lv_at hl 3 rfl) ?_
      refine lv_iconst (v := 0) hx hb dL_law_597 (by decide) ?_
      refine sl_laldN hC hG 40 h49 (j := 0) rfl (by omega) (by omega) dL_law_598 ?_
      refine lv_iload hx hb dL_law_599 (lv_at hl 0 rfl) ?_
      refine lv_i2l hx hb dL_law_601 rfl ?_
      refine W.lcmp hx hb dL_law_602 ?_
      refine sl_topi (y := 0) (by rw [hf9 c_593]; exact sl_cmp0 _) ?_
      refine lv_if_eq (tgt := 608) hx hb dL_law_603 (by decide) (fun c_603 => ?_) (fun c_603 => ?_)
      · refine lv_goto (tgt := 1039) hx hb dL_law_608 (by decide) ?_
        exact kk (e0) _ _ _ _ _ _ _ _ (by omega) hT9 hG (lv_sub hl [2, 3, 4, 5, 6] rfl) (by omega) (by omega)
      · exact absurd c_603 (by decide)
  · exact absurd rfl c_586
set_option maxHeartbeats 4000000 in
set_option maxRecDepth 100000 in
theorem sl_seg_pointer {p : Program} {l : Launch} {e : Env} {s : State} {m : MethodId} {below : List Frame} {meth : Method} {c : Code} {H : Heap} {locs : List Loc} {cells slots : Nat} {Q : State → Prop} {Γ : sl_G} {α μ : Nat → Nat} {ao bb L e0 i : Nat} {xs : Nat → Int32} {g : sl_W} {th0 : Int32} {f0 : Nat → Int64} {ls : Array Slot} (hlt : l.stackTraces = false) (hC : sl_C Γ p s m meth c cL_law 7 RL) (hz : ¬ sl_A Γ bb) (hX : va_X bb L xs s s.heap) (hbl : bb < s.heap.size) (hL : L ≤ 2560) (hi : i + 5 ≤ L) (hG : sl_I Γ g s H locs) (hI : sl_LT Γ α μ ao e0 th0 f0 g) (he : e0 < 100000) (hcs : cells + 4 ≤ 601024) (hss : slots + 40 ≤ 7293034) (hl : lv_has ls 7 [(4, .int (nI i)), (3, .ref ao), (2, .ref (μ 0)), (1, .ref (α 0)), (0, .ref bb)]) (kk : ∀ (e1 : Nat) (th1 : Int32) (f1 : Nat → Int64) (g1 : sl_W) (H1 : Heap) (locs1 : List Loc) (ls1 : Array Slot) (k1 n1 : Nat), e1 ≤ e0 + 1 → sl_LT Γ α μ ao e1 th1 f1 g1 → sl_I Γ g1 s H1 locs1 → lv_has ls1 7 [(4, .int (nI i)), (3, .ref ao), (2, .ref (μ 0)), (1, .ref (α 0)), (0, .ref bb)] → k1 ≤ cells + 4 → n1 ≤ slots + 40 → W p l e room_1 s m #[.ref bb] below meth c H1 locs1 k1 n1 Q (F0 m 1039 ls1 [])) : W p l e room_1 s m #[.ref bb] below meth c H locs cells slots Q (F0 m 611 ls []) := by
  have hx := hC.1
  have hb := hC.2.1
  obtain ⟨β, n, ep, tl, lo, T, C, E, hK, hM, hJ, h40⟩ := id hI
  have hw := sl_Mdl.wf hM
  refine lv_aload_n hx hb dL_law_611 rfl (lv_at hl 3 rfl) ?_
  refine lv_aload_n hx hb dL_law_612 rfl (lv_at hl 4 rfl) ?_
  refine lv_iload hx hb dL_law_613 (lv_at hl 0 rfl) ?_
  refine lv_iconst (v := 1) hx hb dL_law_615 (by decide) ?_
  refine lv_iadd hx hb dL_law_616 ?_
  refine sl_topi (y := nI (i + 1)) (nI_add i 1) ?_
  refine va_sld hx hb hX hbl hz hG.2 (i := nI (i + 1)) (vp_in_nI (by omega) (by omega)) dL_law_617 ?_
  refine sl_topi (y := xs (i + 1)) (by rw [nI_clamp (by omega)]) ?_
  refine lv_aload_n hx hb dL_law_618 rfl (lv_at hl 4 rfl) ?_
  refine lv_iload hx hb dL_law_619 (lv_at hl 0 rfl) ?_
  refine lv_iconst (v := 2) hx hb dL_law_621 (by decide) ?_
  refine lv_iadd hx hb dL_law_622 ?_
  refine sl_topi (y := nI (i + 2)) (nI_add i 2) ?_
  refine va_sld hx hb hX hbl hz hG.2 (i := nI (i + 2)) (vp_in_nI (by omega) (by omega)) dL_law_623 ?_
  refine sl_topi (y := xs (i + 2)) (by rw [nI_clamp (by omega)]) ?_
  refine lv_aload_n hx hb dL_law_624 rfl (lv_at hl 4 rfl) ?_
  refine lv_iload hx hb dL_law_625 (lv_at hl 0 rfl) ?_
  refine lv_iconst (v := 3) hx hb dL_law_627 (by decide) ?_
  refine lv_iadd hx hb dL_law_628 ?_
  refine sl_topi (y := nI (i + 3)) (nI_add i 3) ?_
  refine va_sld hx hb hX hbl hz hG.2 (i := nI (i + 3)) (vp_in_nI (by omega) (by omega)) dL_law_629 ?_
  refine sl_topi (y := xs (i + 3)) (by rw [nI_clamp (by omega)]) ?_
  refine lv_aload_n hx hb dL_law_630 rfl (lv_at hl 1 rfl) ?_
  refine sl_calli (sl_runSW (As := [.ref (α 0), .int (xs (i + 1)), .int (xs (i + 2)), .int (xs (i + 3)), .ref ao]) (rest := []) hC hG (kL_pointer l hlt Γ g α β n ep tl lo T C E hK ao f0 h40 (xs (i + 1)) (xs (i + 2)) (xs (i + 3))) mi_L_pointer lk_RL_110 rfl rfl ⟨Nat.le_of_ble_eq_true rfl, Nat.le_of_ble_eq_true rfl⟩ rfl hl.1 rfl (Nat.le_of_ble_eq_true rfl) dL_law_631 ⟨(by show _ + _ ≤ 601024; omega), (by show _ + _ ≤ 7293034; omega)⟩) hG (fun r_631 u_631 H locs hr_631 hG => ?_)
  have hG : sl_I Γ u_631 s H locs := hG
  have hM2 := hM.cg (sl_Wr.md hr_631)
  refine lv_istore (lv' := [(5, .int r_631), (4, .int (nI i)), (3, .ref ao), (2, .ref (μ 0)), (1, .ref (α 0)), (0, .ref bb)]) hx hb dL_law_634 hl (by decide) rfl (fun ls hl => ?_)
  refine lv_aload_n hx hb dL_law_636 rfl (lv_at hl 3 rfl) ?_
  refine lv_aload_n hx hb dL_law_637 rfl (lv_at hl 5 rfl) ?_
  refine lv_iload hx hb dL_law_638 (lv_at hl 1 rfl) ?_
  refine lv_iconst (v := 1) hx hb dL_law_640 (by decide) ?_
  refine lv_iadd hx hb dL_law_641 ?_
  refine sl_topi (y := nI (i + 1)) (nI_add i 1) ?_
  refine va_sld hx hb hX hbl hz hG.2 (i := nI (i + 1)) (vp_in_nI (by omega) (by omega)) dL_law_642 ?_
  refine sl_topi (y := xs (i + 1)) (by rw [nI_clamp (by omega)]) ?_
  refine lv_aload_n hx hb dL_law_643 rfl (lv_at hl 5 rfl) ?_
  refine lv_iload hx hb dL_law_644 (lv_at hl 1 rfl) ?_
  refine lv_iconst (v := 2) hx hb dL_law_646 (by decide) ?_
  refine lv_iadd hx hb dL_law_647 ?_
  refine sl_topi (y := nI (i + 2)) (nI_add i 2) ?_
  refine va_sld hx hb hX hbl hz hG.2 (i := nI (i + 2)) (vp_in_nI (by omega) (by omega)) dL_law_648 ?_
  refine sl_topi (y := xs (i + 2)) (by rw [nI_clamp (by omega)]) ?_
  refine lv_aload_n hx hb dL_law_649 rfl (lv_at hl 5 rfl) ?_
  refine lv_iload hx hb dL_law_650 (lv_at hl 1 rfl) ?_
  refine lv_iconst (v := 3) hx hb dL_law_652 (by decide) ?_
  refine lv_iadd hx hb dL_law_653 ?_
  refine sl_topi (y := nI (i + 3)) (nI_add i 3) ?_
  refine va_sld hx hb hX hbl hz hG.2 (i := nI (i + 3)) (vp_in_nI (by omega) (by omega)) dL_law_654 ?_
  refine sl_topi (y := xs (i + 3)) (by rw [nI_clamp (by omega)]) ?_
  refine sl_calli (sl_runV (As := [.int (xs (i + 1)), .int (xs (i + 2)), .int (xs (i + 3))]) (rest := []) hC hG (kX5_pointer l Γ u_631 μ n ep tl lo T C E th0 hM2 (xs (i + 1)) (xs (i + 2)) (xs (i + 3))) mi_X5_pointer lk_RL_113 20 hM2.1 rfl rfl rfl ⟨Nat.le_of_ble_eq_true rfl, Nat.le_of_ble_eq_true rfl⟩ rfl hl.1 rfl (Nat.le_of_ble_eq_true rfl) dL_law_655 ⟨(by show _ + _ ≤ 601024; omega), (by show _ + _ ≤ 7293034; omega)⟩) hG (fun r_655 u_655 H locs hr_655 hG => ?_)
  have hG : sl_I Γ u_655 s H locs := hG
  obtain ⟨th9, f9, hT9, hrr, hf9⟩ := sl_ag_pointer hK hJ hw h40 hr_631 hr_655
  subst hrr
  obtain ⟨β9, n9, ep9, tl9, lo9, T9, C9, E9, hK9, hM9, hJ9, h49⟩ := id hT9
  refine lv_istore (lv' := [(6, .int r_655), (5, .int r_631), (4, .int (nI i)), (3, .ref ao), (2, .ref (μ 0)), (1, .ref (α 0)), (0, .ref bb)]) hx hb dL_law_658 hl (by decide) rfl (fun ls hl => ?_)
  refine lv_aload_n hx hb dL_law_660 rfl (lv_at hl 4 rfl) ?_
  refine sl_calli (sl_runV (As := []) (rest := []) hC hG (kX5_thrown l Γ u_655 μ n9 ep9 tl9 lo9 T9 C9 E9 r_631 hM9) mi_X5_thrown lk_RL_70 20 hM9.1 rfl rfl rfl ⟨Nat.le_of_ble_eq_true rfl, Nat.le_of_ble_eq_true rfl⟩ rfl hl.1 rfl (Nat.le_of_ble_eq_true rfl) dL_law_661 ⟨(by show _ + _ ≤ 601024; omega), (by show _ + _ ≤ 7293034; omega)⟩) hG (fun r_661 u_661 H locs hr_661 hG => ?_)
  refine sl_topi (y := r_631) hr_661 ?_
  refine lv_iload hx hb dL_law_664 (lv_at hl 1 rfl) ?_
  refine lv_icmp_eq (tgt := 671) hx hb dL_law_666 (by decide) (fun c_666 => ?_) (fun c_666 => ?_)
  · refine lv_iload hx hb dL_law_671 (lv_at hl 1 rfl) ?_
    refine lv_if_ne (tgt := 688) hx hb dL_law_673 (by decide) (fun c_673 => ?_) (fun c_673 => ?_)
    · refine lv_goto (tgt := 1039) hx hb dL_law_688 (by decide) ?_
      exact kk (e0) _ _ _ _ _ _ _ _ (by omega) hT9 hG (lv_sub hl [2, 3, 4, 5, 6] rfl) (by omega) (by omega)
    · refine lv_aload_n hx hb dL_law_676 rfl (lv_at hl 3 rfl) ?_
      refine lv_iconst (v := 0) hx hb dL_law_677 (by decide) ?_
      refine sl_laldN hC hG 40 h49 (j := 0) rfl (by omega) (by omega) dL_law_678 ?_
      refine lv_iload hx hb dL_law_679 (lv_at hl 0 rfl) ?_
      refine lv_i2l hx hb dL_law_681 rfl ?_
      refine W.lcmp hx hb dL_law_682 ?_
      refine sl_topi (y := 0) (by rw [hf9 c_673]; exact sl_cmp0 _) ?_
      refine lv_if_eq (tgt := 688) hx hb dL_law_683 (by decide) (fun c_683 => ?_) (fun c_683 => ?_)
      · refine lv_goto (tgt := 1039) hx hb dL_law_688 (by decide) ?_
        exact kk (e0) _ _ _ _ _ _ _ _ (by omega) hT9 hG (lv_sub hl [2, 3, 4, 5, 6] rfl) (by omega) (by omega)
      · exact absurd c_683 (by decide)
  · exact absurd rfl c_666
set_option maxHeartbeats 4000000 in
set_option maxRecDepth 100000 in
theorem sl_seg_cellAt {p : Program} {l : Launch} {e : Env} {s : State} {m : MethodId} {below : List Frame} {meth : Method} {c : Code} {H : Heap} {locs : List Loc} {cells slots : Nat} {Q : State → Prop} {Γ : sl_G} {α μ : Nat → Nat} {ao bb L e0 i : Nat} {xs : Nat → Int32} {g : sl_W} {th0 : Int32} {f0 : Nat → Int64} {ls : Array Slot} (hlt : l.stackTraces = false) (hC : sl_C Γ p s m meth c cL_law 7 RL) (hz : ¬ sl_A Γ bb) (hX : va_X bb L xs s s.heap) (hbl : bb < s.heap.size) (hL : L ≤ 2560) (hi : i + 5 ≤ L) (hG : sl_I Γ g s H locs) (hI : sl_LT Γ α μ ao e0 th0 f0 g) (he : e0 < 100000) (hcs : cells + 4 ≤ 601024) (hss : slots + 40 ≤ 7293034) (hl : lv_has ls 7 [(4, .int (nI i)), (3, .ref ao), (2, .ref (μ 0)), (1, .ref (α 0)), (0, .ref bb)]) (kk : ∀ (e1 : Nat) (th1 : Int32) (f1 : Nat → Int64) (g1 : sl_W) (H1 : Heap) (locs1 : List Loc) (ls1 : Array Slot) (k1 n1 : Nat), e1 ≤ e0 + 1 → sl_LT Γ α μ ao e1 th1 f1 g1 → sl_I Γ g1 s H1 locs1 → lv_has ls1 7 [(4, .int (nI i)), (3, .ref ao), (2, .ref (μ 0)), (1, .ref (α 0)), (0, .ref bb)] → k1 ≤ cells + 4 → n1 ≤ slots + 40 → W p l e room_1 s m #[.ref bb] below meth c H1 locs1 k1 n1 Q (F0 m 1039 ls1 [])) : W p l e room_1 s m #[.ref bb] below meth c H locs cells slots Q (F0 m 691 ls []) := by
  have hx := hC.1
  have hb := hC.2.1
  obtain ⟨β, n, ep, tl, lo, T, C, E, hK, hM, hJ, h40⟩ := id hI
  have hw := sl_Mdl.wf hM
  refine lv_aload_n hx hb dL_law_691 rfl (lv_at hl 3 rfl) ?_
  refine lv_aload_n hx hb dL_law_692 rfl (lv_at hl 4 rfl) ?_
  refine lv_iload hx hb dL_law_693 (lv_at hl 0 rfl) ?_
  refine lv_iconst (v := 1) hx hb dL_law_695 (by decide) ?_
  refine lv_iadd hx hb dL_law_696 ?_
  refine sl_topi (y := nI (i + 1)) (nI_add i 1) ?_
  refine va_sld hx hb hX hbl hz hG.2 (i := nI (i + 1)) (vp_in_nI (by omega) (by omega)) dL_law_697 ?_
  refine sl_topi (y := xs (i + 1)) (by rw [nI_clamp (by omega)]) ?_
  refine lv_aload_n hx hb dL_law_698 rfl (lv_at hl 4 rfl) ?_
  refine lv_iload hx hb dL_law_699 (lv_at hl 0 rfl) ?_
  refine lv_iconst (v := 2) hx hb dL_law_701 (by decide) ?_
  refine lv_iadd hx hb dL_law_702 ?_
  refine sl_topi (y := nI (i + 2)) (nI_add i 2) ?_
  refine va_sld hx hb hX hbl hz hG.2 (i := nI (i + 2)) (vp_in_nI (by omega) (by omega)) dL_law_703 ?_
  refine sl_topi (y := xs (i + 2)) (by rw [nI_clamp (by omega)]) ?_
  refine lv_aload_n hx hb dL_law_704 rfl (lv_at hl 1 rfl) ?_
  refine sl_calli (sl_runSW (As := [.ref (α 0), .int (xs (i + 1)), .int (xs (i + 2)), .ref ao]) (rest := []) hC hG (kL_cellAt l hlt Γ g α β n ep tl lo T C E hK ao f0 h40 (xs (i + 1)) (xs (i + 2))) mi_L_cellAt lk_RL_114 rfl rfl ⟨Nat.le_of_ble_eq_true rfl, Nat.le_of_ble_eq_true rfl⟩ rfl hl.1 rfl (Nat.le_of_ble_eq_true rfl) dL_law_705 ⟨(by show _ + _ ≤ 601024; omega), (by show _ + _ ≤ 7293034; omega)⟩) hG (fun r_705 u_705 H locs hr_705 hG => ?_)
  have hG : sl_I Γ u_705 s H locs := hG
  have hM2 := hM.cg (sl_Wr.md hr_705)
  refine lv_istore (lv' := [(5, .int r_705), (4, .int (nI i)), (3, .ref ao), (2, .ref (μ 0)), (1, .ref (α 0)), (0, .ref bb)]) hx hb dL_law_708 hl (by decide) rfl (fun ls hl => ?_)
  refine lv_aload_n hx hb dL_law_710 rfl (lv_at hl 3 rfl) ?_
  refine lv_aload_n hx hb dL_law_711 rfl (lv_at hl 5 rfl) ?_
  refine lv_iload hx hb dL_law_712 (lv_at hl 1 rfl) ?_
  refine lv_iconst (v := 1) hx hb dL_law_714 (by decide) ?_
  refine lv_iadd hx hb dL_law_715 ?_
  refine sl_topi (y := nI (i + 1)) (nI_add i 1) ?_
  refine va_sld hx hb hX hbl hz hG.2 (i := nI (i + 1)) (vp_in_nI (by omega) (by omega)) dL_law_716 ?_
  refine sl_topi (y := xs (i + 1)) (by rw [nI_clamp (by omega)]) ?_
  refine lv_aload_n hx hb dL_law_717 rfl (lv_at hl 5 rfl) ?_
  refine lv_iload hx hb dL_law_718 (lv_at hl 1 rfl) ?_
  refine lv_iconst (v := 2) hx hb dL_law_720 (by decide) ?_
  refine lv_iadd hx hb dL_law_721 ?_
  refine sl_topi (y := nI (i + 2)) (nI_add i 2) ?_
  refine va_sld hx hb hX hbl hz hG.2 (i := nI (i + 2)) (vp_in_nI (by omega) (by omega)) dL_law_722 ?_
  refine sl_topi (y := xs (i + 2)) (by rw [nI_clamp (by omega)]) ?_
  refine sl_calli (sl_runV (As := [.int (xs (i + 1)), .int (xs (i + 2))]) (rest := []) hC hG (kX5_cellAt l Γ u_705 μ n ep tl lo T C E th0 hM2 (xs (i + 1)) (xs (i + 2))) mi_X5_cellAt lk_RL_116 20 hM2.1 rfl rfl rfl ⟨Nat.le_of_ble_eq_true rfl, Nat.le_of_ble_eq_true rfl⟩ rfl hl.1 rfl (Nat.le_of_ble_eq_true rfl) dL_law_723 ⟨(by show _ + _ ≤ 601024; omega), (by show _ + _ ≤ 7293034; omega)⟩) hG (fun r_723 u_723 H locs hr_723 hG => ?_)
  have hG : sl_I Γ u_723 s H locs := hG
  obtain ⟨th9, f9, hT9, hrr, hf9⟩ := sl_ag_cellAt hK hJ hw h40 hr_705 hr_723
  subst hrr
  obtain ⟨β9, n9, ep9, tl9, lo9, T9, C9, E9, hK9, hM9, hJ9, h49⟩ := id hT9
  refine lv_istore (lv' := [(6, .int r_723), (5, .int r_705), (4, .int (nI i)), (3, .ref ao), (2, .ref (μ 0)), (1, .ref (α 0)), (0, .ref bb)]) hx hb dL_law_726 hl (by decide) rfl (fun ls hl => ?_)
  refine lv_aload_n hx hb dL_law_728 rfl (lv_at hl 4 rfl) ?_
  refine sl_calli (sl_runV (As := []) (rest := []) hC hG (kX5_thrown l Γ u_723 μ n9 ep9 tl9 lo9 T9 C9 E9 r_705 hM9) mi_X5_thrown lk_RL_70 20 hM9.1 rfl rfl rfl ⟨Nat.le_of_ble_eq_true rfl, Nat.le_of_ble_eq_true rfl⟩ rfl hl.1 rfl (Nat.le_of_ble_eq_true rfl) dL_law_729 ⟨(by show _ + _ ≤ 601024; omega), (by show _ + _ ≤ 7293034; omega)⟩) hG (fun r_729 u_729 H locs hr_729 hG => ?_)
  refine sl_topi (y := r_705) hr_729 ?_
  refine lv_iload hx hb dL_law_732 (lv_at hl 1 rfl) ?_
  refine lv_icmp_eq (tgt := 739) hx hb dL_law_734 (by decide) (fun c_734 => ?_) (fun c_734 => ?_)
  · refine lv_iload hx hb dL_law_739 (lv_at hl 1 rfl) ?_
    refine lv_if_ne (tgt := 756) hx hb dL_law_741 (by decide) (fun c_741 => ?_) (fun c_741 => ?_)
    · refine lv_goto (tgt := 1039) hx hb dL_law_756 (by decide) ?_
      exact kk (e0) _ _ _ _ _ _ _ _ (by omega) hT9 hG (lv_sub hl [2, 3, 4, 5, 6] rfl) (by omega) (by omega)
    · refine lv_aload_n hx hb dL_law_744 rfl (lv_at hl 3 rfl) ?_
      refine lv_iconst (v := 0) hx hb dL_law_745 (by decide) ?_
      refine sl_laldN hC hG 40 h49 (j := 0) rfl (by omega) (by omega) dL_law_746 ?_
      refine lv_iload hx hb dL_law_747 (lv_at hl 0 rfl) ?_
      refine lv_i2l hx hb dL_law_749 rfl ?_
      refine W.lcmp hx hb dL_law_750 ?_
      refine sl_topi (y := 0) (by rw [hf9 c_741]; exact sl_cmp0 _) ?_
      refine lv_if_eq (tgt := 756) hx hb dL_law_751 (by decide) (fun c_751 => ?_) (fun c_751 => ?_)
      · refine lv_goto (tgt := 1039) hx hb dL_law_756 (by decide) ?_
        exact kk (e0) _ _ _ _ _ _ _ _ (by omega) hT9 hG (lv_sub hl [2, 3, 4, 5, 6] rfl) (by omega) (by omega)
      · exact absurd c_751 (by decide)
  · exact absurd rfl c_734
