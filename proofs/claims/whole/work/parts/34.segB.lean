/-! the law, case by case -/
set_option maxHeartbeats 4000000 in
set_option maxRecDepth 100000 in
theorem sl_seg_seal {p : Program} {l : Launch} {e : Env} {s : State} {m : MethodId} {below : List Frame} {meth : Method} {c : Code} {H : Heap} {locs : List Loc} {cells slots : Nat} {Q : State → Prop} {Γ : sl_G} {α μ : Nat → Nat} {ao bb L e0 i : Nat} {xs : Nat → Int32} {g : sl_W} {th0 : Int32} {f0 : Nat → Int64} {ls : Array Slot} (hlt : l.stackTraces = false) (hC : sl_C Γ p s m meth c cL_law 7 RL) (hz : ¬ sl_A Γ bb) (hX : va_X bb L xs s s.heap) (hbl : bb < s.heap.size) (hL : L ≤ 2560) (hi : i + 5 ≤ L) (hG : sl_I Γ g s H locs) (hI : sl_LT Γ α μ ao e0 th0 f0 g) (he : e0 < 100000) (hcs : cells + 4 ≤ 601024) (hss : slots + 40 ≤ 7293034) (hl : lv_has ls 7 [(4, .int (nI i)), (3, .ref ao), (2, .ref (μ 0)), (1, .ref (α 0)), (0, .ref bb)]) (kk : ∀ (e1 : Nat) (th1 : Int32) (f1 : Nat → Int64) (g1 : sl_W) (H1 : Heap) (locs1 : List Loc) (ls1 : Array Slot) (k1 n1 : Nat), e1 ≤ e0 + 1 → sl_LT Γ α μ ao e1 th1 f1 g1 → sl_I Γ g1 s H1 locs1 → lv_has ls1 7 [(4, .int (nI i)), (3, .ref ao), (2, .ref (μ 0)), (1, .ref (α 0)), (0, .ref bb)] → k1 ≤ cells + 4 → n1 ≤ slots + 40 → W p l e room_1 s m #[.ref bb] below meth c H1 locs1 k1 n1 Q (F0 m 1039 ls1 [])) : W p l e room_1 s m #[.ref bb] below meth c H locs cells slots Q (F0 m 328 ls []) := by
  have hx := hC.1
  have hb := hC.2.1
  obtain ⟨β, n, ep, tl, lo, T, C, E, hK, hM, hJ, h40⟩ := id hI
  have hw := sl_Mdl.wf hM
  refine lv_aload_n hx hb dL_law_328 rfl (lv_at hl 3 rfl) ?_
  refine sl_calli (sl_runV (As := []) (rest := []) hC hG (kX4_seal l Γ g α β n ep tl lo T C E hK) mi_X4_seal lk_RL_81 0 hK.1 rfl rfl rfl ⟨Nat.le_of_ble_eq_true rfl, Nat.le_of_ble_eq_true rfl⟩ rfl hl.1 rfl (Nat.le_of_ble_eq_true rfl) dL_law_329 ⟨(by show _ + _ ≤ 601024; omega), (by show _ + _ ≤ 7293034; omega)⟩) hG (fun r_329 u_329 H locs hr_329 hG => ?_)
  have hG : sl_I Γ u_329 s H locs := hG
  have hM2 := hM.cg (fun k h1 h2 => hr_329.2.2 k (by omega) (by omega))
  refine sl_topi (y := nI (sl_ef C 120)) hr_329.1 ?_
  refine lv_aload_n hx hb dL_law_332 rfl (lv_at hl 2 rfl) ?_
  refine sl_calli (sl_runV (As := []) (rest := [.int (nI (sl_ef C 120))]) hC hG (kX5_seal l Γ u_329 μ n ep tl lo T C E th0 hM2) mi_X5_seal lk_RL_84 20 hM2.1 rfl rfl rfl ⟨Nat.le_of_ble_eq_true rfl, Nat.le_of_ble_eq_true rfl⟩ rfl hl.1 rfl (Nat.le_of_ble_eq_true rfl) dL_law_333 ⟨(by show _ + _ ≤ 601024; omega), (by show _ + _ ≤ 7293034; omega)⟩) hG (fun r_333 u_333 H locs hr_333 hG => ?_)
  have hG : sl_I Γ u_333 s H locs := hG
  have hT9 := sl_ad_seal hK hJ hw h40 he hr_329 hr_333
  obtain ⟨β9, n9, ep9, tl9, lo9, T9, C9, E9, hK9, hM9, hJ9, h49⟩ := id hT9
  refine sl_topi (y := nI (sl_ef C 120)) (hr_333.1) ?_
  refine lv_icmp_eq (tgt := 1039) hx hb dL_law_336 (by decide) (fun c_336 => ?_) (fun c_336 => ?_)
  · exact kk (e0 + 1) _ _ _ _ _ _ _ _ (by omega) hT9 hG (lv_sub hl [0, 1, 2, 3, 4] rfl) (by omega) (by omega)
  · exact absurd rfl c_336
set_option maxHeartbeats 4000000 in
set_option maxRecDepth 100000 in
theorem sl_seg_write {p : Program} {l : Launch} {e : Env} {s : State} {m : MethodId} {below : List Frame} {meth : Method} {c : Code} {H : Heap} {locs : List Loc} {cells slots : Nat} {Q : State → Prop} {Γ : sl_G} {α μ : Nat → Nat} {ao bb L e0 i : Nat} {xs : Nat → Int32} {g : sl_W} {th0 : Int32} {f0 : Nat → Int64} {ls : Array Slot} (hlt : l.stackTraces = false) (hC : sl_C Γ p s m meth c cL_law 7 RL) (hz : ¬ sl_A Γ bb) (hX : va_X bb L xs s s.heap) (hbl : bb < s.heap.size) (hL : L ≤ 2560) (hi : i + 5 ≤ L) (hG : sl_I Γ g s H locs) (hI : sl_LT Γ α μ ao e0 th0 f0 g) (he : e0 < 100000) (hcs : cells + 4 ≤ 601024) (hss : slots + 40 ≤ 7293034) (hl : lv_has ls 7 [(4, .int (nI i)), (3, .ref ao), (2, .ref (μ 0)), (1, .ref (α 0)), (0, .ref bb)]) (kk : ∀ (e1 : Nat) (th1 : Int32) (f1 : Nat → Int64) (g1 : sl_W) (H1 : Heap) (locs1 : List Loc) (ls1 : Array Slot) (k1 n1 : Nat), e1 ≤ e0 + 1 → sl_LT Γ α μ ao e1 th1 f1 g1 → sl_I Γ g1 s H1 locs1 → lv_has ls1 7 [(4, .int (nI i)), (3, .ref ao), (2, .ref (μ 0)), (1, .ref (α 0)), (0, .ref bb)] → k1 ≤ cells + 4 → n1 ≤ slots + 40 → W p l e room_1 s m #[.ref bb] below meth c H1 locs1 k1 n1 Q (F0 m 1039 ls1 [])) : W p l e room_1 s m #[.ref bb] below meth c H locs cells slots Q (F0 m 341 ls []) := by
  have hx := hC.1
  have hb := hC.2.1
  obtain ⟨β, n, ep, tl, lo, T, C, E, hK, hM, hJ, h40⟩ := id hI
  have hw := sl_Mdl.wf hM
  refine lv_aload_n hx hb dL_law_341 rfl (lv_at hl 3 rfl) ?_
  refine lv_aload_n hx hb dL_law_342 rfl (lv_at hl 4 rfl) ?_
  refine lv_iload hx hb dL_law_343 (lv_at hl 0 rfl) ?_
  refine lv_iconst (v := 1) hx hb dL_law_345 (by decide) ?_
  refine lv_iadd hx hb dL_law_346 ?_
  refine sl_topi (y := nI (i + 1)) (nI_add i 1) ?_
  refine va_sld hx hb hX hbl hz hG.2 (i := nI (i + 1)) (vp_in_nI (by omega) (by omega)) dL_law_347 ?_
  refine sl_topi (y := xs (i + 1)) (by rw [nI_clamp (by omega)]) ?_
  refine lv_aload_n hx hb dL_law_348 rfl (lv_at hl 1 rfl) ?_
  refine sl_calli (sl_runSW (As := [.ref (α 0), .int (xs (i + 1)), .ref ao]) (rest := []) hC hG (kL_write l hlt Γ g α β n ep tl lo T C E hK ao f0 h40 (xs (i + 1))) mi_L_write lk_RL_85 rfl rfl ⟨Nat.le_of_ble_eq_true rfl, Nat.le_of_ble_eq_true rfl⟩ rfl hl.1 rfl (Nat.le_of_ble_eq_true rfl) dL_law_349 ⟨(by show _ + _ ≤ 601024; omega), (by show _ + _ ≤ 7293034; omega)⟩) hG (fun r_349 u_349 H locs hr_349 hG => ?_)
  have hG : sl_I Γ u_349 s H locs := hG
  have hM2 := hM.cg (sl_Wr.md hr_349)
  refine lv_istore (lv' := [(5, .int r_349), (4, .int (nI i)), (3, .ref ao), (2, .ref (μ 0)), (1, .ref (α 0)), (0, .ref bb)]) hx hb dL_law_352 hl (by decide) rfl (fun ls hl => ?_)
  refine lv_aload_n hx hb dL_law_354 rfl (lv_at hl 3 rfl) ?_
  refine lv_aload_n hx hb dL_law_355 rfl (lv_at hl 5 rfl) ?_
  refine lv_iload hx hb dL_law_356 (lv_at hl 1 rfl) ?_
  refine lv_iconst (v := 1) hx hb dL_law_358 (by decide) ?_
  refine lv_iadd hx hb dL_law_359 ?_
  refine sl_topi (y := nI (i + 1)) (nI_add i 1) ?_
  refine va_sld hx hb hX hbl hz hG.2 (i := nI (i + 1)) (vp_in_nI (by omega) (by omega)) dL_law_360 ?_
  refine sl_topi (y := xs (i + 1)) (by rw [nI_clamp (by omega)]) ?_
  refine sl_calli (sl_runV (As := [.int (xs (i + 1))]) (rest := []) hC hG (kX5_write l Γ u_349 μ n ep tl lo T C E th0 hM2 (xs (i + 1))) mi_X5_write lk_RL_88 20 hM2.1 rfl rfl rfl ⟨Nat.le_of_ble_eq_true rfl, Nat.le_of_ble_eq_true rfl⟩ rfl hl.1 rfl (Nat.le_of_ble_eq_true rfl) dL_law_361 ⟨(by show _ + _ ≤ 601024; omega), (by show _ + _ ≤ 7293034; omega)⟩) hG (fun r_361 u_361 H locs hr_361 hG => ?_)
  have hG : sl_I Γ u_361 s H locs := hG
  obtain ⟨th9, f9, hT9, hrr, hf9⟩ := sl_ag_write hK hJ hw h40 hr_349 hr_361
  subst hrr
  obtain ⟨β9, n9, ep9, tl9, lo9, T9, C9, E9, hK9, hM9, hJ9, h49⟩ := id hT9
  refine lv_istore (lv' := [(6, .int r_361), (5, .int r_349), (4, .int (nI i)), (3, .ref ao), (2, .ref (μ 0)), (1, .ref (α 0)), (0, .ref bb)]) hx hb dL_law_364 hl (by decide) rfl (fun ls hl => ?_)
  refine lv_aload_n hx hb dL_law_366 rfl (lv_at hl 4 rfl) ?_
  refine sl_calli (sl_runV (As := []) (rest := []) hC hG (kX5_thrown l Γ u_361 μ n9 ep9 tl9 lo9 T9 C9 E9 r_349 hM9) mi_X5_thrown lk_RL_70 20 hM9.1 rfl rfl rfl ⟨Nat.le_of_ble_eq_true rfl, Nat.le_of_ble_eq_true rfl⟩ rfl hl.1 rfl (Nat.le_of_ble_eq_true rfl) dL_law_367 ⟨(by show _ + _ ≤ 601024; omega), (by show _ + _ ≤ 7293034; omega)⟩) hG (fun r_367 u_367 H locs hr_367 hG => ?_)
  refine sl_topi (y := r_349) hr_367 ?_
  refine lv_iload hx hb dL_law_370 (lv_at hl 1 rfl) ?_
  refine lv_icmp_eq (tgt := 377) hx hb dL_law_372 (by decide) (fun c_372 => ?_) (fun c_372 => ?_)
  · refine lv_iload hx hb dL_law_377 (lv_at hl 1 rfl) ?_
    refine lv_if_ne (tgt := 394) hx hb dL_law_379 (by decide) (fun c_379 => ?_) (fun c_379 => ?_)
    · refine lv_goto (tgt := 1039) hx hb dL_law_394 (by decide) ?_
      exact kk (e0) _ _ _ _ _ _ _ _ (by omega) hT9 hG (lv_sub hl [2, 3, 4, 5, 6] rfl) (by omega) (by omega)
    · refine lv_aload_n hx hb dL_law_382 rfl (lv_at hl 3 rfl) ?_
      refine lv_iconst (v := 0) hx hb dL_law_383 (by decide) ?_
      refine sl_laldN hC hG 40 h49 (j := 0) rfl (by omega) (by omega) dL_law_384 ?_
      refine lv_iload hx hb dL_law_385 (lv_at hl 0 rfl) ?_
      refine lv_i2l hx hb dL_law_387 rfl ?_
      refine W.lcmp hx hb dL_law_388 ?_
      refine sl_topi (y := 0) (by rw [hf9 c_379]; exact sl_cmp0 _) ?_
      refine lv_if_eq (tgt := 394) hx hb dL_law_389 (by decide) (fun c_389 => ?_) (fun c_389 => ?_)
      · refine lv_goto (tgt := 1039) hx hb dL_law_394 (by decide) ?_
        exact kk (e0) _ _ _ _ _ _ _ _ (by omega) hT9 hG (lv_sub hl [2, 3, 4, 5, 6] rfl) (by omega) (by omega)
      · exact absurd c_389 (by decide)
  · exact absurd rfl c_372
set_option maxHeartbeats 4000000 in
set_option maxRecDepth 100000 in
theorem sl_seg_fill {p : Program} {l : Launch} {e : Env} {s : State} {m : MethodId} {below : List Frame} {meth : Method} {c : Code} {H : Heap} {locs : List Loc} {cells slots : Nat} {Q : State → Prop} {Γ : sl_G} {α μ : Nat → Nat} {ao bb L e0 i : Nat} {xs : Nat → Int32} {g : sl_W} {th0 : Int32} {f0 : Nat → Int64} {ls : Array Slot} (hlt : l.stackTraces = false) (hC : sl_C Γ p s m meth c cL_law 7 RL) (hz : ¬ sl_A Γ bb) (hX : va_X bb L xs s s.heap) (hbl : bb < s.heap.size) (hL : L ≤ 2560) (hi : i + 5 ≤ L) (hG : sl_I Γ g s H locs) (hI : sl_LT Γ α μ ao e0 th0 f0 g) (he : e0 < 100000) (hcs : cells + 4 ≤ 601024) (hss : slots + 40 ≤ 7293034) (hl : lv_has ls 7 [(4, .int (nI i)), (3, .ref ao), (2, .ref (μ 0)), (1, .ref (α 0)), (0, .ref bb)]) (kk : ∀ (e1 : Nat) (th1 : Int32) (f1 : Nat → Int64) (g1 : sl_W) (H1 : Heap) (locs1 : List Loc) (ls1 : Array Slot) (k1 n1 : Nat), e1 ≤ e0 + 1 → sl_LT Γ α μ ao e1 th1 f1 g1 → sl_I Γ g1 s H1 locs1 → lv_has ls1 7 [(4, .int (nI i)), (3, .ref ao), (2, .ref (μ 0)), (1, .ref (α 0)), (0, .ref bb)] → k1 ≤ cells + 4 → n1 ≤ slots + 40 → W p l e room_1 s m #[.ref bb] below meth c H1 locs1 k1 n1 Q (F0 m 1039 ls1 [])) : W p l e room_1 s m #[.ref bb] below meth c H locs cells slots Q (F0 m 397 ls []) := by
  have hx := hC.1
  have hb := hC.2.1
  obtain ⟨β, n, ep, tl, lo, T, C, E, hK, hM, hJ, h40⟩ := id hI
  have hw := sl_Mdl.wf hM
  refine lv_aload_n hx hb dL_law_397 rfl (lv_at hl 3 rfl) ?_
  refine lv_aload_n hx hb dL_law_398 rfl (lv_at hl 4 rfl) ?_
  refine lv_iload hx hb dL_law_399 (lv_at hl 0 rfl) ?_
  refine lv_iconst (v := 1) hx hb dL_law_401 (by decide) ?_
  refine lv_iadd hx hb dL_law_402 ?_
  refine sl_topi (y := nI (i + 1)) (nI_add i 1) ?_
  refine va_sld hx hb hX hbl hz hG.2 (i := nI (i + 1)) (vp_in_nI (by omega) (by omega)) dL_law_403 ?_
  refine sl_topi (y := xs (i + 1)) (by rw [nI_clamp (by omega)]) ?_
  refine lv_aload_n hx hb dL_law_404 rfl (lv_at hl 1 rfl) ?_
  refine sl_calli (sl_runSW (As := [.ref (α 0), .int (xs (i + 1)), .ref ao]) (rest := []) hC hG (kL_fill l hlt Γ g α β n ep tl lo T C E hK ao f0 h40 (xs (i + 1))) mi_L_fill lk_RL_89 rfl rfl ⟨Nat.le_of_ble_eq_true rfl, Nat.le_of_ble_eq_true rfl⟩ rfl hl.1 rfl (Nat.le_of_ble_eq_true rfl) dL_law_405 ⟨(by show _ + _ ≤ 601024; omega), (by show _ + _ ≤ 7293034; omega)⟩) hG (fun r_405 u_405 H locs hr_405 hG => ?_)
  have hG : sl_I Γ u_405 s H locs := hG
  have hM2 := hM.cg (sl_Wr.md hr_405)
  refine lv_istore (lv' := [(5, .int r_405), (4, .int (nI i)), (3, .ref ao), (2, .ref (μ 0)), (1, .ref (α 0)), (0, .ref bb)]) hx hb dL_law_408 hl (by decide) rfl (fun ls hl => ?_)
  refine lv_aload_n hx hb dL_law_410 rfl (lv_at hl 3 rfl) ?_
  refine lv_aload_n hx hb dL_law_411 rfl (lv_at hl 5 rfl) ?_
  refine lv_iload hx hb dL_law_412 (lv_at hl 1 rfl) ?_
  refine lv_iconst (v := 1) hx hb dL_law_414 (by decide) ?_
  refine lv_iadd hx hb dL_law_415 ?_
  refine sl_topi (y := nI (i + 1)) (nI_add i 1) ?_
  refine va_sld hx hb hX hbl hz hG.2 (i := nI (i + 1)) (vp_in_nI (by omega) (by omega)) dL_law_416 ?_
  refine sl_topi (y := xs (i + 1)) (by rw [nI_clamp (by omega)]) ?_
  refine sl_calli (sl_runV (As := [.int (xs (i + 1))]) (rest := []) hC hG (kX5_fill l Γ u_405 μ n ep tl lo T C E th0 hM2 (xs (i + 1))) mi_X5_fill lk_RL_91 20 hM2.1 rfl rfl rfl ⟨Nat.le_of_ble_eq_true rfl, Nat.le_of_ble_eq_true rfl⟩ rfl hl.1 rfl (Nat.le_of_ble_eq_true rfl) dL_law_417 ⟨(by show _ + _ ≤ 601024; omega), (by show _ + _ ≤ 7293034; omega)⟩) hG (fun r_417 u_417 H locs hr_417 hG => ?_)
  have hG : sl_I Γ u_417 s H locs := hG
  have hb9 : r_405 = 0 → ∃ b9, r_417 = sl_bi b9 := sl_ab_fill hK hJ hw hr_405 hr_417
  obtain ⟨th9, f9, hT9, hrr, hf9⟩ := sl_ag_fill hK hJ hw h40 hr_405 hr_417
  subst hrr
  obtain ⟨β9, n9, ep9, tl9, lo9, T9, C9, E9, hK9, hM9, hJ9, h49⟩ := id hT9
  refine lv_istore (lv' := [(6, .int r_417), (5, .int r_405), (4, .int (nI i)), (3, .ref ao), (2, .ref (μ 0)), (1, .ref (α 0)), (0, .ref bb)]) hx hb dL_law_420 hl (by decide) rfl (fun ls hl => ?_)
  refine lv_aload_n hx hb dL_law_422 rfl (lv_at hl 4 rfl) ?_
  refine sl_calli (sl_runV (As := []) (rest := []) hC hG (kX5_thrown l Γ u_417 μ n9 ep9 tl9 lo9 T9 C9 E9 r_405 hM9) mi_X5_thrown lk_RL_70 20 hM9.1 rfl rfl rfl ⟨Nat.le_of_ble_eq_true rfl, Nat.le_of_ble_eq_true rfl⟩ rfl hl.1 rfl (Nat.le_of_ble_eq_true rfl) dL_law_423 ⟨(by show _ + _ ≤ 601024; omega), (by show _ + _ ≤ 7293034; omega)⟩) hG (fun r_423 u_423 H locs hr_423 hG => ?_)
  refine sl_topi (y := r_405) hr_423 ?_
  refine lv_iload hx hb dL_law_426 (lv_at hl 1 rfl) ?_
  refine lv_icmp_eq (tgt := 433) hx hb dL_law_428 (by decide) (fun c_428 => ?_) (fun c_428 => ?_)
  · refine lv_iload hx hb dL_law_433 (lv_at hl 1 rfl) ?_
    refine lv_if_ne (tgt := 457) hx hb dL_law_435 (by decide) (fun c_435 => ?_) (fun c_435 => ?_)
    · refine lv_goto (tgt := 1039) hx hb dL_law_457 (by decide) ?_
      exact kk (e0) _ _ _ _ _ _ _ _ (by omega) hT9 hG (lv_sub hl [2, 3, 4, 5, 6] rfl) (by omega) (by omega)
    · refine lv_aload_n hx hb dL_law_438 rfl (lv_at hl 3 rfl) ?_
      refine lv_iconst (v := 0) hx hb dL_law_439 (by decide) ?_
      refine sl_laldN hC hG 40 h49 (j := 0) rfl (by omega) (by omega) dL_law_440 ?_
      refine lv_iload hx hb dL_law_441 (lv_at hl 0 rfl) ?_
      refine lv_if_eq (tgt := 450) hx hb dL_law_443 (by decide) (fun c_443 => ?_) (fun c_443 => ?_)
      · refine lv_lconst (v := 0) hx hb dL_law_450 (by decide) ?_
        refine W.lcmp hx hb dL_law_451 ?_
        refine sl_topi (y := 0) (by rw [sl_b0z (hf9 c_435) c_443]; exact sl_cmp0 _) ?_
        refine lv_if_eq (tgt := 457) hx hb dL_law_452 (by decide) (fun c_452 => ?_) (fun c_452 => ?_)
        · refine lv_goto (tgt := 1039) hx hb dL_law_457 (by decide) ?_
          exact kk (e0) _ _ _ _ _ _ _ _ (by omega) hT9 hG (lv_sub hl [2, 3, 4, 5, 6] rfl) (by omega) (by omega)
        · exact absurd c_452 (by decide)
      · refine lv_lconst (v := 1) hx hb dL_law_446 (by decide) ?_
        refine lv_goto (tgt := 451) hx hb dL_law_447 (by decide) ?_
        refine W.lcmp hx hb dL_law_451 ?_
        refine sl_topi (y := 0) (by rw [sl_b1 (hf9 c_435) (hb9 c_435) c_443]; exact sl_cmp0 _) ?_
        refine lv_if_eq (tgt := 457) hx hb dL_law_452 (by decide) (fun c_452 => ?_) (fun c_452 => ?_)
        · refine lv_goto (tgt := 1039) hx hb dL_law_457 (by decide) ?_
          exact kk (e0) _ _ _ _ _ _ _ _ (by omega) hT9 hG (lv_sub hl [2, 3, 4, 5, 6] rfl) (by omega) (by omega)
        · exact absurd c_452 (by decide)
  · exact absurd rfl c_428
set_option maxHeartbeats 4000000 in
set_option maxRecDepth 100000 in
theorem sl_seg_epoch {p : Program} {l : Launch} {e : Env} {s : State} {m : MethodId} {below : List Frame} {meth : Method} {c : Code} {H : Heap} {locs : List Loc} {cells slots : Nat} {Q : State → Prop} {Γ : sl_G} {α μ : Nat → Nat} {ao bb L e0 i : Nat} {xs : Nat → Int32} {g : sl_W} {th0 : Int32} {f0 : Nat → Int64} {ls : Array Slot} (hlt : l.stackTraces = false) (hC : sl_C Γ p s m meth c cL_law 7 RL) (hz : ¬ sl_A Γ bb) (hX : va_X bb L xs s s.heap) (hbl : bb < s.heap.size) (hL : L ≤ 2560) (hi : i + 5 ≤ L) (hG : sl_I Γ g s H locs) (hI : sl_LT Γ α μ ao e0 th0 f0 g) (he : e0 < 100000) (hcs : cells + 4 ≤ 601024) (hss : slots + 40 ≤ 7293034) (hl : lv_has ls 7 [(4, .int (nI i)), (3, .ref ao), (2, .ref (μ 0)), (1, .ref (α 0)), (0, .ref bb)]) (kk : ∀ (e1 : Nat) (th1 : Int32) (f1 : Nat → Int64) (g1 : sl_W) (H1 : Heap) (locs1 : List Loc) (ls1 : Array Slot) (k1 n1 : Nat), e1 ≤ e0 + 1 → sl_LT Γ α μ ao e1 th1 f1 g1 → sl_I Γ g1 s H1 locs1 → lv_has ls1 7 [(4, .int (nI i)), (3, .ref ao), (2, .ref (μ 0)), (1, .ref (α 0)), (0, .ref bb)] → k1 ≤ cells + 4 → n1 ≤ slots + 40 → W p l e room_1 s m #[.ref bb] below meth c H1 locs1 k1 n1 Q (F0 m 1039 ls1 [])) : W p l e room_1 s m #[.ref bb] below meth c H locs cells slots Q (F0 m 460 ls []) := by
  have hx := hC.1
  have hb := hC.2.1
  obtain ⟨β, n, ep, tl, lo, T, C, E, hK, hM, hJ, h40⟩ := id hI
  have hw := sl_Mdl.wf hM
  refine lv_aload_n hx hb dL_law_460 rfl (lv_at hl 3 rfl) ?_
  refine sl_calli (sl_runV (As := []) (rest := []) hC hG (kX4_epoch l Γ g α β n ep tl lo T C E hK) mi_X4_epoch lk_RL_92 0 hK.1 rfl rfl rfl ⟨Nat.le_of_ble_eq_true rfl, Nat.le_of_ble_eq_true rfl⟩ rfl hl.1 rfl (Nat.le_of_ble_eq_true rfl) dL_law_461 ⟨(by show _ + _ ≤ 601024; omega), (by show _ + _ ≤ 7293034; omega)⟩) hG (fun r_461 u_461 H locs hr_461 hG => ?_)
  have hG : sl_I Γ g s H locs := hG
  refine sl_topi (y := ep) hr_461 ?_
  refine lv_aload_n hx hb dL_law_464 rfl (lv_at hl 2 rfl) ?_
  refine sl_calli (sl_runV (As := []) (rest := [.int ep]) hC hG (kX5_epoch l Γ g μ n ep tl lo T C E th0 hM) mi_X5_epoch lk_RL_95 20 hM.1 rfl rfl rfl ⟨Nat.le_of_ble_eq_true rfl, Nat.le_of_ble_eq_true rfl⟩ rfl hl.1 rfl (Nat.le_of_ble_eq_true rfl) dL_law_465 ⟨(by show _ + _ ≤ 601024; omega), (by show _ + _ ≤ 7293034; omega)⟩) hG (fun r_465 u_465 H locs hr_465 hG => ?_)
  have hG : sl_I Γ u_465 s H locs := hG
  have hT9 := sl_ad_epoch hK hJ h40 hr_465
  obtain ⟨β9, n9, ep9, tl9, lo9, T9, C9, E9, hK9, hM9, hJ9, h49⟩ := id hT9
  refine sl_topi (y := ep) (hr_465.1) ?_
  refine lv_icmp_eq (tgt := 1039) hx hb dL_law_468 (by decide) (fun c_468 => ?_) (fun c_468 => ?_)
  · exact kk (e0) _ _ _ _ _ _ _ _ (by omega) hT9 hG (lv_sub hl [0, 1, 2, 3, 4] rfl) (by omega) (by omega)
  · exact absurd rfl c_468
set_option maxHeartbeats 4000000 in
set_option maxRecDepth 100000 in
theorem sl_seg_tail {p : Program} {l : Launch} {e : Env} {s : State} {m : MethodId} {below : List Frame} {meth : Method} {c : Code} {H : Heap} {locs : List Loc} {cells slots : Nat} {Q : State → Prop} {Γ : sl_G} {α μ : Nat → Nat} {ao bb L e0 i : Nat} {xs : Nat → Int32} {g : sl_W} {th0 : Int32} {f0 : Nat → Int64} {ls : Array Slot} (hlt : l.stackTraces = false) (hC : sl_C Γ p s m meth c cL_law 7 RL) (hz : ¬ sl_A Γ bb) (hX : va_X bb L xs s s.heap) (hbl : bb < s.heap.size) (hL : L ≤ 2560) (hi : i + 5 ≤ L) (hG : sl_I Γ g s H locs) (hI : sl_LT Γ α μ ao e0 th0 f0 g) (he : e0 < 100000) (hcs : cells + 4 ≤ 601024) (hss : slots + 40 ≤ 7293034) (hl : lv_has ls 7 [(4, .int (nI i)), (3, .ref ao), (2, .ref (μ 0)), (1, .ref (α 0)), (0, .ref bb)]) (kk : ∀ (e1 : Nat) (th1 : Int32) (f1 : Nat → Int64) (g1 : sl_W) (H1 : Heap) (locs1 : List Loc) (ls1 : Array Slot) (k1 n1 : Nat), e1 ≤ e0 + 1 → sl_LT Γ α μ ao e1 th1 f1 g1 → sl_I Γ g1 s H1 locs1 → lv_has ls1 7 [(4, .int (nI i)), (3, .ref ao), (2, .ref (μ 0)), (1, .ref (α 0)), (0, .ref bb)] → k1 ≤ cells + 4 → n1 ≤ slots + 40 → W p l e room_1 s m #[.ref bb] below meth c H1 locs1 k1 n1 Q (F0 m 1039 ls1 [])) : W p l e room_1 s m #[.ref bb] below meth c H locs cells slots Q (F0 m 473 ls []) := by
  have hx := hC.1
  have hb := hC.2.1
  obtain ⟨β, n, ep, tl, lo, T, C, E, hK, hM, hJ, h40⟩ := id hI
  have hw := sl_Mdl.wf hM
  refine lv_aload_n hx hb dL_law_473 rfl (lv_at hl 3 rfl) ?_
  refine sl_calli (sl_runV (As := []) (rest := []) hC hG (kX4_tail l Γ g α β n ep tl lo T C E hK) mi_X4_tail lk_RL_96 0 hK.1 rfl rfl rfl ⟨Nat.le_of_ble_eq_true rfl, Nat.le_of_ble_eq_true rfl⟩ rfl hl.1 rfl (Nat.le_of_ble_eq_true rfl) dL_law_474 ⟨(by show _ + _ ≤ 601024; omega), (by show _ + _ ≤ 7293034; omega)⟩) hG (fun r_474 u_474 H locs hr_474 hG => ?_)
  have hG : sl_I Γ g s H locs := hG
  refine sl_topi (y := if lo = true then -1 else nI tl) hr_474 ?_
  refine lv_aload_n hx hb dL_law_477 rfl (lv_at hl 2 rfl) ?_
  refine sl_calli (sl_runV (As := []) (rest := [.int (if lo = true then -1 else nI tl)]) hC hG (kX5_tail l Γ g μ n ep tl lo T C E th0 hM) mi_X5_tail lk_RL_99 20 hM.1 rfl rfl rfl ⟨Nat.le_of_ble_eq_true rfl, Nat.le_of_ble_eq_true rfl⟩ rfl hl.1 rfl (Nat.le_of_ble_eq_true rfl) dL_law_478 ⟨(by show _ + _ ≤ 601024; omega), (by show _ + _ ≤ 7293034; omega)⟩) hG (fun r_478 u_478 H locs hr_478 hG => ?_)
  have hG : sl_I Γ u_478 s H locs := hG
  have hT9 := sl_ad_tail hK hJ h40 hr_478
  obtain ⟨β9, n9, ep9, tl9, lo9, T9, C9, E9, hK9, hM9, hJ9, h49⟩ := id hT9
  refine sl_topi (y := if lo = true then -1 else nI tl) (hr_478.1) ?_
  refine lv_icmp_eq (tgt := 1039) hx hb dL_law_481 (by decide) (fun c_481 => ?_) (fun c_481 => ?_)
  · exact kk (e0) _ _ _ _ _ _ _ _ (by omega) hT9 hG (lv_sub hl [0, 1, 2, 3, 4] rfl) (by omega) (by omega)
  · exact absurd rfl c_481
set_option maxHeartbeats 4000000 in
set_option maxRecDepth 100000 in
theorem sl_seg_tokens {p : Program} {l : Launch} {e : Env} {s : State} {m : MethodId} {below : List Frame} {meth : Method} {c : Code} {H : Heap} {locs : List Loc} {cells slots : Nat} {Q : State → Prop} {Γ : sl_G} {α μ : Nat → Nat} {ao bb L e0 i : Nat} {xs : Nat → Int32} {g : sl_W} {th0 : Int32} {f0 : Nat → Int64} {ls : Array Slot} (hlt : l.stackTraces = false) (hC : sl_C Γ p s m meth c cL_law 7 RL) (hz : ¬ sl_A Γ bb) (hX : va_X bb L xs s s.heap) (hbl : bb < s.heap.size) (hL : L ≤ 2560) (hi : i + 5 ≤ L) (hG : sl_I Γ g s H locs) (hI : sl_LT Γ α μ ao e0 th0 f0 g) (he : e0 < 100000) (hcs : cells + 4 ≤ 601024) (hss : slots + 40 ≤ 7293034) (hl : lv_has ls 7 [(4, .int (nI i)), (3, .ref ao), (2, .ref (μ 0)), (1, .ref (α 0)), (0, .ref bb)]) (kk : ∀ (e1 : Nat) (th1 : Int32) (f1 : Nat → Int64) (g1 : sl_W) (H1 : Heap) (locs1 : List Loc) (ls1 : Array Slot) (k1 n1 : Nat), e1 ≤ e0 + 1 → sl_LT Γ α μ ao e1 th1 f1 g1 → sl_I Γ g1 s H1 locs1 → lv_has ls1 7 [(4, .int (nI i)), (3, .ref ao), (2, .ref (μ 0)), (1, .ref (α 0)), (0, .ref bb)] → k1 ≤ cells + 4 → n1 ≤ slots + 40 → W p l e room_1 s m #[.ref bb] below meth c H1 locs1 k1 n1 Q (F0 m 1039 ls1 [])) : W p l e room_1 s m #[.ref bb] below meth c H locs cells slots Q (F0 m 486 ls []) := by
  have hx := hC.1
  have hb := hC.2.1
  obtain ⟨β, n, ep, tl, lo, T, C, E, hK, hM, hJ, h40⟩ := id hI
  have hw := sl_Mdl.wf hM
  refine lv_aload_n hx hb dL_law_486 rfl (lv_at hl 3 rfl) ?_
  refine sl_calli (sl_runV (As := []) (rest := []) hC hG (kX4_tokens l Γ g α β n ep tl lo T C E hK) mi_X4_tokens lk_RL_100 0 hK.1 rfl rfl rfl ⟨Nat.le_of_ble_eq_true rfl, Nat.le_of_ble_eq_true rfl⟩ rfl hl.1 rfl (Nat.le_of_ble_eq_true rfl) dL_law_487 ⟨(by show _ + _ ≤ 601024; omega), (by show _ + _ ≤ 7293034; omega)⟩) hG (fun r_487 u_487 H locs hr_487 hG => ?_)
  have hG : sl_I Γ g s H locs := hG
  refine sl_topi (y := nI n) hr_487 ?_
  refine lv_aload_n hx hb dL_law_490 rfl (lv_at hl 2 rfl) ?_
  refine sl_calli (sl_runV (As := []) (rest := [.int (nI n)]) hC hG (kX5_tokens l Γ g μ n ep tl lo T C E th0 hM) mi_X5_tokens lk_RL_103 20 hM.1 rfl rfl rfl ⟨Nat.le_of_ble_eq_true rfl, Nat.le_of_ble_eq_true rfl⟩ rfl hl.1 rfl (Nat.le_of_ble_eq_true rfl) dL_law_491 ⟨(by show _ + _ ≤ 601024; omega), (by show _ + _ ≤ 7293034; omega)⟩) hG (fun r_491 u_491 H locs hr_491 hG => ?_)
  have hG : sl_I Γ u_491 s H locs := hG
  have hT9 := sl_ad_tokens hK hJ h40 hr_491
  obtain ⟨β9, n9, ep9, tl9, lo9, T9, C9, E9, hK9, hM9, hJ9, h49⟩ := id hT9
  refine sl_topi (y := nI n) (hr_491.1) ?_
  refine lv_icmp_eq (tgt := 1039) hx hb dL_law_494 (by decide) (fun c_494 => ?_) (fun c_494 => ?_)
  · exact kk (e0) _ _ _ _ _ _ _ _ (by omega) hT9 hG (lv_sub hl [0, 1, 2, 3, 4] rfl) (by omega) (by omega)
  · exact absurd rfl c_494
