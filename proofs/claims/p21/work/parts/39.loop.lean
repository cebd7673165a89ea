/-! p21: its law turn by turn -/
set_option maxHeartbeats 4000000 in
set_option maxRecDepth 100000 in
theorem lp_d558 {p : Program} {l : Launch} {e : Env} {s : State} {m : MethodId} {below : List Frame} {meth : Method} {c : Code} {H : Heap} {locs : List Loc} {cells slots : Nat} {Q : State → Prop} {Γ : sl_G} {α ρ : Nat → Nat} {bb i : Nat} {g : sl_W} {ls : Array Slot} {w : Int32} {β : Nat → Nat × Nat × Nat} {n e0 : Nat} {ep : Int32} {tl : Nat} {lo : Bool} {T C : Nat → Int32} {E : Nat → sl_Ent} {S A R V P F : Nat → Int32} (hlt : l.stackTraces = false) (hC : sl_C Γ p s m meth c cL_law 17 RL) (hG : sl_I Γ g s H locs) (hO : lp_O Γ α ρ β n e0 ep tl lo T C E S A R V P F g) (he : e0 < 100000) (hcs : cells + 600 ≤ 600104) (hss : slots + 3600 ≤ 7301314) {wh t : Nat} {v z : Int32} (htz : (lo = true ∧ z = -1) ∨ (lo = false ∧ z = nI tl)) (ht : 0 < n → t < n) (hwh : wh < 16) (hl : lv_has ls 17 [(14, .int z), (13, .int (nI t)), (12, .int (nI wh)), (10, .int v), (11, .int w), (9, .int (nI i)), (8, .int (nI n)), (7, .ref (ρ 5)), (6, .ref (ρ 4)), (5, .ref (ρ 3)), (4, .ref (ρ 2)), (3, .ref (ρ 1)), (2, .ref (ρ 0)), (1, .ref (α 0)), (0, .ref bb)]) (kk : ∀ (n1 e1 : Nat) (g1 : sl_W) (H1 : Heap) (locs1 : List Loc) (ls1 : Array Slot) (k1 m1 : Nat), e1 ≤ e0 + 1 → lp_LT Γ α ρ n1 e1 g1 → sl_I Γ g1 s H1 locs1 → lv_has ls1 17 [(11, .int w), (9, .int (nI i)), (8, .int (nI n1)), (7, .ref (ρ 5)), (6, .ref (ρ 4)), (5, .ref (ρ 3)), (4, .ref (ρ 2)), (3, .ref (ρ 1)), (2, .ref (ρ 0)), (1, .ref (α 0)), (0, .ref bb)] → k1 ≤ cells + 10 → m1 ≤ slots + 60 → W p l e room_1 s m #[.ref bb] below meth c H1 locs1 k1 m1 Q (F0 m 595 ls1 [])) : W p l e room_1 s m #[.ref bb] below meth c H locs cells slots Q (F0 m 558 ls []) := by
  have hx := hC.1
  have hb := hC.2.1
  obtain ⟨hK, hJ, hw, hn60, ht60, h41, h42, h43, h44, h45, h46, hAr⟩ := id hO
  refine lv_iload hx hb dL_law_558 (lv_at hl 2 rfl) ?_
  refine lv_bipush (v := 15) hx hb dL_law_560 (by decide) ?_
  refine lv_icmp_ne (tgt := 595) hx hb dL_law_562 (by decide) (fun c_562 => ?_) (fun c_562 => ?_)
  · have n_562 : ¬ (wh = 15) := fun z => c_562 ((nI_eq (a := wh) (b := 15) (by omega) (by omega)).mpr z)
    exact kk n (e0) _ _ _ _ _ _ (by omega) hO.lt hG (lv_sub hl [4, 5, 6, 7, 8, 9, 10, 11, 12, 13, 14] rfl) (by omega) (by omega)
  · have n_562 : wh = 15 := (nI_eq (a := wh) (b := 15) (by omega) (by omega)).mp c_562
    exact lp_seg_seal hlt hC hG hO he (by omega) (by omega)  (lv_sub hl [4, 5, 6, 7, 8, 9, 10, 11, 12, 13, 14] rfl) kk
set_option maxHeartbeats 4000000 in
set_option maxRecDepth 100000 in
theorem lp_d529 {p : Program} {l : Launch} {e : Env} {s : State} {m : MethodId} {below : List Frame} {meth : Method} {c : Code} {H : Heap} {locs : List Loc} {cells slots : Nat} {Q : State → Prop} {Γ : sl_G} {α ρ : Nat → Nat} {bb i : Nat} {g : sl_W} {ls : Array Slot} {w : Int32} {β : Nat → Nat × Nat × Nat} {n e0 : Nat} {ep : Int32} {tl : Nat} {lo : Bool} {T C : Nat → Int32} {E : Nat → sl_Ent} {S A R V P F : Nat → Int32} (hlt : l.stackTraces = false) (hC : sl_C Γ p s m meth c cL_law 17 RL) (hG : sl_I Γ g s H locs) (hO : lp_O Γ α ρ β n e0 ep tl lo T C E S A R V P F g) (he : e0 < 100000) (hcs : cells + 600 ≤ 600104) (hss : slots + 3600 ≤ 7301314) {wh t : Nat} {v z : Int32} (htz : (lo = true ∧ z = -1) ∨ (lo = false ∧ z = nI tl)) (ht : 0 < n → t < n) (hwh : wh < 16) (hl : lv_has ls 17 [(14, .int z), (13, .int (nI t)), (12, .int (nI wh)), (10, .int v), (11, .int w), (9, .int (nI i)), (8, .int (nI n)), (7, .ref (ρ 5)), (6, .ref (ρ 4)), (5, .ref (ρ 3)), (4, .ref (ρ 2)), (3, .ref (ρ 1)), (2, .ref (ρ 0)), (1, .ref (α 0)), (0, .ref bb)]) (kk : ∀ (n1 e1 : Nat) (g1 : sl_W) (H1 : Heap) (locs1 : List Loc) (ls1 : Array Slot) (k1 m1 : Nat), e1 ≤ e0 + 1 → lp_LT Γ α ρ n1 e1 g1 → sl_I Γ g1 s H1 locs1 → lv_has ls1 17 [(11, .int w), (9, .int (nI i)), (8, .int (nI n1)), (7, .ref (ρ 5)), (6, .ref (ρ 4)), (5, .ref (ρ 3)), (4, .ref (ρ 2)), (3, .ref (ρ 1)), (2, .ref (ρ 0)), (1, .ref (α 0)), (0, .ref bb)] → k1 ≤ cells + 10 → m1 ≤ slots + 60 → W p l e room_1 s m #[.ref bb] below meth c H1 locs1 k1 m1 Q (F0 m 595 ls1 [])) : W p l e room_1 s m #[.ref bb] below meth c H locs cells slots Q (F0 m 529 ls []) := by
  have hx := hC.1
  have hb := hC.2.1
  obtain ⟨hK, hJ, hw, hn60, ht60, h41, h42, h43, h44, h45, h46, hAr⟩ := id hO
  refine lv_iload hx hb dL_law_529 (lv_at hl 2 rfl) ?_
  refine lv_bipush (v := 14) hx hb dL_law_531 (by decide) ?_
  refine lv_icmp_ne (tgt := 558) hx hb dL_law_533 (by decide) (fun c_533 => ?_) (fun c_533 => ?_)
  · have n_533 : ¬ (wh = 14) := fun z => c_533 ((nI_eq (a := wh) (b := 14) (by omega) (by omega)).mpr z)
    exact lp_d558 hlt hC hG hO he (by omega) (by omega) htz ht hwh (lv_sub hl [0, 1, 2, 3, 4, 5, 6, 7, 8, 9, 10, 11, 12, 13, 14] rfl) kk
  · have n_533 : wh = 14 := (nI_eq (a := wh) (b := 14) (by omega) (by omega)).mp c_533
    refine lv_iload hx hb dL_law_536 (lv_at hl 0 rfl) ?_
    refine lv_if_lt (tgt := 558) hx hb dL_law_538 (by decide) (fun c_538 => ?_) (fun c_538 => ?_)
    · exact lp_d558 hlt hC hG hO he (by omega) (by omega) htz ht hwh (lv_sub hl [0, 1, 2, 3, 4, 5, 6, 7, 8, 9, 10, 11, 12, 13, 14] rfl) kk
    · obtain ⟨hlo, hzt⟩ := lp_z0 htz c_538
      subst hlo
      subst hzt
      refine lv_iload hx hb dL_law_541 (lv_at hl 4 rfl) ?_
      refine lv_iconst (v := 3) hx hb dL_law_543 (by decide) ?_
      refine sl_calli (sl_runS (As := [.int w, .int 3]) (rest := []) hC hG (kL_low l Γ g w 3 3 rfl (by omega) (by omega)) mi_L_low lk_RL_38 rfl rfl ⟨Nat.le_of_ble_eq_true rfl, Nat.le_of_ble_eq_true rfl⟩ rfl hl.1 rfl (Nat.le_of_ble_eq_true rfl) dL_law_544 ⟨(by show _ + _ ≤ 600104; omega), (by show _ + _ ≤ 7301314; omega)⟩) hG (fun r_544 u_544 H locs hr_544 hG => ?_)
      obtain ⟨j544, hj544, ej544⟩ := hr_544
      refine sl_topi ej544 ?_
      refine lv_if_ne (tgt := 558) hx hb dL_law_547 (by decide) (fun c_547 => ?_) (fun c_547 => ?_)
      · have n_547 : ¬ (j544 = 0) := fun z => c_547 ((nI_eq (a := j544) (b := 0) (by omega) (by omega)).mpr z)
        exact lp_d558 hlt hC hG hO he (by omega) (by omega) htz ht hwh (lv_sub hl [0, 1, 2, 3, 4, 5, 6, 7, 8, 9, 10, 11, 12, 13, 14] rfl) kk
      · have n_547 : j544 = 0 := (nI_eq (a := j544) (b := 0) (by omega) (by omega)).mp c_547
        exact lp_seg_lose hlt hC hG hO he (by omega) (by omega)  (lv_sub hl [4, 5, 6, 7, 8, 9, 10, 11, 12, 13, 14] rfl) kk
set_option maxHeartbeats 4000000 in
set_option maxRecDepth 100000 in
theorem lp_d439 {p : Program} {l : Launch} {e : Env} {s : State} {m : MethodId} {below : List Frame} {meth : Method} {c : Code} {H : Heap} {locs : List Loc} {cells slots : Nat} {Q : State → Prop} {Γ : sl_G} {α ρ : Nat → Nat} {bb i : Nat} {g : sl_W} {ls : Array Slot} {w : Int32} {β : Nat → Nat × Nat × Nat} {n e0 : Nat} {ep : Int32} {tl : Nat} {lo : Bool} {T C : Nat → Int32} {E : Nat → sl_Ent} {S A R V P F : Nat → Int32} (hlt : l.stackTraces = false) (hC : sl_C Γ p s m meth c cL_law 17 RL) (hG : sl_I Γ g s H locs) (hO : lp_O Γ α ρ β n e0 ep tl lo T C E S A R V P F g) (he : e0 < 100000) (hcs : cells + 600 ≤ 600104) (hss : slots + 3600 ≤ 7301314) {wh t : Nat} {v z : Int32} (htz : (lo = true ∧ z = -1) ∨ (lo = false ∧ z = nI tl)) (ht : 0 < n → t < n) (hwh : wh < 16) (hl : lv_has ls 17 [(14, .int z), (13, .int (nI t)), (12, .int (nI wh)), (10, .int v), (11, .int w), (9, .int (nI i)), (8, .int (nI n)), (7, .ref (ρ 5)), (6, .ref (ρ 4)), (5, .ref (ρ 3)), (4, .ref (ρ 2)), (3, .ref (ρ 1)), (2, .ref (ρ 0)), (1, .ref (α 0)), (0, .ref bb)]) (kk : ∀ (n1 e1 : Nat) (g1 : sl_W) (H1 : Heap) (locs1 : List Loc) (ls1 : Array Slot) (k1 m1 : Nat), e1 ≤ e0 + 1 → lp_LT Γ α ρ n1 e1 g1 → sl_I Γ g1 s H1 locs1 → lv_has ls1 17 [(11, .int w), (9, .int (nI i)), (8, .int (nI n1)), (7, .ref (ρ 5)), (6, .ref (ρ 4)), (5, .ref (ρ 3)), (4, .ref (ρ 2)), (3, .ref (ρ 1)), (2, .ref (ρ 0)), (1, .ref (α 0)), (0, .ref bb)] → k1 ≤ cells + 10 → m1 ≤ slots + 60 → W p l e room_1 s m #[.ref bb] below meth c H1 locs1 k1 m1 Q (F0 m 595 ls1 [])) : W p l e room_1 s m #[.ref bb] below meth c H locs cells slots Q (F0 m 439 ls []) := by
  have hx := hC.1
  have hb := hC.2.1
  obtain ⟨hK, hJ, hw, hn60, ht60, h41, h42, h43, h44, h45, h46, hAr⟩ := id hO
  refine lv_iload hx hb dL_law_439 (lv_at hl 2 rfl) ?_
  refine lv_bipush (v := 14) hx hb dL_law_441 (by decide) ?_
  refine lv_icmp_ge (tgt := 529) hx hb dL_law_443 (by decide) (fun c_443 => ?_) (fun c_443 => ?_)
  · have n_443 : 14 ≤ wh := (nI_leI (a := 14) (b := wh) (by omega) (by omega)).mp c_443
    exact lp_d529 hlt hC hG hO he (by omega) (by omega) htz ht hwh (lv_sub hl [0, 1, 2, 3, 4, 5, 6, 7, 8, 9, 10, 11, 12, 13, 14] rfl) kk
  · have n_443 : ¬ (14 ≤ wh) := fun z => c_443 ((nI_leI (a := 14) (b := wh) (by omega) (by omega)).mpr z)
    refine lv_iload hx hb dL_law_446 (lv_at hl 0 rfl) ?_
    refine lv_if_le (tgt := 529) hx hb dL_law_448 (by decide) (fun c_448 => ?_) (fun c_448 => ?_)
    · exact lp_d529 hlt hC hG hO he (by omega) (by omega) htz ht hwh (lv_sub hl [0, 1, 2, 3, 4, 5, 6, 7, 8, 9, 10, 11, 12, 13, 14] rfl) kk
    · obtain ⟨hlo, hzt, htl⟩ := lp_z1 ht60 htz c_448
      subst hlo
      subst hzt
      exact lp_seg_fill hlt hC hG hO he (by omega) (by omega) htl (lv_sub hl [0, 4, 5, 6, 7, 8, 9, 10, 11, 12, 13, 14] rfl) kk
set_option maxHeartbeats 4000000 in
set_option maxRecDepth 100000 in
theorem lp_d349 {p : Program} {l : Launch} {e : Env} {s : State} {m : MethodId} {below : List Frame} {meth : Method} {c : Code} {H : Heap} {locs : List Loc} {cells slots : Nat} {Q : State → Prop} {Γ : sl_G} {α ρ : Nat → Nat} {bb i : Nat} {g : sl_W} {ls : Array Slot} {w : Int32} {β : Nat → Nat × Nat × Nat} {n e0 : Nat} {ep : Int32} {tl : Nat} {lo : Bool} {T C : Nat → Int32} {E : Nat → sl_Ent} {S A R V P F : Nat → Int32} (hlt : l.stackTraces = false) (hC : sl_C Γ p s m meth c cL_law 17 RL) (hG : sl_I Γ g s H locs) (hO : lp_O Γ α ρ β n e0 ep tl lo T C E S A R V P F g) (he : e0 < 100000) (hcs : cells + 600 ≤ 600104) (hss : slots + 3600 ≤ 7301314) {wh t : Nat} {v z : Int32} (htz : (lo = true ∧ z = -1) ∨ (lo = false ∧ z = nI tl)) (ht : 0 < n → t < n) (hwh : wh < 16) (hl : lv_has ls 17 [(14, .int z), (13, .int (nI t)), (12, .int (nI wh)), (10, .int v), (11, .int w), (9, .int (nI i)), (8, .int (nI n)), (7, .ref (ρ 5)), (6, .ref (ρ 4)), (5, .ref (ρ 3)), (4, .ref (ρ 2)), (3, .ref (ρ 1)), (2, .ref (ρ 0)), (1, .ref (α 0)), (0, .ref bb)]) (kk : ∀ (n1 e1 : Nat) (g1 : sl_W) (H1 : Heap) (locs1 : List Loc) (ls1 : Array Slot) (k1 m1 : Nat), e1 ≤ e0 + 1 → lp_LT Γ α ρ n1 e1 g1 → sl_I Γ g1 s H1 locs1 → lv_has ls1 17 [(11, .int w), (9, .int (nI i)), (8, .int (nI n1)), (7, .ref (ρ 5)), (6, .ref (ρ 4)), (5, .ref (ρ 3)), (4, .ref (ρ 2)), (3, .ref (ρ 1)), (2, .ref (ρ 0)), (1, .ref (α 0)), (0, .ref bb)] → k1 ≤ cells + 10 → m1 ≤ slots + 60 → W p l e room_1 s m #[.ref bb] below meth c H1 locs1 k1 m1 Q (F0 m 595 ls1 [])) : W p l e room_1 s m #[.ref bb] below meth c H locs cells slots Q (F0 m 349 ls []) := by
  have hx := hC.1
  have hb := hC.2.1
  obtain ⟨hK, hJ, hw, hn60, ht60, h41, h42, h43, h44, h45, h46, hAr⟩ := id hO
  refine lv_iload hx hb dL_law_349 (lv_at hl 2 rfl) ?_
  refine lv_bipush (v := 11) hx hb dL_law_351 (by decide) ?_
  refine lv_icmp_ge (tgt := 439) hx hb dL_law_353 (by decide) (fun c_353 => ?_) (fun c_353 => ?_)
  · have n_353 : 11 ≤ wh := (nI_leI (a := 11) (b := wh) (by omega) (by omega)).mp c_353
    exact lp_d439 hlt hC hG hO he (by omega) (by omega) htz ht hwh (lv_sub hl [0, 1, 2, 3, 4, 5, 6, 7, 8, 9, 10, 11, 12, 13, 14] rfl) kk
  · have n_353 : ¬ (11 ≤ wh) := fun z => c_353 ((nI_leI (a := 11) (b := wh) (by omega) (by omega)).mpr z)
    refine lv_iload hx hb dL_law_356 (lv_at hl 6 rfl) ?_
    refine lv_if_le (tgt := 439) hx hb dL_law_358 (by decide) (fun c_358 => ?_) (fun c_358 => ?_)
    · have n_358 : n ≤ 0 := (nI_leI (a := n) (b := 0) (by omega) (by omega)).mp c_358
      exact lp_d439 hlt hC hG hO he (by omega) (by omega) htz ht hwh (lv_sub hl [0, 1, 2, 3, 4, 5, 6, 7, 8, 9, 10, 11, 12, 13, 14] rfl) kk
    · have n_358 : ¬ (n ≤ 0) := fun z => c_358 ((nI_leI (a := n) (b := 0) (by omega) (by omega)).mpr z)
      exact lp_seg_write hlt hC hG hO he (by omega) (by omega) (ht (by omega)) (lv_sub hl [1, 4, 5, 6, 7, 8, 9, 10, 11, 12, 13, 14] rfl) kk
set_option maxHeartbeats 4000000 in
set_option maxRecDepth 100000 in
theorem lp_d125 {p : Program} {l : Launch} {e : Env} {s : State} {m : MethodId} {below : List Frame} {meth : Method} {c : Code} {H : Heap} {locs : List Loc} {cells slots : Nat} {Q : State → Prop} {Γ : sl_G} {α ρ : Nat → Nat} {bb i : Nat} {g : sl_W} {ls : Array Slot} {w : Int32} {β : Nat → Nat × Nat × Nat} {n e0 : Nat} {ep : Int32} {tl : Nat} {lo : Bool} {T C : Nat → Int32} {E : Nat → sl_Ent} {S A R V P F : Nat → Int32} (hlt : l.stackTraces = false) (hC : sl_C Γ p s m meth c cL_law 17 RL) (hG : sl_I Γ g s H locs) (hO : lp_O Γ α ρ β n e0 ep tl lo T C E S A R V P F g) (he : e0 < 100000) (hcs : cells + 600 ≤ 600104) (hss : slots + 3600 ≤ 7301314) {wh t : Nat} {v z : Int32} (htz : (lo = true ∧ z = -1) ∨ (lo = false ∧ z = nI tl)) (ht : 0 < n → t < n) (hwh : wh < 16) (hl : lv_has ls 17 [(14, .int z), (13, .int (nI t)), (12, .int (nI wh)), (10, .int v), (11, .int w), (9, .int (nI i)), (8, .int (nI n)), (7, .ref (ρ 5)), (6, .ref (ρ 4)), (5, .ref (ρ 3)), (4, .ref (ρ 2)), (3, .ref (ρ 1)), (2, .ref (ρ 0)), (1, .ref (α 0)), (0, .ref bb)]) (kk : ∀ (n1 e1 : Nat) (g1 : sl_W) (H1 : Heap) (locs1 : List Loc) (ls1 : Array Slot) (k1 m1 : Nat), e1 ≤ e0 + 1 → lp_LT Γ α ρ n1 e1 g1 → sl_I Γ g1 s H1 locs1 → lv_has ls1 17 [(11, .int w), (9, .int (nI i)), (8, .int (nI n1)), (7, .ref (ρ 5)), (6, .ref (ρ 4)), (5, .ref (ρ 3)), (4, .ref (ρ 2)), (3, .ref (ρ 1)), (2, .ref (ρ 0)), (1, .ref (α 0)), (0, .ref bb)] → k1 ≤ cells + 10 → m1 ≤ slots + 60 → W p l e room_1 s m #[.ref bb] below meth c H1 locs1 k1 m1 Q (F0 m 595 ls1 [])) : W p l e room_1 s m #[.ref bb] below meth c H locs cells slots Q (F0 m 125 ls []) := by
  have hx := hC.1
  have hb := hC.2.1
  obtain ⟨hK, hJ, hw, hn60, ht60, h41, h42, h43, h44, h45, h46, hAr⟩ := id hO
  refine lv_iload hx hb dL_law_125 (lv_at hl 2 rfl) ?_
  refine lv_iconst (v := 5) hx hb dL_law_127 (by decide) ?_
  refine lv_icmp_ge (tgt := 349) hx hb dL_law_128 (by decide) (fun c_128 => ?_) (fun c_128 => ?_)
  · have n_128 : 5 ≤ wh := (nI_leI (a := 5) (b := wh) (by omega) (by omega)).mp c_128
    exact lp_d349 hlt hC hG hO he (by omega) (by omega) htz ht hwh (lv_sub hl [0, 1, 2, 3, 4, 5, 6, 7, 8, 9, 10, 11, 12, 13, 14] rfl) kk
  · have n_128 : ¬ (5 ≤ wh) := fun z => c_128 ((nI_leI (a := 5) (b := wh) (by omega) (by omega)).mpr z)
    refine lv_iload hx hb dL_law_131 (lv_at hl 0 rfl) ?_
    refine lv_if_lt (tgt := 349) hx hb dL_law_133 (by decide) (fun c_133 => ?_) (fun c_133 => ?_)
    · exact lp_d349 hlt hC hG hO he (by omega) (by omega) htz ht hwh (lv_sub hl [0, 1, 2, 3, 4, 5, 6, 7, 8, 9, 10, 11, 12, 13, 14] rfl) kk
    · obtain ⟨hlo, hzt⟩ := lp_z0 htz c_133
      subst hlo
      subst hzt
      refine lv_iload hx hb dL_law_136 (lv_at hl 0 rfl) ?_
      refine lv_bipush (v := 60) hx hb dL_law_138 (by decide) ?_
      refine lv_icmp_ge (tgt := 349) hx hb dL_law_140 (by decide) (fun c_140 => ?_) (fun c_140 => ?_)
      · have n_140 : 60 ≤ tl := (nI_leI (a := 60) (b := tl) (by omega) (by omega)).mp c_140
        exact lp_d349 hlt hC hG hO he (by omega) (by omega) htz ht hwh (lv_sub hl [0, 1, 2, 3, 4, 5, 6, 7, 8, 9, 10, 11, 12, 13, 14] rfl) kk
      · have n_140 : ¬ (60 ≤ tl) := fun z => c_140 ((nI_leI (a := 60) (b := tl) (by omega) (by omega)).mpr z)
        refine lv_iload hx hb dL_law_143 (lv_at hl 6 rfl) ?_
        refine lv_bipush (v := 60) hx hb dL_law_145 (by decide) ?_
        refine lv_icmp_ge (tgt := 349) hx hb dL_law_147 (by decide) (fun c_147 => ?_) (fun c_147 => ?_)
        · have n_147 : 60 ≤ n := (nI_leI (a := 60) (b := n) (by omega) (by omega)).mp c_147
          exact lp_d349 hlt hC hG hO he (by omega) (by omega) htz ht hwh (lv_sub hl [0, 1, 2, 3, 4, 5, 6, 7, 8, 9, 10, 11, 12, 13, 14] rfl) kk
        · have n_147 : ¬ (60 ≤ n) := fun z => c_147 ((nI_leI (a := 60) (b := n) (by omega) (by omega)).mpr z)
          exact lp_seg_take hlt hC hG hO he (by omega) (by omega) (by omega) (by omega) (lv_sub hl [0, 3, 4, 5, 6, 7, 8, 9, 10, 11, 12, 13, 14] rfl) kk
set_option maxHeartbeats 4000000 in
set_option maxRecDepth 100000 in
theorem lp_turn {p : Program} {l : Launch} {e : Env} {s : State} {m : MethodId} {below : List Frame} {meth : Method} {c : Code} {H : Heap} {locs : List Loc} {cells slots : Nat} {Q : State → Prop} {Γ : sl_G} {α ρ : Nat → Nat} {bb i : Nat} {g : sl_W} {ls : Array Slot} {L : Nat} {xs : Nat → Int32} {β : Nat → Nat × Nat × Nat} {n e0 : Nat} {ep : Int32} {tl : Nat} {lo : Bool} {T C : Nat → Int32} {E : Nat → sl_Ent} {S A R V P F : Nat → Int32} (hlt : l.stackTraces = false) (hC : sl_C Γ p s m meth c cL_law 17 RL) (hG : sl_I Γ g s H locs) (hO : lp_O Γ α ρ β n e0 ep tl lo T C E S A R V P F g) (he : e0 < 100000) (hcs : cells + 600 ≤ 600104) (hss : slots + 3600 ≤ 7301314) (hz : ¬ sl_A Γ bb) (hX : va_X bb L xs s s.heap) (hbl : bb < s.heap.size) (hL : L ≤ 260) (hi : i < 80) (he2 : e0 + 1 < 100000) (hcs2 : cells + 700 ≤ 600104) (hss2 : slots + 3700 ≤ 7301314) (hl : lv_has ls 17 [(9, .int (nI i)), (8, .int (nI n)), (7, .ref (ρ 5)), (6, .ref (ρ 4)), (5, .ref (ρ 3)), (4, .ref (ρ 2)), (3, .ref (ρ 1)), (2, .ref (ρ 0)), (1, .ref (α 0)), (0, .ref bb)]) (kk : ∀ (n1 e1 : Nat) (g1 : sl_W) (H1 : Heap) (locs1 : List Loc) (ls1 : Array Slot) (k1 m1 : Nat), e1 ≤ e0 + 1 → lp_LT Γ α ρ n1 e1 g1 → sl_I Γ g1 s H1 locs1 → lv_has ls1 17 [(9, .int (nI i)), (8, .int (nI n1)), (7, .ref (ρ 5)), (6, .ref (ρ 4)), (5, .ref (ρ 3)), (4, .ref (ρ 2)), (3, .ref (ρ 1)), (2, .ref (ρ 0)), (1, .ref (α 0)), (0, .ref bb)] → k1 ≤ cells + 500 → m1 ≤ slots + 3000 → W p l e room_1 s m #[.ref bb] below meth c H1 locs1 k1 m1 Q (F0 m 650 ls1 [])) : W p l e room_1 s m #[.ref bb] below meth c H locs cells slots Q (F0 m 55 ls []) := by
  have hx := hC.1
  have hb := hC.2.1
  obtain ⟨hK, hJ, hw, hn60, ht60, h41, h42, h43, h44, h45, h46, hAr⟩ := id hO
  refine lv_aload_n hx hb dL_law_55 rfl (lv_at hl 9 rfl) ?_
  refine lv_iconst (v := 2) hx hb dL_law_56 (by decide) ?_
  refine lv_iload hx hb dL_law_57 (lv_at hl 0 rfl) ?_
  refine lv_imul hx hb dL_law_59 ?_
  refine sl_topi (y := nI (2 * i)) (pk_mul 2 i) ?_
  refine sl_calli (lp_runC (As := [.ref bb, .int (nI (2 * i))]) (rest := []) hC hG hX hbl hz (kL_cell l Γ g bb L xs hL hz (2 * i) (by omega)) mi_L_cell lk_RL_32 rfl rfl ⟨Nat.le_of_ble_eq_true rfl, Nat.le_of_ble_eq_true rfl⟩ rfl hl.1 rfl (Nat.le_of_ble_eq_true rfl) dL_law_60 ⟨(by show _ + _ ≤ 600104; omega), (by show _ + _ ≤ 7301314; omega)⟩) hG (fun r_60 u_60 H locs hr_60 hG => ?_)
  refine lv_istore (lv' := [(10, .int r_60), (9, .int (nI i)), (8, .int (nI n)), (7, .ref (ρ 5)), (6, .ref (ρ 4)), (5, .ref (ρ 3)), (4, .ref (ρ 2)), (3, .ref (ρ 1)), (2, .ref (ρ 0)), (1, .ref (α 0)), (0, .ref bb)]) hx hb dL_law_63 hl (by decide) rfl (fun ls hl => ?_)
  refine lv_aload_n hx hb dL_law_65 rfl (lv_at hl 10 rfl) ?_
  refine lv_iconst (v := 2) hx hb dL_law_66 (by decide) ?_
  refine lv_iload hx hb dL_law_67 (lv_at hl 1 rfl) ?_
  refine lv_imul hx hb dL_law_69 ?_
  refine sl_topi (y := nI (2 * i)) (pk_mul 2 i) ?_
  refine lv_iconst (v := 1) hx hb dL_law_70 (by decide) ?_
  refine lv_iadd hx hb dL_law_71 ?_
  refine sl_topi (y := nI (2 * i + 1)) (nI_add (2 * i) 1) ?_
  refine sl_calli (lp_runC (As := [.ref bb, .int (nI (2 * i + 1))]) (rest := []) hC hG hX hbl hz (kL_cell l Γ g bb L xs hL hz (2 * i + 1) (by omega)) mi_L_cell lk_RL_32 rfl rfl ⟨Nat.le_of_ble_eq_true rfl, Nat.le_of_ble_eq_true rfl⟩ rfl hl.1 rfl (Nat.le_of_ble_eq_true rfl) dL_law_72 ⟨(by show _ + _ ≤ 600104; omega), (by show _ + _ ≤ 7301314; omega)⟩) hG (fun r_72 u_72 H locs hr_72 hG => ?_)
  refine lv_istore (lv' := [(11, .int r_72), (10, .int r_60), (9, .int (nI i)), (8, .int (nI n)), (7, .ref (ρ 5)), (6, .ref (ρ 4)), (5, .ref (ρ 3)), (4, .ref (ρ 2)), (3, .ref (ρ 1)), (2, .ref (ρ 0)), (1, .ref (α 0)), (0, .ref bb)]) hx hb dL_law_75 hl (by decide) rfl (fun ls hl => ?_)
  refine lv_iload hx hb dL_law_77 (lv_at hl 1 rfl) ?_
  refine lv_bipush (v := 16) hx hb dL_law_79 (by decide) ?_
  refine sl_calli (sl_runS (As := [.int r_60, .int 16]) (rest := []) hC hG (kL_low l Γ g r_60 16 16 rfl (by omega) (by omega)) mi_L_low lk_RL_38 rfl rfl ⟨Nat.le_of_ble_eq_true rfl, Nat.le_of_ble_eq_true rfl⟩ rfl hl.1 rfl (Nat.le_of_ble_eq_true rfl) dL_law_81 ⟨(by show _ + _ ≤ 600104; omega), (by show _ + _ ≤ 7301314; omega)⟩) hG (fun r_81 u_81 H locs hr_81 hG => ?_)
  obtain ⟨j81, hj81, ej81⟩ := hr_81
  refine sl_topi ej81 ?_
  refine lv_istore (lv' := [(12, .int (nI j81)), (11, .int r_72), (10, .int r_60), (9, .int (nI i)), (8, .int (nI n)), (7, .ref (ρ 5)), (6, .ref (ρ 4)), (5, .ref (ρ 3)), (4, .ref (ρ 2)), (3, .ref (ρ 1)), (2, .ref (ρ 0)), (1, .ref (α 0)), (0, .ref bb)]) hx hb dL_law_84 hl (by decide) rfl (fun ls hl => ?_)
  refine lv_iload hx hb dL_law_86 (lv_at hl 4 rfl) ?_
  refine lv_if_ne (tgt := 95) hx hb dL_law_88 (by decide) (fun c_88 => ?_) (fun c_88 => ?_)
  · have n_88 : ¬ (n = 0) := fun z => c_88 ((nI_eq (a := n) (b := 0) (by omega) (by omega)).mpr z)
    refine lv_iload hx hb dL_law_95 (lv_at hl 4 rfl) ?_
    refine lv_iconst (v := 1) hx hb dL_law_97 (by decide) ?_
    refine lv_isub hx hb dL_law_98 ?_
    refine sl_topi (y := nI (n - 1)) (lp_sub (a := n) (b := 1) (by omega) (by omega)) ?_
    refine lv_iload hx hb dL_law_99 (lv_at hl 1 rfl) ?_
    refine lv_iload hx hb dL_law_101 (lv_at hl 4 rfl) ?_
    refine lv_iconst (v := 5) hx hb dL_law_103 (by decide) ?_
    refine lv_icmp_ge (tgt := 112) hx hb dL_law_104 (by decide) (fun c_104 => ?_) (fun c_104 => ?_)
    · have n_104 : 5 ≤ n := (nI_leI (a := 5) (b := n) (by omega) (by omega)).mp c_104
      refine lv_iconst (v := 5) hx hb dL_law_112 (by decide) ?_
      refine sl_calli (sl_runS (As := [.int r_72, .int 5]) (rest := [.int (nI (n - 1))]) hC hG (kL_low l Γ g r_72 5 5 rfl (by omega) (by omega)) mi_L_low lk_RL_38 rfl rfl ⟨Nat.le_of_ble_eq_true rfl, Nat.le_of_ble_eq_true rfl⟩ rfl hl.1 rfl (Nat.le_of_ble_eq_true rfl) dL_law_113 ⟨(by show _ + _ ≤ 600104; omega), (by show _ + _ ≤ 7301314; omega)⟩) hG (fun r_113 u_113 H locs hr_113 hG => ?_)
      obtain ⟨j113, hj113, ej113⟩ := hr_113
      refine sl_topi ej113 ?_
      refine lv_isub hx hb dL_law_116 ?_
      refine sl_topi (y := nI (n - 1 - j113)) (lp_sub (a := n - 1) (b := j113) (by omega) (by omega)) ?_
      refine lv_istore (lv' := [(13, .int (nI (n - 1 - j113))), (12, .int (nI j81)), (11, .int r_72), (10, .int r_60), (9, .int (nI i)), (8, .int (nI n)), (7, .ref (ρ 5)), (6, .ref (ρ 4)), (5, .ref (ρ 3)), (4, .ref (ρ 2)), (3, .ref (ρ 1)), (2, .ref (ρ 0)), (1, .ref (α 0)), (0, .ref bb)]) hx hb dL_law_117 hl (by decide) rfl (fun ls hl => ?_)
      refine lv_aload_n hx hb dL_law_119 rfl (lv_at hl 12 rfl) ?_
      refine sl_calli (sl_runV (As := []) (rest := []) hC hG (kX4_tail l Γ g α β n ep tl lo T C E hK) mi_X4_tail lk_RL_41 0 hK.1 rfl rfl rfl ⟨Nat.le_of_ble_eq_true rfl, Nat.le_of_ble_eq_true rfl⟩ rfl hl.1 rfl (Nat.le_of_ble_eq_true rfl) dL_law_120 ⟨(by show _ + _ ≤ 600104; omega), (by show _ + _ ≤ 7301314; omega)⟩) hG (fun r_120 u_120 H locs hr_120 hG => ?_)
      have htz : (lo = true ∧ r_120 = -1) ∨ (lo = false ∧ r_120 = nI tl) := by rw [hr_120]; exact lp_tailz lo tl
      refine lv_istore (lv' := [(14, .int r_120), (13, .int (nI (n - 1 - j113))), (12, .int (nI j81)), (11, .int r_72), (10, .int r_60), (9, .int (nI i)), (8, .int (nI n)), (7, .ref (ρ 5)), (6, .ref (ρ 4)), (5, .ref (ρ 3)), (4, .ref (ρ 2)), (3, .ref (ρ 1)), (2, .ref (ρ 0)), (1, .ref (α 0)), (0, .ref bb)]) hx hb dL_law_123 hl (by decide) rfl (fun ls hl => ?_)
      refine lp_d125 hlt hC hG hO he (by omega) (by omega) htz (fun hn => by omega) hj81 (lv_sub hl [0, 1, 2, 4, 3, 5, 6, 7, 8, 9, 10, 11, 12, 13, 14] rfl) (fun n1 e1 g1 H1 locs1 ls1 k1 m1 q1 q2 q3 q4 q5 q6 => ?_)
      obtain ⟨β2, ep2, tl2, lo2, T2, C2, E2, S2, A2, R2, V2, P2, F2, hO2⟩ := q2
      exact lp_seg_tail hlt hC q3 hO2 (by omega) (by omega) (by omega) q4 (fun g2 H2 locs2 ls2 k2 m2 y1 y2 y3 y4 y5 => kk _ _ _ _ _ _ _ _ q1 y1 y2 y3 (by omega) (by omega))
    · have n_104 : ¬ (5 ≤ n) := fun z => c_104 ((nI_leI (a := 5) (b := n) (by omega) (by omega)).mpr z)
      refine lv_iload hx hb dL_law_107 (lv_at hl 4 rfl) ?_
      refine lv_goto (tgt := 113) hx hb dL_law_109 (by decide) ?_
      refine sl_calli (sl_runS (As := [.int r_72, .int (nI n)]) (rest := [.int (nI (n - 1))]) hC hG (kL_low l Γ g r_72 (nI n) n rfl (by omega) (by omega)) mi_L_low lk_RL_38 rfl rfl ⟨Nat.le_of_ble_eq_true rfl, Nat.le_of_ble_eq_true rfl⟩ rfl hl.1 rfl (Nat.le_of_ble_eq_true rfl) dL_law_113 ⟨(by show _ + _ ≤ 600104; omega), (by show _ + _ ≤ 7301314; omega)⟩) hG (fun r_113 u_113 H locs hr_113 hG => ?_)
      obtain ⟨j113, hj113, ej113⟩ := hr_113
      refine sl_topi ej113 ?_
      refine lv_isub hx hb dL_law_116 ?_
      refine sl_topi (y := nI (n - 1 - j113)) (lp_sub (a := n - 1) (b := j113) (by omega) (by omega)) ?_
      refine lv_istore (lv' := [(13, .int (nI (n - 1 - j113))), (12, .int (nI j81)), (11, .int r_72), (10, .int r_60), (9, .int (nI i)), (8, .int (nI n)), (7, .ref (ρ 5)), (6, .ref (ρ 4)), (5, .ref (ρ 3)), (4, .ref (ρ 2)), (3, .ref (ρ 1)), (2, .ref (ρ 0)), (1, .ref (α 0)), (0, .ref bb)]) hx hb dL_law_117 hl (by decide) rfl (fun ls hl => ?_)
      refine lv_aload_n hx hb dL_law_119 rfl (lv_at hl 12 rfl) ?_
      refine sl_calli (sl_runV (As := []) (rest := []) hC hG (kX4_tail l Γ g α β n ep tl lo T C E hK) mi_X4_tail lk_RL_41 0 hK.1 rfl rfl rfl ⟨Nat.le_of_ble_eq_true rfl, Nat.le_of_ble_eq_true rfl⟩ rfl hl.1 rfl (Nat.le_of_ble_eq_true rfl) dL_law_120 ⟨(by show _ + _ ≤ 600104; omega), (by show _ + _ ≤ 7301314; omega)⟩) hG (fun r_120 u_120 H locs hr_120 hG => ?_)
      have htz : (lo = true ∧ r_120 = -1) ∨ (lo = false ∧ r_120 = nI tl) := by rw [hr_120]; exact lp_tailz lo tl
      refine lv_istore (lv' := [(14, .int r_120), (13, .int (nI (n - 1 - j113))), (12, .int (nI j81)), (11, .int r_72), (10, .int r_60), (9, .int (nI i)), (8, .int (nI n)), (7, .ref (ρ 5)), (6, .ref (ρ 4)), (5, .ref (ρ 3)), (4, .ref (ρ 2)), (3, .ref (ρ 1)), (2, .ref (ρ 0)), (1, .ref (α 0)), (0, .ref bb)]) hx hb dL_law_123 hl (by decide) rfl (fun ls hl => ?_)
      refine lp_d125 hlt hC hG hO he (by omega) (by omega) htz (fun hn => by omega) hj81 (lv_sub hl [0, 1, 2, 4, 3, 5, 6, 7, 8, 9, 10, 11, 12, 13, 14] rfl) (fun n1 e1 g1 H1 locs1 ls1 k1 m1 q1 q2 q3 q4 q5 q6 => ?_)
      obtain ⟨β2, ep2, tl2, lo2, T2, C2, E2, S2, A2, R2, V2, P2, F2, hO2⟩ := q2
      exact lp_seg_tail hlt hC q3 hO2 (by omega) (by omega) (by omega) q4 (fun g2 H2 locs2 ls2 k2 m2 y1 y2 y3 y4 y5 => kk _ _ _ _ _ _ _ _ q1 y1 y2 y3 (by omega) (by omega))
  · have n_88 : n = 0 := (nI_eq (a := n) (b := 0) (by omega) (by omega)).mp c_88
    refine lv_iconst (v := 0) hx hb dL_law_91 (by decide) ?_
    refine lv_goto (tgt := 117) hx hb dL_law_92 (by decide) ?_
    refine lv_istore (lv' := [(13, .int 0), (12, .int (nI j81)), (11, .int r_72), (10, .int r_60), (9, .int (nI i)), (8, .int (nI n)), (7, .ref (ρ 5)), (6, .ref (ρ 4)), (5, .ref (ρ 3)), (4, .ref (ρ 2)), (3, .ref (ρ 1)), (2, .ref (ρ 0)), (1, .ref (α 0)), (0, .ref bb)]) hx hb dL_law_117 hl (by decide) rfl (fun ls hl => ?_)
    refine lv_aload_n hx hb dL_law_119 rfl (lv_at hl 12 rfl) ?_
    refine sl_calli (sl_runV (As := []) (rest := []) hC hG (kX4_tail l Γ g α β n ep tl lo T C E hK) mi_X4_tail lk_RL_41 0 hK.1 rfl rfl rfl ⟨Nat.le_of_ble_eq_true rfl, Nat.le_of_ble_eq_true rfl⟩ rfl hl.1 rfl (Nat.le_of_ble_eq_true rfl) dL_law_120 ⟨(by show _ + _ ≤ 600104; omega), (by show _ + _ ≤ 7301314; omega)⟩) hG (fun r_120 u_120 H locs hr_120 hG => ?_)
    have htz : (lo = true ∧ r_120 = -1) ∨ (lo = false ∧ r_120 = nI tl) := by rw [hr_120]; exact lp_tailz lo tl
    refine lv_istore (lv' := [(14, .int r_120), (13, .int 0), (12, .int (nI j81)), (11, .int r_72), (10, .int r_60), (9, .int (nI i)), (8, .int (nI n)), (7, .ref (ρ 5)), (6, .ref (ρ 4)), (5, .ref (ρ 3)), (4, .ref (ρ 2)), (3, .ref (ρ 1)), (2, .ref (ρ 0)), (1, .ref (α 0)), (0, .ref bb)]) hx hb dL_law_123 hl (by decide) rfl (fun ls hl => ?_)
    refine lp_d125 hlt hC hG hO he (by omega) (by omega) htz (fun hn => by omega) hj81 (lv_sub hl [0, 1, 2, 4, 3, 5, 6, 7, 8, 9, 10, 11, 12, 13, 14] rfl) (fun n1 e1 g1 H1 locs1 ls1 k1 m1 q1 q2 q3 q4 q5 q6 => ?_)
    obtain ⟨β2, ep2, tl2, lo2, T2, C2, E2, S2, A2, R2, V2, P2, F2, hO2⟩ := q2
    exact lp_seg_tail hlt hC q3 hO2 (by omega) (by omega) (by omega) q4 (fun g2 H2 locs2 ls2 k2 m2 y1 y2 y3 y4 y5 => kk _ _ _ _ _ _ _ _ q1 y1 y2 y3 (by omega) (by omega))
set_option maxHeartbeats 4000000 in
set_option maxRecDepth 100000 in
theorem lp_loop {p : Program} {l : Launch} {e : Env} {s : State} {m : MethodId} {below : List Frame} {meth : Method} {c : Code} {Q : State → Prop} {Γ : sl_G} {α ρ : Nat → Nat} {bb L : Nat} {xs : Nat → Int32} (hlt : l.stackTraces = false) (hC : sl_C Γ p s m meth c cL_law 17 RL) (hz : ¬ sl_A Γ bb) (hX : va_X bb L xs s s.heap) (hbl : bb < s.heap.size) (hL : L ≤ 260)
    (kend : ∀ (g : sl_W) (H : Heap) (locs : List Loc) (ls : Array Slot) (k1 n1 : Nat), sl_I Γ g s H locs → k1 ≤ 600104 → n1 ≤ 7301314 → W p l e room_1 s m #[.ref bb] below meth c H locs k1 n1 Q (F0 m 656 ls [])) :
    ∀ (fuel i n e0 : Nat) (g : sl_W) (H : Heap) (locs : List Loc) (ls : Array Slot) (cells slots : Nat), i ≤ 80 → 81 ≤ i + fuel → e0 ≤ i → cells ≤ 100 + 500 * i → slots ≤ 2000 + 3000 * i → lp_LT Γ α ρ n e0 g → sl_I Γ g s H locs → lv_has ls 17 [(9, .int (nI i)), (8, .int (nI n)), (7, .ref (ρ 5)), (6, .ref (ρ 4)), (5, .ref (ρ 3)), (4, .ref (ρ 2)), (3, .ref (ρ 1)), (2, .ref (ρ 0)), (1, .ref (α 0)), (0, .ref bb)] → W p l e room_1 s m #[.ref bb] below meth c H locs cells slots Q (F0 m 48 ls []) := by
  have hx := hC.1
  have hb := hC.2.1
  intro fuel
  induction fuel with
  | zero =>
    intro i n e0 g H locs ls cells slots h1 h2
    exact absurd h2 (by omega)
  | succ fuel ih =>
    intro i n e0 g H locs ls cells slots h1 h2 h3 h4 h5 hI hG hl
    refine lv_iload hx hb dL_law_48 (lv_at hl 0 rfl) ?_
    refine lv_bipush (v := 80) hx hb dL_law_50 (by decide) ?_
    refine lv_icmp_ge (tgt := 656) hx hb dL_law_52 (by decide) (fun c_52 => ?_) (fun c_52 => ?_)
    · exact kend g H locs ls cells slots hG (by omega) (by omega)
    · have n_52 : ¬ (80 ≤ i) := fun z => c_52 ((nI_leI (a := 80) (b := i) (by omega) (by omega)).mpr z)
      obtain ⟨β, ep, tl, lo, T, C, E, S, A, R, V, P, F, hO⟩ := hI
      refine lp_turn hlt hC hG hO (by omega) (by omega) (by omega) hz hX hbl hL (by omega) (by omega) (by omega) (by omega) hl (fun n1 e1 g1 H1 locs1 ls1 k1 m1 q1 q2 q3 q4 q5 q6 => ?_)
      refine lv_iinc (v := nI (i + 1)) (lv' := [(9, .int (nI (i + 1))), (8, .int (nI n1)), (7, .ref (ρ 5)), (6, .ref (ρ 4)), (5, .ref (ρ 3)), (4, .ref (ρ 2)), (3, .ref (ρ 1)), (2, .ref (ρ 0)), (1, .ref (α 0)), (0, .ref bb)]) hx hb dL_law_650 q4 (k := 0) rfl (by rw [show Int32.ofInt 1 = nI 1 from rfl, nI_add]) (by decide) rfl (fun ls hl => ?_)
      refine lv_goto (tgt := 48) hx hb dL_law_653 (by decide) ?_
      exact ih (i + 1) n1 e1 g1 H1 locs1 ls k1 m1 (by omega) (by omega) (by omega) (by omega) (by omega) q2 q3 hl
