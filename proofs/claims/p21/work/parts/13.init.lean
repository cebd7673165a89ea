/-! constructors; a trail's copy -/
theorem sl_tc_0 (T : Nat → Int32) (ss : Int32) : (fun _ => (-1)) = sl_tc T ss 0 := by
  funext j
  rw [sl_tc, if_neg (fun z => by have := z.1; omega)]
theorem sl_ne_none {g : sl_W} {a b : Nat} {q : Nat × va_E} (h1 : g a = some q) (h2 : g b = none) : a ≠ b := fun e => by rw [e, h2] at h1; cases h1
set_option maxHeartbeats 4000000 in
set_option maxRecDepth 100000 in
theorem kX0_init (l : Launch) (Γ : sl_G) (g : sl_W) (a2 : Nat) (h2 : g 2 = some (a2, .inr (0, [.null]))) (h3 : g 3 = none) : Met l yX0_init [Cond.code yX0_init cX0_init 1 none] ({ frames := 1, cells := 1, slots := 360, locals := 23 } : Room) (va_Pc [.ref a2] (sl_B Γ g)) (sl_Qv Γ (fun (_ : Nat) => True) (fun q => sl_up (sl_up g 2 (a2, .inr (0, [.ref q]))) 3 (q, .inl (Γ.2.1 0, 360, .inl (fun _ => (-2)))))) 1 360 (sl_A Γ) := by
  refine sl_ent (by decide) (Nat.le_of_ble_eq_true rfl) ?_
  intro p e s m below meth c ls hC hr hin hG hl
  have hx := hC.1
  have hb := hC.2.1
  have hl : lv_has ls 1 [(0, .ref a2)] := hl
  refine lv_aload_n hx hb dX0_init_0 rfl (lv_at hl 0 rfl) ?_
  refine W.objInit hx hb hC.2.2.2.1 (sl_tab hC lk_RX0_3 rfl) (sl_tab hC oi_inst rfl) (sl_tab hC oi_code rfl) rfl (hl.1.trans hC.2.2.1.symm) rfl dX0_init_1 (Nat.le_of_ble_eq_true rfl) (Nat.le_of_ble_eq_true rfl) ?_
  refine W.eq (g2 := F0 m 4 ls []) rfl ?_
  refine lv_aload_n hx hb dX0_init_4 rfl (lv_at hl 0 rfl) ?_
  refine lv_sipush (v := 360) hx hb dX0_init_5 (by decide) ?_
  refine sl_newa (atype := .int) (ty := .int) (a0 := (360, .inl (fun _ => 0))) hC hG 3 0 h3 ac_int rfl rfl (fun _ => rfl) (by decide) (by decide) (Nat.le_of_ble_eq_true rfl) (Nat.le_of_ble_eq_true rfl) (Nat.le_of_ble_eq_true rfl) dX0_init_8 (fun q_8 H hG => ?_)
  have hG : sl_I Γ (sl_up g 3 (q_8, .inl (Γ.2.1 0, 360, .inl (fun _ => 0)))) s H _ := hG
  refine sl_putF (C := RX0) (T := TX0) (N := 1) (ty := .array .int) (v := .ref q_8) hC hG 2 (sl_up_to (by decide) h2) rfl la_0 tyX0 tyX0_ok nmX0 0 (by decide) lk_RX0_9 rfl rfl hin rfl (by decide +kernel) rfl rfl (Nat.le_of_ble_eq_true rfl) dX0_init_10 (fun H locs hG => ?_)
  have hG : sl_I Γ (sl_up (sl_up g 3 (q_8, .inl (Γ.2.1 0, 360, .inl (fun _ => 0)))) 2 (a2, .inr (0, [.ref q_8]))) s H _ := hG
  refine lv_aload_n hx hb dX0_init_13 rfl (lv_at hl 0 rfl) ?_
  refine sl_get (C := RX0) (T := TX0) (N := 1) hC hG 2 (sl_up_s _ _ _) rfl la_0 0 (by decide) lk_RX0_9 rfl rfl dX0_init_14 ?_
  refine lv_bipush (v := (-2)) hx hb dX0_init_17 (by decide) ?_
  refine sl_callv (sl_runS (As := [.ref q_8, .int (-2)]) (rest := []) hC hG (kJ7_fill_53178 l Γ (sl_up (sl_up g 3 (q_8, .inl (Γ.2.1 0, 360, .inl (fun _ => 0)))) 2 (a2, .inr (0, [.ref q_8]))) 3 q_8 360 (fun _ => 0) (sl_up_to (by decide) (sl_up_s _ _ _)) (by omega) (-2)) mi_J7_fill_53178 lk_RX0_15 rfl rfl ⟨Nat.le_of_ble_eq_true rfl, Nat.le_of_ble_eq_true rfl⟩ rfl hl.1 rfl (Nat.le_of_ble_eq_true rfl) dX0_init_19 ⟨Nat.le_of_ble_eq_true rfl, Nat.le_of_ble_eq_true rfl⟩) hG (fun u_19 H locs hr_19 hG => ?_)
  have hG : sl_I Γ (sl_up (sl_up (sl_up g 3 (q_8, .inl (Γ.2.1 0, 360, .inl (fun _ => 0)))) 2 (a2, .inr (0, [.ref q_8]))) 3 (q_8, .inl (Γ.2.1 0, 360, .inl (fun _ => (-2))))) s H _ := hG
  exact sl_rv hC hr hG q_8 trivial (sl_up_mid _ _ _ _ _ _).symm (Nat.le_of_ble_eq_true rfl) (Nat.le_of_ble_eq_true rfl) dX0_init_22
set_option maxHeartbeats 4000000 in
set_option maxRecDepth 100000 in
theorem kX3_init (l : Launch) (Γ : sl_G) (g : sl_W) (kt ka a : Nat) (ht : g kt = some (a, .inr (3, [.null]))) (ha : g ka = none) (hne : kt ≠ ka) : Met l yX3_init [Cond.code yX3_init cX3_init 1 none] ({ frames := 1, cells := 1, slots := 16, locals := 23 } : Room) (va_Pc [.ref a] (sl_B Γ g)) (sl_Qv Γ (fun (_ : Nat) => True) (fun q => sl_up (sl_up g kt (a, .inr (3, [.ref q]))) ka (q, .inl (Γ.2.1 0, 16, .inl (fun _ => (-1)))))) 1 16 (sl_A Γ) := by
  refine sl_ent (by decide) (Nat.le_of_ble_eq_true rfl) ?_
  intro p e s m below meth c ls hC hr hin hG hl
  have hx := hC.1
  have hb := hC.2.1
  have hl : lv_has ls 1 [(0, .ref a)] := hl
  refine lv_aload_n hx hb dX3_init_0 rfl (lv_at hl 0 rfl) ?_
  refine W.objInit hx hb hC.2.2.2.1 (sl_tab hC lk_RX3_3 rfl) (sl_tab hC oi_inst rfl) (sl_tab hC oi_code rfl) rfl (hl.1.trans hC.2.2.1.symm) rfl dX3_init_1 (Nat.le_of_ble_eq_true rfl) (Nat.le_of_ble_eq_true rfl) ?_
  refine W.eq (g2 := F0 m 4 ls []) rfl ?_
  refine lv_aload_n hx hb dX3_init_4 rfl (lv_at hl 0 rfl) ?_
  refine lv_bipush (v := 16) hx hb dX3_init_5 (by decide) ?_
  refine sl_newa (atype := .int) (ty := .int) (a0 := (16, .inl (fun _ => 0))) hC hG ka 0 ha ac_int rfl rfl (fun _ => rfl) (by decide) (by decide) (Nat.le_of_ble_eq_true rfl) (Nat.le_of_ble_eq_true rfl) (Nat.le_of_ble_eq_true rfl) dX3_init_7 (fun q_7 H hG => ?_)
  have hG : sl_I Γ (sl_up g ka (q_7, .inl (Γ.2.1 0, 16, .inl (fun _ => 0)))) s H _ := hG
  refine sl_putF (C := RX3) (T := TX3) (N := 1) (ty := .array .int) (v := .ref q_7) hC hG kt (sl_up_to (by omega) ht) rfl la_3 tyX3 tyX3_ok nmX3 0 (by decide) lk_RX3_9 rfl rfl hin rfl (by decide +kernel) rfl rfl (Nat.le_of_ble_eq_true rfl) dX3_init_9 (fun H locs hG => ?_)
  have hG : sl_I Γ (sl_up (sl_up g ka (q_7, .inl (Γ.2.1 0, 16, .inl (fun _ => 0)))) kt (a, .inr (3, [.ref q_7]))) s H _ := hG
  refine lv_aload_n hx hb dX3_init_12 rfl (lv_at hl 0 rfl) ?_
  refine sl_get (C := RX3) (T := TX3) (N := 1) hC hG kt (sl_up_s _ _ _) rfl la_3 0 (by decide) lk_RX3_9 rfl rfl dX3_init_13 ?_
  refine lv_iconst (v := (-1)) hx hb dX3_init_16 (by decide) ?_
  refine sl_callv (sl_runS (As := [.ref q_7, .int (-1)]) (rest := []) hC hG (kJ7_fill_53178 l Γ (sl_up (sl_up g ka (q_7, .inl (Γ.2.1 0, 16, .inl (fun _ => 0)))) kt (a, .inr (3, [.ref q_7]))) ka q_7 16 (fun _ => 0) (sl_up_to (by omega) (sl_up_s _ _ _)) (by omega) (-1)) mi_J7_fill_53178 lk_RX3_15 rfl rfl ⟨Nat.le_of_ble_eq_true rfl, Nat.le_of_ble_eq_true rfl⟩ rfl hl.1 rfl (Nat.le_of_ble_eq_true rfl) dX3_init_17 ⟨Nat.le_of_ble_eq_true rfl, Nat.le_of_ble_eq_true rfl⟩) hG (fun u_17 H locs hr_17 hG => ?_)
  have hG : sl_I Γ (sl_up (sl_up (sl_up g ka (q_7, .inl (Γ.2.1 0, 16, .inl (fun _ => 0)))) kt (a, .inr (3, [.ref q_7]))) ka (q_7, .inl (Γ.2.1 0, 16, .inl (fun _ => (-1))))) s H _ := hG
  exact sl_rv hC hr hG q_7 trivial (sl_up_mid _ _ _ _ _ _).symm (Nat.le_of_ble_eq_true rfl) (Nat.le_of_ble_eq_true rfl) dX3_init_20
set_option maxHeartbeats 4000000 in
set_option maxRecDepth 100000 in
theorem kX1_init (l : Launch) (Γ : sl_G) (g : sl_W) (ke a b : Nat) (he : g ke = some (a, .inr (1, [.int 0, .int 0, .int 0, .int 0, .int 0, .int 0, .null, .int 0]))) (x1 x2 x3 x4 x5 x6 : Int32) : Met l yX1_init [Cond.code yX1_init cX1_init 8 none] ({ frames := 1, cells := 0, slots := 0, locals := 20 } : Room) (va_Pc [.ref a, .int x1, .int x2, .int x3, .int x4, .int x5, .int x6, .ref b] (sl_B Γ g)) (sl_Qv Γ (fun (_ : Unit) => True) (fun _ => sl_up g ke (a, .inr (1, [.int x1, .int x2, .int x3, .int x4, .int x5, .int x6, .ref b, .int 0])))) 0 0 (sl_A Γ) := by
  refine sl_ent (by decide) (Nat.le_of_ble_eq_true rfl) ?_
  intro p e s m below meth c ls hC hr hin hG hl
  have hx := hC.1
  have hb := hC.2.1
  have hl : lv_has ls 8 [(0, .ref a), (1, .int x1), (2, .int x2), (3, .int x3), (4, .int x4), (5, .int x5), (6, .int x6), (7, .ref b)] := hl
  refine lv_aload_n hx hb dX1_init_0 rfl (lv_at hl 0 rfl) ?_
  refine W.objInit hx hb hC.2.2.2.1 (sl_tab hC lk_RX1_1 rfl) (sl_tab hC oi_inst rfl) (sl_tab hC oi_code rfl) rfl (hl.1.trans hC.2.2.1.symm) rfl dX1_init_1 (Nat.le_of_ble_eq_true rfl) (Nat.le_of_ble_eq_true rfl) ?_
  refine W.eq (g2 := F0 m 4 ls []) rfl ?_
  refine lv_aload_n hx hb dX1_init_4 rfl (lv_at hl 0 rfl) ?_
  refine lv_iconst (v := 0) hx hb dX1_init_5 (by decide) ?_
  refine sl_put (C := RX1) (T := TX1) (N := 8) (ty := .int) (v := .int 0) hC hG ke he rfl la_1 tyX1 tyX1_ok nmX1 7 (by decide) lk_RX1_7 rfl rfl (by decide +kernel) rfl rfl (Nat.le_of_ble_eq_true rfl) dX1_init_6 (fun H locs hG => ?_)
  have hG : sl_I Γ (sl_up g ke (a, .inr (1, [.int 0, .int 0, .int 0, .int 0, .int 0, .int 0, .null, .int 0]))) s H _ := hG
  refine lv_aload_n hx hb dX1_init_9 rfl (lv_at hl 0 rfl) ?_
  refine lv_iload_n hx hb dX1_init_10 rfl (lv_at hl 1 rfl) ?_
  refine sl_putF (C := RX1) (T := TX1) (N := 8) (ty := .int) (v := .int x1) hC hG ke (sl_up_s _ _ _) rfl la_1 tyX1 tyX1_ok nmX1 0 (by decide) lk_RX1_13 rfl rfl hin rfl (by decide +kernel) rfl rfl (Nat.le_of_ble_eq_true rfl) dX1_init_11 (fun H locs hG => ?_)
  rw [sl_up_up] at hG
  have hG : sl_I Γ (sl_up g ke (a, .inr (1, [.int x1, .int 0, .int 0, .int 0, .int 0, .int 0, .null, .int 0]))) s H _ := hG
  refine lv_aload_n hx hb dX1_init_14 rfl (lv_at hl 0 rfl) ?_
  refine lv_iload_n hx hb dX1_init_15 rfl (lv_at hl 2 rfl) ?_
  refine sl_putF (C := RX1) (T := TX1) (N := 8) (ty := .int) (v := .int x2) hC hG ke (sl_up_s _ _ _) rfl la_1 tyX1 tyX1_ok nmX1 1 (by decide) lk_RX1_16 rfl rfl hin rfl (by decide +kernel) rfl rfl (Nat.le_of_ble_eq_true rfl) dX1_init_16 (fun H locs hG => ?_)
  rw [sl_up_up] at hG
  have hG : sl_I Γ (sl_up g ke (a, .inr (1, [.int x1, .int x2, .int 0, .int 0, .int 0, .int 0, .null, .int 0]))) s H _ := hG
  refine lv_aload_n hx hb dX1_init_19 rfl (lv_at hl 0 rfl) ?_
  refine lv_iload_n hx hb dX1_init_20 rfl (lv_at hl 3 rfl) ?_
  refine sl_putF (C := RX1) (T := TX1) (N := 8) (ty := .int) (v := .int x3) hC hG ke (sl_up_s _ _ _) rfl la_1 tyX1 tyX1_ok nmX1 2 (by decide) lk_RX1_19 rfl rfl hin rfl (by decide +kernel) rfl rfl (Nat.le_of_ble_eq_true rfl) dX1_init_21 (fun H locs hG => ?_)
  rw [sl_up_up] at hG
  have hG : sl_I Γ (sl_up g ke (a, .inr (1, [.int x1, .int x2, .int x3, .int 0, .int 0, .int 0, .null, .int 0]))) s H _ := hG
  refine lv_aload_n hx hb dX1_init_24 rfl (lv_at hl 0 rfl) ?_
  refine lv_iload hx hb dX1_init_25 (lv_at hl 4 rfl) ?_
  refine sl_putF (C := RX1) (T := TX1) (N := 8) (ty := .int) (v := .int x4) hC hG ke (sl_up_s _ _ _) rfl la_1 tyX1 tyX1_ok nmX1 3 (by decide) lk_RX1_22 rfl rfl hin rfl (by decide +kernel) rfl rfl (Nat.le_of_ble_eq_true rfl) dX1_init_27 (fun H locs hG => ?_)
  rw [sl_up_up] at hG
  have hG : sl_I Γ (sl_up g ke (a, .inr (1, [.int x1, .int x2, .int x3, .int x4, .int 0, .int 0, .null, .int 0]))) s H _ := hG
  refine lv_aload_n hx hb dX1_init_30 rfl (lv_at hl 0 rfl) ?_
  refine lv_iload hx hb dX1_init_31 (lv_at hl 5 rfl) ?_
  refine sl_putF (C := RX1) (T := TX1) (N := 8) (ty := .int) (v := .int x5) hC hG ke (sl_up_s _ _ _) rfl la_1 tyX1 tyX1_ok nmX1 4 (by decide) lk_RX1_25 rfl rfl hin rfl (by decide +kernel) rfl rfl (Nat.le_of_ble_eq_true rfl) dX1_init_33 (fun H locs hG => ?_)
  rw [sl_up_up] at hG
  have hG : sl_I Γ (sl_up g ke (a, .inr (1, [.int x1, .int x2, .int x3, .int x4, .int x5, .int 0, .null, .int 0]))) s H _ := hG
  refine lv_aload_n hx hb dX1_init_36 rfl (lv_at hl 0 rfl) ?_
  refine lv_iload hx hb dX1_init_37 (lv_at hl 6 rfl) ?_
  refine sl_putF (C := RX1) (T := TX1) (N := 8) (ty := .int) (v := .int x6) hC hG ke (sl_up_s _ _ _) rfl la_1 tyX1 tyX1_ok nmX1 5 (by decide) lk_RX1_28 rfl rfl hin rfl (by decide +kernel) rfl rfl (Nat.le_of_ble_eq_true rfl) dX1_init_39 (fun H locs hG => ?_)
  rw [sl_up_up] at hG
  have hG : sl_I Γ (sl_up g ke (a, .inr (1, [.int x1, .int x2, .int x3, .int x4, .int x5, .int x6, .null, .int 0]))) s H _ := hG
  refine lv_aload_n hx hb dX1_init_42 rfl (lv_at hl 0 rfl) ?_
  refine lv_aload hx hb dX1_init_43 (lv_at hl 7 rfl) ?_
  refine sl_putF (C := RX1) (T := TX1) (N := 8) (ty := .object "SharedLog$Trail") (v := .ref b) hC hG ke (sl_up_s _ _ _) rfl la_1 tyX1 tyX1_ok nmX1 6 (by decide) lk_RX1_31 rfl rfl hin rfl (by decide +kernel) rfl rfl (Nat.le_of_ble_eq_true rfl) dX1_init_45 (fun H locs hG => ?_)
  rw [sl_up_up] at hG
  have hG : sl_I Γ (sl_up g ke (a, .inr (1, [.int x1, .int x2, .int x3, .int x4, .int x5, .int x6, .ref b, .int 0]))) s H _ := hG
  exact sl_rv hC hr hG () trivial rfl (Nat.le_of_ble_eq_true rfl) (Nat.le_of_ble_eq_true rfl) dX1_init_48
set_option maxHeartbeats 4000000 in
set_option maxRecDepth 100000 in
theorem kX2_init (l : Launch) (Γ : sl_G) (g : sl_W) (a6 : Nat) (h6 : g 6 = some (a6, .inr (2, [.null, .null, .int 0]))) (h7 : g 7 = none) (h8 : g 8 = none) : Met l yX2_init [Cond.code yX2_init cX2_init 1 none] ({ frames := 1, cells := 2, slots := 124, locals := 20 } : Room) (va_Pc [.ref a6] (sl_B Γ g)) (sl_Qv Γ (fun (_ : Nat × Nat) => True) (fun u => sl_up (sl_up (sl_up g 6 (a6, .inr (2, [.ref u.1, .ref u.2, .int 0]))) 7 (u.1, .inl (Γ.2.1 1, 120, .inl (fun _ => 0)))) 8 (u.2, .inl (Γ.2.1 0, 4, .inl (fun _ => 0))))) 2 124 (sl_A Γ) := by
  refine sl_ent (by decide) (Nat.le_of_ble_eq_true rfl) ?_
  intro p e s m below meth c ls hC hr hin hG hl
  have hx := hC.1
  have hb := hC.2.1
  have hl : lv_has ls 1 [(0, .ref a6)] := hl
  refine lv_aload_n hx hb dX2_init_0 rfl (lv_at hl 0 rfl) ?_
  refine W.objInit hx hb hC.2.2.2.1 (sl_tab hC lk_RX2_3 rfl) (sl_tab hC oi_inst rfl) (sl_tab hC oi_code rfl) rfl (hl.1.trans hC.2.2.1.symm) rfl dX2_init_1 (Nat.le_of_ble_eq_true rfl) (Nat.le_of_ble_eq_true rfl) ?_
  refine W.eq (g2 := F0 m 4 ls []) rfl ?_
  refine lv_aload_n hx hb dX2_init_4 rfl (lv_at hl 0 rfl) ?_
  refine lv_bipush (v := 120) hx hb dX2_init_5 (by decide) ?_
  refine sl_newa (atype := .boolean) (ty := .boolean) (a0 := (120, .inl (fun _ => 0))) hC hG 7 1 h7 ac_boolean rfl rfl (fun _ => rfl) (by decide) (by decide) (Nat.le_of_ble_eq_true rfl) (Nat.le_of_ble_eq_true rfl) (Nat.le_of_ble_eq_true rfl) dX2_init_7 (fun q_7 H hG => ?_)
  have hG : sl_I Γ (sl_up g 7 (q_7, .inl (Γ.2.1 1, 120, .inl (fun _ => 0)))) s H _ := hG
  refine sl_putF (C := RX2) (T := TX2) (N := 3) (ty := .array .boolean) (v := .ref q_7) hC hG 6 (sl_up_to (by decide) h6) rfl la_2 tyX2 tyX2_ok nmX2 0 (by decide) lk_RX2_9 rfl rfl hin rfl (by decide +kernel) rfl rfl (Nat.le_of_ble_eq_true rfl) dX2_init_9 (fun H locs hG => ?_)
  have hG : sl_I Γ (sl_up (sl_up g 7 (q_7, .inl (Γ.2.1 1, 120, .inl (fun _ => 0)))) 6 (a6, .inr (2, [.ref q_7, .null, .int 0]))) s H _ := hG
  refine lv_aload_n hx hb dX2_init_12 rfl (lv_at hl 0 rfl) ?_
  refine lv_iconst (v := 4) hx hb dX2_init_13 (by decide) ?_
  refine sl_newa (atype := .int) (ty := .int) (a0 := (4, .inl (fun _ => 0))) hC hG 8 0 (sl_up_to (by decide) (sl_up_to (by decide) h8)) ac_int rfl rfl (fun _ => rfl) (by decide) (by decide) (Nat.le_of_ble_eq_true rfl) (Nat.le_of_ble_eq_true rfl) (Nat.le_of_ble_eq_true rfl) dX2_init_14 (fun q_14 H hG => ?_)
  have hG : sl_I Γ (sl_up (sl_up (sl_up g 7 (q_7, .inl (Γ.2.1 1, 120, .inl (fun _ => 0)))) 6 (a6, .inr (2, [.ref q_7, .null, .int 0]))) 8 (q_14, .inl (Γ.2.1 0, 4, .inl (fun _ => 0)))) s H _ := hG
  refine sl_putF (C := RX2) (T := TX2) (N := 3) (ty := .array .int) (v := .ref q_14) hC hG 6 (sl_up_to (by decide) (sl_up_s _ _ _)) rfl la_2 tyX2 tyX2_ok nmX2 1 (by decide) lk_RX2_15 rfl rfl hin rfl (by decide +kernel) rfl rfl (Nat.le_of_ble_eq_true rfl) dX2_init_16 (fun H locs hG => ?_)
  have hG : sl_I Γ (sl_up (sl_up (sl_up (sl_up g 7 (q_7, .inl (Γ.2.1 1, 120, .inl (fun _ => 0)))) 6 (a6, .inr (2, [.ref q_7, .null, .int 0]))) 8 (q_14, .inl (Γ.2.1 0, 4, .inl (fun _ => 0)))) 6 (a6, .inr (2, [.ref q_7, .ref q_14, .int 0]))) s H _ := hG
  refine lv_aload_n hx hb dX2_init_19 rfl (lv_at hl 0 rfl) ?_
  refine lv_iconst (v := 0) hx hb dX2_init_20 (by decide) ?_
  refine sl_put (C := RX2) (T := TX2) (N := 3) (ty := .int) (v := .int 0) hC hG 6 (sl_up_s _ _ _) rfl la_2 tyX2 tyX2_ok nmX2 2 (by decide) lk_RX2_19 rfl rfl (by decide +kernel) rfl rfl (Nat.le_of_ble_eq_true rfl) dX2_init_21 (fun H locs hG => ?_)
  rw [sl_up_up] at hG
  have hG : sl_I Γ (sl_up (sl_up (sl_up (sl_up g 7 (q_7, .inl (Γ.2.1 1, 120, .inl (fun _ => 0)))) 6 (a6, .inr (2, [.ref q_7, .null, .int 0]))) 8 (q_14, .inl (Γ.2.1 0, 4, .inl (fun _ => 0)))) 6 (a6, .inr (2, [.ref q_7, .ref q_14, .int 0]))) s H _ := hG
  exact sl_rv hC hr hG (q_7, q_14) trivial (by funext j; by_cases e6 : j = 6 <;> by_cases e7 : j = 7 <;> by_cases e8 : j = 8 <;> simp [sl_up, e6, e7, e8]) (Nat.le_of_ble_eq_true rfl) (Nat.le_of_ble_eq_true rfl) dX2_init_24
set_option maxHeartbeats 4000000 in
set_option maxRecDepth 100000 in
theorem kX3_copyFor (l : Launch) (Γ : sl_G) (g : sl_W) (kn kna : Nat) (kt ka a b : Nat) (T : Nat → Int32) (ht : g kt = some (a, .inr (3, [.ref b]))) (ha : g ka = some (b, .inl (Γ.2.1 0, 16, .inl T))) (hn : g kn = none) (hna : g kna = none) (hne : kn ≠ kna) (hne2 : kt ≠ ka) (ss : Int32) : Met l yX3_copyFor [Cond.code yX3_copyFor cX3_copyFor 5 (some (.object "SharedLog$Trail"))] ({ frames := 2, cells := 2, slots := 17, locals := 43 } : Room) (va_Pc [.ref a, .int ss] (sl_B Γ g)) (sl_Qq Γ (fun (r : Option Nat) (u : Nat × Nat) => r = some u.1) (fun u => sl_up (sl_up g kn (u.1, .inr (3, [.ref u.2]))) kna (u.2, .inl (Γ.2.1 0, 16, .inl (sl_tc T ss 4))))) 2 17 (sl_A Γ) := by
  refine sl_ent (by decide) (Nat.le_of_ble_eq_true rfl) ?_
  intro p e s m below meth c ls hC hr hin hG hl
  have hx := hC.1
  have hb := hC.2.1
  have hl : lv_has ls 5 [(0, .ref a), (1, .int ss)] := hl
  have hd1 := sl_ne_none ht hn
  have hd2 := sl_ne_none ht hna
  have hd3 := sl_ne_none ha hn
  have hd4 := sl_ne_none ha hna
  refine sl_new (ci := 3) hC hG kn hn (C := RX3) (T := TX3) (N := 1) (fs := [.null]) rfl la_3 tyX3 tyX3_ok (sl_f3) lk_RX3_10 in_RX3 ini_RX3 (Nat.le_of_ble_eq_true rfl) (Nat.le_of_ble_eq_true rfl) dX3_copyFor_0 (fun q_0 H hG => ?_)
  have hG : sl_I Γ (sl_up g kn (q_0, .inr (3, [.null]))) s H _ := hG
  refine lv_dup hx hb dX3_copyFor_3 rfl ?_
  refine sl_callv (sl_runI (As := []) (rest := [.ref q_0]) hC hG (kX3_init l Γ (sl_up g kn (q_0, .inr (3, [.null]))) kn kna q_0 (sl_up_s _ _ _) (sl_up_to (by omega) hna) (by omega)) mi_X3_init lk_RX3_40 rfl rfl ⟨Nat.le_of_ble_eq_true rfl, Nat.le_of_ble_eq_true rfl⟩ rfl hl.1 rfl (Nat.le_of_ble_eq_true rfl) dX3_copyFor_4 ⟨Nat.le_of_ble_eq_true rfl, Nat.le_of_ble_eq_true rfl⟩) hG (fun u_4 H locs hr_4 hG => ?_)
  rw [sl_up_up] at hG
  have hG : sl_I Γ (sl_up (sl_up g kn (q_0, .inr (3, [.ref u_4]))) kna (u_4, .inl (Γ.2.1 0, 16, .inl (fun _ => (-1))))) s H _ := hG
  refine lv_astore_n (lv' := [(2, .ref q_0), (0, .ref a), (1, .int ss)]) hx hb dX3_copyFor_7 rfl hl (by decide) rfl (fun ls hl => ?_)
  refine lv_iconst (v := 0) hx hb dX3_copyFor_8 (by decide) ?_
  refine lv_istore_n (lv' := [(3, .int 0), (2, .ref q_0), (0, .ref a), (1, .int ss)]) hx hb dX3_copyFor_9 rfl hl (by decide) rfl (fun ls hl => ?_)
  have loop_10 : ∀ (n k : Nat), k ≤ 4 → 4 + 1 ≤ k + n → ∀ (H : Heap) (locs : List Loc), sl_I Γ (sl_up (sl_up g kn (q_0, .inr (3, [.ref u_4]))) kna (u_4, .inl (Γ.2.1 0, 16, .inl (sl_tc T ss k)))) s H locs → ∀ (ls : Array Slot), lv_has ls 5 [(0, .ref a), (1, .int ss), (2, .ref q_0), (3, .int (nI k))] → W p l e ({ frames := 2, cells := 2, slots := 17, locals := 43 } : Room) s m ([.ref a, .int ss] : List Value).toArray below meth c H locs 2 17 (MQ below (sl_Qq Γ (fun (r : Option Nat) (u : Nat × Nat) => r = some u.1) (fun u => sl_up (sl_up g kn (u.1, .inr (3, [.ref u.2]))) kna (u.2, .inl (Γ.2.1 0, 16, .inl (sl_tc T ss 4))))) ([.ref a, .int ss] : List Value).toArray s 2 17 (sl_A Γ)) (F0 m 10 ls []) := by
    intro n
    induction n with
    | zero =>
      intro k  h1 h2
      exact absurd h2 (by omega)
    | succ n ih_10 =>
      intro k  hk_10 hn_10  H locs hG ls hl
      refine lv_iload_n hx hb dX3_copyFor_10 rfl (lv_at hl 3 rfl) ?_
      refine lv_iconst (v := 4) hx hb dX3_copyFor_11 (by decide) ?_
      refine lv_icmp_ge (tgt := 58) hx hb dX3_copyFor_12 (by decide) (fun c_12 => ?_) (fun c_12 => ?_)
      · have n_12 : 4 ≤ k := (nI_leI (a := 4) (b := k) (by omega) (by omega)).mp c_12
        refine lv_aload_n hx hb dX3_copyFor_58 rfl (lv_at hl 2 rfl) ?_
        have hk9 : k = 4 := by omega
        subst hk9
        exact sl_rq (v := some q_0) hC hr hG (q_0, u_4) rfl rfl (Nat.le_of_ble_eq_true rfl) (Nat.le_of_ble_eq_true rfl) dX3_copyFor_59
      · have n_12 : ¬ (4 ≤ k) := fun z => c_12 ((nI_leI (a := 4) (b := k) (by omega) (by omega)).mpr z)
        refine lv_iload_n hx hb dX3_copyFor_15 rfl (lv_at hl 3 rfl) ?_
        refine lv_iload_n hx hb dX3_copyFor_16 rfl (lv_at hl 1 rfl) ?_
        refine sl_calli (sl_runSN (As := [.int (nI k), .int ss]) (rest := []) hC hG (kX4_isIn l Γ (sl_up (sl_up g kn (q_0, .inr (3, [.ref u_4]))) kna (u_4, .inl (Γ.2.1 0, 16, .inl (sl_tc T ss k)))) (nI k) ss) mi_X4_isIn lk_RX3_28 rfl rfl ⟨Nat.le_of_ble_eq_true rfl, Nat.le_of_ble_eq_true rfl⟩ rfl hl.1 rfl (Nat.le_of_ble_eq_true rfl) dX3_copyFor_17 ⟨Nat.le_of_ble_eq_true rfl, Nat.le_of_ble_eq_true rfl⟩) hG (fun r_17 u_17 H locs hr_17 hG => ?_)
        subst hr_17
        refine lv_if_eq (tgt := 52) hx hb dX3_copyFor_20 (by decide) (fun c_20 => ?_) (fun c_20 => ?_)
        · have c_20 := sl_bF c_20
          refine lv_iinc (v := nI (k + 1)) (lv' := [(3, .int (nI (k + 1))), (0, .ref a), (1, .int ss), (2, .ref q_0)]) hx hb dX3_copyFor_52 hl (k := 3) rfl (nI_1 k) (by decide) rfl (fun ls hl => ?_)
          refine lv_goto (tgt := 10) hx hb dX3_copyFor_55 (by decide) ?_
          rw [sl_tc_s0 (T := T) (ss := ss) c_20] at hG
          exact ih_10 (k + 1) (by omega) (by omega) _ _ hG _ (lv_sub hl [1, 2, 3, 0] rfl)
        · have c_20 := sl_bT c_20
          refine lv_iconst (v := 0) hx hb dX3_copyFor_23 (by decide) ?_
          refine lv_istore (lv' := [(4, .int 0), (0, .ref a), (1, .int ss), (2, .ref q_0), (3, .int (nI k))]) hx hb dX3_copyFor_24 hl (by decide) rfl (fun ls hl => ?_)
          refine lv_iload hx hb dX3_copyFor_26 (lv_at hl 0 rfl) ?_
          refine lv_iconst (v := 4) hx hb dX3_copyFor_28 (by decide) ?_
          refine lv_icmp_ge (tgt := 52) hx hb dX3_copyFor_29 (by decide) (fun c_29 => ?_) (fun c_29 => ?_)
          · exact absurd c_29 (by decide)
          · refine lv_aload_n hx hb dX3_copyFor_32 rfl (lv_at hl 3 rfl) ?_
            refine lv_iload_n hx hb dX3_copyFor_33 rfl (lv_at hl 4 rfl) ?_
            refine lv_iload hx hb dX3_copyFor_34 (lv_at hl 0 rfl) ?_
            refine lv_aload_n hx hb dX3_copyFor_36 rfl (lv_at hl 1 rfl) ?_
            refine lv_iload_n hx hb dX3_copyFor_37 rfl (lv_at hl 4 rfl) ?_
            refine lv_iload hx hb dX3_copyFor_38 (lv_at hl 0 rfl) ?_
            refine sl_calli (sl_runV (As := [.int (nI k), .int 0]) (rest := [.int 0, .int (nI k), .ref q_0]) hC hG (kX3_get l Γ (sl_up (sl_up g kn (q_0, .inr (3, [.ref u_4]))) kna (u_4, .inl (Γ.2.1 0, 16, .inl (sl_tc T ss k)))) kt ka a b T (sl_up_to (by omega) (sl_up_to (by omega) ht)) (sl_up_to (by omega) (sl_up_to (by omega) ha)) (nI k) 0) mi_X3_get lk_RX3_32 kt (sl_up_to (by omega) (sl_up_to (by omega) ht)) rfl rfl rfl ⟨Nat.le_of_ble_eq_true rfl, Nat.le_of_ble_eq_true rfl⟩ rfl hl.1 rfl (Nat.le_of_ble_eq_true rfl) dX3_copyFor_40 ⟨Nat.le_of_ble_eq_true rfl, Nat.le_of_ble_eq_true rfl⟩) hG (fun r_40 u_40 H locs hr_40 hG => ?_)
            subst hr_40
            refine sl_topi (y := T (4 * k + 0)) (sl_tgN T (a := k) (b := 0) (by omega) (by omega)) ?_
            refine sl_callv (sl_runV (As := [.int (nI k), .int 0, .int (T (4 * k + 0))]) (rest := []) hC hG (kX3_set l Γ (sl_up (sl_up g kn (q_0, .inr (3, [.ref u_4]))) kna (u_4, .inl (Γ.2.1 0, 16, .inl (sl_tc T ss k)))) kn kna q_0 u_4 (sl_tc T ss k) (sl_up_to (by omega) (sl_up_s _ _ _)) (sl_up_s _ _ _) (nI k) 0 (T (4 * k + 0))) mi_X3_set lk_RX3_36 kn (sl_up_to (by omega) (sl_up_s _ _ _)) rfl rfl rfl ⟨Nat.le_of_ble_eq_true rfl, Nat.le_of_ble_eq_true rfl⟩ rfl hl.1 rfl (Nat.le_of_ble_eq_true rfl) dX3_copyFor_43 ⟨Nat.le_of_ble_eq_true rfl, Nat.le_of_ble_eq_true rfl⟩) hG (fun u_43 H locs hr_43 hG => ?_)
            have hG : sl_I Γ (sl_up (sl_up (sl_up g kn (q_0, .inr (3, [.ref u_4]))) kna (u_4, .inl (Γ.2.1 0, 16, .inl (sl_tc T ss k)))) kna (u_4, .inl (Γ.2.1 0, 16, .inl (sl_ts (sl_tc T ss k) (nI k) 0 (T (4 * k + 0)))))) s H _ := hG
            rw [show sl_ts (sl_tc T ss k) (nI k) 0 (T (4 * k + 0)) = upd (sl_tc T ss k) (4 * k + 0) (T (4 * k + 0)) from sl_tsN (sl_tc T ss k) (a := k) (b := 0) (T (4 * k + 0)) (by omega) (by omega)] at hG
            refine lv_iinc (v := 1) (lv' := [(4, .int 1), (0, .ref a), (1, .int ss), (2, .ref q_0), (3, .int (nI k))]) hx hb dX3_copyFor_46 hl (k := 0) rfl (by decide) (by decide) rfl (fun ls hl => ?_)
            refine lv_goto (tgt := 26) hx hb dX3_copyFor_49 (by decide) ?_
            refine lv_iload hx hb dX3_copyFor_26 (lv_at hl 0 rfl) ?_
            refine lv_iconst (v := 4) hx hb dX3_copyFor_28 (by decide) ?_
            refine lv_icmp_ge (tgt := 52) hx hb dX3_copyFor_29 (by decide) (fun c_29 => ?_) (fun c_29 => ?_)
            · exact absurd c_29 (by decide)
            · refine lv_aload_n hx hb dX3_copyFor_32 rfl (lv_at hl 3 rfl) ?_
              refine lv_iload_n hx hb dX3_copyFor_33 rfl (lv_at hl 4 rfl) ?_
              refine lv_iload hx hb dX3_copyFor_34 (lv_at hl 0 rfl) ?_
              refine lv_aload_n hx hb dX3_copyFor_36 rfl (lv_at hl 1 rfl) ?_
              refine lv_iload_n hx hb dX3_copyFor_37 rfl (lv_at hl 4 rfl) ?_
              refine lv_iload hx hb dX3_copyFor_38 (lv_at hl 0 rfl) ?_
              refine sl_calli (sl_runV (As := [.int (nI k), .int 1]) (rest := [.int 1, .int (nI k), .ref q_0]) hC hG (kX3_get l Γ (sl_up (sl_up (sl_up g kn (q_0, .inr (3, [.ref u_4]))) kna (u_4, .inl (Γ.2.1 0, 16, .inl (sl_tc T ss k)))) kna (u_4, .inl (Γ.2.1 0, 16, .inl (upd (sl_tc T ss k) (4 * k + 0) (T (4 * k + 0)))))) kt ka a b T (sl_up_to (by omega) (sl_up_to (by omega) (sl_up_to (by omega) ht))) (sl_up_to (by omega) (sl_up_to (by omega) (sl_up_to (by omega) ha))) (nI k) 1) mi_X3_get lk_RX3_32 kt (sl_up_to (by omega) (sl_up_to (by omega) (sl_up_to (by omega) ht))) rfl rfl rfl ⟨Nat.le_of_ble_eq_true rfl, Nat.le_of_ble_eq_true rfl⟩ rfl hl.1 rfl (Nat.le_of_ble_eq_true rfl) dX3_copyFor_40 ⟨Nat.le_of_ble_eq_true rfl, Nat.le_of_ble_eq_true rfl⟩) hG (fun r_40 u_40 H locs hr_40 hG => ?_)
              subst hr_40
              refine sl_topi (y := T (4 * k + 1)) (sl_tgN T (a := k) (b := 1) (by omega) (by omega)) ?_
              refine sl_callv (sl_runV (As := [.int (nI k), .int 1, .int (T (4 * k + 1))]) (rest := []) hC hG (kX3_set l Γ (sl_up (sl_up (sl_up g kn (q_0, .inr (3, [.ref u_4]))) kna (u_4, .inl (Γ.2.1 0, 16, .inl (sl_tc T ss k)))) kna (u_4, .inl (Γ.2.1 0, 16, .inl (upd (sl_tc T ss k) (4 * k + 0) (T (4 * k + 0)))))) kn kna q_0 u_4 (upd (sl_tc T ss k) (4 * k + 0) (T (4 * k + 0))) (sl_up_to (by omega) (sl_up_to (by omega) (sl_up_s _ _ _))) (sl_up_s _ _ _) (nI k) 1 (T (4 * k + 1))) mi_X3_set lk_RX3_36 kn (sl_up_to (by omega) (sl_up_to (by omega) (sl_up_s _ _ _))) rfl rfl rfl ⟨Nat.le_of_ble_eq_true rfl, Nat.le_of_ble_eq_true rfl⟩ rfl hl.1 rfl (Nat.le_of_ble_eq_true rfl) dX3_copyFor_43 ⟨Nat.le_of_ble_eq_true rfl, Nat.le_of_ble_eq_true rfl⟩) hG (fun u_43 H locs hr_43 hG => ?_)
              rw [sl_up_up] at hG
              have hG : sl_I Γ (sl_up (sl_up (sl_up g kn (q_0, .inr (3, [.ref u_4]))) kna (u_4, .inl (Γ.2.1 0, 16, .inl (sl_tc T ss k)))) kna (u_4, .inl (Γ.2.1 0, 16, .inl (sl_ts (upd (sl_tc T ss k) (4 * k + 0) (T (4 * k + 0))) (nI k) 1 (T (4 * k + 1)))))) s H _ := hG
              rw [show sl_ts (upd (sl_tc T ss k) (4 * k + 0) (T (4 * k + 0))) (nI k) 1 (T (4 * k + 1)) = upd (upd (sl_tc T ss k) (4 * k + 0) (T (4 * k + 0))) (4 * k + 1) (T (4 * k + 1)) from sl_tsN (upd (sl_tc T ss k) (4 * k + 0) (T (4 * k + 0))) (a := k) (b := 1) (T (4 * k + 1)) (by omega) (by omega)] at hG
              refine lv_iinc (v := 2) (lv' := [(4, .int 2), (0, .ref a), (1, .int ss), (2, .ref q_0), (3, .int (nI k))]) hx hb dX3_copyFor_46 hl (k := 0) rfl (by decide) (by decide) rfl (fun ls hl => ?_)
              refine lv_goto (tgt := 26) hx hb dX3_copyFor_49 (by decide) ?_
              refine lv_iload hx hb dX3_copyFor_26 (lv_at hl 0 rfl) ?_
              refine lv_iconst (v := 4) hx hb dX3_copyFor_28 (by decide) ?_
              refine lv_icmp_ge (tgt := 52) hx hb dX3_copyFor_29 (by decide) (fun c_29 => ?_) (fun c_29 => ?_)
              · exact absurd c_29 (by decide)
              · refine lv_aload_n hx hb dX3_copyFor_32 rfl (lv_at hl 3 rfl) ?_
                refine lv_iload_n hx hb dX3_copyFor_33 rfl (lv_at hl 4 rfl) ?_
                refine lv_iload hx hb dX3_copyFor_34 (lv_at hl 0 rfl) ?_
                refine lv_aload_n hx hb dX3_copyFor_36 rfl (lv_at hl 1 rfl) ?_
                refine lv_iload_n hx hb dX3_copyFor_37 rfl (lv_at hl 4 rfl) ?_
                refine lv_iload hx hb dX3_copyFor_38 (lv_at hl 0 rfl) ?_
                refine sl_calli (sl_runV (As := [.int (nI k), .int 2]) (rest := [.int 2, .int (nI k), .ref q_0]) hC hG (kX3_get l Γ (sl_up (sl_up (sl_up g kn (q_0, .inr (3, [.ref u_4]))) kna (u_4, .inl (Γ.2.1 0, 16, .inl (sl_tc T ss k)))) kna (u_4, .inl (Γ.2.1 0, 16, .inl (upd (upd (sl_tc T ss k) (4 * k + 0) (T (4 * k + 0))) (4 * k + 1) (T (4 * k + 1)))))) kt ka a b T (sl_up_to (by omega) (sl_up_to (by omega) (sl_up_to (by omega) ht))) (sl_up_to (by omega) (sl_up_to (by omega) (sl_up_to (by omega) ha))) (nI k) 2) mi_X3_get lk_RX3_32 kt (sl_up_to (by omega) (sl_up_to (by omega) (sl_up_to (by omega) ht))) rfl rfl rfl ⟨Nat.le_of_ble_eq_true rfl, Nat.le_of_ble_eq_true rfl⟩ rfl hl.1 rfl (Nat.le_of_ble_eq_true rfl) dX3_copyFor_40 ⟨Nat.le_of_ble_eq_true rfl, Nat.le_of_ble_eq_true rfl⟩) hG (fun r_40 u_40 H locs hr_40 hG => ?_)
                subst hr_40
                refine sl_topi (y := T (4 * k + 2)) (sl_tgN T (a := k) (b := 2) (by omega) (by omega)) ?_
                refine sl_callv (sl_runV (As := [.int (nI k), .int 2, .int (T (4 * k + 2))]) (rest := []) hC hG (kX3_set l Γ (sl_up (sl_up (sl_up g kn (q_0, .inr (3, [.ref u_4]))) kna (u_4, .inl (Γ.2.1 0, 16, .inl (sl_tc T ss k)))) kna (u_4, .inl (Γ.2.1 0, 16, .inl (upd (upd (sl_tc T ss k) (4 * k + 0) (T (4 * k + 0))) (4 * k + 1) (T (4 * k + 1)))))) kn kna q_0 u_4 (upd (upd (sl_tc T ss k) (4 * k + 0) (T (4 * k + 0))) (4 * k + 1) (T (4 * k + 1))) (sl_up_to (by omega) (sl_up_to (by omega) (sl_up_s _ _ _))) (sl_up_s _ _ _) (nI k) 2 (T (4 * k + 2))) mi_X3_set lk_RX3_36 kn (sl_up_to (by omega) (sl_up_to (by omega) (sl_up_s _ _ _))) rfl rfl rfl ⟨Nat.le_of_ble_eq_true rfl, Nat.le_of_ble_eq_true rfl⟩ rfl hl.1 rfl (Nat.le_of_ble_eq_true rfl) dX3_copyFor_43 ⟨Nat.le_of_ble_eq_true rfl, Nat.le_of_ble_eq_true rfl⟩) hG (fun u_43 H locs hr_43 hG => ?_)
                rw [sl_up_up] at hG
                have hG : sl_I Γ (sl_up (sl_up (sl_up g kn (q_0, .inr (3, [.ref u_4]))) kna (u_4, .inl (Γ.2.1 0, 16, .inl (sl_tc T ss k)))) kna (u_4, .inl (Γ.2.1 0, 16, .inl (sl_ts (upd (upd (sl_tc T ss k) (4 * k + 0) (T (4 * k + 0))) (4 * k + 1) (T (4 * k + 1))) (nI k) 2 (T (4 * k + 2)))))) s H _ := hG
                rw [show sl_ts (upd (upd (sl_tc T ss k) (4 * k + 0) (T (4 * k + 0))) (4 * k + 1) (T (4 * k + 1))) (nI k) 2 (T (4 * k + 2)) = upd (upd (upd (sl_tc T ss k) (4 * k + 0) (T (4 * k + 0))) (4 * k + 1) (T (4 * k + 1))) (4 * k + 2) (T (4 * k + 2)) from sl_tsN (upd (upd (sl_tc T ss k) (4 * k + 0) (T (4 * k + 0))) (4 * k + 1) (T (4 * k + 1))) (a := k) (b := 2) (T (4 * k + 2)) (by omega) (by omega)] at hG
                refine lv_iinc (v := 3) (lv' := [(4, .int 3), (0, .ref a), (1, .int ss), (2, .ref q_0), (3, .int (nI k))]) hx hb dX3_copyFor_46 hl (k := 0) rfl (by decide) (by decide) rfl (fun ls hl => ?_)
                refine lv_goto (tgt := 26) hx hb dX3_copyFor_49 (by decide) ?_
                refine lv_iload hx hb dX3_copyFor_26 (lv_at hl 0 rfl) ?_
                refine lv_iconst (v := 4) hx hb dX3_copyFor_28 (by decide) ?_
                refine lv_icmp_ge (tgt := 52) hx hb dX3_copyFor_29 (by decide) (fun c_29 => ?_) (fun c_29 => ?_)
                · exact absurd c_29 (by decide)
                · refine lv_aload_n hx hb dX3_copyFor_32 rfl (lv_at hl 3 rfl) ?_
                  refine lv_iload_n hx hb dX3_copyFor_33 rfl (lv_at hl 4 rfl) ?_
                  refine lv_iload hx hb dX3_copyFor_34 (lv_at hl 0 rfl) ?_
                  refine lv_aload_n hx hb dX3_copyFor_36 rfl (lv_at hl 1 rfl) ?_
                  refine lv_iload_n hx hb dX3_copyFor_37 rfl (lv_at hl 4 rfl) ?_
                  refine lv_iload hx hb dX3_copyFor_38 (lv_at hl 0 rfl) ?_
                  refine sl_calli (sl_runV (As := [.int (nI k), .int 3]) (rest := [.int 3, .int (nI k), .ref q_0]) hC hG (kX3_get l Γ (sl_up (sl_up (sl_up g kn (q_0, .inr (3, [.ref u_4]))) kna (u_4, .inl (Γ.2.1 0, 16, .inl (sl_tc T ss k)))) kna (u_4, .inl (Γ.2.1 0, 16, .inl (upd (upd (upd (sl_tc T ss k) (4 * k + 0) (T (4 * k + 0))) (4 * k + 1) (T (4 * k + 1))) (4 * k + 2) (T (4 * k + 2)))))) kt ka a b T (sl_up_to (by omega) (sl_up_to (by omega) (sl_up_to (by omega) ht))) (sl_up_to (by omega) (sl_up_to (by omega) (sl_up_to (by omega) ha))) (nI k) 3) mi_X3_get lk_RX3_32 kt (sl_up_to (by omega) (sl_up_to (by omega) (sl_up_to (by omega) ht))) rfl rfl rfl ⟨Nat.le_of_ble_eq_true rfl, Nat.le_of_ble_eq_true rfl⟩ rfl hl.1 rfl (Nat.le_of_ble_eq_true rfl) dX3_copyFor_40 ⟨Nat.le_of_ble_eq_true rfl, Nat.le_of_ble_eq_true rfl⟩) hG (fun r_40 u_40 H locs hr_40 hG => ?_)
                  subst hr_40
                  refine sl_topi (y := T (4 * k + 3)) (sl_tgN T (a := k) (b := 3) (by omega) (by omega)) ?_
                  refine sl_callv (sl_runV (As := [.int (nI k), .int 3, .int (T (4 * k + 3))]) (rest := []) hC hG (kX3_set l Γ (sl_up (sl_up (sl_up g kn (q_0, .inr (3, [.ref u_4]))) kna (u_4, .inl (Γ.2.1 0, 16, .inl (sl_tc T ss k)))) kna (u_4, .inl (Γ.2.1 0, 16, .inl (upd (upd (upd (sl_tc T ss k) (4 * k + 0) (T (4 * k + 0))) (4 * k + 1) (T (4 * k + 1))) (4 * k + 2) (T (4 * k + 2)))))) kn kna q_0 u_4 (upd (upd (upd (sl_tc T ss k) (4 * k + 0) (T (4 * k + 0))) (4 * k + 1) (T (4 * k + 1))) (4 * k + 2) (T (4 * k + 2))) (sl_up_to (by omega) (sl_up_to (by omega) (sl_up_s _ _ _))) (sl_up_s _ _ _) (nI k) 3 (T (4 * k + 3))) mi_X3_set lk_RX3_36 kn (sl_up_to (by omega) (sl_up_to (by omega) (sl_up_s _ _ _))) rfl rfl rfl ⟨Nat.le_of_ble_eq_true rfl, Nat.le_of_ble_eq_true rfl⟩ rfl hl.1 rfl (Nat.le_of_ble_eq_true rfl) dX3_copyFor_43 ⟨Nat.le_of_ble_eq_true rfl, Nat.le_of_ble_eq_true rfl⟩) hG (fun u_43 H locs hr_43 hG => ?_)
                  rw [sl_up_up] at hG
                  have hG : sl_I Γ (sl_up (sl_up (sl_up g kn (q_0, .inr (3, [.ref u_4]))) kna (u_4, .inl (Γ.2.1 0, 16, .inl (sl_tc T ss k)))) kna (u_4, .inl (Γ.2.1 0, 16, .inl (sl_ts (upd (upd (upd (sl_tc T ss k) (4 * k + 0) (T (4 * k + 0))) (4 * k + 1) (T (4 * k + 1))) (4 * k + 2) (T (4 * k + 2))) (nI k) 3 (T (4 * k + 3)))))) s H _ := hG
                  rw [show sl_ts (upd (upd (upd (sl_tc T ss k) (4 * k + 0) (T (4 * k + 0))) (4 * k + 1) (T (4 * k + 1))) (4 * k + 2) (T (4 * k + 2))) (nI k) 3 (T (4 * k + 3)) = upd (upd (upd (upd (sl_tc T ss k) (4 * k + 0) (T (4 * k + 0))) (4 * k + 1) (T (4 * k + 1))) (4 * k + 2) (T (4 * k + 2))) (4 * k + 3) (T (4 * k + 3)) from sl_tsN (upd (upd (upd (sl_tc T ss k) (4 * k + 0) (T (4 * k + 0))) (4 * k + 1) (T (4 * k + 1))) (4 * k + 2) (T (4 * k + 2))) (a := k) (b := 3) (T (4 * k + 3)) (by omega) (by omega)] at hG
                  refine lv_iinc (v := 4) (lv' := [(4, .int 4), (0, .ref a), (1, .int ss), (2, .ref q_0), (3, .int (nI k))]) hx hb dX3_copyFor_46 hl (k := 0) rfl (by decide) (by decide) rfl (fun ls hl => ?_)
                  refine lv_goto (tgt := 26) hx hb dX3_copyFor_49 (by decide) ?_
                  refine lv_iload hx hb dX3_copyFor_26 (lv_at hl 0 rfl) ?_
                  refine lv_iconst (v := 4) hx hb dX3_copyFor_28 (by decide) ?_
                  refine lv_icmp_ge (tgt := 52) hx hb dX3_copyFor_29 (by decide) (fun c_29 => ?_) (fun c_29 => ?_)
                  · refine lv_iinc (v := nI (k + 1)) (lv' := [(3, .int (nI (k + 1))), (4, .int 4), (0, .ref a), (1, .int ss), (2, .ref q_0)]) hx hb dX3_copyFor_52 hl (k := 4) rfl (nI_1 k) (by decide) rfl (fun ls hl => ?_)
                    refine lv_goto (tgt := 10) hx hb dX3_copyFor_55 (by decide) ?_
                    rw [sl_up_up] at hG
                    rw [sl_tc_s1 (T := T) (ss := ss) c_20] at hG
                    exact ih_10 (k + 1) (by omega) (by omega) _ _ hG _ (lv_sub hl [2, 3, 4, 0] rfl)
                  · exact absurd c_29 (by decide)
  rw [sl_tc_0 T ss] at hG
  exact loop_10 (4 + 1) 0 (by omega) (by omega) _ _ hG _ (lv_sub hl [2, 3, 1, 0] rfl)

