/-! leaves -/
def sl_has (ss s : Int32) : Bool := decide ((ss >>> (s &&& 31)) &&& 1 = 1)
set_option maxHeartbeats 4000000 in
set_option maxRecDepth 100000 in
theorem kX4_isStream (l : Launch) (Γ : sl_G) (g : sl_W) (x : Int32) : Met l yX4_isStream [Cond.code yX4_isStream cX4_isStream 1 (some .boolean)] ({ frames := 0, cells := 0, slots := 0, locals := 0 } : Room) (va_Pc [.int x] (sl_B Γ g)) (sl_Qi Γ (fun r (_ : Unit) => r = sl_bi (sl_in x 0 3)) (fun _ => g)) 0 0 (sl_A Γ) := by
  refine sl_ent (by decide) (Nat.le_of_ble_eq_true rfl) ?_
  intro p e s m below meth c ls hC hr hin hG hl
  have hx := hC.1
  have hb := hC.2.1
  have hl : lv_has ls 1 [(0, .int x)] := hl
  refine lv_iload_n hx hb dX4_isStream_0 rfl (lv_at hl 0 rfl) ?_
  refine lv_if_lt (tgt := 13) hx hb dX4_isStream_1 (by decide) (fun c_1 => ?_) (fun c_1 => ?_)
  · refine lv_iconst (v := 0) hx hb dX4_isStream_13 (by decide) ?_
    exact sl_rz (v := 0) hC hr rfl hG () (by show _ = sl_bi (sl_in x 0 3); rw [sl_in_f (by simp only [sl_leI, sl_ltI, sl_i0, sl_i1, sl_i2, sl_i3, sl_i4, sl_i15, sl_i119, sl_i120, sl_i1000, sl_im1000] at *; omega)]; rfl) rfl (Nat.le_of_ble_eq_true rfl) (Nat.le_of_ble_eq_true rfl) dX4_isStream_14
  · refine lv_iload_n hx hb dX4_isStream_4 rfl (lv_at hl 0 rfl) ?_
    refine lv_iconst (v := 4) hx hb dX4_isStream_5 (by decide) ?_
    refine lv_icmp_ge (tgt := 13) hx hb dX4_isStream_6 (by decide) (fun c_6 => ?_) (fun c_6 => ?_)
    · refine lv_iconst (v := 0) hx hb dX4_isStream_13 (by decide) ?_
      exact sl_rz (v := 0) hC hr rfl hG () (by show _ = sl_bi (sl_in x 0 3); rw [sl_in_f (by simp only [sl_leI, sl_ltI, sl_i0, sl_i1, sl_i2, sl_i3, sl_i4, sl_i15, sl_i119, sl_i120, sl_i1000, sl_im1000] at *; omega)]; rfl) rfl (Nat.le_of_ble_eq_true rfl) (Nat.le_of_ble_eq_true rfl) dX4_isStream_14
    · refine lv_iconst (v := 1) hx hb dX4_isStream_9 (by decide) ?_
      refine lv_goto (tgt := 14) hx hb dX4_isStream_10 (by decide) ?_
      exact sl_rz (v := 1) hC hr rfl hG () (by show _ = sl_bi (sl_in x 0 3); rw [sl_in_t (by simp only [sl_leI, sl_ltI, sl_i0, sl_i1, sl_i2, sl_i3, sl_i4, sl_i15, sl_i119, sl_i120, sl_i1000, sl_im1000] at *; omega) (by simp only [sl_leI, sl_ltI, sl_i0, sl_i1, sl_i2, sl_i3, sl_i4, sl_i15, sl_i119, sl_i120, sl_i1000, sl_im1000] at *; omega)]; rfl) rfl (Nat.le_of_ble_eq_true rfl) (Nat.le_of_ble_eq_true rfl) dX4_isStream_14
set_option maxHeartbeats 4000000 in
set_option maxRecDepth 100000 in
theorem kX4_isSetOfStreams (l : Launch) (Γ : sl_G) (g : sl_W) (x : Int32) : Met l yX4_isSetOfStreams [Cond.code yX4_isSetOfStreams cX4_isSetOfStreams 1 (some .boolean)] ({ frames := 0, cells := 0, slots := 0, locals := 0 } : Room) (va_Pc [.int x] (sl_B Γ g)) (sl_Qi Γ (fun r (_ : Unit) => r = sl_bi (sl_in x 1 15)) (fun _ => g)) 0 0 (sl_A Γ) := by
  refine sl_ent (by decide) (Nat.le_of_ble_eq_true rfl) ?_
  intro p e s m below meth c ls hC hr hin hG hl
  have hx := hC.1
  have hb := hC.2.1
  have hl : lv_has ls 1 [(0, .int x)] := hl
  refine lv_iload_n hx hb dX4_isSetOfStreams_0 rfl (lv_at hl 0 rfl) ?_
  refine lv_iconst (v := 1) hx hb dX4_isSetOfStreams_1 (by decide) ?_
  refine lv_icmp_lt (tgt := 15) hx hb dX4_isSetOfStreams_2 (by decide) (fun c_2 => ?_) (fun c_2 => ?_)
  · refine lv_iconst (v := 0) hx hb dX4_isSetOfStreams_15 (by decide) ?_
    exact sl_rz (v := 0) hC hr rfl hG () (by show _ = sl_bi (sl_in x 1 15); rw [sl_in_f (by simp only [sl_leI, sl_ltI, sl_i0, sl_i1, sl_i2, sl_i3, sl_i4, sl_i15, sl_i119, sl_i120, sl_i1000, sl_im1000] at *; omega)]; rfl) rfl (Nat.le_of_ble_eq_true rfl) (Nat.le_of_ble_eq_true rfl) dX4_isSetOfStreams_16
  · refine lv_iload_n hx hb dX4_isSetOfStreams_5 rfl (lv_at hl 0 rfl) ?_
    refine lv_bipush (v := 15) hx hb dX4_isSetOfStreams_6 (by decide) ?_
    refine lv_icmp_gt (tgt := 15) hx hb dX4_isSetOfStreams_8 (by decide) (fun c_8 => ?_) (fun c_8 => ?_)
    · refine lv_iconst (v := 0) hx hb dX4_isSetOfStreams_15 (by decide) ?_
      exact sl_rz (v := 0) hC hr rfl hG () (by show _ = sl_bi (sl_in x 1 15); rw [sl_in_f (by simp only [sl_leI, sl_ltI, sl_i0, sl_i1, sl_i2, sl_i3, sl_i4, sl_i15, sl_i119, sl_i120, sl_i1000, sl_im1000] at *; omega)]; rfl) rfl (Nat.le_of_ble_eq_true rfl) (Nat.le_of_ble_eq_true rfl) dX4_isSetOfStreams_16
    · refine lv_iconst (v := 1) hx hb dX4_isSetOfStreams_11 (by decide) ?_
      refine lv_goto (tgt := 16) hx hb dX4_isSetOfStreams_12 (by decide) ?_
      exact sl_rz (v := 1) hC hr rfl hG () (by show _ = sl_bi (sl_in x 1 15); rw [sl_in_t (by simp only [sl_leI, sl_ltI, sl_i0, sl_i1, sl_i2, sl_i3, sl_i4, sl_i15, sl_i119, sl_i120, sl_i1000, sl_im1000] at *; omega) (by simp only [sl_leI, sl_ltI, sl_i0, sl_i1, sl_i2, sl_i3, sl_i4, sl_i15, sl_i119, sl_i120, sl_i1000, sl_im1000] at *; omega)]; rfl) rfl (Nat.le_of_ble_eq_true rfl) (Nat.le_of_ble_eq_true rfl) dX4_isSetOfStreams_16
set_option maxHeartbeats 4000000 in
set_option maxRecDepth 100000 in
theorem kX4_isAmount (l : Launch) (Γ : sl_G) (g : sl_W) (x : Int32) : Met l yX4_isAmount [Cond.code yX4_isAmount cX4_isAmount 1 (some .boolean)] ({ frames := 0, cells := 0, slots := 0, locals := 0 } : Room) (va_Pc [.int x] (sl_B Γ g)) (sl_Qi Γ (fun r (_ : Unit) => r = sl_bi (sl_in x (-1000) 1000)) (fun _ => g)) 0 0 (sl_A Γ) := by
  refine sl_ent (by decide) (Nat.le_of_ble_eq_true rfl) ?_
  intro p e s m below meth c ls hC hr hin hG hl
  have hx := hC.1
  have hb := hC.2.1
  have hl : lv_has ls 1 [(0, .int x)] := hl
  refine lv_iload_n hx hb dX4_isAmount_0 rfl (lv_at hl 0 rfl) ?_
  refine lv_sipush (v := (-1000)) hx hb dX4_isAmount_1 (by decide) ?_
  refine lv_icmp_lt (tgt := 18) hx hb dX4_isAmount_4 (by decide) (fun c_4 => ?_) (fun c_4 => ?_)
  · refine lv_iconst (v := 0) hx hb dX4_isAmount_18 (by decide) ?_
    exact sl_rz (v := 0) hC hr rfl hG () (by show _ = sl_bi (sl_in x (-1000) 1000); rw [sl_in_f (by simp only [sl_leI, sl_ltI, sl_i0, sl_i1, sl_i2, sl_i3, sl_i4, sl_i15, sl_i119, sl_i120, sl_i1000, sl_im1000] at *; omega)]; rfl) rfl (Nat.le_of_ble_eq_true rfl) (Nat.le_of_ble_eq_true rfl) dX4_isAmount_19
  · refine lv_iload_n hx hb dX4_isAmount_7 rfl (lv_at hl 0 rfl) ?_
    refine lv_sipush (v := 1000) hx hb dX4_isAmount_8 (by decide) ?_
    refine lv_icmp_gt (tgt := 18) hx hb dX4_isAmount_11 (by decide) (fun c_11 => ?_) (fun c_11 => ?_)
    · refine lv_iconst (v := 0) hx hb dX4_isAmount_18 (by decide) ?_
      exact sl_rz (v := 0) hC hr rfl hG () (by show _ = sl_bi (sl_in x (-1000) 1000); rw [sl_in_f (by simp only [sl_leI, sl_ltI, sl_i0, sl_i1, sl_i2, sl_i3, sl_i4, sl_i15, sl_i119, sl_i120, sl_i1000, sl_im1000] at *; omega)]; rfl) rfl (Nat.le_of_ble_eq_true rfl) (Nat.le_of_ble_eq_true rfl) dX4_isAmount_19
    · refine lv_iconst (v := 1) hx hb dX4_isAmount_14 (by decide) ?_
      refine lv_goto (tgt := 19) hx hb dX4_isAmount_15 (by decide) ?_
      exact sl_rz (v := 1) hC hr rfl hG () (by show _ = sl_bi (sl_in x (-1000) 1000); rw [sl_in_t (by simp only [sl_leI, sl_ltI, sl_i0, sl_i1, sl_i2, sl_i3, sl_i4, sl_i15, sl_i119, sl_i120, sl_i1000, sl_im1000] at *; omega) (by simp only [sl_leI, sl_ltI, sl_i0, sl_i1, sl_i2, sl_i3, sl_i4, sl_i15, sl_i119, sl_i120, sl_i1000, sl_im1000] at *; omega)]; rfl) rfl (Nat.le_of_ble_eq_true rfl) (Nat.le_of_ble_eq_true rfl) dX4_isAmount_19
set_option maxHeartbeats 4000000 in
set_option maxRecDepth 100000 in
theorem kX4_isPosition (l : Launch) (Γ : sl_G) (g : sl_W) (x : Int32) : Met l yX4_isPosition [Cond.code yX4_isPosition cX4_isPosition 1 (some .boolean)] ({ frames := 0, cells := 0, slots := 0, locals := 0 } : Room) (va_Pc [.int x] (sl_B Γ g)) (sl_Qi Γ (fun r (_ : Unit) => r = sl_bi (sl_in x 0 119)) (fun _ => g)) 0 0 (sl_A Γ) := by
  refine sl_ent (by decide) (Nat.le_of_ble_eq_true rfl) ?_
  intro p e s m below meth c ls hC hr hin hG hl
  have hx := hC.1
  have hb := hC.2.1
  have hl : lv_has ls 1 [(0, .int x)] := hl
  refine lv_iload_n hx hb dX4_isPosition_0 rfl (lv_at hl 0 rfl) ?_
  refine lv_if_lt (tgt := 14) hx hb dX4_isPosition_1 (by decide) (fun c_1 => ?_) (fun c_1 => ?_)
  · refine lv_iconst (v := 0) hx hb dX4_isPosition_14 (by decide) ?_
    exact sl_rz (v := 0) hC hr rfl hG () (by show _ = sl_bi (sl_in x 0 119); rw [sl_in_f (by simp only [sl_leI, sl_ltI, sl_i0, sl_i1, sl_i2, sl_i3, sl_i4, sl_i15, sl_i119, sl_i120, sl_i1000, sl_im1000] at *; omega)]; rfl) rfl (Nat.le_of_ble_eq_true rfl) (Nat.le_of_ble_eq_true rfl) dX4_isPosition_15
  · refine lv_iload_n hx hb dX4_isPosition_4 rfl (lv_at hl 0 rfl) ?_
    refine lv_bipush (v := 120) hx hb dX4_isPosition_5 (by decide) ?_
    refine lv_icmp_ge (tgt := 14) hx hb dX4_isPosition_7 (by decide) (fun c_7 => ?_) (fun c_7 => ?_)
    · refine lv_iconst (v := 0) hx hb dX4_isPosition_14 (by decide) ?_
      exact sl_rz (v := 0) hC hr rfl hG () (by show _ = sl_bi (sl_in x 0 119); rw [sl_in_f (by simp only [sl_leI, sl_ltI, sl_i0, sl_i1, sl_i2, sl_i3, sl_i4, sl_i15, sl_i119, sl_i120, sl_i1000, sl_im1000] at *; omega)]; rfl) rfl (Nat.le_of_ble_eq_true rfl) (Nat.le_of_ble_eq_true rfl) dX4_isPosition_15
    · refine lv_iconst (v := 1) hx hb dX4_isPosition_10 (by decide) ?_
      refine lv_goto (tgt := 15) hx hb dX4_isPosition_11 (by decide) ?_
      exact sl_rz (v := 1) hC hr rfl hG () (by show _ = sl_bi (sl_in x 0 119); rw [sl_in_t (by simp only [sl_leI, sl_ltI, sl_i0, sl_i1, sl_i2, sl_i3, sl_i4, sl_i15, sl_i119, sl_i120, sl_i1000, sl_im1000] at *; omega) (by simp only [sl_leI, sl_ltI, sl_i0, sl_i1, sl_i2, sl_i3, sl_i4, sl_i15, sl_i119, sl_i120, sl_i1000, sl_im1000] at *; omega)]; rfl) rfl (Nat.le_of_ble_eq_true rfl) (Nat.le_of_ble_eq_true rfl) dX4_isPosition_15
set_option maxHeartbeats 4000000 in
set_option maxRecDepth 100000 in
theorem kX4_isReplica (l : Launch) (Γ : sl_G) (g : sl_W) (x : Int32) : Met l yX4_isReplica [Cond.code yX4_isReplica cX4_isReplica 1 (some .boolean)] ({ frames := 0, cells := 0, slots := 0, locals := 0 } : Room) (va_Pc [.int x] (sl_B Γ g)) (sl_Qi Γ (fun r (_ : Unit) => r = sl_bi (sl_in x 0 2)) (fun _ => g)) 0 0 (sl_A Γ) := by
  refine sl_ent (by decide) (Nat.le_of_ble_eq_true rfl) ?_
  intro p e s m below meth c ls hC hr hin hG hl
  have hx := hC.1
  have hb := hC.2.1
  have hl : lv_has ls 1 [(0, .int x)] := hl
  refine lv_iload_n hx hb dX4_isReplica_0 rfl (lv_at hl 0 rfl) ?_
  refine lv_if_lt (tgt := 13) hx hb dX4_isReplica_1 (by decide) (fun c_1 => ?_) (fun c_1 => ?_)
  · refine lv_iconst (v := 0) hx hb dX4_isReplica_13 (by decide) ?_
    exact sl_rz (v := 0) hC hr rfl hG () (by show _ = sl_bi (sl_in x 0 2); rw [sl_in_f (by simp only [sl_leI, sl_ltI, sl_i0, sl_i1, sl_i2, sl_i3, sl_i4, sl_i15, sl_i119, sl_i120, sl_i1000, sl_im1000] at *; omega)]; rfl) rfl (Nat.le_of_ble_eq_true rfl) (Nat.le_of_ble_eq_true rfl) dX4_isReplica_14
  · refine lv_iload_n hx hb dX4_isReplica_4 rfl (lv_at hl 0 rfl) ?_
    refine lv_iconst (v := 3) hx hb dX4_isReplica_5 (by decide) ?_
    refine lv_icmp_ge (tgt := 13) hx hb dX4_isReplica_6 (by decide) (fun c_6 => ?_) (fun c_6 => ?_)
    · refine lv_iconst (v := 0) hx hb dX4_isReplica_13 (by decide) ?_
      exact sl_rz (v := 0) hC hr rfl hG () (by show _ = sl_bi (sl_in x 0 2); rw [sl_in_f (by simp only [sl_leI, sl_ltI, sl_i0, sl_i1, sl_i2, sl_i3, sl_i4, sl_i15, sl_i119, sl_i120, sl_i1000, sl_im1000] at *; omega)]; rfl) rfl (Nat.le_of_ble_eq_true rfl) (Nat.le_of_ble_eq_true rfl) dX4_isReplica_14
    · refine lv_iconst (v := 1) hx hb dX4_isReplica_9 (by decide) ?_
      refine lv_goto (tgt := 14) hx hb dX4_isReplica_10 (by decide) ?_
      exact sl_rz (v := 1) hC hr rfl hG () (by show _ = sl_bi (sl_in x 0 2); rw [sl_in_t (by simp only [sl_leI, sl_ltI, sl_i0, sl_i1, sl_i2, sl_i3, sl_i4, sl_i15, sl_i119, sl_i120, sl_i1000, sl_im1000] at *; omega) (by simp only [sl_leI, sl_ltI, sl_i0, sl_i1, sl_i2, sl_i3, sl_i4, sl_i15, sl_i119, sl_i120, sl_i1000, sl_im1000] at *; omega)]; rfl) rfl (Nat.le_of_ble_eq_true rfl) (Nat.le_of_ble_eq_true rfl) dX4_isReplica_14
set_option maxHeartbeats 4000000 in
set_option maxRecDepth 100000 in
theorem kX4_isPointerNumber (l : Launch) (Γ : sl_G) (g : sl_W) (x : Int32) : Met l yX4_isPointerNumber [Cond.code yX4_isPointerNumber cX4_isPointerNumber 1 (some .boolean)] ({ frames := 0, cells := 0, slots := 0, locals := 0 } : Room) (va_Pc [.int x] (sl_B Γ g)) (sl_Qi Γ (fun r (_ : Unit) => r = sl_bi (sl_in x 0 3)) (fun _ => g)) 0 0 (sl_A Γ) := by
  refine sl_ent (by decide) (Nat.le_of_ble_eq_true rfl) ?_
  intro p e s m below meth c ls hC hr hin hG hl
  have hx := hC.1
  have hb := hC.2.1
  have hl : lv_has ls 1 [(0, .int x)] := hl
  refine lv_iload_n hx hb dX4_isPointerNumber_0 rfl (lv_at hl 0 rfl) ?_
  refine lv_if_lt (tgt := 13) hx hb dX4_isPointerNumber_1 (by decide) (fun c_1 => ?_) (fun c_1 => ?_)
  · refine lv_iconst (v := 0) hx hb dX4_isPointerNumber_13 (by decide) ?_
    exact sl_rz (v := 0) hC hr rfl hG () (by show _ = sl_bi (sl_in x 0 3); rw [sl_in_f (by simp only [sl_leI, sl_ltI, sl_i0, sl_i1, sl_i2, sl_i3, sl_i4, sl_i15, sl_i119, sl_i120, sl_i1000, sl_im1000] at *; omega)]; rfl) rfl (Nat.le_of_ble_eq_true rfl) (Nat.le_of_ble_eq_true rfl) dX4_isPointerNumber_14
  · refine lv_iload_n hx hb dX4_isPointerNumber_4 rfl (lv_at hl 0 rfl) ?_
    refine lv_iconst (v := 4) hx hb dX4_isPointerNumber_5 (by decide) ?_
    refine lv_icmp_ge (tgt := 13) hx hb dX4_isPointerNumber_6 (by decide) (fun c_6 => ?_) (fun c_6 => ?_)
    · refine lv_iconst (v := 0) hx hb dX4_isPointerNumber_13 (by decide) ?_
      exact sl_rz (v := 0) hC hr rfl hG () (by show _ = sl_bi (sl_in x 0 3); rw [sl_in_f (by simp only [sl_leI, sl_ltI, sl_i0, sl_i1, sl_i2, sl_i3, sl_i4, sl_i15, sl_i119, sl_i120, sl_i1000, sl_im1000] at *; omega)]; rfl) rfl (Nat.le_of_ble_eq_true rfl) (Nat.le_of_ble_eq_true rfl) dX4_isPointerNumber_14
    · refine lv_iconst (v := 1) hx hb dX4_isPointerNumber_9 (by decide) ?_
      refine lv_goto (tgt := 14) hx hb dX4_isPointerNumber_10 (by decide) ?_
      exact sl_rz (v := 1) hC hr rfl hG () (by show _ = sl_bi (sl_in x 0 3); rw [sl_in_t (by simp only [sl_leI, sl_ltI, sl_i0, sl_i1, sl_i2, sl_i3, sl_i4, sl_i15, sl_i119, sl_i120, sl_i1000, sl_im1000] at *; omega) (by simp only [sl_leI, sl_ltI, sl_i0, sl_i1, sl_i2, sl_i3, sl_i4, sl_i15, sl_i119, sl_i120, sl_i1000, sl_im1000] at *; omega)]; rfl) rfl (Nat.le_of_ble_eq_true rfl) (Nat.le_of_ble_eq_true rfl) dX4_isPointerNumber_14
set_option maxHeartbeats 4000000 in
set_option maxRecDepth 100000 in
theorem kX4_isIn (l : Launch) (Γ : sl_G) (g : sl_W) (x ss : Int32) : Met l yX4_isIn [Cond.code yX4_isIn cX4_isIn 2 (some .boolean)] ({ frames := 0, cells := 0, slots := 0, locals := 0 } : Room) (va_Pc [.int x, .int ss] (sl_B Γ g)) (sl_Qi Γ (fun r (_ : Unit) => r = sl_bi (sl_has ss x)) (fun _ => g)) 0 0 (sl_A Γ) := by
  refine sl_ent (by decide) (Nat.le_of_ble_eq_true rfl) ?_
  intro p e s m below meth c ls hC hr hin hG hl
  have hx := hC.1
  have hb := hC.2.1
  have hl : lv_has ls 2 [(0, .int x), (1, .int ss)] := hl
  refine lv_iload_n hx hb dX4_isIn_0 rfl (lv_at hl 1 rfl) ?_
  refine lv_iload_n hx hb dX4_isIn_1 rfl (lv_at hl 0 rfl) ?_
  refine lv_ishr hx hb dX4_isIn_2 ?_
  refine lv_iconst (v := 1) hx hb dX4_isIn_3 (by decide) ?_
  refine lv_iand hx hb dX4_isIn_4 ?_
  refine lv_iconst (v := 1) hx hb dX4_isIn_5 (by decide) ?_
  refine lv_icmp_ne (tgt := 13) hx hb dX4_isIn_6 (by decide) (fun c_6 => ?_) (fun c_6 => ?_)
  · refine lv_iconst (v := 0) hx hb dX4_isIn_13 (by decide) ?_
    exact sl_rz (v := 0) hC hr rfl hG () (by show _ = sl_bi (sl_has ss x); simp [sl_has, sl_bi, c_6]) rfl (Nat.le_of_ble_eq_true rfl) (Nat.le_of_ble_eq_true rfl) dX4_isIn_14
  · refine lv_iconst (v := 1) hx hb dX4_isIn_9 (by decide) ?_
    refine lv_goto (tgt := 14) hx hb dX4_isIn_10 (by decide) ?_
    exact sl_rz (v := 1) hC hr rfl hG () (by show _ = sl_bi (sl_has ss x); simp [sl_has, sl_bi, c_6]) rfl (Nat.le_of_ble_eq_true rfl) (Nat.le_of_ble_eq_true rfl) dX4_isIn_14

