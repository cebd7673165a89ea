/-! the class's answers -/
/-- the class's cells hold: n tokens, epoch, tail, lost, the sequencer's trail, the cells, the entries -/
def sl_Cls (Γ : sl_G) (α : Nat → Nat) (β : Nat → Nat × Nat × Nat) (n : Nat) (ep : Int32) (tl : Nat) (lo : Bool) (T C : Nat → Int32) (E : Nat → sl_Ent) (g : sl_W) : Prop :=
  g 0 = some (α 0, .inr (4, [.ref (α 1), .ref (α 2), .ref (α 4), .ref (α 6), .int (nI n), .int ep, .int (nI tl), .int (sl_bi lo)])) ∧
  g 1 = some (α 1, .inl (Γ.2.1 2, 150, .inr (.inr (.inr (.inr (sl_ea n β)))))) ∧
  g 2 = some (α 2, .inr (0, [.ref (α 3)])) ∧
  g 3 = some (α 3, .inl (Γ.2.1 0, 360, .inl C)) ∧
  g 4 = some (α 4, .inr (3, [.ref (α 5)])) ∧
  g 5 = some (α 5, .inl (Γ.2.1 0, 16, .inl T)) ∧
  (∃ (F X : Nat → Int32) (fd : Int32), g 6 = some (α 6, .inr (2, [.ref (α 7), .ref (α 8), .int fd])) ∧ g 7 = some (α 7, .inl (Γ.2.1 1, 120, .inl F)) ∧ g 8 = some (α 8, .inl (Γ.2.1 0, 4, .inl X))) ∧
  sl_Es Γ β n E g ∧ (∀ k, 100 + 3 * n ≤ k → g k = none) ∧ n ≤ 150 ∧ tl ≤ 120
theorem sl_Cls.ro {Γ : sl_G} {α : Nat → Nat} {β : Nat → Nat × Nat × Nat} {n : Nat} {ep : Int32} {tl : Nat} {lo : Bool} {T C : Nat → Int32} {E : Nat → sl_Ent} {g : sl_W} (h : sl_Cls Γ α β n ep tl lo T C E g) : sl_Ro Γ α β n C E g := by
  obtain ⟨h0, h1, h2, h3, h4, h5, h6, hE, hN, hn, ht⟩ := h
  exact ⟨⟨_, _, _, _, h0⟩, h1, h2, h3, hE, hn⟩
/-- what isn't the class's stays -/
def sl_fr (g g' : sl_W) : Prop := ∀ k, 9 ≤ k → k < 100 → g' k = g k
theorem sl_fr.rf (g : sl_W) : sl_fr g g := fun _ _ _ => rfl
theorem sl_fr.up {g g' : sl_W} (h : sl_fr g g') {k : Nat} (q : Nat × va_E) (hk : k < 9 ∨ 100 ≤ k) : sl_fr g (sl_up g' k q) := fun j h1 h2 => (sl_up_n _ _ (by omega)).trans (h j h1 h2)
theorem sl_Cls_w {Γ : sl_G} {α : Nat → Nat} {β : Nat → Nat × Nat × Nat} {n : Nat} {ep : Int32} {tl : Nat} {lo : Bool} {T C : Nat → Int32} {E : Nat → sl_Ent} {g g' : sl_W} {d : Nat} (h : sl_Cls Γ α β n ep tl lo T C E g) (hw : sl_FW Γ α d n C E g g') : sl_Cls Γ α β n ep tl lo T C E g' ∧ sl_fr g g' := by
  obtain ⟨h0, h1, h2, h3, h4, h5, h6, hE, hN, hn, ht⟩ := h
  obtain ⟨w6, ⟨F, w7, -⟩, ⟨X, w8⟩, w⟩ := hw
  exact ⟨⟨(w 0 (by omega) (by omega) (by omega)).trans h0, (w 1 (by omega) (by omega) (by omega)).trans h1, (w 2 (by omega) (by omega) (by omega)).trans h2, (w 3 (by omega) (by omega) (by omega)).trans h3, (w 4 (by omega) (by omega) (by omega)).trans h4, (w 5 (by omega) (by omega) (by omega)).trans h5, ⟨F, X, _, w6, w7, w8⟩, hE.mono (fun k hk => w k (by omega) (by omega) (by omega)), fun k hk => (w k (by omega) (by omega) (by omega)).trans (hN k hk), hn, ht⟩, fun k h1 h2 => w k (by omega) (by omega) (by omega)⟩
set_option maxHeartbeats 4000000 in
set_option maxRecDepth 100000 in
theorem kX4_epoch (l : Launch) (Γ : sl_G) (g : sl_W) (α : Nat → Nat) (β : Nat → Nat × Nat × Nat) (n : Nat) (ep : Int32) (tl : Nat) (lo : Bool) (T C : Nat → Int32) (E : Nat → sl_Ent) (hK : sl_Cls Γ α β n ep tl lo T C E g) : Met l yX4_epoch [Cond.code yX4_epoch cX4_epoch 1 (some .int)] ({ frames := 0, cells := 0, slots := 0, locals := 0 } : Room) (va_Pc [.ref (α 0)] (sl_B Γ g)) (sl_Qi Γ (fun r (_ : Unit) => r = ep) (fun _ => g)) 0 0 (sl_A Γ) := by
  refine sl_ent (by decide) (Nat.le_of_ble_eq_true rfl) ?_
  intro p e s m below meth c ls hC hr hin hG hl
  have hx := hC.1
  have hb := hC.2.1
  have hl : lv_has ls 1 [(0, .ref (α 0))] := hl
  have hS := hK.ro
  obtain ⟨h0, h1, h2, h3, h4, h5, ⟨F, X, fd, h6, h7, h8⟩, hE, hN, hn9, ht9⟩ := id hK
  refine lv_aload_n hx hb dX4_epoch_0 rfl (lv_at hl 0 rfl) ?_
  refine sl_get (C := RX4) (T := TX4) (N := 8) hC hG 0 h0 rfl la_4 5 (by decide) lk_RX4_40 rfl rfl dX4_epoch_1 ?_
  exact sl_ri (v := ep) hC hr hG () rfl rfl (Nat.le_of_ble_eq_true rfl) (Nat.le_of_ble_eq_true rfl) dX4_epoch_4
set_option maxHeartbeats 4000000 in
set_option maxRecDepth 100000 in
theorem kX4_tail (l : Launch) (Γ : sl_G) (g : sl_W) (α : Nat → Nat) (β : Nat → Nat × Nat × Nat) (n : Nat) (ep : Int32) (tl : Nat) (lo : Bool) (T C : Nat → Int32) (E : Nat → sl_Ent) (hK : sl_Cls Γ α β n ep tl lo T C E g) : Met l yX4_tail [Cond.code yX4_tail cX4_tail 1 (some .int)] ({ frames := 0, cells := 0, slots := 0, locals := 0 } : Room) (va_Pc [.ref (α 0)] (sl_B Γ g)) (sl_Qi Γ (fun r (_ : Unit) => r = if lo = true then -1 else nI tl) (fun _ => g)) 0 0 (sl_A Γ) := by
  refine sl_ent (by decide) (Nat.le_of_ble_eq_true rfl) ?_
  intro p e s m below meth c ls hC hr hin hG hl
  have hx := hC.1
  have hb := hC.2.1
  have hl : lv_has ls 1 [(0, .ref (α 0))] := hl
  have hS := hK.ro
  obtain ⟨h0, h1, h2, h3, h4, h5, ⟨F, X, fd, h6, h7, h8⟩, hE, hN, hn9, ht9⟩ := id hK
  refine lv_aload_n hx hb dX4_tail_0 rfl (lv_at hl 0 rfl) ?_
  refine sl_get (C := RX4) (T := TX4) (N := 8) hC hG 0 h0 rfl la_4 7 (by decide) lk_RX4_46 rfl rfl dX4_tail_1 ?_
  refine lv_if_eq (tgt := 11) hx hb dX4_tail_4 (by decide) (fun c_4 => ?_) (fun c_4 => ?_)
  · have c_4 := sl_bF c_4
    refine lv_aload_n hx hb dX4_tail_11 rfl (lv_at hl 0 rfl) ?_
    refine sl_get (C := RX4) (T := TX4) (N := 8) hC hG 0 h0 rfl la_4 6 (by decide) lk_RX4_43 rfl rfl dX4_tail_12 ?_
    exact sl_ri (v := nI tl) hC hr hG () (by show _ = if lo = true then -1 else nI tl; rw [c_4]; rfl) rfl (Nat.le_of_ble_eq_true rfl) (Nat.le_of_ble_eq_true rfl) dX4_tail_15
  · have c_4 := sl_bT c_4
    refine lv_iconst (v := (-1)) hx hb dX4_tail_7 (by decide) ?_
    refine lv_goto (tgt := 15) hx hb dX4_tail_8 (by decide) ?_
    exact sl_ri (v := (-1)) hC hr hG () (by show _ = if lo = true then -1 else nI tl; rw [c_4]; rfl) rfl (Nat.le_of_ble_eq_true rfl) (Nat.le_of_ble_eq_true rfl) dX4_tail_15
set_option maxHeartbeats 4000000 in
set_option maxRecDepth 100000 in
theorem kX4_known (l : Launch) (Γ : sl_G) (g : sl_W) (α : Nat → Nat) (β : Nat → Nat × Nat × Nat) (n : Nat) (ep : Int32) (tl : Nat) (lo : Bool) (T C : Nat → Int32) (E : Nat → sl_Ent) (hK : sl_Cls Γ α β n ep tl lo T C E g) : Met l yX4_known [Cond.code yX4_known cX4_known 1 (some .int)] ({ frames := 5, cells := 0, slots := 0, locals := 107 } : Room) (va_Pc [.ref (α 0)] (sl_B Γ g)) (sl_Qi Γ (fun r (_ : Unit) => r = nI (sl_kn C)) (fun _ => g)) 0 0 (sl_A Γ) := by
  refine sl_ent (by decide) (Nat.le_of_ble_eq_true rfl) ?_
  intro p e s m below meth c ls hC hr hin hG hl
  have hx := hC.1
  have hb := hC.2.1
  have hl : lv_has ls 1 [(0, .ref (α 0))] := hl
  have hS := hK.ro
  obtain ⟨h0, h1, h2, h3, h4, h5, ⟨F, X, fd, h6, h7, h8⟩, hE, hN, hn9, ht9⟩ := id hK
  refine lv_aload_n hx hb dX4_known_0 rfl (lv_at hl 0 rfl) ?_
  refine sl_get (C := RX4) (T := TX4) (N := 8) hC hG 0 h0 rfl la_4 1 (by decide) lk_RX4_18 rfl rfl dX4_known_1 ?_
  refine sl_calli (sl_runVN (As := []) (rest := []) hC hG (kX0_completeFromStart l Γ g (α 2) (α 3) C h2 h3) mi_X0_completeFromStart lk_RX4_147 2 h2 rfl rfl rfl ⟨Nat.le_of_ble_eq_true rfl, Nat.le_of_ble_eq_true rfl⟩ rfl hl.1 rfl (Nat.le_of_ble_eq_true rfl) dX4_known_4 ⟨Nat.le_of_ble_eq_true rfl, Nat.le_of_ble_eq_true rfl⟩) hG (fun r_4 u_4 H locs hr_4 hG => ?_)
  subst hr_4
  exact sl_ri (v := nI (sl_kn C)) hC hr hG () rfl rfl (Nat.le_of_ble_eq_true rfl) (Nat.le_of_ble_eq_true rfl) dX4_known_7
set_option maxHeartbeats 4000000 in
set_option maxRecDepth 100000 in
theorem kX4_isEndOfKnown (l : Launch) (Γ : sl_G) (g : sl_W) (α : Nat → Nat) (β : Nat → Nat × Nat × Nat) (n : Nat) (C : Nat → Int32) (E : Nat → sl_Ent) (hS : sl_Ro Γ α β n C E g) (x : Int32) : Met l yX4_isEndOfKnown [Cond.code yX4_isEndOfKnown cX4_isEndOfKnown 2 (some .boolean)] ({ frames := 5, cells := 0, slots := 0, locals := 107 } : Room) (va_Pc [.ref (α 0), .int x] (sl_B Γ g)) (sl_Qi Γ (fun r (_ : Unit) => r = sl_bi (sl_in x 0 (nI (sl_kn C)))) (fun _ => g)) 0 0 (sl_A Γ) := by
  refine sl_ent (by decide) (Nat.le_of_ble_eq_true rfl) ?_
  intro p e s m below meth c ls hC hr hin hG hl
  have hx := hC.1
  have hb := hC.2.1
  have hl : lv_has ls 2 [(0, .ref (α 0)), (1, .int x)] := hl
  obtain ⟨⟨z4, z5, z6, z7, h0⟩, h1, h2, h3, hE, hn9⟩ := id hS
  refine lv_iload_n hx hb dX4_isEndOfKnown_0 rfl (lv_at hl 1 rfl) ?_
  refine lv_if_lt (tgt := 19) hx hb dX4_isEndOfKnown_1 (by decide) (fun c_1 => ?_) (fun c_1 => ?_)
  · refine lv_iconst (v := 0) hx hb dX4_isEndOfKnown_19 (by decide) ?_
    exact sl_rz (v := 0) hC hr rfl hG () (by show _ = sl_bi (sl_in x 0 (nI (sl_kn C))); rw [sl_in_f (by rw [sl_ltI, sl_i0] at c_1; rw [sl_i0]; omega)]; rfl) rfl (Nat.le_of_ble_eq_true rfl) (Nat.le_of_ble_eq_true rfl) dX4_isEndOfKnown_20
  · refine lv_iload_n hx hb dX4_isEndOfKnown_4 rfl (lv_at hl 1 rfl) ?_
    refine lv_aload_n hx hb dX4_isEndOfKnown_5 rfl (lv_at hl 0 rfl) ?_
    refine sl_get (C := RX4) (T := TX4) (N := 8) hC hG 0 h0 rfl la_4 1 (by decide) lk_RX4_18 rfl rfl dX4_isEndOfKnown_6 ?_
    refine sl_calli (sl_runVN (As := []) (rest := [.int x]) hC hG (kX0_completeFromStart l Γ g (α 2) (α 3) C h2 h3) mi_X0_completeFromStart lk_RX4_147 2 h2 rfl rfl rfl ⟨Nat.le_of_ble_eq_true rfl, Nat.le_of_ble_eq_true rfl⟩ rfl hl.1 rfl (Nat.le_of_ble_eq_true rfl) dX4_isEndOfKnown_9 ⟨Nat.le_of_ble_eq_true rfl, Nat.le_of_ble_eq_true rfl⟩) hG (fun r_9 u_9 H locs hr_9 hG => ?_)
    subst hr_9
    refine lv_icmp_gt (tgt := 19) hx hb dX4_isEndOfKnown_12 (by decide) (fun c_12 => ?_) (fun c_12 => ?_)
    · refine lv_iconst (v := 0) hx hb dX4_isEndOfKnown_19 (by decide) ?_
      exact sl_rz (v := 0) hC hr rfl hG () (by show _ = sl_bi (sl_in x 0 (nI (sl_kn C))); rw [sl_in_f (by rw [sl_ltI] at c_12; omega)]; rfl) rfl (Nat.le_of_ble_eq_true rfl) (Nat.le_of_ble_eq_true rfl) dX4_isEndOfKnown_20
    · refine lv_iconst (v := 1) hx hb dX4_isEndOfKnown_15 (by decide) ?_
      refine lv_goto (tgt := 20) hx hb dX4_isEndOfKnown_16 (by decide) ?_
      exact sl_rz (v := 1) hC hr rfl hG () (by show _ = sl_bi (sl_in x 0 (nI (sl_kn C))); rw [sl_in_t (by rw [sl_i0]; rw [sl_ltI, sl_i0] at c_1; omega) (by rw [sl_ltI] at c_12; omega)]; rfl) rfl (Nat.le_of_ble_eq_true rfl) (Nat.le_of_ble_eq_true rfl) dX4_isEndOfKnown_20
set_option maxHeartbeats 4000000 in
set_option maxRecDepth 100000 in
theorem kX4_positionOf (l : Launch) (hlt : l.stackTraces = false) (Γ : sl_G) (g : sl_W) (α : Nat → Nat) (β : Nat → Nat × Nat × Nat) (n : Nat) (ep : Int32) (tl : Nat) (lo : Bool) (T C : Nat → Int32) (E : Nat → sl_Ent) (hK : sl_Cls Γ α β n ep tl lo T C E g) (x : Int32) : vx_Met l yX4_positionOf [Cond.code yX4_positionOf cX4_positionOf 3 (some .int)] ({ frames := 6, cells := 1, slots := 6, locals := 100 } : Room) (va_Pc [.ref (α 0), .int x] (sl_B Γ g)) (sl_Qi Γ (fun r (_ : Unit) => ∃ t, sl_tok n x = some t ∧ r = (E t).1) (fun _ => g)) (sl_X Γ g (fun E0 => E0 = "java/lang/IndexOutOfBoundsException" ∧ sl_tok n x = none)) 1 6 (sl_A Γ) := by
  refine sl_entx (by decide) (Nat.le_of_ble_eq_true rfl) ?_
  intro p e s m below meth c ls hC hr hno hG hl
  have hx := hC.1
  have hb := hC.2.1
  have hl : lv_has ls 3 [(0, .ref (α 0)), (1, .int x)] := hl
  have hS := hK.ro
  obtain ⟨h0, h1, h2, h3, h4, h5, ⟨F, X, fd, h6, h7, h8⟩, hE, hN, hn9, ht9⟩ := id hK
  refine lv_aload_n hx hb dX4_positionOf_0 rfl (lv_at hl 0 rfl) ?_
  refine lv_iload_n hx hb dX4_positionOf_1 rfl (lv_at hl 1 rfl) ?_
  refine sl_callq (sl_runV (As := [.int x]) (rest := []) hC hG (kX4_entryOf l Γ g α β n C E hS x) mi_X4_entryOf lk_RX4_95 0 h0 rfl rfl rfl ⟨Nat.le_of_ble_eq_true rfl, Nat.le_of_ble_eq_true rfl⟩ rfl hl.1 rfl (Nat.le_of_ble_eq_true rfl) dX4_positionOf_2 ⟨Nat.le_of_ble_eq_true rfl, Nat.le_of_ble_eq_true rfl⟩) hG (fun r_2 u_2 H locs hr_2 hG => ?_)
  subst hr_2
  rcases sl_opt (sl_tok n x) with hq_2 | ⟨t_2, hq_2⟩
  · refine sl_top (w := .null) (by rw [hq_2]; rfl) ?_
    refine lv_astore_nN (lv' := [(2, .null), (0, .ref (α 0)), (1, .int x)]) hx hb dX4_positionOf_5 rfl hl (by decide) rfl (fun ls hl => ?_)
    refine lv_aload_nN hx hb dX4_positionOf_6 rfl (lv_at hl 0 rfl) ?_
    refine lv_ifnonnullN hx hb dX4_positionOf_7 ?_
    exact sl_thr (text := "no such token") (rest := []) hlt hC hG ⟨rfl, hq_2⟩ (by decide) lk_RX4_98 ini_IndexOutOfBoundsException (by decide +kernel) sl_hatO sl_otO hl.1 dX4_positionOf_10 dX4_positionOf_13 dX4_positionOf_14 dX4_positionOf_16 dX4_positionOf_19 hno (Nat.le_of_ble_eq_true rfl) (Nat.le_of_ble_eq_true rfl) (Nat.le_of_ble_eq_true rfl) (Nat.le_of_ble_eq_true rfl) (Nat.le_of_ble_eq_true rfl) (Nat.le_of_ble_eq_true rfl)
  · refine sl_top (w := .ref ((β t_2).1)) (by rw [hq_2]; rfl) ?_
    have ht_t_2 := sl_tok_lt hq_2
    refine lv_astore_n (lv' := [(2, .ref ((β t_2).1)), (0, .ref (α 0)), (1, .int x)]) hx hb dX4_positionOf_5 rfl hl (by decide) rfl (fun ls hl => ?_)
    refine lv_aload_n hx hb dX4_positionOf_6 rfl (lv_at hl 0 rfl) ?_
    refine lv_ifnonnull (tgt := 20) hx hb dX4_positionOf_7 (by decide) ?_
    refine lv_aload_n hx hb dX4_positionOf_20 rfl (lv_at hl 0 rfl) ?_
    refine sl_getN (C := RX1) (T := TX1) (N := 8) hC hG (100 + 3 * t_2) (hE t_2 ht_t_2).1 rfl la_1 0 (by decide) lk_RX4_109 rfl rfl dX4_positionOf_21 ?_
    exact vx_ret (sl_ri (v := (E t_2).1) hC hr hG () ⟨t_2, hq_2, rfl⟩ rfl (Nat.le_of_ble_eq_true rfl) (Nat.le_of_ble_eq_true rfl) dX4_positionOf_24)
set_option maxHeartbeats 4000000 in
set_option maxRecDepth 100000 in
theorem kX4_stateOf (l : Launch) (hlt : l.stackTraces = false) (Γ : sl_G) (g : sl_W) (α : Nat → Nat) (β : Nat → Nat × Nat × Nat) (n : Nat) (ep : Int32) (tl : Nat) (lo : Bool) (T C : Nat → Int32) (E : Nat → sl_Ent) (hK : sl_Cls Γ α β n ep tl lo T C E g) (x : Int32) : vx_Met l yX4_stateOf [Cond.code yX4_stateOf cX4_stateOf 3 (some .int)] ({ frames := 6, cells := 1, slots := 6, locals := 100 } : Room) (va_Pc [.ref (α 0), .int x] (sl_B Γ g)) (sl_Qi Γ (fun r (_ : Unit) => ∃ t, sl_tok n x = some t ∧ r = (E t).2.2.2.2.2.2.2) (fun _ => g)) (sl_X Γ g (fun E0 => E0 = "java/lang/IndexOutOfBoundsException" ∧ sl_tok n x = none)) 1 6 (sl_A Γ) := by
  refine sl_entx (by decide) (Nat.le_of_ble_eq_true rfl) ?_
  intro p e s m below meth c ls hC hr hno hG hl
  have hx := hC.1
  have hb := hC.2.1
  have hl : lv_has ls 3 [(0, .ref (α 0)), (1, .int x)] := hl
  have hS := hK.ro
  obtain ⟨h0, h1, h2, h3, h4, h5, ⟨F, X, fd, h6, h7, h8⟩, hE, hN, hn9, ht9⟩ := id hK
  refine lv_aload_n hx hb dX4_stateOf_0 rfl (lv_at hl 0 rfl) ?_
  refine lv_iload_n hx hb dX4_stateOf_1 rfl (lv_at hl 1 rfl) ?_
  refine sl_callq (sl_runV (As := [.int x]) (rest := []) hC hG (kX4_entryOf l Γ g α β n C E hS x) mi_X4_entryOf lk_RX4_95 0 h0 rfl rfl rfl ⟨Nat.le_of_ble_eq_true rfl, Nat.le_of_ble_eq_true rfl⟩ rfl hl.1 rfl (Nat.le_of_ble_eq_true rfl) dX4_stateOf_2 ⟨Nat.le_of_ble_eq_true rfl, Nat.le_of_ble_eq_true rfl⟩) hG (fun r_2 u_2 H locs hr_2 hG => ?_)
  subst hr_2
  rcases sl_opt (sl_tok n x) with hq_2 | ⟨t_2, hq_2⟩
  · refine sl_top (w := .null) (by rw [hq_2]; rfl) ?_
    refine lv_astore_nN (lv' := [(2, .null), (0, .ref (α 0)), (1, .int x)]) hx hb dX4_stateOf_5 rfl hl (by decide) rfl (fun ls hl => ?_)
    refine lv_aload_nN hx hb dX4_stateOf_6 rfl (lv_at hl 0 rfl) ?_
    refine lv_ifnonnullN hx hb dX4_stateOf_7 ?_
    exact sl_thr (text := "no such token") (rest := []) hlt hC hG ⟨rfl, hq_2⟩ (by decide) lk_RX4_98 ini_IndexOutOfBoundsException (by decide +kernel) sl_hatO sl_otO hl.1 dX4_stateOf_10 dX4_stateOf_13 dX4_stateOf_14 dX4_stateOf_16 dX4_stateOf_19 hno (Nat.le_of_ble_eq_true rfl) (Nat.le_of_ble_eq_true rfl) (Nat.le_of_ble_eq_true rfl) (Nat.le_of_ble_eq_true rfl) (Nat.le_of_ble_eq_true rfl) (Nat.le_of_ble_eq_true rfl)
  · refine sl_top (w := .ref ((β t_2).1)) (by rw [hq_2]; rfl) ?_
    have ht_t_2 := sl_tok_lt hq_2
    refine lv_astore_n (lv' := [(2, .ref ((β t_2).1)), (0, .ref (α 0)), (1, .int x)]) hx hb dX4_stateOf_5 rfl hl (by decide) rfl (fun ls hl => ?_)
    refine lv_aload_n hx hb dX4_stateOf_6 rfl (lv_at hl 0 rfl) ?_
    refine lv_ifnonnull (tgt := 20) hx hb dX4_stateOf_7 (by decide) ?_
    refine lv_aload_n hx hb dX4_stateOf_20 rfl (lv_at hl 0 rfl) ?_
    refine sl_getN (C := RX1) (T := TX1) (N := 8) hC hG (100 + 3 * t_2) (hE t_2 ht_t_2).1 rfl la_1 7 (by decide) lk_RX4_103 rfl rfl dX4_stateOf_21 ?_
    exact vx_ret (sl_ri (v := (E t_2).2.2.2.2.2.2.2) hC hr hG () ⟨t_2, hq_2, rfl⟩ rfl (Nat.le_of_ble_eq_true rfl) (Nat.le_of_ble_eq_true rfl) dX4_stateOf_24)
set_option maxHeartbeats 4000000 in
set_option maxRecDepth 100000 in
theorem kX4_cellAt (l : Launch) (hlt : l.stackTraces = false) (Γ : sl_G) (g : sl_W) (α : Nat → Nat) (β : Nat → Nat × Nat × Nat) (n : Nat) (ep : Int32) (tl : Nat) (lo : Bool) (T C : Nat → Int32) (E : Nat → sl_Ent) (hK : sl_Cls Γ α β n ep tl lo T C E g) (x y : Int32) : vx_Met l yX4_cellAt [Cond.code yX4_cellAt cX4_cellAt 3 (some .int)] ({ frames := 6, cells := 1, slots := 6, locals := 100 } : Room) (va_Pc [.ref (α 0), .int x, .int y] (sl_B Γ g)) (sl_Qi Γ (fun r (_ : Unit) => (sl_in x 0 2 && sl_in y 0 119) = true ∧ r = sl_cg C x y) (fun _ => g)) (sl_X Γ g (fun E0 => E0 = "java/lang/IndexOutOfBoundsException" ∧ (sl_in x 0 2 && sl_in y 0 119) = false)) 1 6 (sl_A Γ) := by
  refine sl_entx (by decide) (Nat.le_of_ble_eq_true rfl) ?_
  intro p e s m below meth c ls hC hr hno hG hl
  have hx := hC.1
  have hb := hC.2.1
  have hl : lv_has ls 3 [(0, .ref (α 0)), (1, .int x), (2, .int y)] := hl
  have hS := hK.ro
  obtain ⟨h0, h1, h2, h3, h4, h5, ⟨F, X, fd, h6, h7, h8⟩, hE, hN, hn9, ht9⟩ := id hK
  refine lv_iload_n hx hb dX4_cellAt_0 rfl (lv_at hl 1 rfl) ?_
  refine sl_calli (sl_runS (As := [.int x]) (rest := []) hC hG (kX4_isReplica l Γ g x) mi_X4_isReplica lk_RX4_142 rfl rfl ⟨Nat.le_of_ble_eq_true rfl, Nat.le_of_ble_eq_true rfl⟩ rfl hl.1 rfl (Nat.le_of_ble_eq_true rfl) dX4_cellAt_1 ⟨Nat.le_of_ble_eq_true rfl, Nat.le_of_ble_eq_true rfl⟩) hG (fun r_1 u_1 H locs hr_1 hG => ?_)
  subst hr_1
  refine lv_if_eq (tgt := 14) hx hb dX4_cellAt_4 (by decide) (fun c_4 => ?_) (fun c_4 => ?_)
  · have c_4 := sl_bF c_4
    exact sl_thr (text := "no such replica or position") (rest := []) hlt hC hG ⟨rfl, (by rw [c_4]; rfl)⟩ (by decide) lk_RX4_98 ini_IndexOutOfBoundsException (by decide +kernel) sl_hatO sl_otO hl.1 dX4_cellAt_14 dX4_cellAt_17 dX4_cellAt_18 dX4_cellAt_20 dX4_cellAt_23 hno (Nat.le_of_ble_eq_true rfl) (Nat.le_of_ble_eq_true rfl) (Nat.le_of_ble_eq_true rfl) (Nat.le_of_ble_eq_true rfl) (Nat.le_of_ble_eq_true rfl) (Nat.le_of_ble_eq_true rfl)
  · have c_4 := sl_bT c_4
    refine lv_iload_n hx hb dX4_cellAt_7 rfl (lv_at hl 2 rfl) ?_
    refine sl_calli (sl_runS (As := [.int y]) (rest := []) hC hG (kX4_isPosition l Γ g y) mi_X4_isPosition lk_RX4_120 rfl rfl ⟨Nat.le_of_ble_eq_true rfl, Nat.le_of_ble_eq_true rfl⟩ rfl hl.1 rfl (Nat.le_of_ble_eq_true rfl) dX4_cellAt_8 ⟨Nat.le_of_ble_eq_true rfl, Nat.le_of_ble_eq_true rfl⟩) hG (fun r_8 u_8 H locs hr_8 hG => ?_)
    subst hr_8
    refine lv_if_ne (tgt := 24) hx hb dX4_cellAt_11 (by decide) (fun c_11 => ?_) (fun c_11 => ?_)
    · have c_11 := sl_bT c_11
      refine lv_aload_n hx hb dX4_cellAt_24 rfl (lv_at hl 0 rfl) ?_
      refine sl_get (C := RX4) (T := TX4) (N := 8) hC hG 0 h0 rfl la_4 1 (by decide) lk_RX4_18 rfl rfl dX4_cellAt_25 ?_
      refine lv_iload_n hx hb dX4_cellAt_28 rfl (lv_at hl 1 rfl) ?_
      refine lv_iload_n hx hb dX4_cellAt_29 rfl (lv_at hl 2 rfl) ?_
      refine sl_calli (sl_runVN (As := [.int x, .int y]) (rest := []) hC hG (kX0_get l Γ g (α 2) (α 3) C h2 h3 x y) mi_X0_get lk_RX4_112 2 h2 rfl rfl rfl ⟨Nat.le_of_ble_eq_true rfl, Nat.le_of_ble_eq_true rfl⟩ rfl hl.1 rfl (Nat.le_of_ble_eq_true rfl) dX4_cellAt_30 ⟨Nat.le_of_ble_eq_true rfl, Nat.le_of_ble_eq_true rfl⟩) hG (fun r_30 u_30 H locs hr_30 hG => ?_)
      subst hr_30
      exact vx_ret (sl_ri (v := sl_cg C x y) hC hr hG () ⟨(by rw [c_4, c_11]; rfl), rfl⟩ rfl (Nat.le_of_ble_eq_true rfl) (Nat.le_of_ble_eq_true rfl) dX4_cellAt_33)
    · have c_11 := sl_bF c_11
      exact sl_thr (text := "no such replica or position") (rest := []) hlt hC hG ⟨rfl, (by rw [c_11]; exact Bool.and_false _)⟩ (by decide) lk_RX4_98 ini_IndexOutOfBoundsException (by decide +kernel) sl_hatO sl_otO hl.1 dX4_cellAt_14 dX4_cellAt_17 dX4_cellAt_18 dX4_cellAt_20 dX4_cellAt_23 hno (Nat.le_of_ble_eq_true rfl) (Nat.le_of_ble_eq_true rfl) (Nat.le_of_ble_eq_true rfl) (Nat.le_of_ble_eq_true rfl) (Nat.le_of_ble_eq_true rfl) (Nat.le_of_ble_eq_true rfl)
