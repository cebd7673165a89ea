/-! the reference's state -/
/-- what is sure of the numbers: cells hold -2, -1 or a token; positions, versions, steps, pointers lie where they lie -/
def sl_wf (n tl : Nat) (C : Nat → Int32) (E : Nat → sl_Ent) : Prop :=
  n ≤ 150 ∧ tl ≤ 120 ∧ (∀ i, i < 360 → C i = -1 ∨ C i = -2 ∨ ∃ t, t < n ∧ C i = nI t) ∧
  (∀ t, t < n → (∃ q, q < 120 ∧ (E t).1 = nI q) ∧ (∃ v, v ≤ 120 ∧ (E t).2.2.2.2.2.1 = nI v) ∧ ((E t).2.2.2.2.2.2.2 = -1 ∨ ∃ k, k ≤ 3 ∧ (E t).2.2.2.2.2.2.2 = nI k) ∧ 0 ≤ (E t).2.2.2.2.1.toInt ∧ (E t).2.2.2.2.1.toInt ≤ 15) ∧ ∀ i, n ≤ i → (E i).2.2.2.2.2.2.2 = 0
def sl_Mdl (Γ : sl_G) (μ : Nat → Nat) (n : Nat) (ep : Int32) (tl : Nat) (lo : Bool) (T C : Nat → Int32) (E : Nat → sl_Ent) (th : Int32) (g : sl_W) : Prop :=
  g 20 = some (μ 0, .inr (5, [.int th, .int ep, .int (sl_bi lo), .int (nI tl), .ref (μ 1), .int (nI n), .ref (μ 2), .ref (μ 3), .ref (μ 4), .ref (μ 5), .ref (μ 6), .ref (μ 7), .ref (μ 8), .ref (μ 9), .ref (μ 10), .ref (μ 11)])) ∧
  g 21 = some (μ 1, .inl (Γ.2.1 0, 16, .inl T)) ∧
  g 22 = some (μ 2, .inl (Γ.2.1 0, 150, .inl (fun i => (E i).1))) ∧
  g 23 = some (μ 3, .inl (Γ.2.1 0, 150, .inl (fun i => (E i).2.1))) ∧
  g 24 = some (μ 4, .inl (Γ.2.1 0, 150, .inl (fun i => (E i).2.2.1))) ∧
  g 25 = some (μ 5, .inl (Γ.2.1 0, 150, .inl (fun i => (E i).2.2.2.1))) ∧
  g 26 = some (μ 6, .inl (Γ.2.1 0, 150, .inl (fun i => (E i).2.2.2.2.1))) ∧
  g 27 = some (μ 7, .inl (Γ.2.1 0, 150, .inl (fun i => (E i).2.2.2.2.2.1))) ∧
  g 28 = some (μ 8, .inl (Γ.2.1 0, 150, .inl (fun i => (E i).2.2.2.2.2.2.2))) ∧
  g 29 = some (μ 9, .inl (Γ.2.1 0, 2400, .inl (fun j => (E (j / 16)).2.2.2.2.2.2.1 (j % 16)))) ∧
  g 30 = some (μ 10, .inl (Γ.2.1 0, 360, .inl C)) ∧
  (∃ F : Nat → Int32, g 31 = some (μ 11, .inl (Γ.2.1 1, 120, .inl F))) ∧ sl_wf n tl C E
def sl_fm (g g' : sl_W) : Prop := ∀ k, (k < 20 ∨ 32 ≤ k) → g' k = g k
theorem sl_fm.rf (g : sl_W) : sl_fm g g := fun _ _ => rfl
theorem sl_fm.up {g g' : sl_W} (h : sl_fm g g') {k : Nat} (q : Nat × va_E) (hk : 20 ≤ k ∧ k < 32) : sl_fm g (sl_up g' k q) := fun j h1 => (sl_up_n _ _ (by omega)).trans (h j h1)
theorem sl_fm.tr {g g' g2 : sl_W} (h : sl_fm g g') (h2 : sl_fm g' g2) : sl_fm g g2 := fun j h1 => (h2 j h1).trans (h j h1)
theorem sl_tok_ex {n : Nat} {x : Int32} (hn : n ≤ 150) (h : (sl_tok n x).isSome = true) : ∃ t, t < n ∧ x = nI t ∧ sl_tok n x = some t := by
  rcases sl_opt (sl_tok n x) with e | ⟨t, e⟩
  · rw [e] at h; cases h
  · exact ⟨t, sl_tok_lt e, sl_tok_eq hn e, e⟩
theorem sl_tok_in {n : Nat} {x : Int32} (hn : n ≤ 150) : sl_in x 0 (nI n - 1) = (sl_tok n x).isSome := by
  have e : (nI n - 1).toInt = (n : Int) - 1 := by
    cases n with
    | zero => rfl
    | succ n => rw [nI_pred, nI_toInt (by omega)]; omega
  by_cases h : 0 ≤ x.toInt ∧ x.toInt < n
  · rw [sl_in_t (by rw [sl_i0]; exact h.1) (by rw [e]; omega), sl_tok, if_pos h]; rfl
  · rw [sl_in_f (by rw [sl_i0, e]; omega), sl_tok, if_neg h]; rfl
theorem sl_ch_eq {lo : Bool} {tl n : Nat} (ht : tl ≤ 120) (hn : n ≤ 150) : (lo || decide (tl = 120) || decide (n = 150)) = sl_ch lo tl n := by
  rw [sl_ch, decide_eq_decide.mpr (by omega : tl = 120 ↔ 120 ≤ tl), decide_eq_decide.mpr (by omega : n = 150 ↔ 150 ≤ n)]
/-- a cell names an entry with the stream -/
def sl_hc (n : Nat) (E : Nat → sl_Ent) (z x : Int32) : Bool := match sl_tok n z with
  | none => false
  | some t => sl_has (E t).2.2.1 x
theorem sl_hc_0 {n : Nat} {E : Nat → sl_Ent} {z x : Int32} (h : sl_tok n z = none) : sl_hc n E z x = false := by rw [sl_hc, h]
theorem sl_hc_1 {n t : Nat} {E : Nat → sl_Ent} {z x : Int32} (h : sl_tok n z = some t) : sl_hc n E z x = sl_has (E t).2.2.1 x := by rw [sl_hc, h]
theorem sl_ge0 {z : Int32} : ¬ z < 0 ↔ 0 ≤ z.toInt := by rw [sl_ltI, sl_i0]; omega
/-- a cell: junk, empty, or a token -/
def sl_ce (n : Nat) (z : Int32) : Prop := z = -1 ∨ z = -2 ∨ ∃ t, t < n ∧ z = nI t
theorem sl_ce_neg {n : Nat} {z : Int32} (hn : n ≤ 150) (h : sl_ce n z) (hz : z < 0) : sl_tok n z = none := sl_tok_neg (by rw [sl_ltI, sl_i0] at hz; exact hz)
theorem sl_ce_pos {n : Nat} {z : Int32} (hn : n ≤ 150) (h : sl_ce n z) (hz : ¬ z < 0) : ∃ t, t < n ∧ z = nI t ∧ sl_tok n z = some t := by
  rcases h with e | e | ⟨t, ht, e⟩
  · exact absurd (by rw [e]; decide) hz
  · exact absurd (by rw [e]; decide) hz
  · exact ⟨t, ht, e, by rw [e]; exact sl_tokN ht hn⟩
theorem sl_tok_isS {n : Nat} {z : Int32} (hn : n ≤ 150) (h : sl_ce n z) : (sl_tok n z).isSome = !decide (z < 0) := by
  by_cases hz : z < 0
  · rw [sl_ce_neg hn h hz, decide_eq_true hz]; rfl
  · obtain ⟨t, -, -, e⟩ := sl_ce_pos hn h hz
    rw [e, decide_eq_false hz]; rfl
theorem sl_Mdl_up0 {Γ : sl_G} {μ : Nat → Nat} {n : Nat} {ep : Int32} {tl : Nat} {lo : Bool} {T C : Nat → Int32} {E : Nat → sl_Ent} {th : Int32} {g : sl_W} (h : sl_Mdl Γ μ n ep tl lo T C E th g) (th2 ep2 : Int32) (tl2 : Nat) (lo2 : Bool) (ht : tl2 ≤ 120) : sl_Mdl Γ μ n ep2 tl2 lo2 T C E th2 (sl_up g 20 (μ 0, .inr (5, [.int th2, .int ep2, .int (sl_bi lo2), .int (nI tl2), .ref (μ 1), .int (nI n), .ref (μ 2), .ref (μ 3), .ref (μ 4), .ref (μ 5), .ref (μ 6), .ref (μ 7), .ref (μ 8), .ref (μ 9), .ref (μ 10), .ref (μ 11)]))) := by
  obtain ⟨h20, h21, h22, h23, h24, h25, h26, h27, h28, h29, h30, ⟨F, h31⟩, hw⟩ := h
  exact ⟨sl_up_s _ _ _, sl_up_to (by decide) h21, sl_up_to (by decide) h22, sl_up_to (by decide) h23, sl_up_to (by decide) h24, sl_up_to (by decide) h25, sl_up_to (by decide) h26, sl_up_to (by decide) h27, sl_up_to (by decide) h28, sl_up_to (by decide) h29, sl_up_to (by decide) h30, ⟨_, sl_up_to (by decide) h31⟩, ⟨hw.1, ht, hw.2.2⟩⟩
theorem sl_Mdl_up1 {Γ : sl_G} {μ : Nat → Nat} {n : Nat} {ep : Int32} {tl : Nat} {lo : Bool} {T C : Nat → Int32} {E : Nat → sl_Ent} {th : Int32} {g : sl_W} (h : sl_Mdl Γ μ n ep tl lo T C E th g) (T2 : Nat → Int32) : sl_Mdl Γ μ n ep tl lo T2 C E th (sl_up g 21 (μ 1, .inl (Γ.2.1 0, 16, .inl T2))) := by
  obtain ⟨h20, h21, h22, h23, h24, h25, h26, h27, h28, h29, h30, ⟨F, h31⟩, hw⟩ := h
  exact ⟨sl_up_to (by decide) h20, sl_up_s _ _ _, sl_up_to (by decide) h22, sl_up_to (by decide) h23, sl_up_to (by decide) h24, sl_up_to (by decide) h25, sl_up_to (by decide) h26, sl_up_to (by decide) h27, sl_up_to (by decide) h28, sl_up_to (by decide) h29, sl_up_to (by decide) h30, ⟨_, sl_up_to (by decide) h31⟩, hw⟩
theorem sl_Mdl_up11 {Γ : sl_G} {μ : Nat → Nat} {n : Nat} {ep : Int32} {tl : Nat} {lo : Bool} {T C : Nat → Int32} {E : Nat → sl_Ent} {th : Int32} {g : sl_W} (h : sl_Mdl Γ μ n ep tl lo T C E th g) (F2 : Nat → Int32) : sl_Mdl Γ μ n ep tl lo T C E th (sl_up g 31 (μ 11, .inl (Γ.2.1 1, 120, .inl F2))) := by
  obtain ⟨h20, h21, h22, h23, h24, h25, h26, h27, h28, h29, h30, ⟨F, h31⟩, hw⟩ := h
  exact ⟨sl_up_to (by decide) h20, sl_up_to (by decide) h21, sl_up_to (by decide) h22, sl_up_to (by decide) h23, sl_up_to (by decide) h24, sl_up_to (by decide) h25, sl_up_to (by decide) h26, sl_up_to (by decide) h27, sl_up_to (by decide) h28, sl_up_to (by decide) h29, sl_up_to (by decide) h30, ⟨_, sl_up_s _ _ _⟩, hw⟩
theorem sl_Mdl_up10 {Γ : sl_G} {μ : Nat → Nat} {n : Nat} {ep : Int32} {tl : Nat} {lo : Bool} {T C : Nat → Int32} {E : Nat → sl_Ent} {th : Int32} {g : sl_W} (h : sl_Mdl Γ μ n ep tl lo T C E th g) (C2 : Nat → Int32) (hC : ∀ i, i < 360 → sl_ce n (C2 i)) : sl_Mdl Γ μ n ep tl lo T C2 E th (sl_up g 30 (μ 10, .inl (Γ.2.1 0, 360, .inl C2))) := by
  obtain ⟨h20, h21, h22, h23, h24, h25, h26, h27, h28, h29, h30, ⟨F, h31⟩, hw⟩ := h
  exact ⟨sl_up_to (by decide) h20, sl_up_to (by decide) h21, sl_up_to (by decide) h22, sl_up_to (by decide) h23, sl_up_to (by decide) h24, sl_up_to (by decide) h25, sl_up_to (by decide) h26, sl_up_to (by decide) h27, sl_up_to (by decide) h28, sl_up_to (by decide) h29, sl_up_s _ _ _, ⟨_, sl_up_to (by decide) h31⟩, ⟨hw.1, hw.2.1, hC, hw.2.2.2⟩⟩
set_option maxHeartbeats 4000000 in
set_option maxRecDepth 100000 in
theorem kX5_thrown (l : Launch) (Γ : sl_G) (g : sl_W) (μ : Nat → Nat) (n : Nat) (ep : Int32) (tl : Nat) (lo : Bool) (T C : Nat → Int32) (E : Nat → sl_Ent) (th : Int32) (hM : sl_Mdl Γ μ n ep tl lo T C E th g) : Met l yX5_thrown [Cond.code yX5_thrown cX5_thrown 1 (some .int)] ({ frames := 0, cells := 0, slots := 0, locals := 0 } : Room) (va_Pc [.ref (μ 0)] (sl_B Γ g)) (sl_Qi Γ (fun r (_ : Unit) => r = th) (fun _ => g)) 0 0 (sl_A Γ) := by
  refine sl_ent (by decide) (Nat.le_of_ble_eq_true rfl) ?_
  intro p e s m below meth c ls hC hr hin hG hl
  have hx := hC.1
  have hb := hC.2.1
  have hl : lv_has ls 1 [(0, .ref (μ 0))] := hl
  obtain ⟨h20, h21, h22, h23, h24, h25, h26, h27, h28, h29, h30, ⟨F, h31⟩, hn9, ht9, hC9, hE9, hZ9⟩ := id hM
  refine lv_aload_n hx hb dX5_thrown_0 rfl (lv_at hl 0 rfl) ?_
  refine sl_get (C := RX5) (T := TX5) (N := 16) hC hG 20 h20 rfl la_5 0 (by decide) lk_RX5_44 rfl rfl dX5_thrown_1 ?_
  exact sl_ri (v := th) hC hr hG () rfl rfl (Nat.le_of_ble_eq_true rfl) (Nat.le_of_ble_eq_true rfl) dX5_thrown_4
set_option maxHeartbeats 4000000 in
set_option maxRecDepth 100000 in
theorem kX5_fails (l : Launch) (Γ : sl_G) (g : sl_W) (μ : Nat → Nat) (n : Nat) (ep : Int32) (tl : Nat) (lo : Bool) (T C : Nat → Int32) (E : Nat → sl_Ent) (th : Int32) (hM : sl_Mdl Γ μ n ep tl lo T C E th g) (z : Int32) : Met l yX5_fails [Cond.code yX5_fails cX5_fails 2 (some .int)] ({ frames := 0, cells := 0, slots := 0, locals := 0 } : Room) (va_Pc [.ref (μ 0), .int z] (sl_B Γ g)) (sl_Qi Γ (fun r (_ : Unit) => r = 0) (fun _ => sl_up g 20 ((μ 0), .inr (5, [.int z, .int ep, .int (sl_bi lo), .int (nI tl), .ref (μ 1), .int (nI n), .ref (μ 2), .ref (μ 3), .ref (μ 4), .ref (μ 5), .ref (μ 6), .ref (μ 7), .ref (μ 8), .ref (μ 9), .ref (μ 10), .ref (μ 11)])))) 0 0 (sl_A Γ) := by
  refine sl_ent (by decide) (Nat.le_of_ble_eq_true rfl) ?_
  intro p e s m below meth c ls hC hr hin hG hl
  have hx := hC.1
  have hb := hC.2.1
  have hl : lv_has ls 2 [(0, .ref (μ 0)), (1, .int z)] := hl
  obtain ⟨h20, h21, h22, h23, h24, h25, h26, h27, h28, h29, h30, ⟨F, h31⟩, hn9, ht9, hC9, hE9, hZ9⟩ := id hM
  refine lv_aload_n hx hb dX5_fails_0 rfl (lv_at hl 0 rfl) ?_
  refine lv_iload_n hx hb dX5_fails_1 rfl (lv_at hl 1 rfl) ?_
  refine sl_put (C := RX5) (T := TX5) (N := 16) (ty := .int) (v := .int z) hC hG 20 h20 rfl la_5 tyX5 tyX5_ok nmX5 0 (by decide) lk_RX5_44 rfl rfl (by decide +kernel) rfl rfl (Nat.le_of_ble_eq_true rfl) dX5_fails_2 (fun H locs hG => ?_)
  have hG : sl_I Γ (sl_up g 20 ((μ 0), .inr (5, [.int z, .int ep, .int (sl_bi lo), .int (nI tl), .ref (μ 1), .int (nI n), .ref (μ 2), .ref (μ 3), .ref (μ 4), .ref (μ 5), .ref (μ 6), .ref (μ 7), .ref (μ 8), .ref (μ 9), .ref (μ 10), .ref (μ 11)]))) s H _ := hG
  refine lv_iconst (v := 0) hx hb dX5_fails_5 (by decide) ?_
  exact sl_ri (v := 0) hC hr hG () rfl rfl (Nat.le_of_ble_eq_true rfl) (Nat.le_of_ble_eq_true rfl) dX5_fails_6
set_option maxHeartbeats 4000000 in
set_option maxRecDepth 100000 in
theorem kX5_isToken (l : Launch) (Γ : sl_G) (g : sl_W) (μ : Nat → Nat) (n : Nat) (ep : Int32) (tl : Nat) (lo : Bool) (T C : Nat → Int32) (E : Nat → sl_Ent) (th : Int32) (hM : sl_Mdl Γ μ n ep tl lo T C E th g) (x : Int32) : Met l yX5_isToken [Cond.code yX5_isToken cX5_isToken 2 (some .boolean)] ({ frames := 1, cells := 0, slots := 0, locals := 22 } : Room) (va_Pc [.ref (μ 0), .int x] (sl_B Γ g)) (sl_Qi Γ (fun r (_ : Unit) => r = sl_bi (sl_tok n x).isSome) (fun _ => g)) 0 0 (sl_A Γ) := by
  refine sl_ent (by decide) (Nat.le_of_ble_eq_true rfl) ?_
  intro p e s m below meth c ls hC hr hin hG hl
  have hx := hC.1
  have hb := hC.2.1
  have hl : lv_has ls 2 [(0, .ref (μ 0)), (1, .int x)] := hl
  obtain ⟨h20, h21, h22, h23, h24, h25, h26, h27, h28, h29, h30, ⟨F, h31⟩, hn9, ht9, hC9, hE9, hZ9⟩ := id hM
  refine lv_iload_n hx hb dX5_isToken_0 rfl (lv_at hl 1 rfl) ?_
  refine lv_iconst (v := 0) hx hb dX5_isToken_1 (by decide) ?_
  refine lv_aload_n hx hb dX5_isToken_2 rfl (lv_at hl 0 rfl) ?_
  refine sl_get (C := RX5) (T := TX5) (N := 16) hC hG 20 h20 rfl la_5 5 (by decide) lk_RX5_52 rfl rfl dX5_isToken_3 ?_
  refine lv_iconst (v := 1) hx hb dX5_isToken_6 (by decide) ?_
  refine lv_isub hx hb dX5_isToken_7 ?_
  refine sl_calli (sl_runS (As := [.int x, .int 0, .int ((nI n) - 1)]) (rest := []) hC hG (kX5_in l Γ g x 0 ((nI n) - 1)) mi_X5_in lk_RX5_48 rfl rfl ⟨Nat.le_of_ble_eq_true rfl, Nat.le_of_ble_eq_true rfl⟩ rfl hl.1 rfl (Nat.le_of_ble_eq_true rfl) dX5_isToken_8 ⟨Nat.le_of_ble_eq_true rfl, Nat.le_of_ble_eq_true rfl⟩) hG (fun r_8 u_8 H locs hr_8 hG => ?_)
  subst hr_8
  exact sl_rz (v := sl_bi (sl_in x 0 ((nI n) - 1))) hC hr (sl_nb _) hG () (congrArg sl_bi (sl_tok_in hn9)) rfl (Nat.le_of_ble_eq_true rfl) (Nat.le_of_ble_eq_true rfl) dX5_isToken_11
set_option maxHeartbeats 4000000 in
set_option maxRecDepth 100000 in
theorem kX5_cannotHand (l : Launch) (Γ : sl_G) (g : sl_W) (μ : Nat → Nat) (n : Nat) (ep : Int32) (tl : Nat) (lo : Bool) (T C : Nat → Int32) (E : Nat → sl_Ent) (th : Int32) (hM : sl_Mdl Γ μ n ep tl lo T C E th g) : Met l yX5_cannotHand [Cond.code yX5_cannotHand cX5_cannotHand 1 (some .boolean)] ({ frames := 0, cells := 0, slots := 0, locals := 0 } : Room) (va_Pc [.ref (μ 0)] (sl_B Γ g)) (sl_Qi Γ (fun r (_ : Unit) => r = sl_bi (sl_ch lo tl n)) (fun _ => g)) 0 0 (sl_A Γ) := by
  refine sl_ent (by decide) (Nat.le_of_ble_eq_true rfl) ?_
  intro p e s m below meth c ls hC hr hin hG hl
  have hx := hC.1
  have hb := hC.2.1
  have hl : lv_has ls 1 [(0, .ref (μ 0))] := hl
  obtain ⟨h20, h21, h22, h23, h24, h25, h26, h27, h28, h29, h30, ⟨F, h31⟩, hn9, ht9, hC9, hE9, hZ9⟩ := id hM
  refine lv_aload_n hx hb dX5_cannotHand_0 rfl (lv_at hl 0 rfl) ?_
  refine sl_get (C := RX5) (T := TX5) (N := 16) hC hG 20 h20 rfl la_5 2 (by decide) lk_RX5_55 rfl rfl dX5_cannotHand_1 ?_
  refine lv_if_ne (tgt := 26) hx hb dX5_cannotHand_4 (by decide) (fun c_4 => ?_) (fun c_4 => ?_)
  · have c_4 := sl_bT c_4
    refine lv_iconst (v := 1) hx hb dX5_cannotHand_26 (by decide) ?_
    refine lv_goto (tgt := 31) hx hb dX5_cannotHand_27 (by decide) ?_
    exact sl_rz (v := 1) hC hr rfl hG () (by show _ = sl_bi (sl_ch lo tl n); rw [← sl_ch_eq ht9 hn9]; rw [c_4]; rfl) rfl (Nat.le_of_ble_eq_true rfl) (Nat.le_of_ble_eq_true rfl) dX5_cannotHand_31
  · have c_4 := sl_bF c_4
    refine lv_aload_n hx hb dX5_cannotHand_7 rfl (lv_at hl 0 rfl) ?_
    refine sl_get (C := RX5) (T := TX5) (N := 16) hC hG 20 h20 rfl la_5 3 (by decide) lk_RX5_59 rfl rfl dX5_cannotHand_8 ?_
    refine lv_bipush (v := 120) hx hb dX5_cannotHand_11 (by decide) ?_
    refine lv_icmp_eq (tgt := 26) hx hb dX5_cannotHand_13 (by decide) (fun c_13 => ?_) (fun c_13 => ?_)
    · have n_13 : tl = 120 := (nI_eq (a := tl) (b := 120) (by omega) (by omega)).mp c_13
      refine lv_iconst (v := 1) hx hb dX5_cannotHand_26 (by decide) ?_
      refine lv_goto (tgt := 31) hx hb dX5_cannotHand_27 (by decide) ?_
      exact sl_rz (v := 1) hC hr rfl hG () (by show _ = sl_bi (sl_ch lo tl n); rw [← sl_ch_eq ht9 hn9]; rw [c_4, decide_eq_true n_13]; rfl) rfl (Nat.le_of_ble_eq_true rfl) (Nat.le_of_ble_eq_true rfl) dX5_cannotHand_31
    · have n_13 : ¬ (tl = 120) := fun z => c_13 ((nI_eq (a := tl) (b := 120) (by omega) (by omega)).mpr z)
      refine lv_aload_n hx hb dX5_cannotHand_16 rfl (lv_at hl 0 rfl) ?_
      refine sl_get (C := RX5) (T := TX5) (N := 16) hC hG 20 h20 rfl la_5 5 (by decide) lk_RX5_52 rfl rfl dX5_cannotHand_17 ?_
      refine lv_sipush (v := 150) hx hb dX5_cannotHand_20 (by decide) ?_
      refine lv_icmp_ne (tgt := 30) hx hb dX5_cannotHand_23 (by decide) (fun c_23 => ?_) (fun c_23 => ?_)
      · have n_23 : ¬ (n = 150) := fun z => c_23 ((nI_eq (a := n) (b := 150) (by omega) (by omega)).mpr z)
        refine lv_iconst (v := 0) hx hb dX5_cannotHand_30 (by decide) ?_
        exact sl_rz (v := 0) hC hr rfl hG () (by show _ = sl_bi (sl_ch lo tl n); rw [← sl_ch_eq ht9 hn9]; rw [c_4, decide_eq_false n_13, decide_eq_false n_23]; rfl) rfl (Nat.le_of_ble_eq_true rfl) (Nat.le_of_ble_eq_true rfl) dX5_cannotHand_31
      · have n_23 : n = 150 := (nI_eq (a := n) (b := 150) (by omega) (by omega)).mp c_23
        refine lv_iconst (v := 1) hx hb dX5_cannotHand_26 (by decide) ?_
        refine lv_goto (tgt := 31) hx hb dX5_cannotHand_27 (by decide) ?_
        exact sl_rz (v := 1) hC hr rfl hG () (by show _ = sl_bi (sl_ch lo tl n); rw [← sl_ch_eq ht9 hn9]; rw [c_4, decide_eq_false n_13, decide_eq_true n_23]; rfl) rfl (Nat.le_of_ble_eq_true rfl) (Nat.le_of_ble_eq_true rfl) dX5_cannotHand_31
set_option maxHeartbeats 4000000 in
set_option maxRecDepth 100000 in
theorem kX5_learns (l : Launch) (Γ : sl_G) (g : sl_W) (μ : Nat → Nat) (n : Nat) (ep : Int32) (tl : Nat) (lo : Bool) (T C : Nat → Int32) (E : Nat → sl_Ent) (th : Int32) (hM : sl_Mdl Γ μ n ep tl lo T C E th g) (k : Nat) (hk9 : k < 4) (z : Int32) : Met l yX5_learns [Cond.code yX5_learns cX5_learns 4 none] ({ frames := 0, cells := 0, slots := 0, locals := 0 } : Room) (va_Pc [.ref (μ 0), .int (nI k), .int z] (sl_B Γ g)) (sl_Qv Γ (fun (_ : Unit) => True) (fun _ => sl_up g 21 ((μ 1), .inl (Γ.2.1 0, 16, .inl (sl_t1 T k z))))) 0 0 (sl_A Γ) := by
  refine sl_ent (by decide) (Nat.le_of_ble_eq_true rfl) ?_
  intro p e s m below meth c ls hC hr hin hG hl
  have hx := hC.1
  have hb := hC.2.1
  have hl : lv_has ls 4 [(0, .ref (μ 0)), (1, .int (nI k)), (2, .int z)] := hl
  obtain ⟨h20, h21, h22, h23, h24, h25, h26, h27, h28, h29, h30, ⟨F, h31⟩, hn9, ht9, hC9, hE9, hZ9⟩ := id hM
  refine lv_iconst (v := 3) hx hb dX5_learns_0 (by decide) ?_
  refine lv_istore_n (lv' := [(3, .int 3), (0, .ref (μ 0)), (1, .int (nI k)), (2, .int z)]) hx hb dX5_learns_1 rfl hl (by decide) rfl (fun ls hl => ?_)
  refine lv_iload_n hx hb dX5_learns_2 rfl (lv_at hl 0 rfl) ?_
  refine lv_if_le (tgt := 34) hx hb dX5_learns_3 (by decide) (fun c_3 => ?_) (fun c_3 => ?_)
  · exact absurd c_3 (by decide)
  · refine lv_aload_n hx hb dX5_learns_6 rfl (lv_at hl 1 rfl) ?_
    refine sl_get (C := RX5) (T := TX5) (N := 16) hC hG 20 h20 rfl la_5 4 (by decide) lk_RX5_7 rfl rfl dX5_learns_7 ?_
    refine lv_iconst (v := 4) hx hb dX5_learns_10 (by decide) ?_
    refine lv_iload_n hx hb dX5_learns_11 rfl (lv_at hl 2 rfl) ?_
    refine lv_imul hx hb dX5_learns_12 ?_
    refine sl_topi (y := nI (4 * k)) (pk_mul 4 k) ?_
    refine lv_iload_n hx hb dX5_learns_13 rfl (lv_at hl 0 rfl) ?_
    refine lv_iadd hx hb dX5_learns_14 ?_
    refine sl_topi (y := nI (4 * k + 3)) (nI_add (4 * k) 3) ?_
    refine lv_aload_n hx hb dX5_learns_15 rfl (lv_at hl 1 rfl) ?_
    refine sl_get (C := RX5) (T := TX5) (N := 16) hC hG 20 h20 rfl la_5 4 (by decide) lk_RX5_7 rfl rfl dX5_learns_16 ?_
    refine lv_iconst (v := 4) hx hb dX5_learns_19 (by decide) ?_
    refine lv_iload_n hx hb dX5_learns_20 rfl (lv_at hl 2 rfl) ?_
    refine lv_imul hx hb dX5_learns_21 ?_
    refine sl_topi (y := nI (4 * k)) (pk_mul 4 k) ?_
    refine lv_iload_n hx hb dX5_learns_22 rfl (lv_at hl 0 rfl) ?_
    refine lv_iadd hx hb dX5_learns_23 ?_
    refine sl_topi (y := nI (4 * k + 3)) (nI_add (4 * k) 3) ?_
    refine lv_iconst (v := 1) hx hb dX5_learns_24 (by decide) ?_
    refine lv_isub hx hb dX5_learns_25 ?_
    refine sl_topi (y := nI (4 * k + 2)) (nI_pred (4 * k + 2)) ?_
    refine sl_ialdN hC hG 21 h21 (j := 4 * k + 2) rfl (by omega) (by omega) dX5_learns_26 ?_
    refine sl_iastN hC hG 21 h21 (j := 4 * k + 3) rfl (by omega) (by omega) dX5_learns_27 (fun H locs hG => ?_)
    have hG : sl_I Γ (sl_up g 21 ((μ 1), .inl (Γ.2.1 0, 16, .inl (upd T (4 * k + 3) (T (4 * k + 2)))))) s H _ := hG
    refine lv_iinc (v := 2) (lv' := [(3, .int 2), (0, .ref (μ 0)), (1, .int (nI k)), (2, .int z)]) hx hb dX5_learns_28 hl (k := 0) rfl (by decide) (by decide) rfl (fun ls hl => ?_)
    refine lv_goto (tgt := 2) hx hb dX5_learns_31 (by decide) ?_
    refine lv_iload_n hx hb dX5_learns_2 rfl (lv_at hl 0 rfl) ?_
    refine lv_if_le (tgt := 34) hx hb dX5_learns_3 (by decide) (fun c_3 => ?_) (fun c_3 => ?_)
    · exact absurd c_3 (by decide)
    · refine lv_aload_n hx hb dX5_learns_6 rfl (lv_at hl 1 rfl) ?_
      refine sl_get (C := RX5) (T := TX5) (N := 16) hC hG 20 (sl_up_to (by decide) h20) rfl la_5 4 (by decide) lk_RX5_7 rfl rfl dX5_learns_7 ?_
      refine lv_iconst (v := 4) hx hb dX5_learns_10 (by decide) ?_
      refine lv_iload_n hx hb dX5_learns_11 rfl (lv_at hl 2 rfl) ?_
      refine lv_imul hx hb dX5_learns_12 ?_
      refine sl_topi (y := nI (4 * k)) (pk_mul 4 k) ?_
      refine lv_iload_n hx hb dX5_learns_13 rfl (lv_at hl 0 rfl) ?_
      refine lv_iadd hx hb dX5_learns_14 ?_
      refine sl_topi (y := nI (4 * k + 2)) (nI_add (4 * k) 2) ?_
      refine lv_aload_n hx hb dX5_learns_15 rfl (lv_at hl 1 rfl) ?_
      refine sl_get (C := RX5) (T := TX5) (N := 16) hC hG 20 (sl_up_to (by decide) h20) rfl la_5 4 (by decide) lk_RX5_7 rfl rfl dX5_learns_16 ?_
      refine lv_iconst (v := 4) hx hb dX5_learns_19 (by decide) ?_
      refine lv_iload_n hx hb dX5_learns_20 rfl (lv_at hl 2 rfl) ?_
      refine lv_imul hx hb dX5_learns_21 ?_
      refine sl_topi (y := nI (4 * k)) (pk_mul 4 k) ?_
      refine lv_iload_n hx hb dX5_learns_22 rfl (lv_at hl 0 rfl) ?_
      refine lv_iadd hx hb dX5_learns_23 ?_
      refine sl_topi (y := nI (4 * k + 2)) (nI_add (4 * k) 2) ?_
      refine lv_iconst (v := 1) hx hb dX5_learns_24 (by decide) ?_
      refine lv_isub hx hb dX5_learns_25 ?_
      refine sl_topi (y := nI (4 * k + 1)) (nI_pred (4 * k + 1)) ?_
      refine sl_ialdN hC hG 21 (sl_up_s _ _ _) (j := 4 * k + 1) rfl (by omega) (by omega) dX5_learns_26 ?_
      refine sl_iastN hC hG 21 (sl_up_s _ _ _) (j := 4 * k + 2) rfl (by omega) (by omega) dX5_learns_27 (fun H locs hG => ?_)
      rw [sl_up_up] at hG
      have hG : sl_I Γ (sl_up g 21 ((μ 1), .inl (Γ.2.1 0, 16, .inl (upd (upd T (4 * k + 3) (T (4 * k + 2))) (4 * k + 2) ((upd T (4 * k + 3) (T (4 * k + 2))) (4 * k + 1)))))) s H _ := hG
      refine lv_iinc (v := 1) (lv' := [(3, .int 1), (0, .ref (μ 0)), (1, .int (nI k)), (2, .int z)]) hx hb dX5_learns_28 hl (k := 0) rfl (by decide) (by decide) rfl (fun ls hl => ?_)
      refine lv_goto (tgt := 2) hx hb dX5_learns_31 (by decide) ?_
      refine lv_iload_n hx hb dX5_learns_2 rfl (lv_at hl 0 rfl) ?_
      refine lv_if_le (tgt := 34) hx hb dX5_learns_3 (by decide) (fun c_3 => ?_) (fun c_3 => ?_)
      · exact absurd c_3 (by decide)
      · refine lv_aload_n hx hb dX5_learns_6 rfl (lv_at hl 1 rfl) ?_
        refine sl_get (C := RX5) (T := TX5) (N := 16) hC hG 20 (sl_up_to (by decide) h20) rfl la_5 4 (by decide) lk_RX5_7 rfl rfl dX5_learns_7 ?_
        refine lv_iconst (v := 4) hx hb dX5_learns_10 (by decide) ?_
        refine lv_iload_n hx hb dX5_learns_11 rfl (lv_at hl 2 rfl) ?_
        refine lv_imul hx hb dX5_learns_12 ?_
        refine sl_topi (y := nI (4 * k)) (pk_mul 4 k) ?_
        refine lv_iload_n hx hb dX5_learns_13 rfl (lv_at hl 0 rfl) ?_
        refine lv_iadd hx hb dX5_learns_14 ?_
        refine sl_topi (y := nI (4 * k + 1)) (nI_add (4 * k) 1) ?_
        refine lv_aload_n hx hb dX5_learns_15 rfl (lv_at hl 1 rfl) ?_
        refine sl_get (C := RX5) (T := TX5) (N := 16) hC hG 20 (sl_up_to (by decide) h20) rfl la_5 4 (by decide) lk_RX5_7 rfl rfl dX5_learns_16 ?_
        refine lv_iconst (v := 4) hx hb dX5_learns_19 (by decide) ?_
        refine lv_iload_n hx hb dX5_learns_20 rfl (lv_at hl 2 rfl) ?_
        refine lv_imul hx hb dX5_learns_21 ?_
        refine sl_topi (y := nI (4 * k)) (pk_mul 4 k) ?_
        refine lv_iload_n hx hb dX5_learns_22 rfl (lv_at hl 0 rfl) ?_
        refine lv_iadd hx hb dX5_learns_23 ?_
        refine sl_topi (y := nI (4 * k + 1)) (nI_add (4 * k) 1) ?_
        refine lv_iconst (v := 1) hx hb dX5_learns_24 (by decide) ?_
        refine lv_isub hx hb dX5_learns_25 ?_
        refine sl_topi (y := nI (4 * k + 0)) (nI_pred (4 * k + 0)) ?_
        refine sl_ialdN hC hG 21 (sl_up_s _ _ _) (j := 4 * k + 0) rfl (by omega) (by omega) dX5_learns_26 ?_
        refine sl_iastN hC hG 21 (sl_up_s _ _ _) (j := 4 * k + 1) rfl (by omega) (by omega) dX5_learns_27 (fun H locs hG => ?_)
        rw [sl_up_up] at hG
        have hG : sl_I Γ (sl_up g 21 ((μ 1), .inl (Γ.2.1 0, 16, .inl (upd (upd (upd T (4 * k + 3) (T (4 * k + 2))) (4 * k + 2) ((upd T (4 * k + 3) (T (4 * k + 2))) (4 * k + 1))) (4 * k + 1) ((upd (upd T (4 * k + 3) (T (4 * k + 2))) (4 * k + 2) ((upd T (4 * k + 3) (T (4 * k + 2))) (4 * k + 1))) (4 * k + 0)))))) s H _ := hG
        refine lv_iinc (v := 0) (lv' := [(3, .int 0), (0, .ref (μ 0)), (1, .int (nI k)), (2, .int z)]) hx hb dX5_learns_28 hl (k := 0) rfl (by decide) (by decide) rfl (fun ls hl => ?_)
        refine lv_goto (tgt := 2) hx hb dX5_learns_31 (by decide) ?_
        refine lv_iload_n hx hb dX5_learns_2 rfl (lv_at hl 0 rfl) ?_
        refine lv_if_le (tgt := 34) hx hb dX5_learns_3 (by decide) (fun c_3 => ?_) (fun c_3 => ?_)
        · refine lv_aload_n hx hb dX5_learns_34 rfl (lv_at hl 1 rfl) ?_
          refine sl_get (C := RX5) (T := TX5) (N := 16) hC hG 20 (sl_up_to (by decide) h20) rfl la_5 4 (by decide) lk_RX5_7 rfl rfl dX5_learns_35 ?_
          refine lv_iconst (v := 4) hx hb dX5_learns_38 (by decide) ?_
          refine lv_iload_n hx hb dX5_learns_39 rfl (lv_at hl 2 rfl) ?_
          refine lv_imul hx hb dX5_learns_40 ?_
          refine sl_topi (y := nI (4 * k)) (pk_mul 4 k) ?_
          refine lv_iload_n hx hb dX5_learns_41 rfl (lv_at hl 3 rfl) ?_
          refine sl_iastN hC hG 21 (sl_up_s _ _ _) (j := 4 * k) rfl (by omega) (by omega) dX5_learns_42 (fun H locs hG => ?_)
          rw [sl_up_up] at hG
          have hG : sl_I Γ (sl_up g 21 ((μ 1), .inl (Γ.2.1 0, 16, .inl (upd (upd (upd (upd T (4 * k + 3) (T (4 * k + 2))) (4 * k + 2) ((upd T (4 * k + 3) (T (4 * k + 2))) (4 * k + 1))) (4 * k + 1) ((upd (upd T (4 * k + 3) (T (4 * k + 2))) (4 * k + 2) ((upd T (4 * k + 3) (T (4 * k + 2))) (4 * k + 1))) (4 * k + 0))) (4 * k) z)))) s H _ := hG
          exact sl_rv hC hr hG () trivial (by show sl_up g 21 _ = sl_up g 21 _; rw [sl_t1, pk_un (k := 4 * k + 3) (j := 4 * k + 1) (by omega), pk_un (k := 4 * k + 2) (j := 4 * k + 0) (by omega), pk_un (k := 4 * k + 3) (j := 4 * k + 0) (by omega)]; rfl) (Nat.le_of_ble_eq_true rfl) (Nat.le_of_ble_eq_true rfl) dX5_learns_43
        · exact absurd c_3 (by decide)
set_option maxHeartbeats 4000000 in
set_option maxRecDepth 100000 in
theorem kX5_hasStream (l : Launch) (Γ : sl_G) (g : sl_W) (μ : Nat → Nat) (n : Nat) (ep : Int32) (tl : Nat) (lo : Bool) (T C : Nat → Int32) (E : Nat → sl_Ent) (th : Int32) (hM : sl_Mdl Γ μ n ep tl lo T C E th g) (z x : Int32) (hz : sl_ce n z) : Met l yX5_hasStream [Cond.code yX5_hasStream cX5_hasStream 3 (some .boolean)] ({ frames := 0, cells := 0, slots := 0, locals := 0 } : Room) (va_Pc [.ref (μ 0), .int z, .int x] (sl_B Γ g)) (sl_Qi Γ (fun r (_ : Unit) => r = sl_bi (sl_hc n E z x)) (fun _ => g)) 0 0 (sl_A Γ) := by
  refine sl_ent (by decide) (Nat.le_of_ble_eq_true rfl) ?_
  intro p e s m below meth c ls hC hr hin hG hl
  have hx := hC.1
  have hb := hC.2.1
  have hl : lv_has ls 3 [(0, .ref (μ 0)), (1, .int z), (2, .int x)] := hl
  obtain ⟨h20, h21, h22, h23, h24, h25, h26, h27, h28, h29, h30, ⟨F, h31⟩, hn9, ht9, hC9, hE9, hZ9⟩ := id hM
  refine lv_iload_n hx hb dX5_hasStream_0 rfl (lv_at hl 1 rfl) ?_
  refine lv_if_lt (tgt := 22) hx hb dX5_hasStream_1 (by decide) (fun c_1 => ?_) (fun c_1 => ?_)
  · refine lv_iconst (v := 0) hx hb dX5_hasStream_22 (by decide) ?_
    exact sl_rz (v := 0) hC hr rfl hG () (by show _ = sl_bi (sl_hc n E z x); rw [sl_hc_0 (sl_ce_neg hn9 hz c_1)]; rfl) rfl (Nat.le_of_ble_eq_true rfl) (Nat.le_of_ble_eq_true rfl) dX5_hasStream_23
  · obtain ⟨t, ht, rfl, htok⟩ := sl_ce_pos hn9 hz c_1
    refine lv_aload_n hx hb dX5_hasStream_4 rfl (lv_at hl 0 rfl) ?_
    refine sl_get (C := RX5) (T := TX5) (N := 16) hC hG 20 h20 rfl la_5 8 (by decide) lk_RX5_19 rfl rfl dX5_hasStream_5 ?_
    refine lv_iload_n hx hb dX5_hasStream_8 rfl (lv_at hl 1 rfl) ?_
    refine sl_ialdN hC hG 24 h24 (j := t) rfl (by omega) (by omega) dX5_hasStream_9 ?_
    refine lv_iload_n hx hb dX5_hasStream_10 rfl (lv_at hl 2 rfl) ?_
    refine lv_ishr hx hb dX5_hasStream_11 ?_
    refine lv_iconst (v := 1) hx hb dX5_hasStream_12 (by decide) ?_
    refine lv_iand hx hb dX5_hasStream_13 ?_
    refine lv_iconst (v := 1) hx hb dX5_hasStream_14 (by decide) ?_
    refine lv_icmp_ne (tgt := 22) hx hb dX5_hasStream_15 (by decide) (fun c_15 => ?_) (fun c_15 => ?_)
    · refine lv_iconst (v := 0) hx hb dX5_hasStream_22 (by decide) ?_
      exact sl_rz (v := 0) hC hr rfl hG () (by show _ = sl_bi (sl_hc n E (nI t) x); rw [sl_hc_1 htok, sl_has, decide_eq_false c_15]; rfl) rfl (Nat.le_of_ble_eq_true rfl) (Nat.le_of_ble_eq_true rfl) dX5_hasStream_23
    · refine lv_iconst (v := 1) hx hb dX5_hasStream_18 (by decide) ?_
      refine lv_goto (tgt := 23) hx hb dX5_hasStream_19 (by decide) ?_
      exact sl_rz (v := 1) hC hr rfl hG () (by show _ = sl_bi (sl_hc n E (nI t) x); rw [sl_hc_1 htok, sl_has, decide_eq_true c_15]; rfl) rfl (Nat.le_of_ble_eq_true rfl) (Nat.le_of_ble_eq_true rfl) dX5_hasStream_23
set_option maxHeartbeats 4000000 in
set_option maxRecDepth 100000 in
theorem kX5_isWhole (l : Launch) (Γ : sl_G) (g : sl_W) (μ : Nat → Nat) (n : Nat) (ep : Int32) (tl : Nat) (lo : Bool) (T C : Nat → Int32) (E : Nat → sl_Ent) (th : Int32) (hM : sl_Mdl Γ μ n ep tl lo T C E th g) (b : Nat) (hb9 : b < 120) : Met l yX5_isWhole [Cond.code yX5_isWhole cX5_isWhole 2 (some .boolean)] ({ frames := 0, cells := 0, slots := 0, locals := 0 } : Room) (va_Pc [.ref (μ 0), .int (nI b)] (sl_B Γ g)) (sl_Qi Γ (fun r (_ : Unit) => r = sl_bi (sl_wh C b)) (fun _ => g)) 0 0 (sl_A Γ) := by
  refine sl_ent (by decide) (Nat.le_of_ble_eq_true rfl) ?_
  intro p e s m below meth c ls hC hr hin hG hl
  have hx := hC.1
  have hb := hC.2.1
  have hl : lv_has ls 2 [(0, .ref (μ 0)), (1, .int (nI b))] := hl
  obtain ⟨h20, h21, h22, h23, h24, h25, h26, h27, h28, h29, h30, ⟨F, h31⟩, hn9, ht9, hC9, hE9, hZ9⟩ := id hM
  refine lv_aload_n hx hb dX5_isWhole_0 rfl (lv_at hl 0 rfl) ?_
  refine sl_get (C := RX5) (T := TX5) (N := 16) hC hG 20 h20 rfl la_5 14 (by decide) lk_RX5_37 rfl rfl dX5_isWhole_1 ?_
  refine lv_iload_n hx hb dX5_isWhole_4 rfl (lv_at hl 1 rfl) ?_
  refine sl_ialdN hC hG 30 h30 (j := b) rfl (by omega) (by omega) dX5_isWhole_5 ?_
  refine lv_bipush (v := (-2)) hx hb dX5_isWhole_6 (by decide) ?_
  refine lv_icmp_eq (tgt := 44) hx hb dX5_isWhole_8 (by decide) (fun c_8 => ?_) (fun c_8 => ?_)
  · refine lv_iconst (v := 0) hx hb dX5_isWhole_44 (by decide) ?_
    exact sl_rz (v := 0) hC hr rfl hG () (by show _ = sl_bi (sl_wh C b); rw [sl_wh, decide_eq_true c_8]; simp [sl_bi]) rfl (Nat.le_of_ble_eq_true rfl) (Nat.le_of_ble_eq_true rfl) dX5_isWhole_45
  · refine lv_aload_n hx hb dX5_isWhole_11 rfl (lv_at hl 0 rfl) ?_
    refine sl_get (C := RX5) (T := TX5) (N := 16) hC hG 20 h20 rfl la_5 14 (by decide) lk_RX5_37 rfl rfl dX5_isWhole_12 ?_
    refine lv_bipush (v := 120) hx hb dX5_isWhole_15 (by decide) ?_
    refine lv_iload_n hx hb dX5_isWhole_17 rfl (lv_at hl 1 rfl) ?_
    refine lv_iadd hx hb dX5_isWhole_18 ?_
    refine sl_topi (y := nI (120 + b)) (nI_add 120 b) ?_
    refine sl_ialdN hC hG 30 h30 (j := 120 + b) rfl (by omega) (by omega) dX5_isWhole_19 ?_
    refine lv_bipush (v := (-2)) hx hb dX5_isWhole_20 (by decide) ?_
    refine lv_icmp_eq (tgt := 44) hx hb dX5_isWhole_22 (by decide) (fun c_22 => ?_) (fun c_22 => ?_)
    · refine lv_iconst (v := 0) hx hb dX5_isWhole_44 (by decide) ?_
      exact sl_rz (v := 0) hC hr rfl hG () (by show _ = sl_bi (sl_wh C b); rw [sl_wh, decide_eq_false c_8, decide_eq_true c_22]; simp [sl_bi]) rfl (Nat.le_of_ble_eq_true rfl) (Nat.le_of_ble_eq_true rfl) dX5_isWhole_45
    · refine lv_aload_n hx hb dX5_isWhole_25 rfl (lv_at hl 0 rfl) ?_
      refine sl_get (C := RX5) (T := TX5) (N := 16) hC hG 20 h20 rfl la_5 14 (by decide) lk_RX5_37 rfl rfl dX5_isWhole_26 ?_
      refine lv_sipush (v := 240) hx hb dX5_isWhole_29 (by decide) ?_
      refine lv_iload_n hx hb dX5_isWhole_32 rfl (lv_at hl 1 rfl) ?_
      refine lv_iadd hx hb dX5_isWhole_33 ?_
      refine sl_topi (y := nI (240 + b)) (nI_add 240 b) ?_
      refine sl_ialdN hC hG 30 h30 (j := 240 + b) rfl (by omega) (by omega) dX5_isWhole_34 ?_
      refine lv_bipush (v := (-2)) hx hb dX5_isWhole_35 (by decide) ?_
      refine lv_icmp_eq (tgt := 44) hx hb dX5_isWhole_37 (by decide) (fun c_37 => ?_) (fun c_37 => ?_)
      · refine lv_iconst (v := 0) hx hb dX5_isWhole_44 (by decide) ?_
        exact sl_rz (v := 0) hC hr rfl hG () (by show _ = sl_bi (sl_wh C b); rw [sl_wh, decide_eq_false c_8, decide_eq_false c_22, decide_eq_true c_37]; simp [sl_bi]) rfl (Nat.le_of_ble_eq_true rfl) (Nat.le_of_ble_eq_true rfl) dX5_isWhole_45
      · refine lv_iconst (v := 1) hx hb dX5_isWhole_40 (by decide) ?_
        refine lv_goto (tgt := 45) hx hb dX5_isWhole_41 (by decide) ?_
        exact sl_rz (v := 1) hC hr rfl hG () (by show _ = sl_bi (sl_wh C b); rw [sl_wh, decide_eq_false c_8, decide_eq_false c_22, decide_eq_false c_37]; simp [sl_bi]) rfl (Nat.le_of_ble_eq_true rfl) (Nat.le_of_ble_eq_true rfl) dX5_isWhole_45
set_option maxHeartbeats 4000000 in
set_option maxRecDepth 100000 in
theorem kX5_knownMany (l : Launch) (Γ : sl_G) (g : sl_W) (μ : Nat → Nat) (n : Nat) (ep : Int32) (tl : Nat) (lo : Bool) (T C : Nat → Int32) (E : Nat → sl_Ent) (th : Int32) (hM : sl_Mdl Γ μ n ep tl lo T C E th g) : Met l yX5_knownMany [Cond.code yX5_knownMany cX5_knownMany 2 (some .int)] ({ frames := 1, cells := 0, slots := 0, locals := 21 } : Room) (va_Pc [.ref (μ 0)] (sl_B Γ g)) (sl_Qi Γ (fun r (_ : Unit) => r = nI (sl_kn C)) (fun _ => g)) 0 0 (sl_A Γ) := by
  refine sl_ent (by decide) (Nat.le_of_ble_eq_true rfl) ?_
  intro p e s m below meth c ls hC hr hin hG hl
  have hx := hC.1
  have hb := hC.2.1
  have hl : lv_has ls 2 [(0, .ref (μ 0))] := hl
  obtain ⟨h20, h21, h22, h23, h24, h25, h26, h27, h28, h29, h30, ⟨F, h31⟩, hn9, ht9, hC9, hE9, hZ9⟩ := id hM
  refine lv_iconst (v := 0) hx hb dX5_knownMany_0 (by decide) ?_
  refine lv_istore_n (lv' := [(1, .int 0), (0, .ref (μ 0))]) hx hb dX5_knownMany_1 rfl hl (by decide) rfl (fun ls hl => ?_)
  have loop_2 : ∀ (fuel k : Nat), k ≤ 120 → 120 + 1 ≤ k + fuel → (sl_kf C k = k) → ∀ (H : Heap) (locs : List Loc), sl_I Γ g s H locs → ∀ (ls : Array Slot), lv_has ls 2 [(0, .ref (μ 0)), (1, .int (nI k))] → W p l e ({ frames := 1, cells := 0, slots := 0, locals := 21 } : Room) s m ([.ref (μ 0)] : List Value).toArray below meth c H locs 0 0 (MQ below (sl_Qi Γ (fun r (_ : Unit) => r = nI (sl_kn C)) (fun _ => g)) ([.ref (μ 0)] : List Value).toArray s 0 0 (sl_A Γ)) (F0 m 2 ls []) := by
    intro fuel
    induction fuel with
    | zero =>
      intro k  h1 h2
      exact absurd h2 (by omega)
    | succ fuel ih_2 =>
      intro k  hk_2 hn_2 hi H locs hG ls hl
      refine lv_iload_n hx hb dX5_knownMany_2 rfl (lv_at hl 1 rfl) ?_
      refine lv_bipush (v := 120) hx hb dX5_knownMany_3 (by decide) ?_
      refine lv_icmp_ge (tgt := 22) hx hb dX5_knownMany_5 (by decide) (fun c_5 => ?_) (fun c_5 => ?_)
      · have n_5 : 120 ≤ k := (nI_leI (a := 120) (b := k) (by omega) (by omega)).mp c_5
        refine lv_iload_n hx hb dX5_knownMany_22 rfl (lv_at hl 1 rfl) ?_
        exact sl_ri (v := nI k) hC hr hG () (by show _ = nI (sl_kf C 120); have hk9 : k = 120 := (by omega); subst hk9; rw [hi]) rfl (Nat.le_of_ble_eq_true rfl) (Nat.le_of_ble_eq_true rfl) dX5_knownMany_23
      · have n_5 : ¬ (120 ≤ k) := fun z => c_5 ((nI_leI (a := 120) (b := k) (by omega) (by omega)).mpr z)
        refine lv_aload_n hx hb dX5_knownMany_8 rfl (lv_at hl 0 rfl) ?_
        refine lv_iload_n hx hb dX5_knownMany_9 rfl (lv_at hl 1 rfl) ?_
        refine sl_calli (sl_runV (As := [.int (nI k)]) (rest := []) hC hG (kX5_isWhole l Γ g μ n ep tl lo T C E th hM k (by omega)) mi_X5_isWhole lk_RX5_94 20 h20 rfl rfl rfl ⟨Nat.le_of_ble_eq_true rfl, Nat.le_of_ble_eq_true rfl⟩ rfl hl.1 rfl (Nat.le_of_ble_eq_true rfl) dX5_knownMany_10 ⟨Nat.le_of_ble_eq_true rfl, Nat.le_of_ble_eq_true rfl⟩) hG (fun r_10 u_10 H locs hr_10 hG => ?_)
        subst hr_10
        refine lv_if_eq (tgt := 22) hx hb dX5_knownMany_13 (by decide) (fun c_13 => ?_) (fun c_13 => ?_)
        · have c_13 := sl_bF c_13
          refine lv_iload_n hx hb dX5_knownMany_22 rfl (lv_at hl 1 rfl) ?_
          exact sl_ri (v := nI k) hC hr hG () (by show _ = nI (sl_kf C 120); rw [sl_kf_at C hi c_13 120 (by omega)]) rfl (Nat.le_of_ble_eq_true rfl) (Nat.le_of_ble_eq_true rfl) dX5_knownMany_23
        · have c_13 := sl_bT c_13
          refine lv_iinc (v := nI (k + 1)) (lv' := [(1, .int (nI (k + 1))), (0, .ref (μ 0))]) hx hb dX5_knownMany_16 hl (k := 1) rfl (nI_1 k) (by decide) rfl (fun ls hl => ?_)
          refine lv_goto (tgt := 2) hx hb dX5_knownMany_19 (by decide) ?_
          exact ih_2 (k + 1) (by omega) (by omega) (by rw [sl_kf, if_pos ⟨hi, c_13⟩]) _ _ hG _ (lv_sub hl [1, 0] rfl)
  exact loop_2 (120 + 1) 0 (by omega) (by omega) rfl _ _ hG _ (lv_sub hl [1, 0] rfl)
