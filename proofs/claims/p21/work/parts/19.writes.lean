/-! the class's writing calls -/
theorem sl_Cls_up0 {Γ : sl_G} {α : Nat → Nat} {β : Nat → Nat × Nat × Nat} {n : Nat} {ep : Int32} {tl : Nat} {lo : Bool} {T C : Nat → Int32} {E : Nat → sl_Ent} {g : sl_W} (h : sl_Cls Γ α β n ep tl lo T C E g) (ep' : Int32) (tl' : Nat) (lo' : Bool) (ht' : tl' ≤ 120) : sl_Cls Γ α β n ep' tl' lo' T C E (sl_up g 0 (α 0, .inr (4, [.ref (α 1), .ref (α 2), .ref (α 4), .ref (α 6), .int (nI n), .int ep', .int (nI tl'), .int (sl_bi lo')]))) ∧ sl_fr g (sl_up g 0 (α 0, .inr (4, [.ref (α 1), .ref (α 2), .ref (α 4), .ref (α 6), .int (nI n), .int ep', .int (nI tl'), .int (sl_bi lo')]))) := by
  obtain ⟨h0, h1, h2, h3, h4, h5, ⟨F, X, fd, h6, h7, h8⟩, hE, hN, hn, ht⟩ := h
  exact ⟨⟨sl_up_s _ _ _, sl_up_to (by decide) h1, sl_up_to (by decide) h2, sl_up_to (by decide) h3, sl_up_to (by decide) h4, sl_up_to (by decide) h5, ⟨F, X, fd, sl_up_to (by decide) h6, sl_up_to (by decide) h7, sl_up_to (by decide) h8⟩, hE.mono (fun k hk => sl_up_n _ _ (by omega)), fun k hk => sl_up_to (by omega) (hN k hk), hn, ht'⟩, (sl_fr.rf g).up _ (by omega)⟩
theorem sl_Cls_up5 {Γ : sl_G} {α : Nat → Nat} {β : Nat → Nat × Nat × Nat} {n : Nat} {ep : Int32} {tl : Nat} {lo : Bool} {T C : Nat → Int32} {E : Nat → sl_Ent} {g : sl_W} (h : sl_Cls Γ α β n ep tl lo T C E g) (T' : Nat → Int32) : sl_Cls Γ α β n ep tl lo T' C E (sl_up g 5 (α 5, .inl (Γ.2.1 0, 16, .inl T'))) := by
  obtain ⟨h0, h1, h2, h3, h4, h5, ⟨F, X, fd, h6, h7, h8⟩, hE, hN, hn, ht⟩ := h
  exact ⟨sl_up_to (by decide) h0, sl_up_to (by decide) h1, sl_up_to (by decide) h2, sl_up_to (by decide) h3, sl_up_to (by decide) h4, sl_up_s _ _ _, ⟨F, X, fd, sl_up_to (by decide) h6, sl_up_to (by decide) h7, sl_up_to (by decide) h8⟩, hE.mono (fun k hk => sl_up_n _ _ (by omega)), fun k hk => sl_up_to (by omega) (hN k hk), hn, ht⟩
theorem sl_Cls_up3 {Γ : sl_G} {α : Nat → Nat} {β : Nat → Nat × Nat × Nat} {n : Nat} {ep : Int32} {tl : Nat} {lo : Bool} {T C : Nat → Int32} {E : Nat → sl_Ent} {g : sl_W} (h : sl_Cls Γ α β n ep tl lo T C E g) (C' : Nat → Int32) : sl_Cls Γ α β n ep tl lo T C' E (sl_up g 3 (α 3, .inl (Γ.2.1 0, 360, .inl C'))) := by
  obtain ⟨h0, h1, h2, h3, h4, h5, ⟨F, X, fd, h6, h7, h8⟩, hE, hN, hn, ht⟩ := h
  exact ⟨sl_up_to (by decide) h0, sl_up_to (by decide) h1, sl_up_to (by decide) h2, sl_up_s _ _ _, sl_up_to (by decide) h4, sl_up_to (by decide) h5, ⟨F, X, fd, sl_up_to (by decide) h6, sl_up_to (by decide) h7, sl_up_to (by decide) h8⟩, hE.mono (fun k hk => sl_up_n _ _ (by omega)), fun k hk => sl_up_to (by omega) (hN k hk), hn, ht⟩
/-- an entry's steps change -/
def sl_es (E : Nat → sl_Ent) (t : Nat) (v : Int32) : Nat → sl_Ent := fun i => if i = t then ((E t).1, (E t).2.1, (E t).2.2.1, (E t).2.2.2.1, (E t).2.2.2.2.1, (E t).2.2.2.2.2.1, (E t).2.2.2.2.2.2.1, v) else E i
theorem sl_Cls_st {Γ : sl_G} {α : Nat → Nat} {β : Nat → Nat × Nat × Nat} {n : Nat} {ep : Int32} {tl : Nat} {lo : Bool} {T C : Nat → Int32} {E : Nat → sl_Ent} {g : sl_W} (h : sl_Cls Γ α β n ep tl lo T C E g) {t : Nat} (ht : t < n) (v : Int32) : sl_Cls Γ α β n ep tl lo T C (sl_es E t v) (sl_up g (100 + 3 * t) ((β t).1, .inr (1, [.int (E t).1, .int (E t).2.1, .int (E t).2.2.1, .int (E t).2.2.2.1, .int (E t).2.2.2.2.1, .int (E t).2.2.2.2.2.1, .ref (β t).2.1, .int v]))) := by
  obtain ⟨h0, h1, h2, h3, h4, h5, ⟨F, X, fd, h6, h7, h8⟩, hE, hN, hn, htl⟩ := h
  refine ⟨sl_up_to (by omega) h0, sl_up_to (by omega) h1, sl_up_to (by omega) h2, sl_up_to (by omega) h3, sl_up_to (by omega) h4, sl_up_to (by omega) h5, ⟨F, X, fd, sl_up_to (by omega) h6, sl_up_to (by omega) h7, sl_up_to (by omega) h8⟩, fun i hi => ?_, fun k hk => sl_up_to (by omega) (hN k hk), hn, htl⟩
  obtain ⟨e1, e2, e3⟩ := hE i hi
  by_cases e : i = t
  · subst e
    have e9 : sl_es E i v i = ((E i).1, (E i).2.1, (E i).2.2.1, (E i).2.2.2.1, (E i).2.2.2.2.1, (E i).2.2.2.2.2.1, (E i).2.2.2.2.2.2.1, v) := if_pos rfl
    rw [e9]
    exact ⟨sl_up_s _ _ _, sl_up_to (by omega) e2, sl_up_to (by omega) e3⟩
  · have e9 : sl_es E t v i = E i := if_neg e
    rw [e9]
    exact ⟨sl_up_to (by omega) e1, sl_up_to (by omega) e2, sl_up_to (by omega) e3⟩
/-- the sequencer's trail, made anew out of the cells: of the first k positions -/
def sl_sT (n : Nat) (C : Nat → Int32) (E : Nat → sl_Ent) : Nat → Nat → Int32
  | 0 => fun _ => -1
  | q + 1 => match sl_tok n (C q) with
    | none => sl_sT n C E q
    | some t => sl_tp (sl_sT n C E q) (E t).2.2.1 (nI q) 4
theorem sl_sT_0 {n : Nat} {C : Nat → Int32} {E : Nat → sl_Ent} {q : Nat} (h : sl_tok n (C q) = none) : sl_sT n C E (q + 1) = sl_sT n C E q := by rw [sl_sT, h]
theorem sl_sT_1 {n t : Nat} {C : Nat → Int32} {E : Nat → sl_Ent} {q : Nat} (h : sl_tok n (C q) = some t) : sl_sT n C E (q + 1) = sl_tp (sl_sT n C E q) (E t).2.2.1 (nI q) 4 := by rw [sl_sT, h]
def sl_bu (β : Nat → Nat × Nat × Nat) (n : Nat) (q : Nat × Nat × Nat) : Nat → Nat × Nat × Nat := fun i => if i = n then q else β i
def sl_eu (E : Nat → sl_Ent) (n : Nat) (x : sl_Ent) : Nat → sl_Ent := fun i => if i = n then x else E i
theorem sl_ea_up (n : Nat) (β : Nat → Nat × Nat × Nat) (q : Nat × Nat × Nat) : va_up (sl_ea n β) n (some q.1) = sl_ea (n + 1) (sl_bu β n q) := by
  funext i
  by_cases e : i = n
  · subst e
    rw [va_up_self, sl_ea, if_pos (by omega), sl_bu, if_pos rfl]
  · rw [va_up_ne _ _ e, sl_ea, sl_ea]
    by_cases h : i < n
    · rw [if_pos h, if_pos (by omega), sl_bu, if_neg e]
    · rw [if_neg h, if_neg (by omega)]
/-- a token is handed out -/
theorem sl_Cls_hand {Γ : sl_G} {α : Nat → Nat} {β : Nat → Nat × Nat × Nat} {n : Nat} {ep : Int32} {tl : Nat} {lo : Bool} {T C : Nat → Int32} {E : Nat → sl_Ent} {g : sl_W} (h : sl_Cls Γ α β n ep tl lo T C E g) (hn9 : n < 150) (ht9 : tl < 120) (q1 q2 q3 : Nat) (x3 x4 x5 x6 : Int32) (T' Tn : Nat → Int32) : let g' := sl_up (sl_up (sl_up (sl_up (sl_up (sl_up g (101 + 3 * n) (q2, .inr (3, [.ref q3]))) (102 + 3 * n) (q3, .inl (Γ.2.1 0, 16, .inl Tn))) (100 + 3 * n) (q1, .inr (1, [.int (nI tl), .int ep, .int x3, .int x4, .int x5, .int x6, .ref q2, .int 0]))) 1 (α 1, .inl (Γ.2.1 2, 150, .inr (.inr (.inr (.inr (va_up (sl_ea n β) n (some q1)))))))) 5 (α 5, .inl (Γ.2.1 0, 16, .inl T'))) 0 (α 0, .inr (4, [.ref (α 1), .ref (α 2), .ref (α 4), .ref (α 6), .int (nI (n + 1)), .int ep, .int (nI (tl + 1)), .int (sl_bi lo)]))
    sl_Cls Γ α (sl_bu β n (q1, q2, q3)) (n + 1) ep (tl + 1) lo T' C (sl_eu E n (nI tl, ep, x3, x4, x5, x6, Tn, 0)) g' ∧ sl_fr g g' := by
  intro g'
  obtain ⟨h0, h1, h2, h3, h4, h5, ⟨F, X, fd, h6, h7, h8⟩, hE, hN, hn, ht⟩ := h
  have low : ∀ k : Nat, k < 100 → k ≠ 0 → k ≠ 1 → k ≠ 5 → g' k = g k := fun k a1 a2 a3 a4 => (sl_up_n _ _ a2).trans ((sl_up_n _ _ a4).trans ((sl_up_n _ _ a3).trans ((sl_up_n _ _ (by omega)).trans ((sl_up_n _ _ (by omega)).trans (sl_up_n _ _ (by omega))))))
  have high : ∀ k : Nat, 100 ≤ k → k ≠ 100 + 3 * n → k ≠ 101 + 3 * n → k ≠ 102 + 3 * n → g' k = g k := fun k a1 a2 a3 a4 => (sl_up_n _ _ (by omega)).trans ((sl_up_n _ _ (by omega)).trans ((sl_up_n _ _ (by omega)).trans ((sl_up_n _ _ (by omega)).trans ((sl_up_n _ _ (by omega)).trans (sl_up_n _ _ (by omega))))))
  refine ⟨⟨sl_up_s _ _ _, ?_, (low 2 (by decide) (by decide) (by decide) (by decide)).trans h2, (low 3 (by decide) (by decide) (by decide) (by decide)).trans h3, (low 4 (by decide) (by decide) (by decide) (by decide)).trans h4, sl_up_to (by decide) (sl_up_s _ _ _), ⟨F, X, fd, (low 6 (by decide) (by decide) (by decide) (by decide)).trans h6, (low 7 (by decide) (by decide) (by decide) (by decide)).trans h7, (low 8 (by decide) (by decide) (by decide) (by decide)).trans h8⟩, fun i hi => ?_, fun k hk => (high k (by omega) (by omega) (by omega) (by omega)).trans (hN k (by omega)), by omega, by omega⟩, fun k a1 a2 => low k a2 (by omega) (by omega) (by omega)⟩
  · rw [← sl_ea_up n β (q1, q2, q3)]
    exact sl_up_to (by decide) (sl_up_to (by decide) (sl_up_s _ _ _))
  · by_cases e : i = n
    · subst e
      rw [show sl_bu β i (q1, q2, q3) i = (q1, q2, q3) from if_pos rfl, show sl_eu E i (nI tl, ep, x3, x4, x5, x6, Tn, 0) i = (nI tl, ep, x3, x4, x5, x6, Tn, 0) from if_pos rfl]
      exact ⟨sl_up_to (by omega) (sl_up_to (by omega) (sl_up_to (by omega) (sl_up_s _ _ _))), sl_up_to (by omega) (sl_up_to (by omega) (sl_up_to (by omega) (sl_up_to (by omega) (sl_up_to (by omega) (sl_up_s _ _ _))))), sl_up_to (by omega) (sl_up_to (by omega) (sl_up_to (by omega) (sl_up_to (by omega) (sl_up_s _ _ _))))⟩
    · obtain ⟨e1, e2, e3⟩ := hE i (by omega)
      rw [show sl_bu β n (q1, q2, q3) i = β i from if_neg e, show sl_eu E n (nI tl, ep, x3, x4, x5, x6, Tn, 0) i = E i from if_neg e]
      exact ⟨(high _ (by omega) (by omega) (by omega) (by omega)).trans e1, (high _ (by omega) (by omega) (by omega) (by omega)).trans e2, (high _ (by omega) (by omega) (by omega) (by omega)).trans e3⟩
def sl_cf (C : Nat → Int32) (b : Nat) (v : Int32) : Nat → Int32 := sl_cp (sl_cp (sl_cp C 0 (nI b) v) 1 (nI b) v) 2 (nI b) v
/-- nothing can be handed out -/
def sl_ch (lo : Bool) (tl n : Nat) : Bool := lo || decide (120 ≤ tl) || decide (150 ≤ n)
set_option maxHeartbeats 4000000 in
set_option maxRecDepth 100000 in
theorem kX4_lose (l : Launch) (hlt : l.stackTraces = false) (Γ : sl_G) (g : sl_W) (α : Nat → Nat) (β : Nat → Nat × Nat × Nat) (n : Nat) (ep : Int32) (tl : Nat) (lo : Bool) (T C : Nat → Int32) (E : Nat → sl_Ent) (hK : sl_Cls Γ α β n ep tl lo T C E g) : vx_Met l yX4_lose [Cond.code yX4_lose cX4_lose 1 (some .int)] ({ frames := 6, cells := 1, slots := 6, locals := 100 } : Room) (va_Pc [.ref (α 0)] (sl_B Γ g)) (sl_Qi Γ (fun r g' => lo = false ∧ r = nI tl ∧ sl_Cls Γ α β n ep tl true T C E g' ∧ sl_fr g g') (fun g' => g')) (sl_X Γ g (fun E0 => E0 = "java/lang/IllegalStateException" ∧ lo = true)) 1 6 (sl_A Γ) := by
  refine sl_entx (by decide) (Nat.le_of_ble_eq_true rfl) ?_
  intro p e s m below meth c ls hC hr hno hG hl
  have hx := hC.1
  have hb := hC.2.1
  have hl : lv_has ls 1 [(0, .ref (α 0))] := hl
  have hS := hK.ro
  obtain ⟨h0, h1, h2, h3, h4, h5, ⟨F, X, fd, h6, h7, h8⟩, hE, hN, hn9, ht9⟩ := id hK
  refine lv_aload_n hx hb dX4_lose_0 rfl (lv_at hl 0 rfl) ?_
  refine sl_get (C := RX4) (T := TX4) (N := 8) hC hG 0 h0 rfl la_4 7 (by decide) lk_RX4_46 rfl rfl dX4_lose_1 ?_
  refine lv_if_eq (tgt := 17) hx hb dX4_lose_4 (by decide) (fun c_4 => ?_) (fun c_4 => ?_)
  · have c_4 := sl_bF c_4
    refine lv_aload_n hx hb dX4_lose_17 rfl (lv_at hl 0 rfl) ?_
    refine lv_iconst (v := 1) hx hb dX4_lose_18 (by decide) ?_
    refine sl_put (C := RX4) (T := TX4) (N := 8) (ty := .boolean) (v := .int 1) hC hG 0 h0 rfl la_4 tyX4 tyX4_ok nmX4 7 (by decide) lk_RX4_46 rfl rfl (by decide +kernel) rfl rfl (Nat.le_of_ble_eq_true rfl) dX4_lose_19 (fun H locs hG => ?_)
    have hG : sl_I Γ (sl_up g 0 ((α 0), .inr (4, [.ref (α 1), .ref (α 2), .ref (α 4), .ref (α 6), .int (nI n), .int ep, .int (nI tl), .int 1]))) s H _ := hG
    refine lv_aload_n hx hb dX4_lose_22 rfl (lv_at hl 0 rfl) ?_
    refine sl_get (C := RX4) (T := TX4) (N := 8) hC hG 0 (sl_up_s _ _ _) rfl la_4 6 (by decide) lk_RX4_43 rfl rfl dX4_lose_23 ?_
    exact vx_ret (sl_ri (v := nI tl) hC hr hG (sl_up g 0 ((α 0), .inr (4, [.ref (α 1), .ref (α 2), .ref (α 4), .ref (α 6), .int (nI n), .int ep, .int (nI tl), .int 1]))) ⟨c_4, rfl, sl_Cls_up0 hK ep tl true ht9⟩ rfl (Nat.le_of_ble_eq_true rfl) (Nat.le_of_ble_eq_true rfl) dX4_lose_26)
  · have c_4 := sl_bT c_4
    exact sl_thr (text := "the sequencer is lost") (rest := []) hlt hC hG ⟨rfl, c_4⟩ (by decide) lk_RX4_72 ini_IllegalStateException (by decide +kernel) sl_hatS sl_otS hl.1 dX4_lose_7 dX4_lose_10 dX4_lose_11 dX4_lose_13 dX4_lose_16 hno (Nat.le_of_ble_eq_true rfl) (Nat.le_of_ble_eq_true rfl) (Nat.le_of_ble_eq_true rfl) (Nat.le_of_ble_eq_true rfl) (Nat.le_of_ble_eq_true rfl) (Nat.le_of_ble_eq_true rfl)
set_option maxHeartbeats 4000000 in
set_option maxRecDepth 100000 in
theorem kX4_seal (l : Launch) (Γ : sl_G) (g : sl_W) (α : Nat → Nat) (β : Nat → Nat × Nat × Nat) (n : Nat) (ep : Int32) (tl : Nat) (lo : Bool) (T C : Nat → Int32) (E : Nat → sl_Ent) (hK : sl_Cls Γ α β n ep tl lo T C E g) : Met l yX4_seal [Cond.code yX4_seal cX4_seal 3 (some .int)] ({ frames := 4, cells := 0, slots := 0, locals := 86 } : Room) (va_Pc [.ref (α 0)] (sl_B Γ g)) (sl_Qi Γ (fun r g' => r = nI (sl_ef C 120) ∧ sl_Cls Γ α β n (ep + 1) (sl_ef C 120) false (sl_sT n C E (sl_ef C 120)) C E g' ∧ sl_fr g g') (fun g' => g')) 0 0 (sl_A Γ) := by
  refine sl_ent (by decide) (Nat.le_of_ble_eq_true rfl) ?_
  intro p e s m below meth c ls hC hr hin hG hl
  have hx := hC.1
  have hb := hC.2.1
  have hl : lv_has ls 3 [(0, .ref (α 0))] := hl
  have hS := hK.ro
  obtain ⟨h0, h1, h2, h3, h4, h5, ⟨F, X, fd, h6, h7, h8⟩, hE, hN, hn9, ht9⟩ := id hK
  have hef := sl_ef_le C 120
  refine lv_aload_n hx hb dX4_seal_0 rfl (lv_at hl 0 rfl) ?_
  refine lv_dup hx hb dX4_seal_1 rfl ?_
  refine sl_get (C := RX4) (T := TX4) (N := 8) hC hG 0 h0 rfl la_4 5 (by decide) lk_RX4_40 rfl rfl dX4_seal_2 ?_
  refine lv_iconst (v := 1) hx hb dX4_seal_5 (by decide) ?_
  refine lv_iadd hx hb dX4_seal_6 ?_
  refine sl_put (C := RX4) (T := TX4) (N := 8) (ty := .int) (v := .int (ep + 1)) hC hG 0 h0 rfl la_4 tyX4 tyX4_ok nmX4 5 (by decide) lk_RX4_40 rfl rfl (by decide +kernel) rfl rfl (Nat.le_of_ble_eq_true rfl) dX4_seal_7 (fun H locs hG => ?_)
  have hG : sl_I Γ (sl_up g 0 ((α 0), .inr (4, [.ref (α 1), .ref (α 2), .ref (α 4), .ref (α 6), .int (nI n), .int (ep + 1), .int (nI tl), .int (sl_bi lo)]))) s H _ := hG
  refine lv_aload_n hx hb dX4_seal_10 rfl (lv_at hl 0 rfl) ?_
  refine lv_aload_n hx hb dX4_seal_11 rfl (lv_at hl 0 rfl) ?_
  refine sl_get (C := RX4) (T := TX4) (N := 8) hC hG 0 (sl_up_s _ _ _) rfl la_4 1 (by decide) lk_RX4_18 rfl rfl dX4_seal_12 ?_
  refine sl_calli (sl_runVN (As := []) (rest := [.ref (α 0)]) hC hG (kX0_end l Γ (sl_up g 0 ((α 0), .inr (4, [.ref (α 1), .ref (α 2), .ref (α 4), .ref (α 6), .int (nI n), .int (ep + 1), .int (nI tl), .int (sl_bi lo)]))) (α 2) (α 3) C (sl_up_to (by decide) h2) (sl_up_to (by decide) h3)) mi_X0_end lk_RX4_77 2 (sl_up_to (by decide) h2) rfl rfl rfl ⟨Nat.le_of_ble_eq_true rfl, Nat.le_of_ble_eq_true rfl⟩ rfl hl.1 rfl (Nat.le_of_ble_eq_true rfl) dX4_seal_15 ⟨Nat.le_of_ble_eq_true rfl, Nat.le_of_ble_eq_true rfl⟩) hG (fun r_15 u_15 H locs hr_15 hG => ?_)
  subst hr_15
  refine sl_put (C := RX4) (T := TX4) (N := 8) (ty := .int) (v := .int (nI (sl_ef C 120))) hC hG 0 (sl_up_s _ _ _) rfl la_4 tyX4 tyX4_ok nmX4 6 (by decide) lk_RX4_43 rfl rfl (by decide +kernel) rfl rfl (Nat.le_of_ble_eq_true rfl) dX4_seal_18 (fun H locs hG => ?_)
  rw [sl_up_up] at hG
  have hG : sl_I Γ (sl_up g 0 ((α 0), .inr (4, [.ref (α 1), .ref (α 2), .ref (α 4), .ref (α 6), .int (nI n), .int (ep + 1), .int (nI (sl_ef C 120)), .int (sl_bi lo)]))) s H _ := hG
  refine lv_aload_n hx hb dX4_seal_21 rfl (lv_at hl 0 rfl) ?_
  refine lv_iconst (v := 0) hx hb dX4_seal_22 (by decide) ?_
  refine sl_put (C := RX4) (T := TX4) (N := 8) (ty := .boolean) (v := .int 0) hC hG 0 (sl_up_s _ _ _) rfl la_4 tyX4 tyX4_ok nmX4 7 (by decide) lk_RX4_46 rfl rfl (by decide +kernel) rfl rfl (Nat.le_of_ble_eq_true rfl) dX4_seal_23 (fun H locs hG => ?_)
  rw [sl_up_up] at hG
  have hG : sl_I Γ (sl_up g 0 ((α 0), .inr (4, [.ref (α 1), .ref (α 2), .ref (α 4), .ref (α 6), .int (nI n), .int (ep + 1), .int (nI (sl_ef C 120)), .int 0]))) s H _ := hG
  refine lv_aload_n hx hb dX4_seal_26 rfl (lv_at hl 0 rfl) ?_
  refine sl_get (C := RX4) (T := TX4) (N := 8) hC hG 0 (sl_up_s _ _ _) rfl la_4 2 (by decide) lk_RX4_25 rfl rfl dX4_seal_27 ?_
  refine sl_callv (sl_runVN (As := []) (rest := []) hC hG (kX3_clear l Γ (sl_up g 0 ((α 0), .inr (4, [.ref (α 1), .ref (α 2), .ref (α 4), .ref (α 6), .int (nI n), .int (ep + 1), .int (nI (sl_ef C 120)), .int 0]))) 4 5 (α 4) (α 5) T (sl_up_to (by decide) h4) (sl_up_to (by decide) h5)) mi_X3_clear lk_RX4_81 4 (sl_up_to (by decide) h4) rfl rfl rfl ⟨Nat.le_of_ble_eq_true rfl, Nat.le_of_ble_eq_true rfl⟩ rfl hl.1 rfl (Nat.le_of_ble_eq_true rfl) dX4_seal_30 ⟨Nat.le_of_ble_eq_true rfl, Nat.le_of_ble_eq_true rfl⟩) hG (fun u_30 H locs hr_30 hG => ?_)
  have hG : sl_I Γ (sl_up (sl_up g 0 ((α 0), .inr (4, [.ref (α 1), .ref (α 2), .ref (α 4), .ref (α 6), .int (nI n), .int (ep + 1), .int (nI (sl_ef C 120)), .int 0]))) 5 ((α 5), .inl (Γ.2.1 0, 16, .inl (fun _ => (-1))))) s H _ := hG
  refine lv_iconst (v := 0) hx hb dX4_seal_33 (by decide) ?_
  refine lv_istore_n (lv' := [(1, .int 0), (0, .ref (α 0))]) hx hb dX4_seal_34 rfl hl (by decide) rfl (fun ls hl => ?_)
  have loop_35 : ∀ (fuel k : Nat), k ≤ sl_ef C 120 → sl_ef C 120 + 1 ≤ k + fuel → ∀ (H : Heap) (locs : List Loc), sl_I Γ (sl_up (sl_up g 0 ((α 0), .inr (4, [.ref (α 1), .ref (α 2), .ref (α 4), .ref (α 6), .int (nI n), .int (ep + 1), .int (nI (sl_ef C 120)), .int 0]))) 5 ((α 5), .inl (Γ.2.1 0, 16, .inl (sl_sT n C E k)))) s H locs → ∀ (ls : Array Slot), lv_has ls 3 [(0, .ref (α 0)), (1, .int (nI k))] → W p l e ({ frames := 4, cells := 0, slots := 0, locals := 86 } : Room) s m ([.ref (α 0)] : List Value).toArray below meth c H locs 0 0 (MQ below (sl_Qi Γ (fun r g' => r = nI (sl_ef C 120) ∧ sl_Cls Γ α β n (ep + 1) (sl_ef C 120) false (sl_sT n C E (sl_ef C 120)) C E g' ∧ sl_fr g g') (fun g' => g')) ([.ref (α 0)] : List Value).toArray s 0 0 (sl_A Γ)) (F0 m 35 ls []) := by
    intro fuel
    induction fuel with
    | zero =>
      intro k  h1 h2
      exact absurd h2 (by omega)
    | succ fuel ih_35 =>
      intro k  hk_35 hn_35  H locs hG ls hl
      refine lv_iload_n hx hb dX4_seal_35 rfl (lv_at hl 1 rfl) ?_
      refine lv_aload_n hx hb dX4_seal_36 rfl (lv_at hl 0 rfl) ?_
      refine sl_get (C := RX4) (T := TX4) (N := 8) hC hG 0 (sl_up_to (by decide) (sl_up_s _ _ _)) rfl la_4 6 (by decide) lk_RX4_43 rfl rfl dX4_seal_37 ?_
      refine lv_icmp_ge (tgt := 71) hx hb dX4_seal_40 (by decide) (fun c_40 => ?_) (fun c_40 => ?_)
      · have n_40 : sl_ef C 120 ≤ k := (nI_leI (a := sl_ef C 120) (b := k) (by omega) (by omega)).mp c_40
        refine lv_aload_n hx hb dX4_seal_71 rfl (lv_at hl 0 rfl) ?_
        refine sl_get (C := RX4) (T := TX4) (N := 8) hC hG 0 (sl_up_to (by decide) (sl_up_s _ _ _)) rfl la_4 6 (by decide) lk_RX4_43 rfl rfl dX4_seal_72 ?_
        have hk9 : k = sl_ef C 120 := by omega
        rw [hk9] at hG
        exact sl_ri (v := nI (sl_ef C 120)) hC hr hG (sl_up (sl_up g 0 ((α 0), .inr (4, [.ref (α 1), .ref (α 2), .ref (α 4), .ref (α 6), .int (nI n), .int (ep + 1), .int (nI (sl_ef C 120)), .int 0]))) 5 ((α 5), .inl (Γ.2.1 0, 16, .inl (sl_sT n C E k)))) ⟨rfl, by rw [hk9]; exact sl_Cls_up5 (sl_Cls_up0 hK (ep + 1) (sl_ef C 120) false hef).1 _, (sl_Cls_up0 hK (ep + 1) (sl_ef C 120) false hef).2.up _ (by omega)⟩ (by rw [hk9]) (Nat.le_of_ble_eq_true rfl) (Nat.le_of_ble_eq_true rfl) dX4_seal_75
      · have n_40 : ¬ (sl_ef C 120 ≤ k) := fun z => c_40 ((nI_leI (a := sl_ef C 120) (b := k) (by omega) (by omega)).mpr z)
        refine lv_aload_n hx hb dX4_seal_43 rfl (lv_at hl 0 rfl) ?_
        refine lv_iload_n hx hb dX4_seal_44 rfl (lv_at hl 1 rfl) ?_
        refine sl_callq (sl_runV (As := [.int (nI k)]) (rest := []) hC hG (kX4_entryIn l Γ (sl_up (sl_up g 0 ((α 0), .inr (4, [.ref (α 1), .ref (α 2), .ref (α 4), .ref (α 6), .int (nI n), .int (ep + 1), .int (nI (sl_ef C 120)), .int 0]))) 5 ((α 5), .inl (Γ.2.1 0, 16, .inl (sl_sT n C E k)))) α β n C E (sl_Ro_up (by decide) (sl_Ro_up0 hS)) (nI k)) mi_X4_entryIn lk_RX4_84 0 (sl_up_to (by decide) (sl_up_s _ _ _)) rfl rfl rfl ⟨Nat.le_of_ble_eq_true rfl, Nat.le_of_ble_eq_true rfl⟩ rfl hl.1 rfl (Nat.le_of_ble_eq_true rfl) dX4_seal_45 ⟨Nat.le_of_ble_eq_true rfl, Nat.le_of_ble_eq_true rfl⟩) hG (fun r_45 u_45 H locs hr_45 hG => ?_)
        subst hr_45
        rw [show sl_ta n C (nI k) = sl_tok n (C k) from congrArg (sl_tok n) (sl_cg0 C (by omega))]
        rcases sl_opt (sl_tok n (C k)) with hq_45 | ⟨t_45, hq_45⟩
        · refine sl_top (w := .null) (by rw [hq_45]; rfl) ?_
          refine lv_astore_nN (lv' := [(2, .null), (0, .ref (α 0)), (1, .int (nI k))]) hx hb dX4_seal_48 rfl hl (by decide) rfl (fun ls hl => ?_)
          refine lv_aload_nN hx hb dX4_seal_49 rfl (lv_at hl 0 rfl) ?_
          refine lv_ifnullN (tgt := 65) hx hb dX4_seal_50 (by decide) ?_
          refine lv_iinc (v := nI (k + 1)) (lv' := [(1, .int (nI (k + 1))), (2, .null), (0, .ref (α 0))]) hx hb dX4_seal_65 hl (k := 2) rfl (nI_1 k) (by decide) rfl (fun ls hl => ?_)
          refine lv_goto (tgt := 35) hx hb dX4_seal_68 (by decide) ?_
          rw [← sl_sT_0 hq_45] at hG
          exact ih_35 (k + 1) (by omega) (by omega) _ _ hG _ (lv_sub hl [2, 0] rfl)
        · refine sl_top (w := .ref ((β t_45).1)) (by rw [hq_45]; rfl) ?_
          have ht_t_45 := sl_tok_lt hq_45
          refine lv_astore_n (lv' := [(2, .ref ((β t_45).1)), (0, .ref (α 0)), (1, .int (nI k))]) hx hb dX4_seal_48 rfl hl (by decide) rfl (fun ls hl => ?_)
          refine lv_aload_n hx hb dX4_seal_49 rfl (lv_at hl 0 rfl) ?_
          refine lv_ifnull hx hb dX4_seal_50 ?_
          refine lv_aload_n hx hb dX4_seal_53 rfl (lv_at hl 1 rfl) ?_
          refine sl_get (C := RX4) (T := TX4) (N := 8) hC hG 0 (sl_up_to (by decide) (sl_up_s _ _ _)) rfl la_4 2 (by decide) lk_RX4_25 rfl rfl dX4_seal_54 ?_
          refine lv_aload_n hx hb dX4_seal_57 rfl (lv_at hl 0 rfl) ?_
          refine sl_getN (C := RX1) (T := TX1) (N := 8) hC hG (100 + 3 * t_45) ((sl_Es.mono hE (fun j hj => (sl_up_n _ _ (by omega)).trans (sl_up_n _ _ (by omega)))) t_45 ht_t_45).1 rfl la_1 2 (by decide) lk_RX4_88 rfl rfl dX4_seal_58 ?_
          refine lv_iload_n hx hb dX4_seal_61 rfl (lv_at hl 2 rfl) ?_
          refine sl_callv (sl_runVN (As := [.int ((E t_45).2.2.1), .int (nI k)]) (rest := []) hC hG (kX3_push l Γ (sl_up (sl_up g 0 ((α 0), .inr (4, [.ref (α 1), .ref (α 2), .ref (α 4), .ref (α 6), .int (nI n), .int (ep + 1), .int (nI (sl_ef C 120)), .int 0]))) 5 ((α 5), .inl (Γ.2.1 0, 16, .inl (sl_sT n C E k)))) 4 5 (α 4) (α 5) (sl_sT n C E k) (sl_up_to (by decide) (sl_up_to (by decide) h4)) (sl_up_s _ _ _) (by omega) ((E t_45).2.2.1) (nI k)) mi_X3_push lk_RX4_91 4 (sl_up_to (by decide) (sl_up_to (by decide) h4)) rfl rfl rfl ⟨Nat.le_of_ble_eq_true rfl, Nat.le_of_ble_eq_true rfl⟩ rfl hl.1 rfl (Nat.le_of_ble_eq_true rfl) dX4_seal_62 ⟨Nat.le_of_ble_eq_true rfl, Nat.le_of_ble_eq_true rfl⟩) hG (fun u_62 H locs hr_62 hG => ?_)
          have hG : sl_I Γ (sl_up (sl_up (sl_up g 0 ((α 0), .inr (4, [.ref (α 1), .ref (α 2), .ref (α 4), .ref (α 6), .int (nI n), .int (ep + 1), .int (nI (sl_ef C 120)), .int 0]))) 5 ((α 5), .inl (Γ.2.1 0, 16, .inl (sl_sT n C E k)))) 5 ((α 5), .inl (Γ.2.1 0, 16, .inl (sl_tp (sl_sT n C E k) ((E t_45).2.2.1) (nI k) 4)))) s H _ := hG
          refine lv_iinc (v := nI (k + 1)) (lv' := [(1, .int (nI (k + 1))), (2, .ref ((β t_45).1)), (0, .ref (α 0))]) hx hb dX4_seal_65 hl (k := 2) rfl (nI_1 k) (by decide) rfl (fun ls hl => ?_)
          refine lv_goto (tgt := 35) hx hb dX4_seal_68 (by decide) ?_
          rw [sl_up_up, ← sl_sT_1 hq_45] at hG
          exact ih_35 (k + 1) (by omega) (by omega) _ _ hG _ (lv_sub hl [2, 0] rfl)
  exact loop_35 (sl_ef C 120 + 1) 0 (by omega) (by omega) _ _ hG _ (lv_sub hl [1, 0] rfl)
set_option maxHeartbeats 4000000 in
set_option maxRecDepth 100000 in
theorem kX4_handOut (l : Launch) (hlt : l.stackTraces = false) (Γ : sl_G) (g : sl_W) (α : Nat → Nat) (β : Nat → Nat × Nat × Nat) (n : Nat) (ep : Int32) (tl : Nat) (lo : Bool) (T C : Nat → Int32) (E : Nat → sl_Ent) (hK : sl_Cls Γ α β n ep tl lo T C E g) (ss am rd ver : Int32) : vx_Met l yX4_handOut [Cond.code yX4_handOut cX4_handOut 7 (some .int)] ({ frames := 6, cells := 3, slots := 25, locals := 100 } : Room) (va_Pc [.ref (α 0), .int ss, .int am, .int rd, .int ver] (sl_B Γ g)) (sl_Qi Γ (fun r u => sl_ch lo tl n = false ∧ r = nI n ∧ sl_Cls Γ α u.1 (n + 1) ep (tl + 1) lo (sl_tp T ss (nI tl) 4) C (sl_eu E n (nI tl, ep, ss, am, rd, ver, sl_tc T ss 4, 0)) u.2 ∧ sl_fr g u.2) (fun (u : (Nat → Nat × Nat × Nat) × sl_W) => u.2)) (sl_X Γ g (fun E0 => E0 = "java/lang/IllegalStateException" ∧ sl_ch lo tl n = true)) 3 25 (sl_A Γ) := by
  refine sl_entx (by decide) (Nat.le_of_ble_eq_true rfl) ?_
  intro p e s m below meth c ls hC hr hno hG hl
  have hx := hC.1
  have hb := hC.2.1
  have hl : lv_has ls 7 [(0, .ref (α 0)), (1, .int ss), (2, .int am), (3, .int rd), (4, .int ver)] := hl
  have hS := hK.ro
  obtain ⟨h0, h1, h2, h3, h4, h5, ⟨F, X, fd, h6, h7, h8⟩, hE, hN, hn9, ht9⟩ := id hK
  refine lv_aload_n hx hb dX4_handOut_0 rfl (lv_at hl 0 rfl) ?_
  refine sl_get (C := RX4) (T := TX4) (N := 8) hC hG 0 h0 rfl la_4 7 (by decide) lk_RX4_46 rfl rfl dX4_handOut_1 ?_
  refine lv_if_ne (tgt := 28) hx hb dX4_handOut_4 (by decide) (fun c_4 => ?_) (fun c_4 => ?_)
  · have c_4 := sl_bT c_4
    exact sl_thr (text := "the sequencer hands out nothing") (rest := []) hlt hC hG ⟨rfl, by rw [sl_ch, c_4]; rfl⟩ (by decide) lk_RX4_72 ini_IllegalStateException (by decide +kernel) sl_hatS sl_otS hl.1 dX4_handOut_28 dX4_handOut_31 dX4_handOut_32 dX4_handOut_34 dX4_handOut_37 hno (Nat.le_of_ble_eq_true rfl) (Nat.le_of_ble_eq_true rfl) (Nat.le_of_ble_eq_true rfl) (Nat.le_of_ble_eq_true rfl) (Nat.le_of_ble_eq_true rfl) (Nat.le_of_ble_eq_true rfl)
  · have c_4 := sl_bF c_4
    refine lv_aload_n hx hb dX4_handOut_7 rfl (lv_at hl 0 rfl) ?_
    refine sl_get (C := RX4) (T := TX4) (N := 8) hC hG 0 h0 rfl la_4 6 (by decide) lk_RX4_43 rfl rfl dX4_handOut_8 ?_
    refine lv_bipush (v := 120) hx hb dX4_handOut_11 (by decide) ?_
    refine lv_icmp_ge (tgt := 28) hx hb dX4_handOut_13 (by decide) (fun c_13 => ?_) (fun c_13 => ?_)
    · have n_13 : 120 ≤ tl := (nI_leI (a := 120) (b := tl) (by omega) (by omega)).mp c_13
      exact sl_thr (text := "the sequencer hands out nothing") (rest := []) hlt hC hG ⟨rfl, by rw [sl_ch, decide_eq_true n_13, Bool.or_true]; rfl⟩ (by decide) lk_RX4_72 ini_IllegalStateException (by decide +kernel) sl_hatS sl_otS hl.1 dX4_handOut_28 dX4_handOut_31 dX4_handOut_32 dX4_handOut_34 dX4_handOut_37 hno (Nat.le_of_ble_eq_true rfl) (Nat.le_of_ble_eq_true rfl) (Nat.le_of_ble_eq_true rfl) (Nat.le_of_ble_eq_true rfl) (Nat.le_of_ble_eq_true rfl) (Nat.le_of_ble_eq_true rfl)
    · have n_13 : ¬ (120 ≤ tl) := fun z => c_13 ((nI_leI (a := 120) (b := tl) (by omega) (by omega)).mpr z)
      refine lv_aload_n hx hb dX4_handOut_16 rfl (lv_at hl 0 rfl) ?_
      refine sl_get (C := RX4) (T := TX4) (N := 8) hC hG 0 h0 rfl la_4 4 (by decide) lk_RX4_36 rfl rfl dX4_handOut_17 ?_
      refine lv_aload_n hx hb dX4_handOut_20 rfl (lv_at hl 0 rfl) ?_
      refine sl_get (C := RX4) (T := TX4) (N := 8) hC hG 0 h0 rfl la_4 0 (by decide) lk_RX4_11 rfl rfl dX4_handOut_21 ?_
      refine sl_alen (v := 150) hC hG 1 2 h1 rfl rfl dX4_handOut_24 ?_
      refine lv_icmp_lt (tgt := 38) hx hb dX4_handOut_25 (by decide) (fun c_25 => ?_) (fun c_25 => ?_)
      · have n_25 : n < 150 := (nI_ltI (a := n) (b := 150) (by omega) (by omega)).mp c_25
        refine lv_aload_n hx hb dX4_handOut_38 rfl (lv_at hl 0 rfl) ?_
        refine sl_get (C := RX4) (T := TX4) (N := 8) hC hG 0 h0 rfl la_4 4 (by decide) lk_RX4_36 rfl rfl dX4_handOut_39 ?_
        refine lv_istore (lv' := [(5, .int (nI n)), (0, .ref (α 0)), (1, .int ss), (2, .int am), (3, .int rd), (4, .int ver)]) hx hb dX4_handOut_42 hl (by decide) rfl (fun ls hl => ?_)
        refine lv_aload_n hx hb dX4_handOut_44 rfl (lv_at hl 1 rfl) ?_
        refine sl_get (C := RX4) (T := TX4) (N := 8) hC hG 0 h0 rfl la_4 2 (by decide) lk_RX4_25 rfl rfl dX4_handOut_45 ?_
        refine lv_iload_n hx hb dX4_handOut_48 rfl (lv_at hl 2 rfl) ?_
        refine sl_callq (sl_runVN (As := [.int ss]) (rest := []) hC hG (kX3_copyFor l Γ g (101 + 3 * n) (102 + 3 * n) 4 5 (α 4) (α 5) T h4 h5 (hN _ (by omega)) (hN _ (by omega)) (by omega) (by omega) ss) mi_X3_copyFor lk_RX4_180 4 h4 rfl rfl rfl ⟨Nat.le_of_ble_eq_true rfl, Nat.le_of_ble_eq_true rfl⟩ rfl hl.1 rfl (Nat.le_of_ble_eq_true rfl) dX4_handOut_49 ⟨Nat.le_of_ble_eq_true rfl, Nat.le_of_ble_eq_true rfl⟩) hG (fun r_49 u_49 H locs hr_49 hG => ?_)
        subst hr_49
        refine sl_top (w := .ref u_49.1) rfl ?_
        have hG : sl_I Γ (sl_up (sl_up g (101 + 3 * n) (u_49.1, .inr (3, [.ref u_49.2]))) (102 + 3 * n) (u_49.2, .inl (Γ.2.1 0, 16, .inl (sl_tc T ss 4)))) s H _ := hG
        refine lv_astore (lv' := [(6, .ref u_49.1), (5, .int (nI n)), (0, .ref (α 0)), (1, .int ss), (2, .int am), (3, .int rd), (4, .int ver)]) hx hb dX4_handOut_52 hl (by decide) rfl (fun ls hl => ?_)
        refine lv_aload_n hx hb dX4_handOut_54 rfl (lv_at hl 2 rfl) ?_
        refine sl_get (C := RX4) (T := TX4) (N := 8) hC hG 0 (sl_up_to (by omega) (sl_up_to (by omega) h0)) rfl la_4 0 (by decide) lk_RX4_11 rfl rfl dX4_handOut_55 ?_
        refine lv_iload hx hb dX4_handOut_58 (lv_at hl 1 rfl) ?_
        refine sl_new (ci := 1) hC hG (100 + 3 * n) (sl_up_to (by omega) (sl_up_to (by omega) (hN _ (by omega)))) (C := RX1) (T := TX1) (N := 8) (fs := [.int 0, .int 0, .int 0, .int 0, .int 0, .int 0, .null, .int 0]) rfl la_1 tyX1 tyX1_ok (sl_f1) lk_RX4_9 in_RX1 ini_RX1 (Nat.le_of_ble_eq_true rfl) (Nat.le_of_ble_eq_true rfl) dX4_handOut_60 (fun q_60 H hG => ?_)
        have hG : sl_I Γ (sl_up (sl_up (sl_up g (101 + 3 * n) (u_49.1, .inr (3, [.ref u_49.2]))) (102 + 3 * n) (u_49.2, .inl (Γ.2.1 0, 16, .inl (sl_tc T ss 4)))) (100 + 3 * n) (q_60, .inr (1, [.int 0, .int 0, .int 0, .int 0, .int 0, .int 0, .null, .int 0]))) s H _ := hG
        refine lv_dup hx hb dX4_handOut_63 rfl ?_
        refine lv_aload_n hx hb dX4_handOut_64 rfl (lv_at hl 2 rfl) ?_
        refine sl_get (C := RX4) (T := TX4) (N := 8) hC hG 0 (sl_up_to (by omega) (sl_up_to (by omega) (sl_up_to (by omega) h0))) rfl la_4 6 (by decide) lk_RX4_43 rfl rfl dX4_handOut_65 ?_
        refine lv_aload_n hx hb dX4_handOut_68 rfl (lv_at hl 2 rfl) ?_
        refine sl_get (C := RX4) (T := TX4) (N := 8) hC hG 0 (sl_up_to (by omega) (sl_up_to (by omega) (sl_up_to (by omega) h0))) rfl la_4 5 (by decide) lk_RX4_40 rfl rfl dX4_handOut_69 ?_
        refine lv_iload_n hx hb dX4_handOut_72 rfl (lv_at hl 3 rfl) ?_
        refine lv_iload_n hx hb dX4_handOut_73 rfl (lv_at hl 4 rfl) ?_
        refine lv_iload_n hx hb dX4_handOut_74 rfl (lv_at hl 5 rfl) ?_
        refine lv_iload hx hb dX4_handOut_75 (lv_at hl 6 rfl) ?_
        refine lv_aload hx hb dX4_handOut_77 (lv_at hl 0 rfl) ?_
        refine sl_callv (sl_runIN (As := [.int (nI tl), .int ep, .int ss, .int am, .int rd, .int ver, .ref u_49.1]) (rest := [.ref q_60, .int (nI n), .ref (α 1)]) hC hG (kX1_init l Γ (sl_up (sl_up (sl_up g (101 + 3 * n) (u_49.1, .inr (3, [.ref u_49.2]))) (102 + 3 * n) (u_49.2, .inl (Γ.2.1 0, 16, .inl (sl_tc T ss 4)))) (100 + 3 * n) (q_60, .inr (1, [.int 0, .int 0, .int 0, .int 0, .int 0, .int 0, .null, .int 0]))) (100 + 3 * n) q_60 u_49.1 (sl_up_s _ _ _) (nI tl) ep ss am rd ver) mi_X1_init lk_RX4_184 rfl rfl ⟨Nat.le_of_ble_eq_true rfl, Nat.le_of_ble_eq_true rfl⟩ rfl hl.1 rfl (Nat.le_of_ble_eq_true rfl) dX4_handOut_79 ⟨Nat.le_of_ble_eq_true rfl, Nat.le_of_ble_eq_true rfl⟩) hG (fun u_79 H locs hr_79 hG => ?_)
        rw [sl_up_up] at hG
        have hG : sl_I Γ (sl_up (sl_up (sl_up g (101 + 3 * n) (u_49.1, .inr (3, [.ref u_49.2]))) (102 + 3 * n) (u_49.2, .inl (Γ.2.1 0, 16, .inl (sl_tc T ss 4)))) (100 + 3 * n) (q_60, .inr (1, [.int (nI tl), .int ep, .int ss, .int am, .int rd, .int ver, .ref u_49.1, .int 0]))) s H _ := hG
        refine sl_astqN hC hG 1 (100 + 3 * n) (sl_up_to (by omega) (sl_up_to (by omega) (sl_up_to (by omega) h1))) (sl_up_s _ _ _) (j := n) rfl (by omega) (by omega) dX4_handOut_82 (fun H locs hG => ?_)
        have hG : sl_I Γ (sl_up (sl_up (sl_up (sl_up g (101 + 3 * n) (u_49.1, .inr (3, [.ref u_49.2]))) (102 + 3 * n) (u_49.2, .inl (Γ.2.1 0, 16, .inl (sl_tc T ss 4)))) (100 + 3 * n) (q_60, .inr (1, [.int (nI tl), .int ep, .int ss, .int am, .int rd, .int ver, .ref u_49.1, .int 0]))) 1 ((α 1), .inl (Γ.2.1 2, 150, .inr (.inr (.inr (.inr (va_up (sl_ea n β) n (some q_60)))))))) s H _ := hG
        refine lv_aload_n hx hb dX4_handOut_83 rfl (lv_at hl 2 rfl) ?_
        refine sl_get (C := RX4) (T := TX4) (N := 8) hC hG 0 (sl_up_to (by decide) (sl_up_to (by omega) (sl_up_to (by omega) (sl_up_to (by omega) h0)))) rfl la_4 2 (by decide) lk_RX4_25 rfl rfl dX4_handOut_84 ?_
        refine lv_iload_n hx hb dX4_handOut_87 rfl (lv_at hl 3 rfl) ?_
        refine lv_aload_n hx hb dX4_handOut_88 rfl (lv_at hl 2 rfl) ?_
        refine sl_get (C := RX4) (T := TX4) (N := 8) hC hG 0 (sl_up_to (by decide) (sl_up_to (by omega) (sl_up_to (by omega) (sl_up_to (by omega) h0)))) rfl la_4 6 (by decide) lk_RX4_43 rfl rfl dX4_handOut_89 ?_
        refine sl_callv (sl_runVN (As := [.int ss, .int (nI tl)]) (rest := []) hC hG (kX3_push l Γ (sl_up (sl_up (sl_up (sl_up g (101 + 3 * n) (u_49.1, .inr (3, [.ref u_49.2]))) (102 + 3 * n) (u_49.2, .inl (Γ.2.1 0, 16, .inl (sl_tc T ss 4)))) (100 + 3 * n) (q_60, .inr (1, [.int (nI tl), .int ep, .int ss, .int am, .int rd, .int ver, .ref u_49.1, .int 0]))) 1 ((α 1), .inl (Γ.2.1 2, 150, .inr (.inr (.inr (.inr (va_up (sl_ea n β) n (some q_60)))))))) 4 5 (α 4) (α 5) T (sl_up_to (by decide) (sl_up_to (by omega) (sl_up_to (by omega) (sl_up_to (by omega) h4)))) (sl_up_to (by decide) (sl_up_to (by omega) (sl_up_to (by omega) (sl_up_to (by omega) h5)))) (by omega) ss (nI tl)) mi_X3_push lk_RX4_91 4 (sl_up_to (by decide) (sl_up_to (by omega) (sl_up_to (by omega) (sl_up_to (by omega) h4)))) rfl rfl rfl ⟨Nat.le_of_ble_eq_true rfl, Nat.le_of_ble_eq_true rfl⟩ rfl hl.1 rfl (Nat.le_of_ble_eq_true rfl) dX4_handOut_92 ⟨Nat.le_of_ble_eq_true rfl, Nat.le_of_ble_eq_true rfl⟩) hG (fun u_92 H locs hr_92 hG => ?_)
        have hG : sl_I Γ (sl_up (sl_up (sl_up (sl_up (sl_up g (101 + 3 * n) (u_49.1, .inr (3, [.ref u_49.2]))) (102 + 3 * n) (u_49.2, .inl (Γ.2.1 0, 16, .inl (sl_tc T ss 4)))) (100 + 3 * n) (q_60, .inr (1, [.int (nI tl), .int ep, .int ss, .int am, .int rd, .int ver, .ref u_49.1, .int 0]))) 1 ((α 1), .inl (Γ.2.1 2, 150, .inr (.inr (.inr (.inr (va_up (sl_ea n β) n (some q_60)))))))) 5 ((α 5), .inl (Γ.2.1 0, 16, .inl (sl_tp T ss (nI tl) 4)))) s H _ := hG
        refine lv_aload_n hx hb dX4_handOut_95 rfl (lv_at hl 2 rfl) ?_
        refine lv_dup hx hb dX4_handOut_96 rfl ?_
        refine sl_get (C := RX4) (T := TX4) (N := 8) hC hG 0 (sl_up_to (by decide) (sl_up_to (by decide) (sl_up_to (by omega) (sl_up_to (by omega) (sl_up_to (by omega) h0))))) rfl la_4 4 (by decide) lk_RX4_36 rfl rfl dX4_handOut_97 ?_
        refine lv_iconst (v := 1) hx hb dX4_handOut_100 (by decide) ?_
        refine lv_iadd hx hb dX4_handOut_101 ?_
        refine sl_topi (nI_add n 1) ?_
        refine sl_put (C := RX4) (T := TX4) (N := 8) (ty := .int) (v := .int (nI (n + 1))) hC hG 0 (sl_up_to (by decide) (sl_up_to (by decide) (sl_up_to (by omega) (sl_up_to (by omega) (sl_up_to (by omega) h0))))) rfl la_4 tyX4 tyX4_ok nmX4 4 (by decide) lk_RX4_36 rfl rfl (by decide +kernel) rfl rfl (Nat.le_of_ble_eq_true rfl) dX4_handOut_102 (fun H locs hG => ?_)
        have hG : sl_I Γ (sl_up (sl_up (sl_up (sl_up (sl_up (sl_up g (101 + 3 * n) (u_49.1, .inr (3, [.ref u_49.2]))) (102 + 3 * n) (u_49.2, .inl (Γ.2.1 0, 16, .inl (sl_tc T ss 4)))) (100 + 3 * n) (q_60, .inr (1, [.int (nI tl), .int ep, .int ss, .int am, .int rd, .int ver, .ref u_49.1, .int 0]))) 1 ((α 1), .inl (Γ.2.1 2, 150, .inr (.inr (.inr (.inr (va_up (sl_ea n β) n (some q_60)))))))) 5 ((α 5), .inl (Γ.2.1 0, 16, .inl (sl_tp T ss (nI tl) 4)))) 0 ((α 0), .inr (4, [.ref (α 1), .ref (α 2), .ref (α 4), .ref (α 6), .int (nI (n + 1)), .int ep, .int (nI tl), .int (sl_bi lo)]))) s H _ := hG
        refine lv_aload_n hx hb dX4_handOut_105 rfl (lv_at hl 2 rfl) ?_
        refine lv_dup hx hb dX4_handOut_106 rfl ?_
        refine sl_get (C := RX4) (T := TX4) (N := 8) hC hG 0 (sl_up_s _ _ _) rfl la_4 6 (by decide) lk_RX4_43 rfl rfl dX4_handOut_107 ?_
        refine lv_iconst (v := 1) hx hb dX4_handOut_110 (by decide) ?_
        refine lv_iadd hx hb dX4_handOut_111 ?_
        refine sl_topi (nI_add tl 1) ?_
        refine sl_put (C := RX4) (T := TX4) (N := 8) (ty := .int) (v := .int (nI (tl + 1))) hC hG 0 (sl_up_s _ _ _) rfl la_4 tyX4 tyX4_ok nmX4 6 (by decide) lk_RX4_43 rfl rfl (by decide +kernel) rfl rfl (Nat.le_of_ble_eq_true rfl) dX4_handOut_112 (fun H locs hG => ?_)
        rw [sl_up_up] at hG
        have hG : sl_I Γ (sl_up (sl_up (sl_up (sl_up (sl_up (sl_up g (101 + 3 * n) (u_49.1, .inr (3, [.ref u_49.2]))) (102 + 3 * n) (u_49.2, .inl (Γ.2.1 0, 16, .inl (sl_tc T ss 4)))) (100 + 3 * n) (q_60, .inr (1, [.int (nI tl), .int ep, .int ss, .int am, .int rd, .int ver, .ref u_49.1, .int 0]))) 1 ((α 1), .inl (Γ.2.1 2, 150, .inr (.inr (.inr (.inr (va_up (sl_ea n β) n (some q_60)))))))) 5 ((α 5), .inl (Γ.2.1 0, 16, .inl (sl_tp T ss (nI tl) 4)))) 0 ((α 0), .inr (4, [.ref (α 1), .ref (α 2), .ref (α 4), .ref (α 6), .int (nI (n + 1)), .int ep, .int (nI (tl + 1)), .int (sl_bi lo)]))) s H _ := hG
        refine lv_iload hx hb dX4_handOut_115 (lv_at hl 1 rfl) ?_
        exact vx_ret (sl_ri (v := nI n) hC hr hG (sl_bu β n (q_60, u_49.1, u_49.2), (sl_up (sl_up (sl_up (sl_up (sl_up (sl_up g (101 + 3 * n) (u_49.1, .inr (3, [.ref u_49.2]))) (102 + 3 * n) (u_49.2, .inl (Γ.2.1 0, 16, .inl (sl_tc T ss 4)))) (100 + 3 * n) (q_60, .inr (1, [.int (nI tl), .int ep, .int ss, .int am, .int rd, .int ver, .ref u_49.1, .int 0]))) 1 ((α 1), .inl (Γ.2.1 2, 150, .inr (.inr (.inr (.inr (va_up (sl_ea n β) n (some q_60)))))))) 5 ((α 5), .inl (Γ.2.1 0, 16, .inl (sl_tp T ss (nI tl) 4)))) 0 ((α 0), .inr (4, [.ref (α 1), .ref (α 2), .ref (α 4), .ref (α 6), .int (nI (n + 1)), .int ep, .int (nI (tl + 1)), .int (sl_bi lo)])))) ⟨by rw [sl_ch, c_4, decide_eq_false n_13, decide_eq_false (by omega)]; rfl, rfl, sl_Cls_hand hK n_25 (by omega) q_60 u_49.1 u_49.2 ss am rd ver (sl_tp T ss (nI tl) 4) (sl_tc T ss 4)⟩ rfl (Nat.le_of_ble_eq_true rfl) (Nat.le_of_ble_eq_true rfl) dX4_handOut_117)
      · have n_25 : ¬ (n < 150) := fun z => c_25 ((nI_ltI (a := n) (b := 150) (by omega) (by omega)).mpr z)
        exact sl_thr (text := "the sequencer hands out nothing") (rest := []) hlt hC hG ⟨rfl, by rw [sl_ch, decide_eq_true (by omega : 150 ≤ n), Bool.or_true]⟩ (by decide) lk_RX4_72 ini_IllegalStateException (by decide +kernel) sl_hatS sl_otS hl.1 dX4_handOut_28 dX4_handOut_31 dX4_handOut_32 dX4_handOut_34 dX4_handOut_37 hno (Nat.le_of_ble_eq_true rfl) (Nat.le_of_ble_eq_true rfl) (Nat.le_of_ble_eq_true rfl) (Nat.le_of_ble_eq_true rfl) (Nat.le_of_ble_eq_true rfl) (Nat.le_of_ble_eq_true rfl)

