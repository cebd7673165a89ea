/-! the reference's calls: latest, seal -/
theorem sl_and2 {a b : Bool} (h : (a && b) = true) : b = true := by cases a <;> cases b <;> simp_all
theorem sl_and1 {a b : Bool} (h : (a && b) = true) : a = true := by cases a <;> cases b <;> simp_all
set_option maxHeartbeats 4000000 in
set_option maxRecDepth 100000 in
theorem kX5_latest (l : Launch) (Γ : sl_G) (g : sl_W) (μ : Nat → Nat) (n : Nat) (ep : Int32) (tl : Nat) (lo : Bool) (T C : Nat → Int32) (E : Nat → sl_Ent) (th : Int32) (hM : sl_Mdl Γ μ n ep tl lo T C E th g) (x y : Int32) : Met l yX5_latest [Cond.code yX5_latest cX5_latest 6 (some .int)] ({ frames := 3, cells := 0, slots := 0, locals := 64 } : Room) (va_Pc [.ref (μ 0), .int x, .int y] (sl_B Γ g)) (sl_Qi Γ (fun r g' => (((sl_in x 0 3 && sl_in y 0 (nI (sl_kn C))) = true ∧ r = sl_la n C E x y.toNatClampNeg) ∧ sl_Mdl Γ μ n ep tl lo T C E 0 g' ∨ (sl_in x 0 3 && sl_in y 0 (nI (sl_kn C))) = false ∧ sl_Mdl Γ μ n ep tl lo T C E 1 g') ∧ sl_fm g g') (fun g' => g')) 0 0 (sl_A Γ) := by
  refine sl_ent (by decide) (Nat.le_of_ble_eq_true rfl) ?_
  intro p e s m below meth c ls hC hr hin hG hl
  have hx := hC.1
  have hb := hC.2.1
  have hl : lv_has ls 6 [(0, .ref (μ 0)), (1, .int x), (2, .int y)] := hl
  obtain ⟨h20, h21, h22, h23, h24, h25, h26, h27, h28, h29, h30, ⟨F, h31⟩, hn9, ht9, hC9, hE9, hZ9⟩ := id hM
  refine lv_iconst (v := (-1)) hx hb dX5_latest_0 (by decide) ?_
  refine lv_istore_n (lv' := [(3, .int (-1)), (0, .ref (μ 0)), (1, .int x), (2, .int y)]) hx hb dX5_latest_1 rfl hl (by decide) rfl (fun ls hl => ?_)
  refine lv_aload_n hx hb dX5_latest_2 rfl (lv_at hl 1 rfl) ?_
  refine lv_iload_n hx hb dX5_latest_3 rfl (lv_at hl 2 rfl) ?_
  refine lv_iload_n hx hb dX5_latest_4 rfl (lv_at hl 3 rfl) ?_
  refine sl_calli (sl_runV (As := [.int x, .int y]) (rest := []) hC hG (kX5_isAsked l Γ g μ n ep tl lo T C E th hM x y) mi_X5_isAsked lk_RX5_108 20 h20 rfl rfl rfl ⟨Nat.le_of_ble_eq_true rfl, Nat.le_of_ble_eq_true rfl⟩ rfl hl.1 rfl (Nat.le_of_ble_eq_true rfl) dX5_latest_5 ⟨Nat.le_of_ble_eq_true rfl, Nat.le_of_ble_eq_true rfl⟩) hG (fun r_5 u_5 H locs hr_5 hG => ?_)
  obtain ⟨hr9, hM9, hf9⟩ := hr_5
  subst hr9
  refine lv_istore (lv' := [(4, .int (sl_bi (sl_in x 0 3 && sl_in y 0 (nI (sl_kn C))))), (3, .int (-1)), (0, .ref (μ 0)), (1, .int x), (2, .int y)]) hx hb dX5_latest_8 hl (by decide) rfl (fun ls hl => ?_)
  rcases Bool.eq_false_or_eq_true (sl_in x 0 3 && sl_in y 0 (nI (sl_kn C))) with hok | hok
  · rw [if_pos hok] at hM9
    obtain ⟨h_20, h_21, h_22, h_23, h_24, h_25, h_26, h_27, h_28, h_29, h_30, ⟨F9, h_31⟩, -⟩ := id hM9
    have hkn := sl_kn_le C
    obtain ⟨b, hb9, rfl⟩ := sl_inN (n := sl_kn C) (sl_and2 hok) (nI_toInt (by omega)) (by omega)
    refine lv_iconst (v := 0) hx hb dX5_latest_10 (by decide) ?_
    refine lv_istore (lv' := [(5, .int 0), (4, .int (sl_bi (sl_in x 0 3 && sl_in (nI b) 0 (nI (sl_kn C))))), (3, .int (-1)), (0, .ref (μ 0)), (1, .int x), (2, .int (nI b))]) hx hb dX5_latest_11 hl (by decide) rfl (fun ls hl => ?_)
    have loop_13 : ∀ (fuel k : Nat), k ≤ b → b + 1 ≤ k + fuel → ∀ (H : Heap) (locs : List Loc), sl_I Γ u_5 s H locs → ∀ (ls : Array Slot), lv_has ls 6 [(0, .ref (μ 0)), (1, .int x), (2, .int (nI b)), (3, .int (sl_la n C E x k)), (4, .int (sl_bi (sl_in x 0 3 && sl_in (nI b) 0 (nI (sl_kn C))))), (5, .int (nI k))] → W p l e ({ frames := 3, cells := 0, slots := 0, locals := 64 } : Room) s m ([.ref (μ 0), .int x, .int (nI b)] : List Value).toArray below meth c H locs 0 0 (MQ below (sl_Qi Γ (fun r g' => (((sl_in x 0 3 && sl_in (nI b) 0 (nI (sl_kn C))) = true ∧ r = sl_la n C E x (nI b).toNatClampNeg) ∧ sl_Mdl Γ μ n ep tl lo T C E 0 g' ∨ (sl_in x 0 3 && sl_in (nI b) 0 (nI (sl_kn C))) = false ∧ sl_Mdl Γ μ n ep tl lo T C E 1 g') ∧ sl_fm g g') (fun g' => g')) ([.ref (μ 0), .int x, .int (nI b)] : List Value).toArray s 0 0 (sl_A Γ)) (F0 m 13 ls []) := by
      intro fuel
      induction fuel with
      | zero =>
        intro k  h1 h2
        exact absurd h2 (by omega)
      | succ fuel ih_13 =>
        intro k  hk_13 hn_13  H locs hG ls hl
        refine lv_iload hx hb dX5_latest_13 (lv_at hl 4 rfl) ?_
        refine lv_if_eq (tgt := 52) hx hb dX5_latest_15 (by decide) (fun c_15 => ?_) (fun c_15 => ?_)
        · exact absurd (sl_bF c_15) (by rw [hok]; decide)
        · have c_15 := sl_bT c_15
          refine lv_iload hx hb dX5_latest_18 (lv_at hl 5 rfl) ?_
          refine lv_iload_n hx hb dX5_latest_20 rfl (lv_at hl 2 rfl) ?_
          refine lv_icmp_ge (tgt := 52) hx hb dX5_latest_21 (by decide) (fun c_21 => ?_) (fun c_21 => ?_)
          · have n_21 : b ≤ k := (nI_leI (a := b) (b := k) (by omega) (by omega)).mp c_21
            refine lv_iload hx hb dX5_latest_52 (lv_at hl 4 rfl) ?_
            refine lv_if_eq (tgt := 61) hx hb dX5_latest_54 (by decide) (fun c_54 => ?_) (fun c_54 => ?_)
            · exact absurd (sl_bF c_54) (by rw [hok]; decide)
            · have c_54 := sl_bT c_54
              refine lv_iload_n hx hb dX5_latest_57 rfl (lv_at hl 3 rfl) ?_
              refine lv_goto (tgt := 62) hx hb dX5_latest_58 (by decide) ?_
              have hk9 : k = b := by omega
              subst hk9
              exact sl_ri (v := sl_la n C E x k) hC hr hG u_5 ⟨Or.inl ⟨⟨hok, by rw [nI_clamp (by omega)]⟩, hM9⟩, hf9⟩ rfl (Nat.le_of_ble_eq_true rfl) (Nat.le_of_ble_eq_true rfl) dX5_latest_62
          · have n_21 : ¬ (b ≤ k) := fun z => c_21 ((nI_leI (a := b) (b := k) (by omega) (by omega)).mpr z)
            refine lv_aload_n hx hb dX5_latest_24 rfl (lv_at hl 0 rfl) ?_
            refine lv_aload_n hx hb dX5_latest_25 rfl (lv_at hl 0 rfl) ?_
            refine sl_get (C := RX5) (T := TX5) (N := 16) hC hG 20 h_20 rfl la_5 14 (by decide) lk_RX5_37 rfl rfl dX5_latest_26 ?_
            refine lv_iload hx hb dX5_latest_29 (lv_at hl 5 rfl) ?_
            refine sl_ialdN hC hG 30 h_30 (j := k) rfl (by omega) (by omega) dX5_latest_31 ?_
            refine lv_iload_n hx hb dX5_latest_32 rfl (lv_at hl 1 rfl) ?_
            refine sl_calli (sl_runV (As := [.int (C k), .int x]) (rest := []) hC hG (kX5_hasStream l Γ u_5 μ n ep tl lo T C E 0 hM9 (C k) x (hC9 _ (by omega))) mi_X5_hasStream lk_RX5_84 20 h_20 rfl rfl rfl ⟨Nat.le_of_ble_eq_true rfl, Nat.le_of_ble_eq_true rfl⟩ rfl hl.1 rfl (Nat.le_of_ble_eq_true rfl) dX5_latest_33 ⟨Nat.le_of_ble_eq_true rfl, Nat.le_of_ble_eq_true rfl⟩) hG (fun r_33 u_33 H locs hr_33 hG => ?_)
            subst hr_33
            refine lv_if_eq (tgt := 44) hx hb dX5_latest_36 (by decide) (fun c_36 => ?_) (fun c_36 => ?_)
            · have c_36 := sl_bF c_36
              refine lv_iload_n hx hb dX5_latest_44 rfl (lv_at hl 3 rfl) ?_
              refine lv_istore_n (lv' := [(3, .int (sl_la n C E x k)), (0, .ref (μ 0)), (1, .int x), (2, .int (nI b)), (4, .int (sl_bi (sl_in x 0 3 && sl_in (nI b) 0 (nI (sl_kn C))))), (5, .int (nI k))]) hx hb dX5_latest_45 rfl hl (by decide) rfl (fun ls hl => ?_)
              have hl : lv_has ls 6 [(3, .int (sl_la n C E x (k + 1))), (0, .ref (μ 0)), (1, .int x), (2, .int (nI b)), (4, .int (sl_bi (sl_in x 0 3 && sl_in (nI b) 0 (nI (sl_kn C))))), (5, .int (nI k))] := by rw [show sl_la n C E x (k + 1) = sl_la n C E x k from (by rw [sl_la, if_neg (by rw [← sl_hc_hs, c_36]; decide)])]; exact hl
              refine lv_iinc (v := nI (k + 1)) (lv' := [(5, .int (nI (k + 1))), (3, .int (sl_la n C E x (k + 1))), (0, .ref (μ 0)), (1, .int x), (2, .int (nI b)), (4, .int (sl_bi (sl_in x 0 3 && sl_in (nI b) 0 (nI (sl_kn C)))))]) hx hb dX5_latest_46 hl (k := 5) rfl (nI_1 k) (by decide) rfl (fun ls hl => ?_)
              refine lv_goto (tgt := 13) hx hb dX5_latest_49 (by decide) ?_
              exact ih_13 (k + 1) (by omega) (by omega) _ _ hG _ (lv_sub hl [2, 3, 4, 1, 5, 0] rfl)
            · have c_36 := sl_bT c_36
              refine lv_iload hx hb dX5_latest_39 (lv_at hl 5 rfl) ?_
              refine lv_goto (tgt := 45) hx hb dX5_latest_41 (by decide) ?_
              refine lv_istore_n (lv' := [(3, .int (nI k)), (0, .ref (μ 0)), (1, .int x), (2, .int (nI b)), (4, .int (sl_bi (sl_in x 0 3 && sl_in (nI b) 0 (nI (sl_kn C))))), (5, .int (nI k))]) hx hb dX5_latest_45 rfl hl (by decide) rfl (fun ls hl => ?_)
              have hl : lv_has ls 6 [(3, .int (sl_la n C E x (k + 1))), (0, .ref (μ 0)), (1, .int x), (2, .int (nI b)), (4, .int (sl_bi (sl_in x 0 3 && sl_in (nI b) 0 (nI (sl_kn C))))), (5, .int (nI k))] := by rw [show sl_la n C E x (k + 1) = nI k from (by rw [sl_la, if_pos (by rw [← sl_hc_hs]; exact c_36)])]; exact hl
              refine lv_iinc (v := nI (k + 1)) (lv' := [(5, .int (nI (k + 1))), (3, .int (sl_la n C E x (k + 1))), (0, .ref (μ 0)), (1, .int x), (2, .int (nI b)), (4, .int (sl_bi (sl_in x 0 3 && sl_in (nI b) 0 (nI (sl_kn C)))))]) hx hb dX5_latest_46 hl (k := 5) rfl (nI_1 k) (by decide) rfl (fun ls hl => ?_)
              refine lv_goto (tgt := 13) hx hb dX5_latest_49 (by decide) ?_
              exact ih_13 (k + 1) (by omega) (by omega) _ _ hG _ (lv_sub hl [2, 3, 4, 1, 5, 0] rfl)
    exact loop_13 (b + 1) 0 (by omega) (by omega) _ _ hG _ (lv_sub hl [3, 4, 5, 2, 1, 0] rfl)
  · rw [if_neg (by rw [hok]; decide)] at hM9
    obtain ⟨h_20, h_21, h_22, h_23, h_24, h_25, h_26, h_27, h_28, h_29, h_30, ⟨F9, h_31⟩, -⟩ := id hM9
    refine lv_iconst (v := 0) hx hb dX5_latest_10 (by decide) ?_
    refine lv_istore (lv' := [(5, .int 0), (4, .int (sl_bi (sl_in x 0 3 && sl_in y 0 (nI (sl_kn C))))), (3, .int (-1)), (0, .ref (μ 0)), (1, .int x), (2, .int y)]) hx hb dX5_latest_11 hl (by decide) rfl (fun ls hl => ?_)
    refine lv_iload hx hb dX5_latest_13 (lv_at hl 1 rfl) ?_
    refine lv_if_eq (tgt := 52) hx hb dX5_latest_15 (by decide) (fun c_15 => ?_) (fun c_15 => ?_)
    · have c_15 := sl_bF c_15
      refine lv_iload hx hb dX5_latest_52 (lv_at hl 1 rfl) ?_
      refine lv_if_eq (tgt := 61) hx hb dX5_latest_54 (by decide) (fun c_54 => ?_) (fun c_54 => ?_)
      · have c_54 := sl_bF c_54
        refine lv_iconst (v := 0) hx hb dX5_latest_61 (by decide) ?_
        exact sl_ri (v := 0) hC hr hG u_5 ⟨Or.inr ⟨hok, hM9⟩, hf9⟩ rfl (Nat.le_of_ble_eq_true rfl) (Nat.le_of_ble_eq_true rfl) dX5_latest_62
      · exact absurd (sl_bT c_54) (by rw [hok]; decide)
    · exact absurd (sl_bT c_15) (by rw [hok]; decide)
theorem sl_cwz (C : Nat → Int32) (b : Nat) : sl_cw C b 3 = 0 ↔ C b = -2 ∧ C (120 + b) = -2 ∧ C (240 + b) = -2 := by
  have e : sl_cw C b 3 = 0 + (if C (120 * 0 + b) = -2 then 0 else 1) + (if C (120 * 1 + b) = -2 then 0 else 1) + (if C (120 * 2 + b) = -2 then 0 else 1) := rfl
  rw [e, show 120 * 0 + b = b by omega, show 120 * 1 + b = 120 + b by omega, show 120 * 2 + b = 240 + b by omega]
  by_cases h1 : C b = -2 <;> by_cases h2 : C (120 + b) = -2 <;> by_cases h3 : C (240 + b) = -2 <;> simp [h1, h2, h3]
/-- the reference's row of the latest places, made anew: at a position, for the first so many streams -/
def sl_sP (n : Nat) (C : Nat → Int32) (E : Nat → sl_Ent) (b j : Nat) : Nat → Int32 := match sl_tok n (C b) with
  | none => sl_sT n C E b
  | some t => sl_tp (sl_sT n C E b) (E t).2.2.1 (nI b) j
theorem sl_sP_0 (n : Nat) (C : Nat → Int32) (E : Nat → sl_Ent) (b : Nat) : sl_sT n C E b = sl_sP n C E b 0 := by
  rw [sl_sP]
  split <;> rfl
theorem sl_sP_4 (n : Nat) (C : Nat → Int32) (E : Nat → sl_Ent) (b : Nat) : sl_sP n C E b 4 = sl_sT n C E (b + 1) := by
  rcases sl_opt (sl_tok n (C b)) with e | ⟨t, e⟩
  · simp only [sl_sP, sl_sT, e]
  · simp only [sl_sP, sl_sT, e]
theorem sl_sP_t {n : Nat} {C : Nat → Int32} {E : Nat → sl_Ent} {b j : Nat} (h : sl_hc n E (C b) (nI j) = true) : sl_t1 (sl_sP n C E b j) j (nI b) = sl_sP n C E b (j + 1) := by
  rcases sl_opt (sl_tok n (C b)) with e | ⟨t, e⟩
  · rw [sl_hc_0 e] at h; cases h
  · rw [sl_hc_1 e] at h
    simp only [sl_sP, e]
    rw [sl_tp, if_pos h]
theorem sl_sP_f {n : Nat} {C : Nat → Int32} {E : Nat → sl_Ent} {b j : Nat} (h : sl_hc n E (C b) (nI j) = false) : sl_sP n C E b j = sl_sP n C E b (j + 1) := by
  rcases sl_opt (sl_tok n (C b)) with e | ⟨t, e⟩
  · simp only [sl_sP, e]
  · rw [sl_hc_1 e] at h
    simp only [sl_sP, e]
    rw [sl_tp, if_neg (by rw [h]; decide)]
theorem sl_nn {p : Prop} (h : ¬ ¬ p) : p := Classical.byContradiction h
set_option maxHeartbeats 4000000 in
set_option maxRecDepth 100000 in
theorem kX5_seal (l : Launch) (Γ : sl_G) (g : sl_W) (μ : Nat → Nat) (n : Nat) (ep : Int32) (tl : Nat) (lo : Bool) (T C : Nat → Int32) (E : Nat → sl_Ent) (th : Int32) (hM : sl_Mdl Γ μ n ep tl lo T C E th g) : Met l yX5_seal [Cond.code yX5_seal cX5_seal 4 (some .int)] ({ frames := 1, cells := 0, slots := 0, locals := 23 } : Room) (va_Pc [.ref (μ 0)] (sl_B Γ g)) (sl_Qi Γ (fun r g' => r = nI (sl_ef C 120) ∧ sl_Mdl Γ μ n (ep + 1) (sl_ef C 120) false (sl_sT n C E 120) C E 0 g' ∧ sl_fm g g') (fun g' => g')) 0 0 (sl_A Γ) := by
  refine sl_ent (by decide) (Nat.le_of_ble_eq_true rfl) ?_
  intro p e s m below meth c ls hC hr hin hG hl
  have hx := hC.1
  have hb := hC.2.1
  have hl : lv_has ls 4 [(0, .ref (μ 0))] := hl
  obtain ⟨h20, h21, h22, h23, h24, h25, h26, h27, h28, h29, h30, ⟨F, h31⟩, hn9, ht9, hC9, hE9, hZ9⟩ := id hM
  refine lv_aload_n hx hb dX5_seal_0 rfl (lv_at hl 0 rfl) ?_
  refine lv_iconst (v := 0) hx hb dX5_seal_1 (by decide) ?_
  refine sl_put (C := RX5) (T := TX5) (N := 16) (ty := .int) (v := .int 0) hC hG 20 h20 rfl la_5 tyX5 tyX5_ok nmX5 0 (by decide) lk_RX5_44 rfl rfl (by decide +kernel) rfl rfl (Nat.le_of_ble_eq_true rfl) dX5_seal_2 (fun H locs hG => ?_)
  have hG : sl_I Γ (sl_up g 20 ((μ 0), .inr (5, [.int 0, .int ep, .int (sl_bi lo), .int (nI tl), .ref (μ 1), .int (nI n), .ref (μ 2), .ref (μ 3), .ref (μ 4), .ref (μ 5), .ref (μ 6), .ref (μ 7), .ref (μ 8), .ref (μ 9), .ref (μ 10), .ref (μ 11)]))) s H _ := hG
  refine lv_aload_n hx hb dX5_seal_5 rfl (lv_at hl 0 rfl) ?_
  refine lv_dup hx hb dX5_seal_6 rfl ?_
  refine sl_get (C := RX5) (T := TX5) (N := 16) hC hG 20 (sl_up_s _ _ _) rfl la_5 1 (by decide) lk_RX5_62 rfl rfl dX5_seal_7 ?_
  refine lv_iconst (v := 1) hx hb dX5_seal_10 (by decide) ?_
  refine lv_iadd hx hb dX5_seal_11 ?_
  refine sl_put (C := RX5) (T := TX5) (N := 16) (ty := .int) (v := .int (ep + 1)) hC hG 20 (sl_up_s _ _ _) rfl la_5 tyX5 tyX5_ok nmX5 1 (by decide) lk_RX5_62 rfl rfl (by decide +kernel) rfl rfl (Nat.le_of_ble_eq_true rfl) dX5_seal_12 (fun H locs hG => ?_)
  rw [sl_up_up] at hG
  have hG : sl_I Γ (sl_up g 20 ((μ 0), .inr (5, [.int 0, .int (ep + 1), .int (sl_bi lo), .int (nI tl), .ref (μ 1), .int (nI n), .ref (μ 2), .ref (μ 3), .ref (μ 4), .ref (μ 5), .ref (μ 6), .ref (μ 7), .ref (μ 8), .ref (μ 9), .ref (μ 10), .ref (μ 11)]))) s H _ := hG
  refine lv_aload_n hx hb dX5_seal_15 rfl (lv_at hl 0 rfl) ?_
  refine lv_iconst (v := 0) hx hb dX5_seal_16 (by decide) ?_
  refine sl_put (C := RX5) (T := TX5) (N := 16) (ty := .boolean) (v := .int 0) hC hG 20 (sl_up_s _ _ _) rfl la_5 tyX5 tyX5_ok nmX5 2 (by decide) lk_RX5_55 rfl rfl (by decide +kernel) rfl rfl (Nat.le_of_ble_eq_true rfl) dX5_seal_17 (fun H locs hG => ?_)
  rw [sl_up_up] at hG
  have hG : sl_I Γ (sl_up g 20 ((μ 0), .inr (5, [.int 0, .int (ep + 1), .int 0, .int (nI tl), .ref (μ 1), .int (nI n), .ref (μ 2), .ref (μ 3), .ref (μ 4), .ref (μ 5), .ref (μ 6), .ref (μ 7), .ref (μ 8), .ref (μ 9), .ref (μ 10), .ref (μ 11)]))) s H _ := hG
  refine lv_aload_n hx hb dX5_seal_20 rfl (lv_at hl 0 rfl) ?_
  refine lv_iconst (v := 0) hx hb dX5_seal_21 (by decide) ?_
  refine sl_put (C := RX5) (T := TX5) (N := 16) (ty := .int) (v := .int 0) hC hG 20 (sl_up_s _ _ _) rfl la_5 tyX5 tyX5_ok nmX5 3 (by decide) lk_RX5_59 rfl rfl (by decide +kernel) rfl rfl (Nat.le_of_ble_eq_true rfl) dX5_seal_22 (fun H locs hG => ?_)
  rw [sl_up_up] at hG
  have hG : sl_I Γ (sl_up g 20 ((μ 0), .inr (5, [.int 0, .int (ep + 1), .int 0, .int 0, .ref (μ 1), .int (nI n), .ref (μ 2), .ref (μ 3), .ref (μ 4), .ref (μ 5), .ref (μ 6), .ref (μ 7), .ref (μ 8), .ref (μ 9), .ref (μ 10), .ref (μ 11)]))) s H _ := hG
  refine lv_iconst (v := 0) hx hb dX5_seal_25 (by decide) ?_
  refine lv_istore_n (lv' := [(1, .int 0), (0, .ref (μ 0))]) hx hb dX5_seal_26 rfl hl (by decide) rfl (fun ls hl => ?_)
  have loop_27 : ∀ (fuel k : Nat) (T1 : Nat → Int32), k ≤ 16 → 16 + 1 ≤ k + fuel → (∀ j, j < k → T1 j = -1) → ∀ (H : Heap) (locs : List Loc), sl_I Γ (sl_up (sl_up g 20 ((μ 0), .inr (5, [.int 0, .int (ep + 1), .int 0, .int 0, .ref (μ 1), .int (nI n), .ref (μ 2), .ref (μ 3), .ref (μ 4), .ref (μ 5), .ref (μ 6), .ref (μ 7), .ref (μ 8), .ref (μ 9), .ref (μ 10), .ref (μ 11)]))) 21 ((μ 1), .inl (Γ.2.1 0, 16, .inl T1))) s H locs → ∀ (ls : Array Slot), lv_has ls 4 [(0, .ref (μ 0)), (1, .int (nI k))] → W p l e ({ frames := 1, cells := 0, slots := 0, locals := 23 } : Room) s m ([.ref (μ 0)] : List Value).toArray below meth c H locs 0 0 (MQ below (sl_Qi Γ (fun r g' => r = nI (sl_ef C 120) ∧ sl_Mdl Γ μ n (ep + 1) (sl_ef C 120) false (sl_sT n C E 120) C E 0 g' ∧ sl_fm g g') (fun g' => g')) ([.ref (μ 0)] : List Value).toArray s 0 0 (sl_A Γ)) (F0 m 27 ls []) := by
    intro fuel
    induction fuel with
    | zero =>
      intro k T1 h1 h2
      exact absurd h2 (by omega)
    | succ fuel ih_27 =>
      intro k T1 hk_27 hn_27 hi H locs hG ls hl
      refine lv_iload_n hx hb dX5_seal_27 rfl (lv_at hl 1 rfl) ?_
      refine lv_bipush (v := 16) hx hb dX5_seal_28 (by decide) ?_
      refine lv_icmp_ge (tgt := 46) hx hb dX5_seal_30 (by decide) (fun c_30 => ?_) (fun c_30 => ?_)
      · have n_30 : 16 ≤ k := (nI_leI (a := 16) (b := k) (by omega) (by omega)).mp c_30
        refine lv_iconst (v := 0) hx hb dX5_seal_46 (by decide) ?_
        refine lv_istore_n (lv' := [(1, .int 0), (0, .ref (μ 0))]) hx hb dX5_seal_47 rfl hl (by decide) rfl (fun ls hl => ?_)
        have loop_48 : ∀ (fuel b : Nat), b ≤ 120 → 120 + 1 ≤ b + fuel → ∀ (H : Heap) (locs : List Loc), sl_I Γ (sl_up (sl_up g 20 ((μ 0), .inr (5, [.int 0, .int (ep + 1), .int 0, .int (nI (sl_ef C b)), .ref (μ 1), .int (nI n), .ref (μ 2), .ref (μ 3), .ref (μ 4), .ref (μ 5), .ref (μ 6), .ref (μ 7), .ref (μ 8), .ref (μ 9), .ref (μ 10), .ref (μ 11)]))) 21 ((μ 1), .inl (Γ.2.1 0, 16, .inl (sl_sT n C E b)))) s H locs → ∀ (ls : Array Slot), lv_has ls 4 [(0, .ref (μ 0)), (1, .int (nI b))] → W p l e ({ frames := 1, cells := 0, slots := 0, locals := 23 } : Room) s m ([.ref (μ 0)] : List Value).toArray below meth c H locs 0 0 (MQ below (sl_Qi Γ (fun r g' => r = nI (sl_ef C 120) ∧ sl_Mdl Γ μ n (ep + 1) (sl_ef C 120) false (sl_sT n C E 120) C E 0 g' ∧ sl_fm g g') (fun g' => g')) ([.ref (μ 0)] : List Value).toArray s 0 0 (sl_A Γ)) (F0 m 48 ls []) := by
          intro fuel
          induction fuel with
          | zero =>
            intro b  h1 h2
            exact absurd h2 (by omega)
          | succ fuel ih_48 =>
            intro b  hk_48 hn_48  H locs hG ls hl
            refine lv_iload_n hx hb dX5_seal_48 rfl (lv_at hl 1 rfl) ?_
            refine lv_bipush (v := 120) hx hb dX5_seal_49 (by decide) ?_
            refine lv_icmp_ge (tgt := 157) hx hb dX5_seal_51 (by decide) (fun c_51 => ?_) (fun c_51 => ?_)
            · have n_51 : 120 ≤ b := (nI_leI (a := 120) (b := b) (by omega) (by omega)).mp c_51
              refine lv_aload_n hx hb dX5_seal_157 rfl (lv_at hl 0 rfl) ?_
              refine sl_get (C := RX5) (T := TX5) (N := 16) hC hG 20 (sl_up_to (by decide) (sl_up_s _ _ _)) rfl la_5 3 (by decide) lk_RX5_59 rfl rfl dX5_seal_158 ?_
              have hk9 : b = 120 := by omega
              exact sl_ri (v := nI (sl_ef C b)) hC hr hG (sl_up (sl_up g 20 ((μ 0), .inr (5, [.int 0, .int (ep + 1), .int 0, .int (nI (sl_ef C b)), .ref (μ 1), .int (nI n), .ref (μ 2), .ref (μ 3), .ref (μ 4), .ref (μ 5), .ref (μ 6), .ref (μ 7), .ref (μ 8), .ref (μ 9), .ref (μ 10), .ref (μ 11)]))) 21 ((μ 1), .inl (Γ.2.1 0, 16, .inl (sl_sT n C E b)))) ⟨by rw [hk9], by rw [← hk9]; exact (sl_Mdl_up1 (sl_Mdl_up0 hM 0 (ep + 1) (sl_ef C b) false (by have := sl_ef_le C b; omega)) (sl_sT n C E b)), (((sl_fm.rf g).up _ (by omega)).up _ (by omega))⟩ rfl (Nat.le_of_ble_eq_true rfl) (Nat.le_of_ble_eq_true rfl) dX5_seal_161
            · have n_51 : ¬ (120 ≤ b) := fun z => c_51 ((nI_leI (a := 120) (b := b) (by omega) (by omega)).mpr z)
              refine lv_aload_n hx hb dX5_seal_54 rfl (lv_at hl 0 rfl) ?_
              refine sl_get (C := RX5) (T := TX5) (N := 16) hC hG 20 (sl_up_to (by decide) (sl_up_s _ _ _)) rfl la_5 14 (by decide) lk_RX5_37 rfl rfl dX5_seal_55 ?_
              refine lv_iload_n hx hb dX5_seal_58 rfl (lv_at hl 1 rfl) ?_
              refine sl_ialdN hC hG 30 (sl_up_to (by decide) (sl_up_to (by decide) h30)) (j := b) rfl (by omega) (by omega) dX5_seal_59 ?_
              refine lv_bipush (v := (-2)) hx hb dX5_seal_60 (by decide) ?_
              refine lv_icmp_ne (tgt := 98) hx hb dX5_seal_62 (by decide) (fun c_62 => ?_) (fun c_62 => ?_)
              · refine lv_iconst (v := 0) hx hb dX5_seal_98 (by decide) ?_
                refine lv_istore_n (lv' := [(2, .int 0), (0, .ref (μ 0)), (1, .int (nI b))]) hx hb dX5_seal_99 rfl hl (by decide) rfl (fun ls hl => ?_)
                refine lv_aload_n hx hb dX5_seal_100 rfl (lv_at hl 1 rfl) ?_
                refine lv_iload_n hx hb dX5_seal_101 rfl (lv_at hl 0 rfl) ?_
                refine lv_if_eq (tgt := 112) hx hb dX5_seal_102 (by decide) (fun c_102 => ?_) (fun c_102 => ?_)
                · refine lv_iload_n hx hb dX5_seal_112 rfl (lv_at hl 2 rfl) ?_
                  refine lv_iconst (v := 1) hx hb dX5_seal_113 (by decide) ?_
                  refine lv_iadd hx hb dX5_seal_114 ?_
                  refine sl_topi (y := nI (b + 1)) (nI_add b 1) ?_
                  refine sl_put (C := RX5) (T := TX5) (N := 16) (ty := .int) (v := .int (nI (b + 1))) hC hG 20 (sl_up_to (by decide) (sl_up_s _ _ _)) rfl la_5 tyX5 tyX5_ok nmX5 3 (by decide) lk_RX5_59 rfl rfl (by decide +kernel) rfl rfl (Nat.le_of_ble_eq_true rfl) dX5_seal_115 (fun H locs hG => ?_)
                  have hG : sl_I Γ (sl_up (sl_up (sl_up g 20 ((μ 0), .inr (5, [.int 0, .int (ep + 1), .int 0, .int (nI (sl_ef C b)), .ref (μ 1), .int (nI n), .ref (μ 2), .ref (μ 3), .ref (μ 4), .ref (μ 5), .ref (μ 6), .ref (μ 7), .ref (μ 8), .ref (μ 9), .ref (μ 10), .ref (μ 11)]))) 21 ((μ 1), .inl (Γ.2.1 0, 16, .inl (sl_sT n C E b)))) 20 ((μ 0), .inr (5, [.int 0, .int (ep + 1), .int 0, .int (nI (b + 1)), .ref (μ 1), .int (nI n), .ref (μ 2), .ref (μ 3), .ref (μ 4), .ref (μ 5), .ref (μ 6), .ref (μ 7), .ref (μ 8), .ref (μ 9), .ref (μ 10), .ref (μ 11)]))) s H _ := hG
                  have ef9 : sl_ef C (b + 1) = b + 1 := by rw [sl_ef, if_neg (fun w9 => c_62 ((sl_cwz C b).mp w9).1)]
                  rw [sl_up_mid2 _ _ _ _ (by decide)] at hG
                  have hG : sl_I Γ (sl_up (sl_up g 20 ((μ 0), .inr (5, [.int 0, .int (ep + 1), .int 0, .int (nI (sl_ef C (b + 1))), .ref (μ 1), .int (nI n), .ref (μ 2), .ref (μ 3), .ref (μ 4), .ref (μ 5), .ref (μ 6), .ref (μ 7), .ref (μ 8), .ref (μ 9), .ref (μ 10), .ref (μ 11)]))) 21 ((μ 1), .inl (Γ.2.1 0, 16, .inl (sl_sT n C E b)))) s H locs := by rw [ef9]; exact hG
                  refine lv_iconst (v := 0) hx hb dX5_seal_118 (by decide) ?_
                  refine lv_istore_n (lv' := [(3, .int 0), (2, .int 0), (0, .ref (μ 0)), (1, .int (nI b))]) hx hb dX5_seal_119 rfl hl (by decide) rfl (fun ls hl => ?_)
                  have loop_120 : ∀ (fuel j : Nat), j ≤ 4 → 4 + 1 ≤ j + fuel → ∀ (H : Heap) (locs : List Loc), sl_I Γ (sl_up (sl_up g 20 ((μ 0), .inr (5, [.int 0, .int (ep + 1), .int 0, .int (nI (sl_ef C (b + 1))), .ref (μ 1), .int (nI n), .ref (μ 2), .ref (μ 3), .ref (μ 4), .ref (μ 5), .ref (μ 6), .ref (μ 7), .ref (μ 8), .ref (μ 9), .ref (μ 10), .ref (μ 11)]))) 21 ((μ 1), .inl (Γ.2.1 0, 16, .inl (sl_sP n C E b j)))) s H locs → ∀ (ls : Array Slot), lv_has ls 4 [(0, .ref (μ 0)), (1, .int (nI b)), (3, .int (nI j))] → W p l e ({ frames := 1, cells := 0, slots := 0, locals := 23 } : Room) s m ([.ref (μ 0)] : List Value).toArray below meth c H locs 0 0 (MQ below (sl_Qi Γ (fun r g' => r = nI (sl_ef C 120) ∧ sl_Mdl Γ μ n (ep + 1) (sl_ef C 120) false (sl_sT n C E 120) C E 0 g' ∧ sl_fm g g') (fun g' => g')) ([.ref (μ 0)] : List Value).toArray s 0 0 (sl_A Γ)) (F0 m 120 ls []) := by
                    intro fuel
                    induction fuel with
                    | zero =>
                      intro j  h1 h2
                      exact absurd h2 (by omega)
                    | succ fuel ih_120 =>
                      intro j  hk_120 hn_120  H locs hG ls hl
                      refine lv_iload_n hx hb dX5_seal_120 rfl (lv_at hl 2 rfl) ?_
                      refine lv_iconst (v := 4) hx hb dX5_seal_121 (by decide) ?_
                      refine lv_icmp_ge (tgt := 151) hx hb dX5_seal_122 (by decide) (fun c_122 => ?_) (fun c_122 => ?_)
                      · have n_122 : 4 ≤ j := (nI_leI (a := 4) (b := j) (by omega) (by omega)).mp c_122
                        refine lv_iinc (v := nI (b + 1)) (lv' := [(1, .int (nI (b + 1))), (0, .ref (μ 0)), (3, .int (nI j))]) hx hb dX5_seal_151 hl (k := 1) rfl (nI_1 b) (by decide) rfl (fun ls hl => ?_)
                        refine lv_goto (tgt := 48) hx hb dX5_seal_154 (by decide) ?_
                        have hj9 : j = 4 := by omega
                        rw [hj9, sl_sP_4] at hG
                        exact ih_48 (b + 1) (by omega) (by omega) _ _ hG _ (lv_sub hl [1, 0] rfl)
                      · have n_122 : ¬ (4 ≤ j) := fun z => c_122 ((nI_leI (a := 4) (b := j) (by omega) (by omega)).mpr z)
                        refine lv_aload_n hx hb dX5_seal_125 rfl (lv_at hl 0 rfl) ?_
                        refine lv_aload_n hx hb dX5_seal_126 rfl (lv_at hl 0 rfl) ?_
                        refine sl_get (C := RX5) (T := TX5) (N := 16) hC hG 20 (sl_up_to (by decide) (sl_up_s _ _ _)) rfl la_5 14 (by decide) lk_RX5_37 rfl rfl dX5_seal_127 ?_
                        refine lv_iload_n hx hb dX5_seal_130 rfl (lv_at hl 1 rfl) ?_
                        refine sl_ialdN hC hG 30 (sl_up_to (by decide) (sl_up_to (by decide) h30)) (j := b) rfl (by omega) (by omega) dX5_seal_131 ?_
                        refine lv_iload_n hx hb dX5_seal_132 rfl (lv_at hl 2 rfl) ?_
                        refine sl_calli (sl_runV (As := [.int (C b), .int (nI j)]) (rest := []) hC hG (kX5_hasStream l Γ (sl_up (sl_up g 20 ((μ 0), .inr (5, [.int 0, .int (ep + 1), .int 0, .int (nI (sl_ef C (b + 1))), .ref (μ 1), .int (nI n), .ref (μ 2), .ref (μ 3), .ref (μ 4), .ref (μ 5), .ref (μ 6), .ref (μ 7), .ref (μ 8), .ref (μ 9), .ref (μ 10), .ref (μ 11)]))) 21 ((μ 1), .inl (Γ.2.1 0, 16, .inl (sl_sP n C E b j)))) μ n (ep + 1) (sl_ef C (b + 1)) false (sl_sP n C E b j) C E 0 (sl_Mdl_up1 (sl_Mdl_up0 hM 0 (ep + 1) (sl_ef C (b + 1)) false (by have := sl_ef_le C (b + 1); omega)) (sl_sP n C E b j)) (C b) (nI j) (hC9 _ (by omega))) mi_X5_hasStream lk_RX5_84 20 (sl_up_to (by decide) (sl_up_s _ _ _)) rfl rfl rfl ⟨Nat.le_of_ble_eq_true rfl, Nat.le_of_ble_eq_true rfl⟩ rfl hl.1 rfl (Nat.le_of_ble_eq_true rfl) dX5_seal_133 ⟨Nat.le_of_ble_eq_true rfl, Nat.le_of_ble_eq_true rfl⟩) hG (fun r_133 u_133 H locs hr_133 hG => ?_)
                        subst hr_133
                        refine lv_if_eq (tgt := 145) hx hb dX5_seal_136 (by decide) (fun c_136 => ?_) (fun c_136 => ?_)
                        · have c_136 := sl_bF c_136
                          refine lv_iinc (v := nI (j + 1)) (lv' := [(3, .int (nI (j + 1))), (0, .ref (μ 0)), (1, .int (nI b))]) hx hb dX5_seal_145 hl (k := 2) rfl (nI_1 j) (by decide) rfl (fun ls hl => ?_)
                          refine lv_goto (tgt := 120) hx hb dX5_seal_148 (by decide) ?_
                          rw [sl_sP_f c_136] at hG
                          exact ih_120 (j + 1) (by omega) (by omega) _ _ hG _ (lv_sub hl [1, 2, 0] rfl)
                        · have c_136 := sl_bT c_136
                          refine lv_aload_n hx hb dX5_seal_139 rfl (lv_at hl 0 rfl) ?_
                          refine lv_iload_n hx hb dX5_seal_140 rfl (lv_at hl 2 rfl) ?_
                          refine lv_iload_n hx hb dX5_seal_141 rfl (lv_at hl 1 rfl) ?_
                          refine sl_callv (sl_runV (As := [.int (nI j), .int (nI b)]) (rest := []) hC hG (kX5_learns0 l Γ (sl_up (sl_up g 20 ((μ 0), .inr (5, [.int 0, .int (ep + 1), .int 0, .int (nI (sl_ef C (b + 1))), .ref (μ 1), .int (nI n), .ref (μ 2), .ref (μ 3), .ref (μ 4), .ref (μ 5), .ref (μ 6), .ref (μ 7), .ref (μ 8), .ref (μ 9), .ref (μ 10), .ref (μ 11)]))) 21 ((μ 1), .inl (Γ.2.1 0, 16, .inl (sl_sP n C E b j)))) (μ 0) (μ 1) _ _ _ _ _ _ _ _ _ _ _ _ _ _ _ (sl_up_to (by decide) (sl_up_s _ _ _)) (sl_sP n C E b j) (sl_up_s _ _ _) j (by omega) (nI b)) mi_X5_learns lk_RX5_65 20 (sl_up_to (by decide) (sl_up_s _ _ _)) rfl rfl rfl ⟨Nat.le_of_ble_eq_true rfl, Nat.le_of_ble_eq_true rfl⟩ rfl hl.1 rfl (Nat.le_of_ble_eq_true rfl) dX5_seal_142 ⟨Nat.le_of_ble_eq_true rfl, Nat.le_of_ble_eq_true rfl⟩) hG (fun u_142 H locs hr_142 hG => ?_)
                          have hG : sl_I Γ (sl_up (sl_up (sl_up g 20 ((μ 0), .inr (5, [.int 0, .int (ep + 1), .int 0, .int (nI (sl_ef C (b + 1))), .ref (μ 1), .int (nI n), .ref (μ 2), .ref (μ 3), .ref (μ 4), .ref (μ 5), .ref (μ 6), .ref (μ 7), .ref (μ 8), .ref (μ 9), .ref (μ 10), .ref (μ 11)]))) 21 ((μ 1), .inl (Γ.2.1 0, 16, .inl (sl_sP n C E b j)))) 21 ((μ 1), .inl (Γ.2.1 0, 16, .inl (sl_t1 (sl_sP n C E b j) j (nI b))))) s H _ := hG
                          refine lv_iinc (v := nI (j + 1)) (lv' := [(3, .int (nI (j + 1))), (0, .ref (μ 0)), (1, .int (nI b))]) hx hb dX5_seal_145 hl (k := 2) rfl (nI_1 j) (by decide) rfl (fun ls hl => ?_)
                          refine lv_goto (tgt := 120) hx hb dX5_seal_148 (by decide) ?_
                          rw [sl_up_up, sl_sP_t c_136] at hG
                          exact ih_120 (j + 1) (by omega) (by omega) _ _ hG _ (lv_sub hl [1, 2, 0] rfl)
                  rw [sl_sP_0 n C E b] at hG
                  exact loop_120 (4 + 1) 0 (by omega) (by omega) _ _ hG _ (lv_sub hl [2, 3, 0] rfl)
                · exact absurd c_102 (by decide)
              · refine lv_aload_n hx hb dX5_seal_65 rfl (lv_at hl 0 rfl) ?_
                refine sl_get (C := RX5) (T := TX5) (N := 16) hC hG 20 (sl_up_to (by decide) (sl_up_s _ _ _)) rfl la_5 14 (by decide) lk_RX5_37 rfl rfl dX5_seal_66 ?_
                refine lv_bipush (v := 120) hx hb dX5_seal_69 (by decide) ?_
                refine lv_iload_n hx hb dX5_seal_71 rfl (lv_at hl 1 rfl) ?_
                refine lv_iadd hx hb dX5_seal_72 ?_
                refine sl_topi (y := nI (120 + b)) (nI_add 120 b) ?_
                refine sl_ialdN hC hG 30 (sl_up_to (by decide) (sl_up_to (by decide) h30)) (j := 120 + b) rfl (by omega) (by omega) dX5_seal_73 ?_
                refine lv_bipush (v := (-2)) hx hb dX5_seal_74 (by decide) ?_
                refine lv_icmp_ne (tgt := 98) hx hb dX5_seal_76 (by decide) (fun c_76 => ?_) (fun c_76 => ?_)
                · refine lv_iconst (v := 0) hx hb dX5_seal_98 (by decide) ?_
                  refine lv_istore_n (lv' := [(2, .int 0), (0, .ref (μ 0)), (1, .int (nI b))]) hx hb dX5_seal_99 rfl hl (by decide) rfl (fun ls hl => ?_)
                  refine lv_aload_n hx hb dX5_seal_100 rfl (lv_at hl 1 rfl) ?_
                  refine lv_iload_n hx hb dX5_seal_101 rfl (lv_at hl 0 rfl) ?_
                  refine lv_if_eq (tgt := 112) hx hb dX5_seal_102 (by decide) (fun c_102 => ?_) (fun c_102 => ?_)
                  · refine lv_iload_n hx hb dX5_seal_112 rfl (lv_at hl 2 rfl) ?_
                    refine lv_iconst (v := 1) hx hb dX5_seal_113 (by decide) ?_
                    refine lv_iadd hx hb dX5_seal_114 ?_
                    refine sl_topi (y := nI (b + 1)) (nI_add b 1) ?_
                    refine sl_put (C := RX5) (T := TX5) (N := 16) (ty := .int) (v := .int (nI (b + 1))) hC hG 20 (sl_up_to (by decide) (sl_up_s _ _ _)) rfl la_5 tyX5 tyX5_ok nmX5 3 (by decide) lk_RX5_59 rfl rfl (by decide +kernel) rfl rfl (Nat.le_of_ble_eq_true rfl) dX5_seal_115 (fun H locs hG => ?_)
                    have hG : sl_I Γ (sl_up (sl_up (sl_up g 20 ((μ 0), .inr (5, [.int 0, .int (ep + 1), .int 0, .int (nI (sl_ef C b)), .ref (μ 1), .int (nI n), .ref (μ 2), .ref (μ 3), .ref (μ 4), .ref (μ 5), .ref (μ 6), .ref (μ 7), .ref (μ 8), .ref (μ 9), .ref (μ 10), .ref (μ 11)]))) 21 ((μ 1), .inl (Γ.2.1 0, 16, .inl (sl_sT n C E b)))) 20 ((μ 0), .inr (5, [.int 0, .int (ep + 1), .int 0, .int (nI (b + 1)), .ref (μ 1), .int (nI n), .ref (μ 2), .ref (μ 3), .ref (μ 4), .ref (μ 5), .ref (μ 6), .ref (μ 7), .ref (μ 8), .ref (μ 9), .ref (μ 10), .ref (μ 11)]))) s H _ := hG
                    have ef9 : sl_ef C (b + 1) = b + 1 := by rw [sl_ef, if_neg (fun w9 => c_76 ((sl_cwz C b).mp w9).2.1)]
                    rw [sl_up_mid2 _ _ _ _ (by decide)] at hG
                    have hG : sl_I Γ (sl_up (sl_up g 20 ((μ 0), .inr (5, [.int 0, .int (ep + 1), .int 0, .int (nI (sl_ef C (b + 1))), .ref (μ 1), .int (nI n), .ref (μ 2), .ref (μ 3), .ref (μ 4), .ref (μ 5), .ref (μ 6), .ref (μ 7), .ref (μ 8), .ref (μ 9), .ref (μ 10), .ref (μ 11)]))) 21 ((μ 1), .inl (Γ.2.1 0, 16, .inl (sl_sT n C E b)))) s H locs := by rw [ef9]; exact hG
                    refine lv_iconst (v := 0) hx hb dX5_seal_118 (by decide) ?_
                    refine lv_istore_n (lv' := [(3, .int 0), (2, .int 0), (0, .ref (μ 0)), (1, .int (nI b))]) hx hb dX5_seal_119 rfl hl (by decide) rfl (fun ls hl => ?_)
                    have loop_120 : ∀ (fuel j : Nat), j ≤ 4 → 4 + 1 ≤ j + fuel → ∀ (H : Heap) (locs : List Loc), sl_I Γ (sl_up (sl_up g 20 ((μ 0), .inr (5, [.int 0, .int (ep + 1), .int 0, .int (nI (sl_ef C (b + 1))), .ref (μ 1), .int (nI n), .ref (μ 2), .ref (μ 3), .ref (μ 4), .ref (μ 5), .ref (μ 6), .ref (μ 7), .ref (μ 8), .ref (μ 9), .ref (μ 10), .ref (μ 11)]))) 21 ((μ 1), .inl (Γ.2.1 0, 16, .inl (sl_sP n C E b j)))) s H locs → ∀ (ls : Array Slot), lv_has ls 4 [(0, .ref (μ 0)), (1, .int (nI b)), (3, .int (nI j))] → W p l e ({ frames := 1, cells := 0, slots := 0, locals := 23 } : Room) s m ([.ref (μ 0)] : List Value).toArray below meth c H locs 0 0 (MQ below (sl_Qi Γ (fun r g' => r = nI (sl_ef C 120) ∧ sl_Mdl Γ μ n (ep + 1) (sl_ef C 120) false (sl_sT n C E 120) C E 0 g' ∧ sl_fm g g') (fun g' => g')) ([.ref (μ 0)] : List Value).toArray s 0 0 (sl_A Γ)) (F0 m 120 ls []) := by
                      intro fuel
                      induction fuel with
                      | zero =>
                        intro j  h1 h2
                        exact absurd h2 (by omega)
                      | succ fuel ih_120 =>
                        intro j  hk_120 hn_120  H locs hG ls hl
                        refine lv_iload_n hx hb dX5_seal_120 rfl (lv_at hl 2 rfl) ?_
                        refine lv_iconst (v := 4) hx hb dX5_seal_121 (by decide) ?_
                        refine lv_icmp_ge (tgt := 151) hx hb dX5_seal_122 (by decide) (fun c_122 => ?_) (fun c_122 => ?_)
                        · have n_122 : 4 ≤ j := (nI_leI (a := 4) (b := j) (by omega) (by omega)).mp c_122
                          refine lv_iinc (v := nI (b + 1)) (lv' := [(1, .int (nI (b + 1))), (0, .ref (μ 0)), (3, .int (nI j))]) hx hb dX5_seal_151 hl (k := 1) rfl (nI_1 b) (by decide) rfl (fun ls hl => ?_)
                          refine lv_goto (tgt := 48) hx hb dX5_seal_154 (by decide) ?_
                          have hj9 : j = 4 := by omega
                          rw [hj9, sl_sP_4] at hG
                          exact ih_48 (b + 1) (by omega) (by omega) _ _ hG _ (lv_sub hl [1, 0] rfl)
                        · have n_122 : ¬ (4 ≤ j) := fun z => c_122 ((nI_leI (a := 4) (b := j) (by omega) (by omega)).mpr z)
                          refine lv_aload_n hx hb dX5_seal_125 rfl (lv_at hl 0 rfl) ?_
                          refine lv_aload_n hx hb dX5_seal_126 rfl (lv_at hl 0 rfl) ?_
                          refine sl_get (C := RX5) (T := TX5) (N := 16) hC hG 20 (sl_up_to (by decide) (sl_up_s _ _ _)) rfl la_5 14 (by decide) lk_RX5_37 rfl rfl dX5_seal_127 ?_
                          refine lv_iload_n hx hb dX5_seal_130 rfl (lv_at hl 1 rfl) ?_
                          refine sl_ialdN hC hG 30 (sl_up_to (by decide) (sl_up_to (by decide) h30)) (j := b) rfl (by omega) (by omega) dX5_seal_131 ?_
                          refine lv_iload_n hx hb dX5_seal_132 rfl (lv_at hl 2 rfl) ?_
                          refine sl_calli (sl_runV (As := [.int (C b), .int (nI j)]) (rest := []) hC hG (kX5_hasStream l Γ (sl_up (sl_up g 20 ((μ 0), .inr (5, [.int 0, .int (ep + 1), .int 0, .int (nI (sl_ef C (b + 1))), .ref (μ 1), .int (nI n), .ref (μ 2), .ref (μ 3), .ref (μ 4), .ref (μ 5), .ref (μ 6), .ref (μ 7), .ref (μ 8), .ref (μ 9), .ref (μ 10), .ref (μ 11)]))) 21 ((μ 1), .inl (Γ.2.1 0, 16, .inl (sl_sP n C E b j)))) μ n (ep + 1) (sl_ef C (b + 1)) false (sl_sP n C E b j) C E 0 (sl_Mdl_up1 (sl_Mdl_up0 hM 0 (ep + 1) (sl_ef C (b + 1)) false (by have := sl_ef_le C (b + 1); omega)) (sl_sP n C E b j)) (C b) (nI j) (hC9 _ (by omega))) mi_X5_hasStream lk_RX5_84 20 (sl_up_to (by decide) (sl_up_s _ _ _)) rfl rfl rfl ⟨Nat.le_of_ble_eq_true rfl, Nat.le_of_ble_eq_true rfl⟩ rfl hl.1 rfl (Nat.le_of_ble_eq_true rfl) dX5_seal_133 ⟨Nat.le_of_ble_eq_true rfl, Nat.le_of_ble_eq_true rfl⟩) hG (fun r_133 u_133 H locs hr_133 hG => ?_)
                          subst hr_133
                          refine lv_if_eq (tgt := 145) hx hb dX5_seal_136 (by decide) (fun c_136 => ?_) (fun c_136 => ?_)
                          · have c_136 := sl_bF c_136
                            refine lv_iinc (v := nI (j + 1)) (lv' := [(3, .int (nI (j + 1))), (0, .ref (μ 0)), (1, .int (nI b))]) hx hb dX5_seal_145 hl (k := 2) rfl (nI_1 j) (by decide) rfl (fun ls hl => ?_)
                            refine lv_goto (tgt := 120) hx hb dX5_seal_148 (by decide) ?_
                            rw [sl_sP_f c_136] at hG
                            exact ih_120 (j + 1) (by omega) (by omega) _ _ hG _ (lv_sub hl [1, 2, 0] rfl)
                          · have c_136 := sl_bT c_136
                            refine lv_aload_n hx hb dX5_seal_139 rfl (lv_at hl 0 rfl) ?_
                            refine lv_iload_n hx hb dX5_seal_140 rfl (lv_at hl 2 rfl) ?_
                            refine lv_iload_n hx hb dX5_seal_141 rfl (lv_at hl 1 rfl) ?_
                            refine sl_callv (sl_runV (As := [.int (nI j), .int (nI b)]) (rest := []) hC hG (kX5_learns0 l Γ (sl_up (sl_up g 20 ((μ 0), .inr (5, [.int 0, .int (ep + 1), .int 0, .int (nI (sl_ef C (b + 1))), .ref (μ 1), .int (nI n), .ref (μ 2), .ref (μ 3), .ref (μ 4), .ref (μ 5), .ref (μ 6), .ref (μ 7), .ref (μ 8), .ref (μ 9), .ref (μ 10), .ref (μ 11)]))) 21 ((μ 1), .inl (Γ.2.1 0, 16, .inl (sl_sP n C E b j)))) (μ 0) (μ 1) _ _ _ _ _ _ _ _ _ _ _ _ _ _ _ (sl_up_to (by decide) (sl_up_s _ _ _)) (sl_sP n C E b j) (sl_up_s _ _ _) j (by omega) (nI b)) mi_X5_learns lk_RX5_65 20 (sl_up_to (by decide) (sl_up_s _ _ _)) rfl rfl rfl ⟨Nat.le_of_ble_eq_true rfl, Nat.le_of_ble_eq_true rfl⟩ rfl hl.1 rfl (Nat.le_of_ble_eq_true rfl) dX5_seal_142 ⟨Nat.le_of_ble_eq_true rfl, Nat.le_of_ble_eq_true rfl⟩) hG (fun u_142 H locs hr_142 hG => ?_)
                            have hG : sl_I Γ (sl_up (sl_up (sl_up g 20 ((μ 0), .inr (5, [.int 0, .int (ep + 1), .int 0, .int (nI (sl_ef C (b + 1))), .ref (μ 1), .int (nI n), .ref (μ 2), .ref (μ 3), .ref (μ 4), .ref (μ 5), .ref (μ 6), .ref (μ 7), .ref (μ 8), .ref (μ 9), .ref (μ 10), .ref (μ 11)]))) 21 ((μ 1), .inl (Γ.2.1 0, 16, .inl (sl_sP n C E b j)))) 21 ((μ 1), .inl (Γ.2.1 0, 16, .inl (sl_t1 (sl_sP n C E b j) j (nI b))))) s H _ := hG
                            refine lv_iinc (v := nI (j + 1)) (lv' := [(3, .int (nI (j + 1))), (0, .ref (μ 0)), (1, .int (nI b))]) hx hb dX5_seal_145 hl (k := 2) rfl (nI_1 j) (by decide) rfl (fun ls hl => ?_)
                            refine lv_goto (tgt := 120) hx hb dX5_seal_148 (by decide) ?_
                            rw [sl_up_up, sl_sP_t c_136] at hG
                            exact ih_120 (j + 1) (by omega) (by omega) _ _ hG _ (lv_sub hl [1, 2, 0] rfl)
                    rw [sl_sP_0 n C E b] at hG
                    exact loop_120 (4 + 1) 0 (by omega) (by omega) _ _ hG _ (lv_sub hl [2, 3, 0] rfl)
                  · exact absurd c_102 (by decide)
                · refine lv_aload_n hx hb dX5_seal_79 rfl (lv_at hl 0 rfl) ?_
                  refine sl_get (C := RX5) (T := TX5) (N := 16) hC hG 20 (sl_up_to (by decide) (sl_up_s _ _ _)) rfl la_5 14 (by decide) lk_RX5_37 rfl rfl dX5_seal_80 ?_
                  refine lv_sipush (v := 240) hx hb dX5_seal_83 (by decide) ?_
                  refine lv_iload_n hx hb dX5_seal_86 rfl (lv_at hl 1 rfl) ?_
                  refine lv_iadd hx hb dX5_seal_87 ?_
                  refine sl_topi (y := nI (240 + b)) (nI_add 240 b) ?_
                  refine sl_ialdN hC hG 30 (sl_up_to (by decide) (sl_up_to (by decide) h30)) (j := 240 + b) rfl (by omega) (by omega) dX5_seal_88 ?_
                  refine lv_bipush (v := (-2)) hx hb dX5_seal_89 (by decide) ?_
                  refine lv_icmp_ne (tgt := 98) hx hb dX5_seal_91 (by decide) (fun c_91 => ?_) (fun c_91 => ?_)
                  · refine lv_iconst (v := 0) hx hb dX5_seal_98 (by decide) ?_
                    refine lv_istore_n (lv' := [(2, .int 0), (0, .ref (μ 0)), (1, .int (nI b))]) hx hb dX5_seal_99 rfl hl (by decide) rfl (fun ls hl => ?_)
                    refine lv_aload_n hx hb dX5_seal_100 rfl (lv_at hl 1 rfl) ?_
                    refine lv_iload_n hx hb dX5_seal_101 rfl (lv_at hl 0 rfl) ?_
                    refine lv_if_eq (tgt := 112) hx hb dX5_seal_102 (by decide) (fun c_102 => ?_) (fun c_102 => ?_)
                    · refine lv_iload_n hx hb dX5_seal_112 rfl (lv_at hl 2 rfl) ?_
                      refine lv_iconst (v := 1) hx hb dX5_seal_113 (by decide) ?_
                      refine lv_iadd hx hb dX5_seal_114 ?_
                      refine sl_topi (y := nI (b + 1)) (nI_add b 1) ?_
                      refine sl_put (C := RX5) (T := TX5) (N := 16) (ty := .int) (v := .int (nI (b + 1))) hC hG 20 (sl_up_to (by decide) (sl_up_s _ _ _)) rfl la_5 tyX5 tyX5_ok nmX5 3 (by decide) lk_RX5_59 rfl rfl (by decide +kernel) rfl rfl (Nat.le_of_ble_eq_true rfl) dX5_seal_115 (fun H locs hG => ?_)
                      have hG : sl_I Γ (sl_up (sl_up (sl_up g 20 ((μ 0), .inr (5, [.int 0, .int (ep + 1), .int 0, .int (nI (sl_ef C b)), .ref (μ 1), .int (nI n), .ref (μ 2), .ref (μ 3), .ref (μ 4), .ref (μ 5), .ref (μ 6), .ref (μ 7), .ref (μ 8), .ref (μ 9), .ref (μ 10), .ref (μ 11)]))) 21 ((μ 1), .inl (Γ.2.1 0, 16, .inl (sl_sT n C E b)))) 20 ((μ 0), .inr (5, [.int 0, .int (ep + 1), .int 0, .int (nI (b + 1)), .ref (μ 1), .int (nI n), .ref (μ 2), .ref (μ 3), .ref (μ 4), .ref (μ 5), .ref (μ 6), .ref (μ 7), .ref (μ 8), .ref (μ 9), .ref (μ 10), .ref (μ 11)]))) s H _ := hG
                      have ef9 : sl_ef C (b + 1) = b + 1 := by rw [sl_ef, if_neg (fun w9 => c_91 ((sl_cwz C b).mp w9).2.2)]
                      rw [sl_up_mid2 _ _ _ _ (by decide)] at hG
                      have hG : sl_I Γ (sl_up (sl_up g 20 ((μ 0), .inr (5, [.int 0, .int (ep + 1), .int 0, .int (nI (sl_ef C (b + 1))), .ref (μ 1), .int (nI n), .ref (μ 2), .ref (μ 3), .ref (μ 4), .ref (μ 5), .ref (μ 6), .ref (μ 7), .ref (μ 8), .ref (μ 9), .ref (μ 10), .ref (μ 11)]))) 21 ((μ 1), .inl (Γ.2.1 0, 16, .inl (sl_sT n C E b)))) s H locs := by rw [ef9]; exact hG
                      refine lv_iconst (v := 0) hx hb dX5_seal_118 (by decide) ?_
                      refine lv_istore_n (lv' := [(3, .int 0), (2, .int 0), (0, .ref (μ 0)), (1, .int (nI b))]) hx hb dX5_seal_119 rfl hl (by decide) rfl (fun ls hl => ?_)
                      have loop_120 : ∀ (fuel j : Nat), j ≤ 4 → 4 + 1 ≤ j + fuel → ∀ (H : Heap) (locs : List Loc), sl_I Γ (sl_up (sl_up g 20 ((μ 0), .inr (5, [.int 0, .int (ep + 1), .int 0, .int (nI (sl_ef C (b + 1))), .ref (μ 1), .int (nI n), .ref (μ 2), .ref (μ 3), .ref (μ 4), .ref (μ 5), .ref (μ 6), .ref (μ 7), .ref (μ 8), .ref (μ 9), .ref (μ 10), .ref (μ 11)]))) 21 ((μ 1), .inl (Γ.2.1 0, 16, .inl (sl_sP n C E b j)))) s H locs → ∀ (ls : Array Slot), lv_has ls 4 [(0, .ref (μ 0)), (1, .int (nI b)), (3, .int (nI j))] → W p l e ({ frames := 1, cells := 0, slots := 0, locals := 23 } : Room) s m ([.ref (μ 0)] : List Value).toArray below meth c H locs 0 0 (MQ below (sl_Qi Γ (fun r g' => r = nI (sl_ef C 120) ∧ sl_Mdl Γ μ n (ep + 1) (sl_ef C 120) false (sl_sT n C E 120) C E 0 g' ∧ sl_fm g g') (fun g' => g')) ([.ref (μ 0)] : List Value).toArray s 0 0 (sl_A Γ)) (F0 m 120 ls []) := by
                        intro fuel
                        induction fuel with
                        | zero =>
                          intro j  h1 h2
                          exact absurd h2 (by omega)
                        | succ fuel ih_120 =>
                          intro j  hk_120 hn_120  H locs hG ls hl
                          refine lv_iload_n hx hb dX5_seal_120 rfl (lv_at hl 2 rfl) ?_
                          refine lv_iconst (v := 4) hx hb dX5_seal_121 (by decide) ?_
                          refine lv_icmp_ge (tgt := 151) hx hb dX5_seal_122 (by decide) (fun c_122 => ?_) (fun c_122 => ?_)
                          · have n_122 : 4 ≤ j := (nI_leI (a := 4) (b := j) (by omega) (by omega)).mp c_122
                            refine lv_iinc (v := nI (b + 1)) (lv' := [(1, .int (nI (b + 1))), (0, .ref (μ 0)), (3, .int (nI j))]) hx hb dX5_seal_151 hl (k := 1) rfl (nI_1 b) (by decide) rfl (fun ls hl => ?_)
                            refine lv_goto (tgt := 48) hx hb dX5_seal_154 (by decide) ?_
                            have hj9 : j = 4 := by omega
                            rw [hj9, sl_sP_4] at hG
                            exact ih_48 (b + 1) (by omega) (by omega) _ _ hG _ (lv_sub hl [1, 0] rfl)
                          · have n_122 : ¬ (4 ≤ j) := fun z => c_122 ((nI_leI (a := 4) (b := j) (by omega) (by omega)).mpr z)
                            refine lv_aload_n hx hb dX5_seal_125 rfl (lv_at hl 0 rfl) ?_
                            refine lv_aload_n hx hb dX5_seal_126 rfl (lv_at hl 0 rfl) ?_
                            refine sl_get (C := RX5) (T := TX5) (N := 16) hC hG 20 (sl_up_to (by decide) (sl_up_s _ _ _)) rfl la_5 14 (by decide) lk_RX5_37 rfl rfl dX5_seal_127 ?_
                            refine lv_iload_n hx hb dX5_seal_130 rfl (lv_at hl 1 rfl) ?_
                            refine sl_ialdN hC hG 30 (sl_up_to (by decide) (sl_up_to (by decide) h30)) (j := b) rfl (by omega) (by omega) dX5_seal_131 ?_
                            refine lv_iload_n hx hb dX5_seal_132 rfl (lv_at hl 2 rfl) ?_
                            refine sl_calli (sl_runV (As := [.int (C b), .int (nI j)]) (rest := []) hC hG (kX5_hasStream l Γ (sl_up (sl_up g 20 ((μ 0), .inr (5, [.int 0, .int (ep + 1), .int 0, .int (nI (sl_ef C (b + 1))), .ref (μ 1), .int (nI n), .ref (μ 2), .ref (μ 3), .ref (μ 4), .ref (μ 5), .ref (μ 6), .ref (μ 7), .ref (μ 8), .ref (μ 9), .ref (μ 10), .ref (μ 11)]))) 21 ((μ 1), .inl (Γ.2.1 0, 16, .inl (sl_sP n C E b j)))) μ n (ep + 1) (sl_ef C (b + 1)) false (sl_sP n C E b j) C E 0 (sl_Mdl_up1 (sl_Mdl_up0 hM 0 (ep + 1) (sl_ef C (b + 1)) false (by have := sl_ef_le C (b + 1); omega)) (sl_sP n C E b j)) (C b) (nI j) (hC9 _ (by omega))) mi_X5_hasStream lk_RX5_84 20 (sl_up_to (by decide) (sl_up_s _ _ _)) rfl rfl rfl ⟨Nat.le_of_ble_eq_true rfl, Nat.le_of_ble_eq_true rfl⟩ rfl hl.1 rfl (Nat.le_of_ble_eq_true rfl) dX5_seal_133 ⟨Nat.le_of_ble_eq_true rfl, Nat.le_of_ble_eq_true rfl⟩) hG (fun r_133 u_133 H locs hr_133 hG => ?_)
                            subst hr_133
                            refine lv_if_eq (tgt := 145) hx hb dX5_seal_136 (by decide) (fun c_136 => ?_) (fun c_136 => ?_)
                            · have c_136 := sl_bF c_136
                              refine lv_iinc (v := nI (j + 1)) (lv' := [(3, .int (nI (j + 1))), (0, .ref (μ 0)), (1, .int (nI b))]) hx hb dX5_seal_145 hl (k := 2) rfl (nI_1 j) (by decide) rfl (fun ls hl => ?_)
                              refine lv_goto (tgt := 120) hx hb dX5_seal_148 (by decide) ?_
                              rw [sl_sP_f c_136] at hG
                              exact ih_120 (j + 1) (by omega) (by omega) _ _ hG _ (lv_sub hl [1, 2, 0] rfl)
                            · have c_136 := sl_bT c_136
                              refine lv_aload_n hx hb dX5_seal_139 rfl (lv_at hl 0 rfl) ?_
                              refine lv_iload_n hx hb dX5_seal_140 rfl (lv_at hl 2 rfl) ?_
                              refine lv_iload_n hx hb dX5_seal_141 rfl (lv_at hl 1 rfl) ?_
                              refine sl_callv (sl_runV (As := [.int (nI j), .int (nI b)]) (rest := []) hC hG (kX5_learns0 l Γ (sl_up (sl_up g 20 ((μ 0), .inr (5, [.int 0, .int (ep + 1), .int 0, .int (nI (sl_ef C (b + 1))), .ref (μ 1), .int (nI n), .ref (μ 2), .ref (μ 3), .ref (μ 4), .ref (μ 5), .ref (μ 6), .ref (μ 7), .ref (μ 8), .ref (μ 9), .ref (μ 10), .ref (μ 11)]))) 21 ((μ 1), .inl (Γ.2.1 0, 16, .inl (sl_sP n C E b j)))) (μ 0) (μ 1) _ _ _ _ _ _ _ _ _ _ _ _ _ _ _ (sl_up_to (by decide) (sl_up_s _ _ _)) (sl_sP n C E b j) (sl_up_s _ _ _) j (by omega) (nI b)) mi_X5_learns lk_RX5_65 20 (sl_up_to (by decide) (sl_up_s _ _ _)) rfl rfl rfl ⟨Nat.le_of_ble_eq_true rfl, Nat.le_of_ble_eq_true rfl⟩ rfl hl.1 rfl (Nat.le_of_ble_eq_true rfl) dX5_seal_142 ⟨Nat.le_of_ble_eq_true rfl, Nat.le_of_ble_eq_true rfl⟩) hG (fun u_142 H locs hr_142 hG => ?_)
                              have hG : sl_I Γ (sl_up (sl_up (sl_up g 20 ((μ 0), .inr (5, [.int 0, .int (ep + 1), .int 0, .int (nI (sl_ef C (b + 1))), .ref (μ 1), .int (nI n), .ref (μ 2), .ref (μ 3), .ref (μ 4), .ref (μ 5), .ref (μ 6), .ref (μ 7), .ref (μ 8), .ref (μ 9), .ref (μ 10), .ref (μ 11)]))) 21 ((μ 1), .inl (Γ.2.1 0, 16, .inl (sl_sP n C E b j)))) 21 ((μ 1), .inl (Γ.2.1 0, 16, .inl (sl_t1 (sl_sP n C E b j) j (nI b))))) s H _ := hG
                              refine lv_iinc (v := nI (j + 1)) (lv' := [(3, .int (nI (j + 1))), (0, .ref (μ 0)), (1, .int (nI b))]) hx hb dX5_seal_145 hl (k := 2) rfl (nI_1 j) (by decide) rfl (fun ls hl => ?_)
                              refine lv_goto (tgt := 120) hx hb dX5_seal_148 (by decide) ?_
                              rw [sl_up_up, sl_sP_t c_136] at hG
                              exact ih_120 (j + 1) (by omega) (by omega) _ _ hG _ (lv_sub hl [1, 2, 0] rfl)
                      rw [sl_sP_0 n C E b] at hG
                      exact loop_120 (4 + 1) 0 (by omega) (by omega) _ _ hG _ (lv_sub hl [2, 3, 0] rfl)
                    · exact absurd c_102 (by decide)
                  · refine lv_iconst (v := 1) hx hb dX5_seal_94 (by decide) ?_
                    refine lv_goto (tgt := 99) hx hb dX5_seal_95 (by decide) ?_
                    refine lv_istore_n (lv' := [(2, .int 1), (0, .ref (μ 0)), (1, .int (nI b))]) hx hb dX5_seal_99 rfl hl (by decide) rfl (fun ls hl => ?_)
                    refine lv_aload_n hx hb dX5_seal_100 rfl (lv_at hl 1 rfl) ?_
                    refine lv_iload_n hx hb dX5_seal_101 rfl (lv_at hl 0 rfl) ?_
                    refine lv_if_eq (tgt := 112) hx hb dX5_seal_102 (by decide) (fun c_102 => ?_) (fun c_102 => ?_)
                    · exact absurd c_102 (by decide)
                    · refine lv_aload_n hx hb dX5_seal_105 rfl (lv_at hl 1 rfl) ?_
                      refine sl_get (C := RX5) (T := TX5) (N := 16) hC hG 20 (sl_up_to (by decide) (sl_up_s _ _ _)) rfl la_5 3 (by decide) lk_RX5_59 rfl rfl dX5_seal_106 ?_
                      refine lv_goto (tgt := 115) hx hb dX5_seal_109 (by decide) ?_
                      refine sl_put (C := RX5) (T := TX5) (N := 16) (ty := .int) (v := .int (nI (sl_ef C b))) hC hG 20 (sl_up_to (by decide) (sl_up_s _ _ _)) rfl la_5 tyX5 tyX5_ok nmX5 3 (by decide) lk_RX5_59 rfl rfl (by decide +kernel) rfl rfl (Nat.le_of_ble_eq_true rfl) dX5_seal_115 (fun H locs hG => ?_)
                      have hG : sl_I Γ (sl_up (sl_up (sl_up g 20 ((μ 0), .inr (5, [.int 0, .int (ep + 1), .int 0, .int (nI (sl_ef C b)), .ref (μ 1), .int (nI n), .ref (μ 2), .ref (μ 3), .ref (μ 4), .ref (μ 5), .ref (μ 6), .ref (μ 7), .ref (μ 8), .ref (μ 9), .ref (μ 10), .ref (μ 11)]))) 21 ((μ 1), .inl (Γ.2.1 0, 16, .inl (sl_sT n C E b)))) 20 ((μ 0), .inr (5, [.int 0, .int (ep + 1), .int 0, .int (nI (sl_ef C b)), .ref (μ 1), .int (nI n), .ref (μ 2), .ref (μ 3), .ref (μ 4), .ref (μ 5), .ref (μ 6), .ref (μ 7), .ref (μ 8), .ref (μ 9), .ref (μ 10), .ref (μ 11)]))) s H _ := hG
                      have ef9 : sl_ef C (b + 1) = sl_ef C b := by rw [sl_ef, if_pos ((sl_cwz C b).mpr ⟨c_62, c_76, c_91⟩)]
                      rw [sl_up_mid2 _ _ _ _ (by decide)] at hG
                      have hG : sl_I Γ (sl_up (sl_up g 20 ((μ 0), .inr (5, [.int 0, .int (ep + 1), .int 0, .int (nI (sl_ef C (b + 1))), .ref (μ 1), .int (nI n), .ref (μ 2), .ref (μ 3), .ref (μ 4), .ref (μ 5), .ref (μ 6), .ref (μ 7), .ref (μ 8), .ref (μ 9), .ref (μ 10), .ref (μ 11)]))) 21 ((μ 1), .inl (Γ.2.1 0, 16, .inl (sl_sT n C E b)))) s H locs := by rw [ef9]; exact hG
                      refine lv_iconst (v := 0) hx hb dX5_seal_118 (by decide) ?_
                      refine lv_istore_n (lv' := [(3, .int 0), (2, .int 1), (0, .ref (μ 0)), (1, .int (nI b))]) hx hb dX5_seal_119 rfl hl (by decide) rfl (fun ls hl => ?_)
                      have loop_120 : ∀ (fuel j : Nat), j ≤ 4 → 4 + 1 ≤ j + fuel → ∀ (H : Heap) (locs : List Loc), sl_I Γ (sl_up (sl_up g 20 ((μ 0), .inr (5, [.int 0, .int (ep + 1), .int 0, .int (nI (sl_ef C (b + 1))), .ref (μ 1), .int (nI n), .ref (μ 2), .ref (μ 3), .ref (μ 4), .ref (μ 5), .ref (μ 6), .ref (μ 7), .ref (μ 8), .ref (μ 9), .ref (μ 10), .ref (μ 11)]))) 21 ((μ 1), .inl (Γ.2.1 0, 16, .inl (sl_sP n C E b j)))) s H locs → ∀ (ls : Array Slot), lv_has ls 4 [(0, .ref (μ 0)), (1, .int (nI b)), (3, .int (nI j))] → W p l e ({ frames := 1, cells := 0, slots := 0, locals := 23 } : Room) s m ([.ref (μ 0)] : List Value).toArray below meth c H locs 0 0 (MQ below (sl_Qi Γ (fun r g' => r = nI (sl_ef C 120) ∧ sl_Mdl Γ μ n (ep + 1) (sl_ef C 120) false (sl_sT n C E 120) C E 0 g' ∧ sl_fm g g') (fun g' => g')) ([.ref (μ 0)] : List Value).toArray s 0 0 (sl_A Γ)) (F0 m 120 ls []) := by
                        intro fuel
                        induction fuel with
                        | zero =>
                          intro j  h1 h2
                          exact absurd h2 (by omega)
                        | succ fuel ih_120 =>
                          intro j  hk_120 hn_120  H locs hG ls hl
                          refine lv_iload_n hx hb dX5_seal_120 rfl (lv_at hl 2 rfl) ?_
                          refine lv_iconst (v := 4) hx hb dX5_seal_121 (by decide) ?_
                          refine lv_icmp_ge (tgt := 151) hx hb dX5_seal_122 (by decide) (fun c_122 => ?_) (fun c_122 => ?_)
                          · have n_122 : 4 ≤ j := (nI_leI (a := 4) (b := j) (by omega) (by omega)).mp c_122
                            refine lv_iinc (v := nI (b + 1)) (lv' := [(1, .int (nI (b + 1))), (0, .ref (μ 0)), (3, .int (nI j))]) hx hb dX5_seal_151 hl (k := 1) rfl (nI_1 b) (by decide) rfl (fun ls hl => ?_)
                            refine lv_goto (tgt := 48) hx hb dX5_seal_154 (by decide) ?_
                            have hj9 : j = 4 := by omega
                            rw [hj9, sl_sP_4] at hG
                            exact ih_48 (b + 1) (by omega) (by omega) _ _ hG _ (lv_sub hl [1, 0] rfl)
                          · have n_122 : ¬ (4 ≤ j) := fun z => c_122 ((nI_leI (a := 4) (b := j) (by omega) (by omega)).mpr z)
                            refine lv_aload_n hx hb dX5_seal_125 rfl (lv_at hl 0 rfl) ?_
                            refine lv_aload_n hx hb dX5_seal_126 rfl (lv_at hl 0 rfl) ?_
                            refine sl_get (C := RX5) (T := TX5) (N := 16) hC hG 20 (sl_up_to (by decide) (sl_up_s _ _ _)) rfl la_5 14 (by decide) lk_RX5_37 rfl rfl dX5_seal_127 ?_
                            refine lv_iload_n hx hb dX5_seal_130 rfl (lv_at hl 1 rfl) ?_
                            refine sl_ialdN hC hG 30 (sl_up_to (by decide) (sl_up_to (by decide) h30)) (j := b) rfl (by omega) (by omega) dX5_seal_131 ?_
                            refine lv_iload_n hx hb dX5_seal_132 rfl (lv_at hl 2 rfl) ?_
                            refine sl_calli (sl_runV (As := [.int (C b), .int (nI j)]) (rest := []) hC hG (kX5_hasStream l Γ (sl_up (sl_up g 20 ((μ 0), .inr (5, [.int 0, .int (ep + 1), .int 0, .int (nI (sl_ef C (b + 1))), .ref (μ 1), .int (nI n), .ref (μ 2), .ref (μ 3), .ref (μ 4), .ref (μ 5), .ref (μ 6), .ref (μ 7), .ref (μ 8), .ref (μ 9), .ref (μ 10), .ref (μ 11)]))) 21 ((μ 1), .inl (Γ.2.1 0, 16, .inl (sl_sP n C E b j)))) μ n (ep + 1) (sl_ef C (b + 1)) false (sl_sP n C E b j) C E 0 (sl_Mdl_up1 (sl_Mdl_up0 hM 0 (ep + 1) (sl_ef C (b + 1)) false (by have := sl_ef_le C (b + 1); omega)) (sl_sP n C E b j)) (C b) (nI j) (hC9 _ (by omega))) mi_X5_hasStream lk_RX5_84 20 (sl_up_to (by decide) (sl_up_s _ _ _)) rfl rfl rfl ⟨Nat.le_of_ble_eq_true rfl, Nat.le_of_ble_eq_true rfl⟩ rfl hl.1 rfl (Nat.le_of_ble_eq_true rfl) dX5_seal_133 ⟨Nat.le_of_ble_eq_true rfl, Nat.le_of_ble_eq_true rfl⟩) hG (fun r_133 u_133 H locs hr_133 hG => ?_)
                            subst hr_133
                            refine lv_if_eq (tgt := 145) hx hb dX5_seal_136 (by decide) (fun c_136 => ?_) (fun c_136 => ?_)
                            · have c_136 := sl_bF c_136
                              refine lv_iinc (v := nI (j + 1)) (lv' := [(3, .int (nI (j + 1))), (0, .ref (μ 0)), (1, .int (nI b))]) hx hb dX5_seal_145 hl (k := 2) rfl (nI_1 j) (by decide) rfl (fun ls hl => ?_)
                              refine lv_goto (tgt := 120) hx hb dX5_seal_148 (by decide) ?_
                              rw [sl_sP_f c_136] at hG
                              exact ih_120 (j + 1) (by omega) (by omega) _ _ hG _ (lv_sub hl [1, 2, 0] rfl)
                            · have c_136 := sl_bT c_136
                              refine lv_aload_n hx hb dX5_seal_139 rfl (lv_at hl 0 rfl) ?_
                              refine lv_iload_n hx hb dX5_seal_140 rfl (lv_at hl 2 rfl) ?_
                              refine lv_iload_n hx hb dX5_seal_141 rfl (lv_at hl 1 rfl) ?_
                              refine sl_callv (sl_runV (As := [.int (nI j), .int (nI b)]) (rest := []) hC hG (kX5_learns0 l Γ (sl_up (sl_up g 20 ((μ 0), .inr (5, [.int 0, .int (ep + 1), .int 0, .int (nI (sl_ef C (b + 1))), .ref (μ 1), .int (nI n), .ref (μ 2), .ref (μ 3), .ref (μ 4), .ref (μ 5), .ref (μ 6), .ref (μ 7), .ref (μ 8), .ref (μ 9), .ref (μ 10), .ref (μ 11)]))) 21 ((μ 1), .inl (Γ.2.1 0, 16, .inl (sl_sP n C E b j)))) (μ 0) (μ 1) _ _ _ _ _ _ _ _ _ _ _ _ _ _ _ (sl_up_to (by decide) (sl_up_s _ _ _)) (sl_sP n C E b j) (sl_up_s _ _ _) j (by omega) (nI b)) mi_X5_learns lk_RX5_65 20 (sl_up_to (by decide) (sl_up_s _ _ _)) rfl rfl rfl ⟨Nat.le_of_ble_eq_true rfl, Nat.le_of_ble_eq_true rfl⟩ rfl hl.1 rfl (Nat.le_of_ble_eq_true rfl) dX5_seal_142 ⟨Nat.le_of_ble_eq_true rfl, Nat.le_of_ble_eq_true rfl⟩) hG (fun u_142 H locs hr_142 hG => ?_)
                              have hG : sl_I Γ (sl_up (sl_up (sl_up g 20 ((μ 0), .inr (5, [.int 0, .int (ep + 1), .int 0, .int (nI (sl_ef C (b + 1))), .ref (μ 1), .int (nI n), .ref (μ 2), .ref (μ 3), .ref (μ 4), .ref (μ 5), .ref (μ 6), .ref (μ 7), .ref (μ 8), .ref (μ 9), .ref (μ 10), .ref (μ 11)]))) 21 ((μ 1), .inl (Γ.2.1 0, 16, .inl (sl_sP n C E b j)))) 21 ((μ 1), .inl (Γ.2.1 0, 16, .inl (sl_t1 (sl_sP n C E b j) j (nI b))))) s H _ := hG
                              refine lv_iinc (v := nI (j + 1)) (lv' := [(3, .int (nI (j + 1))), (0, .ref (μ 0)), (1, .int (nI b))]) hx hb dX5_seal_145 hl (k := 2) rfl (nI_1 j) (by decide) rfl (fun ls hl => ?_)
                              refine lv_goto (tgt := 120) hx hb dX5_seal_148 (by decide) ?_
                              rw [sl_up_up, sl_sP_t c_136] at hG
                              exact ih_120 (j + 1) (by omega) (by omega) _ _ hG _ (lv_sub hl [1, 2, 0] rfl)
                      rw [sl_sP_0 n C E b] at hG
                      exact loop_120 (4 + 1) 0 (by omega) (by omega) _ _ hG _ (lv_sub hl [2, 3, 0] rfl)
        replace hG := sl_fnI (sl_sT n C E 0) hG (fun j hj => hi j (by omega))
        exact loop_48 (120 + 1) 0 (by omega) (by omega) _ _ hG _ (lv_sub hl [1, 0] rfl)
      · have n_30 : ¬ (16 ≤ k) := fun z => c_30 ((nI_leI (a := 16) (b := k) (by omega) (by omega)).mpr z)
        refine lv_aload_n hx hb dX5_seal_33 rfl (lv_at hl 0 rfl) ?_
        refine sl_get (C := RX5) (T := TX5) (N := 16) hC hG 20 (sl_up_to (by decide) (sl_up_s _ _ _)) rfl la_5 4 (by decide) lk_RX5_7 rfl rfl dX5_seal_34 ?_
        refine lv_iload_n hx hb dX5_seal_37 rfl (lv_at hl 1 rfl) ?_
        refine lv_iconst (v := (-1)) hx hb dX5_seal_38 (by decide) ?_
        refine sl_iastN hC hG 21 (sl_up_s _ _ _) (j := k) rfl (by omega) (by omega) dX5_seal_39 (fun H locs hG => ?_)
        have hG : sl_I Γ (sl_up (sl_up (sl_up g 20 ((μ 0), .inr (5, [.int 0, .int (ep + 1), .int 0, .int 0, .ref (μ 1), .int (nI n), .ref (μ 2), .ref (μ 3), .ref (μ 4), .ref (μ 5), .ref (μ 6), .ref (μ 7), .ref (μ 8), .ref (μ 9), .ref (μ 10), .ref (μ 11)]))) 21 ((μ 1), .inl (Γ.2.1 0, 16, .inl T1))) 21 ((μ 1), .inl (Γ.2.1 0, 16, .inl (upd T1 k (-1))))) s H _ := hG
        refine lv_iinc (v := nI (k + 1)) (lv' := [(1, .int (nI (k + 1))), (0, .ref (μ 0))]) hx hb dX5_seal_40 hl (k := 1) rfl (nI_1 k) (by decide) rfl (fun ls hl => ?_)
        refine lv_goto (tgt := 27) hx hb dX5_seal_43 (by decide) ?_
        rw [sl_up_up] at hG
        exact ih_27 (k + 1) (upd T1 k (-1)) (by omega) (by omega) (sl_fl hi) _ _ hG _ (lv_sub hl [1, 0] rfl)
  rw [← sl_up_same (g := (sl_up g 20 ((μ 0), .inr (5, [.int 0, .int (ep + 1), .int 0, .int 0, .ref (μ 1), .int (nI n), .ref (μ 2), .ref (μ 3), .ref (μ 4), .ref (μ 5), .ref (μ 6), .ref (μ 7), .ref (μ 8), .ref (μ 9), .ref (μ 10), .ref (μ 11)])))) (k := 21) (q := ((μ 1), .inl (Γ.2.1 0, 16, .inl T))) (sl_up_to (by decide) h21)] at hG
  exact loop_27 (16 + 1) 0 T (by omega) (by omega) (fun j hj => absurd hj (Nat.not_lt_zero j)) _ _ hG _ (lv_sub hl [1, 0] rfl)
