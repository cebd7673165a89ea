/-! the reference's calls: take, takeIf, write, fill, latest -/
theorem sl_upd_id (f : Nat → Int32) (k : Nat) : upd f k (f k) = f := by
  funext j
  by_cases e : j = k
  · rw [e, pk_us]
  · rw [pk_un e]
theorem sl_hc_hs (n : Nat) (C : Nat → Int32) (E : Nat → sl_Ent) (x : Int32) (q : Nat) : sl_hc n E (C q) x = sl_hs n C E x q := by
  rcases sl_opt (sl_tok n (C q)) with h | ⟨t, h⟩
  · rw [sl_hc_0 h, sl_hs_0 h]
  · rw [sl_hc_1 h, sl_hs_1 h]
theorem sl_ch_lo {lo : Bool} {tl n : Nat} (h : lo = true) : sl_ch lo tl n = true := by rw [sl_ch, h]; rfl
theorem sl_es_ne {E : Nat → sl_Ent} {t i : Nat} {v : Int32} (h : i ≠ t) : sl_es E t v i = E i := if_neg h
theorem sl_es_at (E : Nat → sl_Ent) (t : Nat) (v : Int32) : sl_es E t v t = ((E t).1, (E t).2.1, (E t).2.2.1, (E t).2.2.2.1, (E t).2.2.2.2.1, (E t).2.2.2.2.2.1, (E t).2.2.2.2.2.2.1, v) := if_pos rfl
theorem sl_es_f {α : Type} (E : Nat → sl_Ent) (t : Nat) (v : Int32) (f : sl_Ent → α) (hf : ∀ x1 x2 x3 x4 x5 x6 x7 x8 y, f (x1, x2, x3, x4, x5, x6, x7, x8) = f (x1, x2, x3, x4, x5, x6, x7, y)) (i : Nat) : f (E i) = f (sl_es E t v i) := by
  by_cases e : i = t
  · subst e
    rw [sl_es_at]
    exact hf _ _ _ _ _ _ _ _ _
  · rw [sl_es_ne e]
/-- a token's steps change in the reference -/
theorem sl_Mdl_st {Γ : sl_G} {μ : Nat → Nat} {n : Nat} {ep : Int32} {tl : Nat} {lo : Bool} {T C : Nat → Int32} {E : Nat → sl_Ent} {th : Int32} {g : sl_W} (h : sl_Mdl Γ μ n ep tl lo T C E th g) {t : Nat} (ht : t < n) (v : Int32) (hv : v = -1 ∨ ∃ k, k ≤ 3 ∧ v = nI k) : sl_Mdl Γ μ n ep tl lo T C (sl_es E t v) th (sl_up g 28 (μ 8, .inl (Γ.2.1 0, 150, .inl (upd (fun i => (E i).2.2.2.2.2.2.2) t v)))) := by
  obtain ⟨h20, h21, h22, h23, h24, h25, h26, h27, h28, h29, h30, ⟨F, h31⟩, hw⟩ := h
  have e1 : (fun i => (E i).1) = fun i => (sl_es E t v i).1 := funext (sl_es_f E t v (fun x => x.1) (fun _ _ _ _ _ _ _ _ _ => rfl))
  have e2 : (fun i => (E i).2.1) = fun i => (sl_es E t v i).2.1 := funext (sl_es_f E t v (fun x => x.2.1) (fun _ _ _ _ _ _ _ _ _ => rfl))
  have e3 : (fun i => (E i).2.2.1) = fun i => (sl_es E t v i).2.2.1 := funext (sl_es_f E t v (fun x => x.2.2.1) (fun _ _ _ _ _ _ _ _ _ => rfl))
  have e4 : (fun i => (E i).2.2.2.1) = fun i => (sl_es E t v i).2.2.2.1 := funext (sl_es_f E t v (fun x => x.2.2.2.1) (fun _ _ _ _ _ _ _ _ _ => rfl))
  have e5 : (fun i => (E i).2.2.2.2.1) = fun i => (sl_es E t v i).2.2.2.2.1 := funext (sl_es_f E t v (fun x => x.2.2.2.2.1) (fun _ _ _ _ _ _ _ _ _ => rfl))
  have e6 : (fun i => (E i).2.2.2.2.2.1) = fun i => (sl_es E t v i).2.2.2.2.2.1 := funext (sl_es_f E t v (fun x => x.2.2.2.2.2.1) (fun _ _ _ _ _ _ _ _ _ => rfl))
  have e7 : (fun j => (E (j / 16)).2.2.2.2.2.2.1 (j % 16)) = fun j => (sl_es E t v (j / 16)).2.2.2.2.2.2.1 (j % 16) := funext (fun j => congrFun (sl_es_f E t v (fun x => x.2.2.2.2.2.2.1) (fun _ _ _ _ _ _ _ _ _ => rfl) (j / 16)) (j % 16))
  have e8 : upd (fun i => (E i).2.2.2.2.2.2.2) t v = fun i => (sl_es E t v i).2.2.2.2.2.2.2 := by
    funext i
    by_cases e : i = t
    · subst e; rw [pk_us, sl_es_at]
    · rw [pk_un e, sl_es_ne e]
  refine ⟨sl_up_to (by decide) h20, sl_up_to (by decide) h21, ?_, ?_, ?_, ?_, ?_, ?_, ?_, ?_, sl_up_to (by decide) h30, ⟨F, sl_up_to (by decide) h31⟩, ?_⟩
  · rw [← e1]; exact sl_up_to (by decide) h22
  · rw [← e2]; exact sl_up_to (by decide) h23
  · rw [← e3]; exact sl_up_to (by decide) h24
  · rw [← e4]; exact sl_up_to (by decide) h25
  · rw [← e5]; exact sl_up_to (by decide) h26
  · rw [← e6]; exact sl_up_to (by decide) h27
  · rw [← e8]; exact sl_up_s _ _ _
  · rw [← e7]; exact sl_up_to (by decide) h29
  · refine ⟨hw.1, hw.2.1, hw.2.2.1, fun i hi => ?_, fun i hi => ?_⟩
    · have h9 := hw.2.2.2.1 i hi
      by_cases e : i = t
      · subst e; rw [sl_es_at]; exact ⟨h9.1, h9.2.1, hv, h9.2.2.2⟩
      · rw [sl_es_ne e]; exact h9
    · rw [sl_es_ne (by omega)]; exact hw.2.2.2.2 i hi
def sl_mf (C : Nat → Int32) (b : Nat) (v : Int32) : Nat → Int32 := upd (upd (upd C b v) (120 + b) v) (240 + b) v
theorem sl_ce_upd {n : Nat} {C : Nat → Int32} {k : Nat} {v : Int32} (h : ∀ i, i < 360 → sl_ce n (C i)) (hv : sl_ce n v) : ∀ i, i < 360 → sl_ce n (upd C k v i) := by
  intro i hi
  by_cases e : i = k
  · rw [e, pk_us]; exact hv
  · rw [pk_un e]; exact h i hi
/-- what the reference writes is what the class writes -/
theorem sl_cp_eq (C : Nat → Int32) {a b : Nat} (ha : a < 3) (hb : b < 120) (x : Int32) : (if sl_cg C (nI a) (nI b) = -1 then C else sl_cp C (nI a) (nI b) x) = upd C (120 * a + b) (if C (120 * a + b) = -2 then x else C (120 * a + b)) := by
  rw [sl_cgN C ha hb, sl_cpN C x ha hb]
  by_cases h1 : C (120 * a + b) = -1
  · rw [if_pos h1, if_neg (by rw [h1]; decide), sl_upd_id]
  · rw [if_neg h1]
    by_cases h2 : C (120 * a + b) = -2
    · rw [if_pos h2, if_pos h2]
    · rw [if_neg h2, if_neg h2, sl_upd_id]
set_option maxHeartbeats 4000000 in
set_option maxRecDepth 100000 in
theorem kX5_take (l : Launch) (Γ : sl_G) (g : sl_W) (μ : Nat → Nat) (n : Nat) (ep : Int32) (tl : Nat) (lo : Bool) (T C : Nat → Int32) (E : Nat → sl_Ent) (th : Int32) (hM : sl_Mdl Γ μ n ep tl lo T C E th g) (ss am : Int32) : Met l yX5_take [Cond.code yX5_take cX5_take 3 (some .int)] ({ frames := 2, cells := 0, slots := 0, locals := 51 } : Room) (va_Pc [.ref (μ 0), .int ss, .int am] (sl_B Γ g)) (sl_Qi Γ (fun r g' => (((sl_k2 ss am = true ∧ sl_ch lo tl n = false ∧ r = nI n) ∧ sl_Mdl Γ μ (n + 1) ep (tl + 1) lo (sl_tp T ss (nI tl) 4) C (sl_eu E n (nI tl, ep, ss, am, 0, 0, sl_tc T ss 4, 0)) 0 g') ∨ (sl_k2 ss am = true ∧ sl_ch lo tl n = true ∧ sl_Mdl Γ μ n ep tl lo T C E 2 g') ∨ (sl_k2 ss am = false ∧ sl_Mdl Γ μ n ep tl lo T C E 1 g')) ∧ sl_fm g g') (fun g' => g')) 0 0 (sl_A Γ) := by
  refine sl_ent (by decide) (Nat.le_of_ble_eq_true rfl) ?_
  intro p e s m below meth c ls hC hr hin hG hl
  have hx := hC.1
  have hb := hC.2.1
  have hl : lv_has ls 3 [(0, .ref (μ 0)), (1, .int ss), (2, .int am)] := hl
  obtain ⟨h20, h21, h22, h23, h24, h25, h26, h27, h28, h29, h30, ⟨F, h31⟩, hn9, ht9, hC9, hE9, hZ9⟩ := id hM
  refine lv_aload_n hx hb dX5_take_0 rfl (lv_at hl 0 rfl) ?_
  refine lv_iload_n hx hb dX5_take_1 rfl (lv_at hl 1 rfl) ?_
  refine sl_calli (sl_runS (As := [.int ss]) (rest := [.ref (μ 0)]) hC hG (kX5_isSet l Γ g ss) mi_X5_isSet lk_RX5_69 rfl rfl ⟨Nat.le_of_ble_eq_true rfl, Nat.le_of_ble_eq_true rfl⟩ rfl hl.1 rfl (Nat.le_of_ble_eq_true rfl) dX5_take_2 ⟨Nat.le_of_ble_eq_true rfl, Nat.le_of_ble_eq_true rfl⟩) hG (fun r_2 u_2 H locs hr_2 hG => ?_)
  subst hr_2
  refine lv_if_eq (tgt := 15) hx hb dX5_take_5 (by decide) (fun c_5 => ?_) (fun c_5 => ?_)
  · have c_5 := sl_bF c_5
    refine lv_iconst (v := 1) hx hb dX5_take_15 (by decide) ?_
    refine lv_goto (tgt := 31) hx hb dX5_take_16 (by decide) ?_
    refine sl_put (C := RX5) (T := TX5) (N := 16) (ty := .int) (v := .int 1) hC hG 20 h20 rfl la_5 tyX5 tyX5_ok nmX5 0 (by decide) lk_RX5_44 rfl rfl (by decide +kernel) rfl rfl (Nat.le_of_ble_eq_true rfl) dX5_take_31 (fun H locs hG => ?_)
    have hG : sl_I Γ (sl_up g 20 ((μ 0), .inr (5, [.int 1, .int ep, .int (sl_bi lo), .int (nI tl), .ref (μ 1), .int (nI n), .ref (μ 2), .ref (μ 3), .ref (μ 4), .ref (μ 5), .ref (μ 6), .ref (μ 7), .ref (μ 8), .ref (μ 9), .ref (μ 10), .ref (μ 11)]))) s H _ := hG
    refine lv_aload_n hx hb dX5_take_34 rfl (lv_at hl 0 rfl) ?_
    refine sl_get (C := RX5) (T := TX5) (N := 16) hC hG 20 (sl_up_s _ _ _) rfl la_5 0 (by decide) lk_RX5_44 rfl rfl dX5_take_35 ?_
    refine lv_if_le (tgt := 45) hx hb dX5_take_38 (by decide) (fun c_38 => ?_) (fun c_38 => ?_)
    · exact absurd c_38 (by decide)
    · refine lv_iconst (v := 0) hx hb dX5_take_41 (by decide) ?_
      refine lv_goto (tgt := 53) hx hb dX5_take_42 (by decide) ?_
      exact sl_ri (v := 0) hC hr hG (sl_up g 20 ((μ 0), .inr (5, [.int 1, .int ep, .int (sl_bi lo), .int (nI tl), .ref (μ 1), .int (nI n), .ref (μ 2), .ref (μ 3), .ref (μ 4), .ref (μ 5), .ref (μ 6), .ref (μ 7), .ref (μ 8), .ref (μ 9), .ref (μ 10), .ref (μ 11)]))) ⟨Or.inr (Or.inr ⟨(by rw [sl_k2, c_5]; rfl), (sl_Mdl_up0 hM 1 ep tl lo (by omega))⟩), ((sl_fm.rf g).up _ (by omega))⟩ rfl (Nat.le_of_ble_eq_true rfl) (Nat.le_of_ble_eq_true rfl) dX5_take_53
  · have c_5 := sl_bT c_5
    refine lv_iload_n hx hb dX5_take_8 rfl (lv_at hl 2 rfl) ?_
    refine sl_calli (sl_runS (As := [.int am]) (rest := [.ref (μ 0)]) hC hG (kX5_isAmount l Γ g am) mi_X5_isAmount lk_RX5_73 rfl rfl ⟨Nat.le_of_ble_eq_true rfl, Nat.le_of_ble_eq_true rfl⟩ rfl hl.1 rfl (Nat.le_of_ble_eq_true rfl) dX5_take_9 ⟨Nat.le_of_ble_eq_true rfl, Nat.le_of_ble_eq_true rfl⟩) hG (fun r_9 u_9 H locs hr_9 hG => ?_)
    subst hr_9
    refine lv_if_ne (tgt := 19) hx hb dX5_take_12 (by decide) (fun c_12 => ?_) (fun c_12 => ?_)
    · have c_12 := sl_bT c_12
      refine lv_aload_n hx hb dX5_take_19 rfl (lv_at hl 0 rfl) ?_
      refine sl_calli (sl_runV (As := []) (rest := [.ref (μ 0)]) hC hG (kX5_cannotHand l Γ g μ n ep tl lo T C E th hM) mi_X5_cannotHand lk_RX5_76 20 h20 rfl rfl rfl ⟨Nat.le_of_ble_eq_true rfl, Nat.le_of_ble_eq_true rfl⟩ rfl hl.1 rfl (Nat.le_of_ble_eq_true rfl) dX5_take_20 ⟨Nat.le_of_ble_eq_true rfl, Nat.le_of_ble_eq_true rfl⟩) hG (fun r_20 u_20 H locs hr_20 hG => ?_)
      subst hr_20
      refine lv_if_eq (tgt := 30) hx hb dX5_take_23 (by decide) (fun c_23 => ?_) (fun c_23 => ?_)
      · have c_23 := sl_bF c_23
        refine lv_iconst (v := 0) hx hb dX5_take_30 (by decide) ?_
        refine sl_put (C := RX5) (T := TX5) (N := 16) (ty := .int) (v := .int 0) hC hG 20 h20 rfl la_5 tyX5 tyX5_ok nmX5 0 (by decide) lk_RX5_44 rfl rfl (by decide +kernel) rfl rfl (Nat.le_of_ble_eq_true rfl) dX5_take_31 (fun H locs hG => ?_)
        have hG : sl_I Γ (sl_up g 20 ((μ 0), .inr (5, [.int 0, .int ep, .int (sl_bi lo), .int (nI tl), .ref (μ 1), .int (nI n), .ref (μ 2), .ref (μ 3), .ref (μ 4), .ref (μ 5), .ref (μ 6), .ref (μ 7), .ref (μ 8), .ref (μ 9), .ref (μ 10), .ref (μ 11)]))) s H _ := hG
        refine lv_aload_n hx hb dX5_take_34 rfl (lv_at hl 0 rfl) ?_
        refine sl_get (C := RX5) (T := TX5) (N := 16) hC hG 20 (sl_up_s _ _ _) rfl la_5 0 (by decide) lk_RX5_44 rfl rfl dX5_take_35 ?_
        refine lv_if_le (tgt := 45) hx hb dX5_take_38 (by decide) (fun c_38 => ?_) (fun c_38 => ?_)
        · refine lv_aload_n hx hb dX5_take_45 rfl (lv_at hl 0 rfl) ?_
          refine lv_iload_n hx hb dX5_take_46 rfl (lv_at hl 1 rfl) ?_
          refine lv_iload_n hx hb dX5_take_47 rfl (lv_at hl 2 rfl) ?_
          refine lv_iconst (v := 0) hx hb dX5_take_48 (by decide) ?_
          refine lv_iconst (v := 0) hx hb dX5_take_49 (by decide) ?_
          refine sl_calli (sl_runV (As := [.int ss, .int am, .int 0, .int 0]) (rest := []) hC hG (kX5_hands l Γ (sl_up g 20 ((μ 0), .inr (5, [.int 0, .int ep, .int (sl_bi lo), .int (nI tl), .ref (μ 1), .int (nI n), .ref (μ 2), .ref (μ 3), .ref (μ 4), .ref (μ 5), .ref (μ 6), .ref (μ 7), .ref (μ 8), .ref (μ 9), .ref (μ 10), .ref (μ 11)]))) μ n ep tl lo T C E 0 (sl_Mdl_up0 hM 0 ep tl lo (by omega)) ss am 0 0 c_23 (by decide) (by decide) ⟨0, by omega, rfl⟩) mi_X5_hands lk_RX5_80 20 (sl_up_s _ _ _) rfl rfl rfl ⟨Nat.le_of_ble_eq_true rfl, Nat.le_of_ble_eq_true rfl⟩ rfl hl.1 rfl (Nat.le_of_ble_eq_true rfl) dX5_take_50 ⟨Nat.le_of_ble_eq_true rfl, Nat.le_of_ble_eq_true rfl⟩) hG (fun r_50 u_50 H locs hr_50 hG => ?_)
          obtain ⟨hr9, hM9, hf9⟩ := hr_50
          subst hr9
          exact sl_ri (v := nI n) hC hr hG u_50 ⟨Or.inl ⟨⟨(by rw [sl_k2, c_5, c_12]; rfl), c_23, rfl⟩, hM9⟩, (((sl_fm.rf g).up _ (by omega))).tr hf9⟩ rfl (Nat.le_of_ble_eq_true rfl) (Nat.le_of_ble_eq_true rfl) dX5_take_53
        · exact absurd c_38 (by decide)
      · have c_23 := sl_bT c_23
        refine lv_iconst (v := 2) hx hb dX5_take_26 (by decide) ?_
        refine lv_goto (tgt := 31) hx hb dX5_take_27 (by decide) ?_
        refine sl_put (C := RX5) (T := TX5) (N := 16) (ty := .int) (v := .int 2) hC hG 20 h20 rfl la_5 tyX5 tyX5_ok nmX5 0 (by decide) lk_RX5_44 rfl rfl (by decide +kernel) rfl rfl (Nat.le_of_ble_eq_true rfl) dX5_take_31 (fun H locs hG => ?_)
        have hG : sl_I Γ (sl_up g 20 ((μ 0), .inr (5, [.int 2, .int ep, .int (sl_bi lo), .int (nI tl), .ref (μ 1), .int (nI n), .ref (μ 2), .ref (μ 3), .ref (μ 4), .ref (μ 5), .ref (μ 6), .ref (μ 7), .ref (μ 8), .ref (μ 9), .ref (μ 10), .ref (μ 11)]))) s H _ := hG
        refine lv_aload_n hx hb dX5_take_34 rfl (lv_at hl 0 rfl) ?_
        refine sl_get (C := RX5) (T := TX5) (N := 16) hC hG 20 (sl_up_s _ _ _) rfl la_5 0 (by decide) lk_RX5_44 rfl rfl dX5_take_35 ?_
        refine lv_if_le (tgt := 45) hx hb dX5_take_38 (by decide) (fun c_38 => ?_) (fun c_38 => ?_)
        · exact absurd c_38 (by decide)
        · refine lv_iconst (v := 0) hx hb dX5_take_41 (by decide) ?_
          refine lv_goto (tgt := 53) hx hb dX5_take_42 (by decide) ?_
          exact sl_ri (v := 0) hC hr hG (sl_up g 20 ((μ 0), .inr (5, [.int 2, .int ep, .int (sl_bi lo), .int (nI tl), .ref (μ 1), .int (nI n), .ref (μ 2), .ref (μ 3), .ref (μ 4), .ref (μ 5), .ref (μ 6), .ref (μ 7), .ref (μ 8), .ref (μ 9), .ref (μ 10), .ref (μ 11)]))) ⟨Or.inr (Or.inl ⟨(by rw [sl_k2, c_5, c_12]; rfl), c_23, (sl_Mdl_up0 hM 2 ep tl lo (by omega))⟩), ((sl_fm.rf g).up _ (by omega))⟩ rfl (Nat.le_of_ble_eq_true rfl) (Nat.le_of_ble_eq_true rfl) dX5_take_53
    · have c_12 := sl_bF c_12
      refine lv_iconst (v := 1) hx hb dX5_take_15 (by decide) ?_
      refine lv_goto (tgt := 31) hx hb dX5_take_16 (by decide) ?_
      refine sl_put (C := RX5) (T := TX5) (N := 16) (ty := .int) (v := .int 1) hC hG 20 h20 rfl la_5 tyX5 tyX5_ok nmX5 0 (by decide) lk_RX5_44 rfl rfl (by decide +kernel) rfl rfl (Nat.le_of_ble_eq_true rfl) dX5_take_31 (fun H locs hG => ?_)
      have hG : sl_I Γ (sl_up g 20 ((μ 0), .inr (5, [.int 1, .int ep, .int (sl_bi lo), .int (nI tl), .ref (μ 1), .int (nI n), .ref (μ 2), .ref (μ 3), .ref (μ 4), .ref (μ 5), .ref (μ 6), .ref (μ 7), .ref (μ 8), .ref (μ 9), .ref (μ 10), .ref (μ 11)]))) s H _ := hG
      refine lv_aload_n hx hb dX5_take_34 rfl (lv_at hl 0 rfl) ?_
      refine sl_get (C := RX5) (T := TX5) (N := 16) hC hG 20 (sl_up_s _ _ _) rfl la_5 0 (by decide) lk_RX5_44 rfl rfl dX5_take_35 ?_
      refine lv_if_le (tgt := 45) hx hb dX5_take_38 (by decide) (fun c_38 => ?_) (fun c_38 => ?_)
      · exact absurd c_38 (by decide)
      · refine lv_iconst (v := 0) hx hb dX5_take_41 (by decide) ?_
        refine lv_goto (tgt := 53) hx hb dX5_take_42 (by decide) ?_
        exact sl_ri (v := 0) hC hr hG (sl_up g 20 ((μ 0), .inr (5, [.int 1, .int ep, .int (sl_bi lo), .int (nI tl), .ref (μ 1), .int (nI n), .ref (μ 2), .ref (μ 3), .ref (μ 4), .ref (μ 5), .ref (μ 6), .ref (μ 7), .ref (μ 8), .ref (μ 9), .ref (μ 10), .ref (μ 11)]))) ⟨Or.inr (Or.inr ⟨(by rw [sl_k2, c_12]; exact Bool.and_false _), (sl_Mdl_up0 hM 1 ep tl lo (by omega))⟩), ((sl_fm.rf g).up _ (by omega))⟩ rfl (Nat.le_of_ble_eq_true rfl) (Nat.le_of_ble_eq_true rfl) dX5_take_53
theorem sl_hv {ver : Int32} {tl : Nat} (h : sl_in ver 0 (nI tl) = true) (ht : tl ≤ 120) : ∃ v, v ≤ 120 ∧ ver = nI v := by
  obtain ⟨v, h1, h2⟩ := sl_inN (n := tl) h (nI_toInt (by omega)) (by omega)
  exact ⟨v, by omega, h2⟩
set_option maxHeartbeats 4000000 in
set_option maxRecDepth 100000 in
theorem kX5_takeIf (l : Launch) (Γ : sl_G) (g : sl_W) (μ : Nat → Nat) (n : Nat) (ep : Int32) (tl : Nat) (lo : Bool) (T C : Nat → Int32) (E : Nat → sl_Ent) (th : Int32) (hM : sl_Mdl Γ μ n ep tl lo T C E th g) (ss am rd ver : Int32) : Met l yX5_takeIf [Cond.code yX5_takeIf cX5_takeIf 6 (some .int)] ({ frames := 2, cells := 0, slots := 0, locals := 51 } : Room) (va_Pc [.ref (μ 0), .int ss, .int am, .int rd, .int ver] (sl_B Γ g)) (sl_Qi Γ (fun r g' => (((sl_k4 lo tl ss am rd ver = true ∧ sl_ch lo tl n = false ∧ r = nI n) ∧ sl_Mdl Γ μ (n + 1) ep (tl + 1) lo (sl_tp T ss (nI tl) 4) C (sl_eu E n (nI tl, ep, ss, am, rd, ver, sl_tc T ss 4, 0)) 0 g') ∨ (sl_k4 lo tl ss am rd ver = true ∧ sl_ch lo tl n = true ∧ sl_Mdl Γ μ n ep tl lo T C E 2 g') ∨ (sl_k4 lo tl ss am rd ver = false ∧ sl_Mdl Γ μ n ep tl lo T C E 1 g')) ∧ sl_fm g g') (fun g' => g')) 0 0 (sl_A Γ) := by
  refine sl_ent (by decide) (Nat.le_of_ble_eq_true rfl) ?_
  intro p e s m below meth c ls hC hr hin hG hl
  have hx := hC.1
  have hb := hC.2.1
  have hl : lv_has ls 6 [(0, .ref (μ 0)), (1, .int ss), (2, .int am), (3, .int rd), (4, .int ver)] := hl
  obtain ⟨h20, h21, h22, h23, h24, h25, h26, h27, h28, h29, h30, ⟨F, h31⟩, hn9, ht9, hC9, hE9, hZ9⟩ := id hM
  refine lv_iload_n hx hb dX5_takeIf_0 rfl (lv_at hl 1 rfl) ?_
  refine sl_calli (sl_runS (As := [.int ss]) (rest := []) hC hG (kX5_isSet l Γ g ss) mi_X5_isSet lk_RX5_69 rfl rfl ⟨Nat.le_of_ble_eq_true rfl, Nat.le_of_ble_eq_true rfl⟩ rfl hl.1 rfl (Nat.le_of_ble_eq_true rfl) dX5_takeIf_1 ⟨Nat.le_of_ble_eq_true rfl, Nat.le_of_ble_eq_true rfl⟩) hG (fun r_1 u_1 H locs hr_1 hG => ?_)
  subst hr_1
  refine lv_if_eq (tgt := 45) hx hb dX5_takeIf_4 (by decide) (fun c_4 => ?_) (fun c_4 => ?_)
  · have c_4 := sl_bF c_4
    refine lv_iconst (v := 0) hx hb dX5_takeIf_45 (by decide) ?_
    refine lv_istore (lv' := [(5, .int 0), (0, .ref (μ 0)), (1, .int ss), (2, .int am), (3, .int rd), (4, .int ver)]) hx hb dX5_takeIf_46 hl (by decide) rfl (fun ls hl => ?_)
    refine lv_aload_n hx hb dX5_takeIf_48 rfl (lv_at hl 1 rfl) ?_
    refine lv_iload hx hb dX5_takeIf_49 (lv_at hl 0 rfl) ?_
    refine lv_if_ne (tgt := 58) hx hb dX5_takeIf_51 (by decide) (fun c_51 => ?_) (fun c_51 => ?_)
    · exact absurd c_51 (by decide)
    · refine lv_iconst (v := 1) hx hb dX5_takeIf_54 (by decide) ?_
      refine lv_goto (tgt := 70) hx hb dX5_takeIf_55 (by decide) ?_
      refine sl_put (C := RX5) (T := TX5) (N := 16) (ty := .int) (v := .int 1) hC hG 20 h20 rfl la_5 tyX5 tyX5_ok nmX5 0 (by decide) lk_RX5_44 rfl rfl (by decide +kernel) rfl rfl (Nat.le_of_ble_eq_true rfl) dX5_takeIf_70 (fun H locs hG => ?_)
      have hG : sl_I Γ (sl_up g 20 ((μ 0), .inr (5, [.int 1, .int ep, .int (sl_bi lo), .int (nI tl), .ref (μ 1), .int (nI n), .ref (μ 2), .ref (μ 3), .ref (μ 4), .ref (μ 5), .ref (μ 6), .ref (μ 7), .ref (μ 8), .ref (μ 9), .ref (μ 10), .ref (μ 11)]))) s H _ := hG
      refine lv_aload_n hx hb dX5_takeIf_73 rfl (lv_at hl 1 rfl) ?_
      refine sl_get (C := RX5) (T := TX5) (N := 16) hC hG 20 (sl_up_s _ _ _) rfl la_5 0 (by decide) lk_RX5_44 rfl rfl dX5_takeIf_74 ?_
      refine lv_if_le (tgt := 84) hx hb dX5_takeIf_77 (by decide) (fun c_77 => ?_) (fun c_77 => ?_)
      · exact absurd c_77 (by decide)
      · refine lv_iconst (v := 0) hx hb dX5_takeIf_80 (by decide) ?_
        refine lv_goto (tgt := 93) hx hb dX5_takeIf_81 (by decide) ?_
        exact sl_ri (v := 0) hC hr hG (sl_up g 20 ((μ 0), .inr (5, [.int 1, .int ep, .int (sl_bi lo), .int (nI tl), .ref (μ 1), .int (nI n), .ref (μ 2), .ref (μ 3), .ref (μ 4), .ref (μ 5), .ref (μ 6), .ref (μ 7), .ref (μ 8), .ref (μ 9), .ref (μ 10), .ref (μ 11)]))) ⟨Or.inr (Or.inr ⟨(by rw [sl_k4, c_4]; rfl), (sl_Mdl_up0 hM 1 ep tl lo (by omega))⟩), ((sl_fm.rf g).up _ (by omega))⟩ rfl (Nat.le_of_ble_eq_true rfl) (Nat.le_of_ble_eq_true rfl) dX5_takeIf_93
  · have c_4 := sl_bT c_4
    refine lv_iload_n hx hb dX5_takeIf_7 rfl (lv_at hl 2 rfl) ?_
    refine sl_calli (sl_runS (As := [.int am]) (rest := []) hC hG (kX5_isAmount l Γ g am) mi_X5_isAmount lk_RX5_73 rfl rfl ⟨Nat.le_of_ble_eq_true rfl, Nat.le_of_ble_eq_true rfl⟩ rfl hl.1 rfl (Nat.le_of_ble_eq_true rfl) dX5_takeIf_8 ⟨Nat.le_of_ble_eq_true rfl, Nat.le_of_ble_eq_true rfl⟩) hG (fun r_8 u_8 H locs hr_8 hG => ?_)
    subst hr_8
    refine lv_if_eq (tgt := 45) hx hb dX5_takeIf_11 (by decide) (fun c_11 => ?_) (fun c_11 => ?_)
    · have c_11 := sl_bF c_11
      refine lv_iconst (v := 0) hx hb dX5_takeIf_45 (by decide) ?_
      refine lv_istore (lv' := [(5, .int 0), (0, .ref (μ 0)), (1, .int ss), (2, .int am), (3, .int rd), (4, .int ver)]) hx hb dX5_takeIf_46 hl (by decide) rfl (fun ls hl => ?_)
      refine lv_aload_n hx hb dX5_takeIf_48 rfl (lv_at hl 1 rfl) ?_
      refine lv_iload hx hb dX5_takeIf_49 (lv_at hl 0 rfl) ?_
      refine lv_if_ne (tgt := 58) hx hb dX5_takeIf_51 (by decide) (fun c_51 => ?_) (fun c_51 => ?_)
      · exact absurd c_51 (by decide)
      · refine lv_iconst (v := 1) hx hb dX5_takeIf_54 (by decide) ?_
        refine lv_goto (tgt := 70) hx hb dX5_takeIf_55 (by decide) ?_
        refine sl_put (C := RX5) (T := TX5) (N := 16) (ty := .int) (v := .int 1) hC hG 20 h20 rfl la_5 tyX5 tyX5_ok nmX5 0 (by decide) lk_RX5_44 rfl rfl (by decide +kernel) rfl rfl (Nat.le_of_ble_eq_true rfl) dX5_takeIf_70 (fun H locs hG => ?_)
        have hG : sl_I Γ (sl_up g 20 ((μ 0), .inr (5, [.int 1, .int ep, .int (sl_bi lo), .int (nI tl), .ref (μ 1), .int (nI n), .ref (μ 2), .ref (μ 3), .ref (μ 4), .ref (μ 5), .ref (μ 6), .ref (μ 7), .ref (μ 8), .ref (μ 9), .ref (μ 10), .ref (μ 11)]))) s H _ := hG
        refine lv_aload_n hx hb dX5_takeIf_73 rfl (lv_at hl 1 rfl) ?_
        refine sl_get (C := RX5) (T := TX5) (N := 16) hC hG 20 (sl_up_s _ _ _) rfl la_5 0 (by decide) lk_RX5_44 rfl rfl dX5_takeIf_74 ?_
        refine lv_if_le (tgt := 84) hx hb dX5_takeIf_77 (by decide) (fun c_77 => ?_) (fun c_77 => ?_)
        · exact absurd c_77 (by decide)
        · refine lv_iconst (v := 0) hx hb dX5_takeIf_80 (by decide) ?_
          refine lv_goto (tgt := 93) hx hb dX5_takeIf_81 (by decide) ?_
          exact sl_ri (v := 0) hC hr hG (sl_up g 20 ((μ 0), .inr (5, [.int 1, .int ep, .int (sl_bi lo), .int (nI tl), .ref (μ 1), .int (nI n), .ref (μ 2), .ref (μ 3), .ref (μ 4), .ref (μ 5), .ref (μ 6), .ref (μ 7), .ref (μ 8), .ref (μ 9), .ref (μ 10), .ref (μ 11)]))) ⟨Or.inr (Or.inr ⟨(by rw [sl_k4, c_11, Bool.and_false]; rfl), (sl_Mdl_up0 hM 1 ep tl lo (by omega))⟩), ((sl_fm.rf g).up _ (by omega))⟩ rfl (Nat.le_of_ble_eq_true rfl) (Nat.le_of_ble_eq_true rfl) dX5_takeIf_93
    · have c_11 := sl_bT c_11
      refine lv_iload_n hx hb dX5_takeIf_14 rfl (lv_at hl 3 rfl) ?_
      refine sl_calli (sl_runS (As := [.int rd]) (rest := []) hC hG (kX5_isSet l Γ g rd) mi_X5_isSet lk_RX5_69 rfl rfl ⟨Nat.le_of_ble_eq_true rfl, Nat.le_of_ble_eq_true rfl⟩ rfl hl.1 rfl (Nat.le_of_ble_eq_true rfl) dX5_takeIf_15 ⟨Nat.le_of_ble_eq_true rfl, Nat.le_of_ble_eq_true rfl⟩) hG (fun r_15 u_15 H locs hr_15 hG => ?_)
      subst hr_15
      refine lv_if_eq (tgt := 45) hx hb dX5_takeIf_18 (by decide) (fun c_18 => ?_) (fun c_18 => ?_)
      · have c_18 := sl_bF c_18
        refine lv_iconst (v := 0) hx hb dX5_takeIf_45 (by decide) ?_
        refine lv_istore (lv' := [(5, .int 0), (0, .ref (μ 0)), (1, .int ss), (2, .int am), (3, .int rd), (4, .int ver)]) hx hb dX5_takeIf_46 hl (by decide) rfl (fun ls hl => ?_)
        refine lv_aload_n hx hb dX5_takeIf_48 rfl (lv_at hl 1 rfl) ?_
        refine lv_iload hx hb dX5_takeIf_49 (lv_at hl 0 rfl) ?_
        refine lv_if_ne (tgt := 58) hx hb dX5_takeIf_51 (by decide) (fun c_51 => ?_) (fun c_51 => ?_)
        · exact absurd c_51 (by decide)
        · refine lv_iconst (v := 1) hx hb dX5_takeIf_54 (by decide) ?_
          refine lv_goto (tgt := 70) hx hb dX5_takeIf_55 (by decide) ?_
          refine sl_put (C := RX5) (T := TX5) (N := 16) (ty := .int) (v := .int 1) hC hG 20 h20 rfl la_5 tyX5 tyX5_ok nmX5 0 (by decide) lk_RX5_44 rfl rfl (by decide +kernel) rfl rfl (Nat.le_of_ble_eq_true rfl) dX5_takeIf_70 (fun H locs hG => ?_)
          have hG : sl_I Γ (sl_up g 20 ((μ 0), .inr (5, [.int 1, .int ep, .int (sl_bi lo), .int (nI tl), .ref (μ 1), .int (nI n), .ref (μ 2), .ref (μ 3), .ref (μ 4), .ref (μ 5), .ref (μ 6), .ref (μ 7), .ref (μ 8), .ref (μ 9), .ref (μ 10), .ref (μ 11)]))) s H _ := hG
          refine lv_aload_n hx hb dX5_takeIf_73 rfl (lv_at hl 1 rfl) ?_
          refine sl_get (C := RX5) (T := TX5) (N := 16) hC hG 20 (sl_up_s _ _ _) rfl la_5 0 (by decide) lk_RX5_44 rfl rfl dX5_takeIf_74 ?_
          refine lv_if_le (tgt := 84) hx hb dX5_takeIf_77 (by decide) (fun c_77 => ?_) (fun c_77 => ?_)
          · exact absurd c_77 (by decide)
          · refine lv_iconst (v := 0) hx hb dX5_takeIf_80 (by decide) ?_
            refine lv_goto (tgt := 93) hx hb dX5_takeIf_81 (by decide) ?_
            exact sl_ri (v := 0) hC hr hG (sl_up g 20 ((μ 0), .inr (5, [.int 1, .int ep, .int (sl_bi lo), .int (nI tl), .ref (μ 1), .int (nI n), .ref (μ 2), .ref (μ 3), .ref (μ 4), .ref (μ 5), .ref (μ 6), .ref (μ 7), .ref (μ 8), .ref (μ 9), .ref (μ 10), .ref (μ 11)]))) ⟨Or.inr (Or.inr ⟨(by rw [sl_k4, c_18, Bool.and_false]; rfl), (sl_Mdl_up0 hM 1 ep tl lo (by omega))⟩), ((sl_fm.rf g).up _ (by omega))⟩ rfl (Nat.le_of_ble_eq_true rfl) (Nat.le_of_ble_eq_true rfl) dX5_takeIf_93
      · have c_18 := sl_bT c_18
        refine lv_aload_n hx hb dX5_takeIf_21 rfl (lv_at hl 0 rfl) ?_
        refine sl_get (C := RX5) (T := TX5) (N := 16) hC hG 20 h20 rfl la_5 2 (by decide) lk_RX5_55 rfl rfl dX5_takeIf_22 ?_
        refine lv_if_ne (tgt := 41) hx hb dX5_takeIf_25 (by decide) (fun c_25 => ?_) (fun c_25 => ?_)
        · have c_25 := sl_bT c_25
          refine lv_iconst (v := 1) hx hb dX5_takeIf_41 (by decide) ?_
          refine lv_goto (tgt := 46) hx hb dX5_takeIf_42 (by decide) ?_
          refine lv_istore (lv' := [(5, .int 1), (0, .ref (μ 0)), (1, .int ss), (2, .int am), (3, .int rd), (4, .int ver)]) hx hb dX5_takeIf_46 hl (by decide) rfl (fun ls hl => ?_)
          refine lv_aload_n hx hb dX5_takeIf_48 rfl (lv_at hl 1 rfl) ?_
          refine lv_iload hx hb dX5_takeIf_49 (lv_at hl 0 rfl) ?_
          refine lv_if_ne (tgt := 58) hx hb dX5_takeIf_51 (by decide) (fun c_51 => ?_) (fun c_51 => ?_)
          · refine lv_aload_n hx hb dX5_takeIf_58 rfl (lv_at hl 1 rfl) ?_
            refine sl_calli (sl_runV (As := []) (rest := [.ref (μ 0)]) hC hG (kX5_cannotHand l Γ g μ n ep tl lo T C E th hM) mi_X5_cannotHand lk_RX5_76 20 h20 rfl rfl rfl ⟨Nat.le_of_ble_eq_true rfl, Nat.le_of_ble_eq_true rfl⟩ rfl hl.1 rfl (Nat.le_of_ble_eq_true rfl) dX5_takeIf_59 ⟨Nat.le_of_ble_eq_true rfl, Nat.le_of_ble_eq_true rfl⟩) hG (fun r_59 u_59 H locs hr_59 hG => ?_)
            subst hr_59
            refine lv_if_eq (tgt := 69) hx hb dX5_takeIf_62 (by decide) (fun c_62 => ?_) (fun c_62 => ?_)
            · exact absurd (sl_bF c_62) (by rw [sl_ch_lo c_25]; decide)
            · have c_62 := sl_bT c_62
              refine lv_iconst (v := 2) hx hb dX5_takeIf_65 (by decide) ?_
              refine lv_goto (tgt := 70) hx hb dX5_takeIf_66 (by decide) ?_
              refine sl_put (C := RX5) (T := TX5) (N := 16) (ty := .int) (v := .int 2) hC hG 20 h20 rfl la_5 tyX5 tyX5_ok nmX5 0 (by decide) lk_RX5_44 rfl rfl (by decide +kernel) rfl rfl (Nat.le_of_ble_eq_true rfl) dX5_takeIf_70 (fun H locs hG => ?_)
              have hG : sl_I Γ (sl_up g 20 ((μ 0), .inr (5, [.int 2, .int ep, .int (sl_bi lo), .int (nI tl), .ref (μ 1), .int (nI n), .ref (μ 2), .ref (μ 3), .ref (μ 4), .ref (μ 5), .ref (μ 6), .ref (μ 7), .ref (μ 8), .ref (μ 9), .ref (μ 10), .ref (μ 11)]))) s H _ := hG
              refine lv_aload_n hx hb dX5_takeIf_73 rfl (lv_at hl 1 rfl) ?_
              refine sl_get (C := RX5) (T := TX5) (N := 16) hC hG 20 (sl_up_s _ _ _) rfl la_5 0 (by decide) lk_RX5_44 rfl rfl dX5_takeIf_74 ?_
              refine lv_if_le (tgt := 84) hx hb dX5_takeIf_77 (by decide) (fun c_77 => ?_) (fun c_77 => ?_)
              · exact absurd c_77 (by decide)
              · refine lv_iconst (v := 0) hx hb dX5_takeIf_80 (by decide) ?_
                refine lv_goto (tgt := 93) hx hb dX5_takeIf_81 (by decide) ?_
                exact sl_ri (v := 0) hC hr hG (sl_up g 20 ((μ 0), .inr (5, [.int 2, .int ep, .int (sl_bi lo), .int (nI tl), .ref (μ 1), .int (nI n), .ref (μ 2), .ref (μ 3), .ref (μ 4), .ref (μ 5), .ref (μ 6), .ref (μ 7), .ref (μ 8), .ref (μ 9), .ref (μ 10), .ref (μ 11)]))) ⟨Or.inr (Or.inl ⟨(by rw [sl_k4, c_4, c_11, c_18, c_25]; rfl), c_62, (sl_Mdl_up0 hM 2 ep tl lo (by omega))⟩), ((sl_fm.rf g).up _ (by omega))⟩ rfl (Nat.le_of_ble_eq_true rfl) (Nat.le_of_ble_eq_true rfl) dX5_takeIf_93
          · exact absurd c_51 (by decide)
        · have c_25 := sl_bF c_25
          refine lv_iload hx hb dX5_takeIf_28 (lv_at hl 4 rfl) ?_
          refine lv_iconst (v := 0) hx hb dX5_takeIf_30 (by decide) ?_
          refine lv_aload_n hx hb dX5_takeIf_31 rfl (lv_at hl 0 rfl) ?_
          refine sl_get (C := RX5) (T := TX5) (N := 16) hC hG 20 h20 rfl la_5 3 (by decide) lk_RX5_59 rfl rfl dX5_takeIf_32 ?_
          refine sl_calli (sl_runS (As := [.int ver, .int 0, .int (nI tl)]) (rest := []) hC hG (kX5_in l Γ g ver 0 (nI tl)) mi_X5_in lk_RX5_48 rfl rfl ⟨Nat.le_of_ble_eq_true rfl, Nat.le_of_ble_eq_true rfl⟩ rfl hl.1 rfl (Nat.le_of_ble_eq_true rfl) dX5_takeIf_35 ⟨Nat.le_of_ble_eq_true rfl, Nat.le_of_ble_eq_true rfl⟩) hG (fun r_35 u_35 H locs hr_35 hG => ?_)
          subst hr_35
          refine lv_if_eq (tgt := 45) hx hb dX5_takeIf_38 (by decide) (fun c_38 => ?_) (fun c_38 => ?_)
          · have c_38 := sl_bF c_38
            refine lv_iconst (v := 0) hx hb dX5_takeIf_45 (by decide) ?_
            refine lv_istore (lv' := [(5, .int 0), (0, .ref (μ 0)), (1, .int ss), (2, .int am), (3, .int rd), (4, .int ver)]) hx hb dX5_takeIf_46 hl (by decide) rfl (fun ls hl => ?_)
            refine lv_aload_n hx hb dX5_takeIf_48 rfl (lv_at hl 1 rfl) ?_
            refine lv_iload hx hb dX5_takeIf_49 (lv_at hl 0 rfl) ?_
            refine lv_if_ne (tgt := 58) hx hb dX5_takeIf_51 (by decide) (fun c_51 => ?_) (fun c_51 => ?_)
            · exact absurd c_51 (by decide)
            · refine lv_iconst (v := 1) hx hb dX5_takeIf_54 (by decide) ?_
              refine lv_goto (tgt := 70) hx hb dX5_takeIf_55 (by decide) ?_
              refine sl_put (C := RX5) (T := TX5) (N := 16) (ty := .int) (v := .int 1) hC hG 20 h20 rfl la_5 tyX5 tyX5_ok nmX5 0 (by decide) lk_RX5_44 rfl rfl (by decide +kernel) rfl rfl (Nat.le_of_ble_eq_true rfl) dX5_takeIf_70 (fun H locs hG => ?_)
              have hG : sl_I Γ (sl_up g 20 ((μ 0), .inr (5, [.int 1, .int ep, .int (sl_bi lo), .int (nI tl), .ref (μ 1), .int (nI n), .ref (μ 2), .ref (μ 3), .ref (μ 4), .ref (μ 5), .ref (μ 6), .ref (μ 7), .ref (μ 8), .ref (μ 9), .ref (μ 10), .ref (μ 11)]))) s H _ := hG
              refine lv_aload_n hx hb dX5_takeIf_73 rfl (lv_at hl 1 rfl) ?_
              refine sl_get (C := RX5) (T := TX5) (N := 16) hC hG 20 (sl_up_s _ _ _) rfl la_5 0 (by decide) lk_RX5_44 rfl rfl dX5_takeIf_74 ?_
              refine lv_if_le (tgt := 84) hx hb dX5_takeIf_77 (by decide) (fun c_77 => ?_) (fun c_77 => ?_)
              · exact absurd c_77 (by decide)
              · refine lv_iconst (v := 0) hx hb dX5_takeIf_80 (by decide) ?_
                refine lv_goto (tgt := 93) hx hb dX5_takeIf_81 (by decide) ?_
                exact sl_ri (v := 0) hC hr hG (sl_up g 20 ((μ 0), .inr (5, [.int 1, .int ep, .int (sl_bi lo), .int (nI tl), .ref (μ 1), .int (nI n), .ref (μ 2), .ref (μ 3), .ref (μ 4), .ref (μ 5), .ref (μ 6), .ref (μ 7), .ref (μ 8), .ref (μ 9), .ref (μ 10), .ref (μ 11)]))) ⟨Or.inr (Or.inr ⟨(by rw [sl_k4, c_25, c_38]; exact Bool.and_false _), (sl_Mdl_up0 hM 1 ep tl lo (by omega))⟩), ((sl_fm.rf g).up _ (by omega))⟩ rfl (Nat.le_of_ble_eq_true rfl) (Nat.le_of_ble_eq_true rfl) dX5_takeIf_93
          · have c_38 := sl_bT c_38
            refine lv_iconst (v := 1) hx hb dX5_takeIf_41 (by decide) ?_
            refine lv_goto (tgt := 46) hx hb dX5_takeIf_42 (by decide) ?_
            refine lv_istore (lv' := [(5, .int 1), (0, .ref (μ 0)), (1, .int ss), (2, .int am), (3, .int rd), (4, .int ver)]) hx hb dX5_takeIf_46 hl (by decide) rfl (fun ls hl => ?_)
            refine lv_aload_n hx hb dX5_takeIf_48 rfl (lv_at hl 1 rfl) ?_
            refine lv_iload hx hb dX5_takeIf_49 (lv_at hl 0 rfl) ?_
            refine lv_if_ne (tgt := 58) hx hb dX5_takeIf_51 (by decide) (fun c_51 => ?_) (fun c_51 => ?_)
            · refine lv_aload_n hx hb dX5_takeIf_58 rfl (lv_at hl 1 rfl) ?_
              refine sl_calli (sl_runV (As := []) (rest := [.ref (μ 0)]) hC hG (kX5_cannotHand l Γ g μ n ep tl lo T C E th hM) mi_X5_cannotHand lk_RX5_76 20 h20 rfl rfl rfl ⟨Nat.le_of_ble_eq_true rfl, Nat.le_of_ble_eq_true rfl⟩ rfl hl.1 rfl (Nat.le_of_ble_eq_true rfl) dX5_takeIf_59 ⟨Nat.le_of_ble_eq_true rfl, Nat.le_of_ble_eq_true rfl⟩) hG (fun r_59 u_59 H locs hr_59 hG => ?_)
              subst hr_59
              refine lv_if_eq (tgt := 69) hx hb dX5_takeIf_62 (by decide) (fun c_62 => ?_) (fun c_62 => ?_)
              · have c_62 := sl_bF c_62
                refine lv_iconst (v := 0) hx hb dX5_takeIf_69 (by decide) ?_
                refine sl_put (C := RX5) (T := TX5) (N := 16) (ty := .int) (v := .int 0) hC hG 20 h20 rfl la_5 tyX5 tyX5_ok nmX5 0 (by decide) lk_RX5_44 rfl rfl (by decide +kernel) rfl rfl (Nat.le_of_ble_eq_true rfl) dX5_takeIf_70 (fun H locs hG => ?_)
                have hG : sl_I Γ (sl_up g 20 ((μ 0), .inr (5, [.int 0, .int ep, .int (sl_bi lo), .int (nI tl), .ref (μ 1), .int (nI n), .ref (μ 2), .ref (μ 3), .ref (μ 4), .ref (μ 5), .ref (μ 6), .ref (μ 7), .ref (μ 8), .ref (μ 9), .ref (μ 10), .ref (μ 11)]))) s H _ := hG
                refine lv_aload_n hx hb dX5_takeIf_73 rfl (lv_at hl 1 rfl) ?_
                refine sl_get (C := RX5) (T := TX5) (N := 16) hC hG 20 (sl_up_s _ _ _) rfl la_5 0 (by decide) lk_RX5_44 rfl rfl dX5_takeIf_74 ?_
                refine lv_if_le (tgt := 84) hx hb dX5_takeIf_77 (by decide) (fun c_77 => ?_) (fun c_77 => ?_)
                · refine lv_aload_n hx hb dX5_takeIf_84 rfl (lv_at hl 1 rfl) ?_
                  refine lv_iload_n hx hb dX5_takeIf_85 rfl (lv_at hl 2 rfl) ?_
                  refine lv_iload_n hx hb dX5_takeIf_86 rfl (lv_at hl 3 rfl) ?_
                  refine lv_iload_n hx hb dX5_takeIf_87 rfl (lv_at hl 4 rfl) ?_
                  refine lv_iload hx hb dX5_takeIf_88 (lv_at hl 5 rfl) ?_
                  refine sl_calli (sl_runV (As := [.int ss, .int am, .int rd, .int ver]) (rest := []) hC hG (kX5_hands l Γ (sl_up g 20 ((μ 0), .inr (5, [.int 0, .int ep, .int (sl_bi lo), .int (nI tl), .ref (μ 1), .int (nI n), .ref (μ 2), .ref (μ 3), .ref (μ 4), .ref (μ 5), .ref (μ 6), .ref (μ 7), .ref (μ 8), .ref (μ 9), .ref (μ 10), .ref (μ 11)]))) μ n ep tl lo T C E 0 (sl_Mdl_up0 hM 0 ep tl lo (by omega)) ss am rd ver c_62 (by have := sl_in_iff.mp c_18; rw [sl_i1] at this; omega) (by have := sl_in_iff.mp c_18; rw [sl_i15] at this; exact this.2) (sl_hv c_38 ht9)) mi_X5_hands lk_RX5_80 20 (sl_up_s _ _ _) rfl rfl rfl ⟨Nat.le_of_ble_eq_true rfl, Nat.le_of_ble_eq_true rfl⟩ rfl hl.1 rfl (Nat.le_of_ble_eq_true rfl) dX5_takeIf_90 ⟨Nat.le_of_ble_eq_true rfl, Nat.le_of_ble_eq_true rfl⟩) hG (fun r_90 u_90 H locs hr_90 hG => ?_)
                  obtain ⟨hr9, hM9, hf9⟩ := hr_90
                  subst hr9
                  exact sl_ri (v := nI n) hC hr hG u_90 ⟨Or.inl ⟨⟨(by rw [sl_k4, c_4, c_11, c_18, c_25, c_38]; rfl), c_62, rfl⟩, hM9⟩, (((sl_fm.rf g).up _ (by omega))).tr hf9⟩ rfl (Nat.le_of_ble_eq_true rfl) (Nat.le_of_ble_eq_true rfl) dX5_takeIf_93
                · exact absurd c_77 (by decide)
              · have c_62 := sl_bT c_62
                refine lv_iconst (v := 2) hx hb dX5_takeIf_65 (by decide) ?_
                refine lv_goto (tgt := 70) hx hb dX5_takeIf_66 (by decide) ?_
                refine sl_put (C := RX5) (T := TX5) (N := 16) (ty := .int) (v := .int 2) hC hG 20 h20 rfl la_5 tyX5 tyX5_ok nmX5 0 (by decide) lk_RX5_44 rfl rfl (by decide +kernel) rfl rfl (Nat.le_of_ble_eq_true rfl) dX5_takeIf_70 (fun H locs hG => ?_)
                have hG : sl_I Γ (sl_up g 20 ((μ 0), .inr (5, [.int 2, .int ep, .int (sl_bi lo), .int (nI tl), .ref (μ 1), .int (nI n), .ref (μ 2), .ref (μ 3), .ref (μ 4), .ref (μ 5), .ref (μ 6), .ref (μ 7), .ref (μ 8), .ref (μ 9), .ref (μ 10), .ref (μ 11)]))) s H _ := hG
                refine lv_aload_n hx hb dX5_takeIf_73 rfl (lv_at hl 1 rfl) ?_
                refine sl_get (C := RX5) (T := TX5) (N := 16) hC hG 20 (sl_up_s _ _ _) rfl la_5 0 (by decide) lk_RX5_44 rfl rfl dX5_takeIf_74 ?_
                refine lv_if_le (tgt := 84) hx hb dX5_takeIf_77 (by decide) (fun c_77 => ?_) (fun c_77 => ?_)
                · exact absurd c_77 (by decide)
                · refine lv_iconst (v := 0) hx hb dX5_takeIf_80 (by decide) ?_
                  refine lv_goto (tgt := 93) hx hb dX5_takeIf_81 (by decide) ?_
                  exact sl_ri (v := 0) hC hr hG (sl_up g 20 ((μ 0), .inr (5, [.int 2, .int ep, .int (sl_bi lo), .int (nI tl), .ref (μ 1), .int (nI n), .ref (μ 2), .ref (μ 3), .ref (μ 4), .ref (μ 5), .ref (μ 6), .ref (μ 7), .ref (μ 8), .ref (μ 9), .ref (μ 10), .ref (μ 11)]))) ⟨Or.inr (Or.inl ⟨(by rw [sl_k4, c_4, c_11, c_18, c_25, c_38]; rfl), c_62, (sl_Mdl_up0 hM 2 ep tl lo (by omega))⟩), ((sl_fm.rf g).up _ (by omega))⟩ rfl (Nat.le_of_ble_eq_true rfl) (Nat.le_of_ble_eq_true rfl) dX5_takeIf_93
            · exact absurd c_51 (by decide)
set_option maxHeartbeats 4000000 in
set_option maxRecDepth 100000 in
theorem kX5_write (l : Launch) (Γ : sl_G) (g : sl_W) (μ : Nat → Nat) (n : Nat) (ep : Int32) (tl : Nat) (lo : Bool) (T C : Nat → Int32) (E : Nat → sl_Ent) (th : Int32) (hM : sl_Mdl Γ μ n ep tl lo T C E th g) (x : Int32) : Met l yX5_write [Cond.code yX5_write cX5_write 4 (some .int)] ({ frames := 2, cells := 0, slots := 0, locals := 43 } : Room) (va_Pc [.ref (μ 0), .int x] (sl_B Γ g)) (sl_Qi Γ (fun r g' => ((∃ t, sl_tok n x = some t ∧ ¬ ((E t).2.2.2.2.2.2.2 = -1 ∨ (E t).2.2.2.2.2.2.2 = 3 ∨ ¬ (E t).2.1 = ep) ∧ r = (if sl_cg C (E t).2.2.2.2.2.2.2 (E t).1 = -1 then -1 else (E t).2.2.2.2.2.2.2 + 1) ∧ sl_Mdl Γ μ n ep tl lo T (if sl_cg C (E t).2.2.2.2.2.2.2 (E t).1 = -1 then C else sl_cp C (E t).2.2.2.2.2.2.2 (E t).1 x) (sl_es E t (if sl_cg C (E t).2.2.2.2.2.2.2 (E t).1 = -1 then -1 else (E t).2.2.2.2.2.2.2 + 1)) 0 g') ∨ (∃ t, sl_tok n x = some t ∧ ((E t).2.2.2.2.2.2.2 = -1 ∨ (E t).2.2.2.2.2.2.2 = 3 ∨ ¬ (E t).2.1 = ep) ∧ sl_Mdl Γ μ n ep tl lo T C E 2 g') ∨ ((sl_tok n x).isSome = false ∧ sl_Mdl Γ μ n ep tl lo T C E 1 g')) ∧ sl_fm g g') (fun g' => g')) 0 0 (sl_A Γ) := by
  refine sl_ent (by decide) (Nat.le_of_ble_eq_true rfl) ?_
  intro p e s m below meth c ls hC hr hin hG hl
  have hx := hC.1
  have hb := hC.2.1
  have hl : lv_has ls 4 [(0, .ref (μ 0)), (1, .int x)] := hl
  obtain ⟨h20, h21, h22, h23, h24, h25, h26, h27, h28, h29, h30, ⟨F, h31⟩, hn9, ht9, hC9, hE9, hZ9⟩ := id hM
  refine lv_aload_n hx hb dX5_write_0 rfl (lv_at hl 0 rfl) ?_
  refine lv_aload_n hx hb dX5_write_1 rfl (lv_at hl 0 rfl) ?_
  refine lv_iload_n hx hb dX5_write_2 rfl (lv_at hl 1 rfl) ?_
  refine sl_calli (sl_runV (As := [.int x]) (rest := [.ref (μ 0)]) hC hG (kX5_isToken l Γ g μ n ep tl lo T C E th hM x) mi_X5_isToken lk_RX5_88 20 h20 rfl rfl rfl ⟨Nat.le_of_ble_eq_true rfl, Nat.le_of_ble_eq_true rfl⟩ rfl hl.1 rfl (Nat.le_of_ble_eq_true rfl) dX5_write_3 ⟨Nat.le_of_ble_eq_true rfl, Nat.le_of_ble_eq_true rfl⟩) hG (fun r_3 u_3 H locs hr_3 hG => ?_)
  subst hr_3
  refine lv_if_eq (tgt := 13) hx hb dX5_write_6 (by decide) (fun c_6 => ?_) (fun c_6 => ?_)
  · have c_6 := sl_bF c_6
    refine lv_iconst (v := 1) hx hb dX5_write_13 (by decide) ?_
    refine sl_put (C := RX5) (T := TX5) (N := 16) (ty := .int) (v := .int 1) hC hG 20 h20 rfl la_5 tyX5 tyX5_ok nmX5 0 (by decide) lk_RX5_44 rfl rfl (by decide +kernel) rfl rfl (Nat.le_of_ble_eq_true rfl) dX5_write_14 (fun H locs hG => ?_)
    have hG : sl_I Γ (sl_up g 20 ((μ 0), .inr (5, [.int 1, .int ep, .int (sl_bi lo), .int (nI tl), .ref (μ 1), .int (nI n), .ref (μ 2), .ref (μ 3), .ref (μ 4), .ref (μ 5), .ref (μ 6), .ref (μ 7), .ref (μ 8), .ref (μ 9), .ref (μ 10), .ref (μ 11)]))) s H _ := hG
    refine lv_aload_n hx hb dX5_write_17 rfl (lv_at hl 0 rfl) ?_
    refine sl_get (C := RX5) (T := TX5) (N := 16) hC hG 20 (sl_up_s _ _ _) rfl la_5 0 (by decide) lk_RX5_44 rfl rfl dX5_write_18 ?_
    refine lv_if_le (tgt := 26) hx hb dX5_write_21 (by decide) (fun c_21 => ?_) (fun c_21 => ?_)
    · exact absurd c_21 (by decide)
    · refine lv_iconst (v := 0) hx hb dX5_write_24 (by decide) ?_
      exact sl_ri (v := 0) hC hr hG (sl_up g 20 ((μ 0), .inr (5, [.int 1, .int ep, .int (sl_bi lo), .int (nI tl), .ref (μ 1), .int (nI n), .ref (μ 2), .ref (μ 3), .ref (μ 4), .ref (μ 5), .ref (μ 6), .ref (μ 7), .ref (μ 8), .ref (μ 9), .ref (μ 10), .ref (μ 11)]))) ⟨Or.inr (Or.inr ⟨c_6, (sl_Mdl_up0 hM 1 ep tl lo (by omega))⟩), ((sl_fm.rf g).up _ (by omega))⟩ rfl (Nat.le_of_ble_eq_true rfl) (Nat.le_of_ble_eq_true rfl) dX5_write_25
  · have c_6 := sl_bT c_6
    obtain ⟨t, ht, rfl, htok⟩ := sl_tok_ex hn9 c_6
    refine lv_iconst (v := 0) hx hb dX5_write_9 (by decide) ?_
    refine lv_goto (tgt := 14) hx hb dX5_write_10 (by decide) ?_
    refine sl_put (C := RX5) (T := TX5) (N := 16) (ty := .int) (v := .int 0) hC hG 20 h20 rfl la_5 tyX5 tyX5_ok nmX5 0 (by decide) lk_RX5_44 rfl rfl (by decide +kernel) rfl rfl (Nat.le_of_ble_eq_true rfl) dX5_write_14 (fun H locs hG => ?_)
    have hG : sl_I Γ (sl_up g 20 ((μ 0), .inr (5, [.int 0, .int ep, .int (sl_bi lo), .int (nI tl), .ref (μ 1), .int (nI n), .ref (μ 2), .ref (μ 3), .ref (μ 4), .ref (μ 5), .ref (μ 6), .ref (μ 7), .ref (μ 8), .ref (μ 9), .ref (μ 10), .ref (μ 11)]))) s H _ := hG
    refine lv_aload_n hx hb dX5_write_17 rfl (lv_at hl 0 rfl) ?_
    refine sl_get (C := RX5) (T := TX5) (N := 16) hC hG 20 (sl_up_s _ _ _) rfl la_5 0 (by decide) lk_RX5_44 rfl rfl dX5_write_18 ?_
    refine lv_if_le (tgt := 26) hx hb dX5_write_21 (by decide) (fun c_21 => ?_) (fun c_21 => ?_)
    · refine lv_aload_n hx hb dX5_write_26 rfl (lv_at hl 0 rfl) ?_
      refine sl_get (C := RX5) (T := TX5) (N := 16) hC hG 20 (sl_up_s _ _ _) rfl la_5 12 (by decide) lk_RX5_31 rfl rfl dX5_write_27 ?_
      refine lv_iload_n hx hb dX5_write_30 rfl (lv_at hl 1 rfl) ?_
      refine sl_ialdN hC hG 28 (sl_up_to (by decide) h28) (j := t) rfl (by omega) (by omega) dX5_write_31 ?_
      refine lv_istore_n (lv' := [(2, .int ((fun i => (E i).2.2.2.2.2.2.2) t)), (0, .ref (μ 0)), (1, .int (nI t))]) hx hb dX5_write_32 rfl hl (by decide) rfl (fun ls hl => ?_)
      refine lv_aload_n hx hb dX5_write_33 rfl (lv_at hl 1 rfl) ?_
      refine lv_iload_n hx hb dX5_write_34 rfl (lv_at hl 0 rfl) ?_
      refine lv_iconst (v := (-1)) hx hb dX5_write_35 (by decide) ?_
      refine lv_icmp_eq (tgt := 57) hx hb dX5_write_36 (by decide) (fun c_36 => ?_) (fun c_36 => ?_)
      · refine lv_iconst (v := 2) hx hb dX5_write_57 (by decide) ?_
        refine lv_goto (tgt := 62) hx hb dX5_write_58 (by decide) ?_
        refine sl_put (C := RX5) (T := TX5) (N := 16) (ty := .int) (v := .int 2) hC hG 20 (sl_up_s _ _ _) rfl la_5 tyX5 tyX5_ok nmX5 0 (by decide) lk_RX5_44 rfl rfl (by decide +kernel) rfl rfl (Nat.le_of_ble_eq_true rfl) dX5_write_62 (fun H locs hG => ?_)
        rw [sl_up_up] at hG
        have hG : sl_I Γ (sl_up g 20 ((μ 0), .inr (5, [.int 2, .int ep, .int (sl_bi lo), .int (nI tl), .ref (μ 1), .int (nI n), .ref (μ 2), .ref (μ 3), .ref (μ 4), .ref (μ 5), .ref (μ 6), .ref (μ 7), .ref (μ 8), .ref (μ 9), .ref (μ 10), .ref (μ 11)]))) s H _ := hG
        refine lv_aload_n hx hb dX5_write_65 rfl (lv_at hl 1 rfl) ?_
        refine sl_get (C := RX5) (T := TX5) (N := 16) hC hG 20 (sl_up_s _ _ _) rfl la_5 0 (by decide) lk_RX5_44 rfl rfl dX5_write_66 ?_
        refine lv_if_le (tgt := 74) hx hb dX5_write_69 (by decide) (fun c_69 => ?_) (fun c_69 => ?_)
        · exact absurd c_69 (by decide)
        · refine lv_iconst (v := 0) hx hb dX5_write_72 (by decide) ?_
          exact sl_ri (v := 0) hC hr hG (sl_up g 20 ((μ 0), .inr (5, [.int 2, .int ep, .int (sl_bi lo), .int (nI tl), .ref (μ 1), .int (nI n), .ref (μ 2), .ref (μ 3), .ref (μ 4), .ref (μ 5), .ref (μ 6), .ref (μ 7), .ref (μ 8), .ref (μ 9), .ref (μ 10), .ref (μ 11)]))) ⟨Or.inr (Or.inl ⟨t, htok, Or.inl c_36, (sl_Mdl_up0 hM 2 ep tl lo (by omega))⟩), ((sl_fm.rf g).up _ (by omega))⟩ rfl (Nat.le_of_ble_eq_true rfl) (Nat.le_of_ble_eq_true rfl) dX5_write_73
      · refine lv_iload_n hx hb dX5_write_39 rfl (lv_at hl 0 rfl) ?_
        refine lv_iconst (v := 3) hx hb dX5_write_40 (by decide) ?_
        refine lv_icmp_eq (tgt := 57) hx hb dX5_write_41 (by decide) (fun c_41 => ?_) (fun c_41 => ?_)
        · refine lv_iconst (v := 2) hx hb dX5_write_57 (by decide) ?_
          refine lv_goto (tgt := 62) hx hb dX5_write_58 (by decide) ?_
          refine sl_put (C := RX5) (T := TX5) (N := 16) (ty := .int) (v := .int 2) hC hG 20 (sl_up_s _ _ _) rfl la_5 tyX5 tyX5_ok nmX5 0 (by decide) lk_RX5_44 rfl rfl (by decide +kernel) rfl rfl (Nat.le_of_ble_eq_true rfl) dX5_write_62 (fun H locs hG => ?_)
          rw [sl_up_up] at hG
          have hG : sl_I Γ (sl_up g 20 ((μ 0), .inr (5, [.int 2, .int ep, .int (sl_bi lo), .int (nI tl), .ref (μ 1), .int (nI n), .ref (μ 2), .ref (μ 3), .ref (μ 4), .ref (μ 5), .ref (μ 6), .ref (μ 7), .ref (μ 8), .ref (μ 9), .ref (μ 10), .ref (μ 11)]))) s H _ := hG
          refine lv_aload_n hx hb dX5_write_65 rfl (lv_at hl 1 rfl) ?_
          refine sl_get (C := RX5) (T := TX5) (N := 16) hC hG 20 (sl_up_s _ _ _) rfl la_5 0 (by decide) lk_RX5_44 rfl rfl dX5_write_66 ?_
          refine lv_if_le (tgt := 74) hx hb dX5_write_69 (by decide) (fun c_69 => ?_) (fun c_69 => ?_)
          · exact absurd c_69 (by decide)
          · refine lv_iconst (v := 0) hx hb dX5_write_72 (by decide) ?_
            exact sl_ri (v := 0) hC hr hG (sl_up g 20 ((μ 0), .inr (5, [.int 2, .int ep, .int (sl_bi lo), .int (nI tl), .ref (μ 1), .int (nI n), .ref (μ 2), .ref (μ 3), .ref (μ 4), .ref (μ 5), .ref (μ 6), .ref (μ 7), .ref (μ 8), .ref (μ 9), .ref (μ 10), .ref (μ 11)]))) ⟨Or.inr (Or.inl ⟨t, htok, Or.inr (Or.inl c_41), (sl_Mdl_up0 hM 2 ep tl lo (by omega))⟩), ((sl_fm.rf g).up _ (by omega))⟩ rfl (Nat.le_of_ble_eq_true rfl) (Nat.le_of_ble_eq_true rfl) dX5_write_73
        · refine lv_aload_n hx hb dX5_write_44 rfl (lv_at hl 1 rfl) ?_
          refine sl_get (C := RX5) (T := TX5) (N := 16) hC hG 20 (sl_up_s _ _ _) rfl la_5 7 (by decide) lk_RX5_16 rfl rfl dX5_write_45 ?_
          refine lv_iload_n hx hb dX5_write_48 rfl (lv_at hl 2 rfl) ?_
          refine sl_ialdN hC hG 23 (sl_up_to (by decide) h23) (j := t) rfl (by omega) (by omega) dX5_write_49 ?_
          refine lv_aload_n hx hb dX5_write_50 rfl (lv_at hl 1 rfl) ?_
          refine sl_get (C := RX5) (T := TX5) (N := 16) hC hG 20 (sl_up_s _ _ _) rfl la_5 1 (by decide) lk_RX5_62 rfl rfl dX5_write_51 ?_
          refine lv_icmp_eq (tgt := 61) hx hb dX5_write_54 (by decide) (fun c_54 => ?_) (fun c_54 => ?_)
          · refine lv_iconst (v := 0) hx hb dX5_write_61 (by decide) ?_
            refine sl_put (C := RX5) (T := TX5) (N := 16) (ty := .int) (v := .int 0) hC hG 20 (sl_up_s _ _ _) rfl la_5 tyX5 tyX5_ok nmX5 0 (by decide) lk_RX5_44 rfl rfl (by decide +kernel) rfl rfl (Nat.le_of_ble_eq_true rfl) dX5_write_62 (fun H locs hG => ?_)
            rw [sl_up_up] at hG
            have hG : sl_I Γ (sl_up g 20 ((μ 0), .inr (5, [.int 0, .int ep, .int (sl_bi lo), .int (nI tl), .ref (μ 1), .int (nI n), .ref (μ 2), .ref (μ 3), .ref (μ 4), .ref (μ 5), .ref (μ 6), .ref (μ 7), .ref (μ 8), .ref (μ 9), .ref (μ 10), .ref (μ 11)]))) s H _ := hG
            refine lv_aload_n hx hb dX5_write_65 rfl (lv_at hl 1 rfl) ?_
            refine sl_get (C := RX5) (T := TX5) (N := 16) hC hG 20 (sl_up_s _ _ _) rfl la_5 0 (by decide) lk_RX5_44 rfl rfl dX5_write_66 ?_
            refine lv_if_le (tgt := 74) hx hb dX5_write_69 (by decide) (fun c_69 => ?_) (fun c_69 => ?_)
            · obtain ⟨k, hk3, ek⟩ := (hE9 t ht).2.2.1.elim (fun e9 => absurd e9 c_36) id
              have hk9 : k < 3 := by have h8 : k ≠ 3 := (fun e9 => c_41 (by show (E t).2.2.2.2.2.2.2 = 3; rw [ek, e9]; rfl)); omega
              obtain ⟨q, hq9, eq⟩ := (hE9 t ht).1
              have hl : lv_has ls 4 [(2, .int (nI k)), (0, .ref (μ 0)), (1, .int (nI t))] := by rw [← ek]; exact hl
              refine lv_bipush (v := 120) hx hb dX5_write_74 (by decide) ?_
              refine lv_iload_n hx hb dX5_write_76 rfl (lv_at hl 0 rfl) ?_
              refine lv_imul hx hb dX5_write_77 ?_
              refine sl_topi (y := nI (120 * k)) (pk_mul 120 k) ?_
              refine lv_aload_n hx hb dX5_write_78 rfl (lv_at hl 1 rfl) ?_
              refine sl_get (C := RX5) (T := TX5) (N := 16) hC hG 20 (sl_up_s _ _ _) rfl la_5 6 (by decide) lk_RX5_13 rfl rfl dX5_write_79 ?_
              refine lv_iload_n hx hb dX5_write_82 rfl (lv_at hl 2 rfl) ?_
              refine sl_ialdN hC hG 22 (sl_up_to (by decide) h22) (j := t) rfl (by omega) (by omega) dX5_write_83 ?_
              refine sl_topi (y := nI q) eq ?_
              refine lv_iadd hx hb dX5_write_84 ?_
              refine sl_topi (y := nI (120 * k + q)) (nI_add (120 * k) q) ?_
              refine lv_istore_n (lv' := [(3, .int (nI (120 * k + q))), (2, .int (nI k)), (0, .ref (μ 0)), (1, .int (nI t))]) hx hb dX5_write_85 rfl hl (by decide) rfl (fun ls hl => ?_)
              refine lv_aload_n hx hb dX5_write_86 rfl (lv_at hl 2 rfl) ?_
              refine sl_get (C := RX5) (T := TX5) (N := 16) hC hG 20 (sl_up_s _ _ _) rfl la_5 12 (by decide) lk_RX5_31 rfl rfl dX5_write_87 ?_
              refine lv_iload_n hx hb dX5_write_90 rfl (lv_at hl 3 rfl) ?_
              refine lv_aload_n hx hb dX5_write_91 rfl (lv_at hl 2 rfl) ?_
              refine sl_get (C := RX5) (T := TX5) (N := 16) hC hG 20 (sl_up_s _ _ _) rfl la_5 14 (by decide) lk_RX5_37 rfl rfl dX5_write_92 ?_
              refine lv_iload_n hx hb dX5_write_95 rfl (lv_at hl 0 rfl) ?_
              refine sl_ialdN hC hG 30 (sl_up_to (by decide) h30) (j := 120 * k + q) rfl (by omega) (by omega) dX5_write_96 ?_
              refine lv_iconst (v := (-1)) hx hb dX5_write_97 (by decide) ?_
              refine lv_icmp_ne (tgt := 105) hx hb dX5_write_98 (by decide) (fun c_98 => ?_) (fun c_98 => ?_)
              · refine lv_iload_n hx hb dX5_write_105 rfl (lv_at hl 1 rfl) ?_
                refine lv_iconst (v := 1) hx hb dX5_write_106 (by decide) ?_
                refine lv_iadd hx hb dX5_write_107 ?_
                refine sl_topi (y := nI (k + 1)) (nI_add k 1) ?_
                refine sl_iastN hC hG 28 (sl_up_to (by decide) h28) (j := t) rfl (by omega) (by omega) dX5_write_108 (fun H locs hG => ?_)
                have hG : sl_I Γ (sl_up (sl_up g 20 ((μ 0), .inr (5, [.int 0, .int ep, .int (sl_bi lo), .int (nI tl), .ref (μ 1), .int (nI n), .ref (μ 2), .ref (μ 3), .ref (μ 4), .ref (μ 5), .ref (μ 6), .ref (μ 7), .ref (μ 8), .ref (μ 9), .ref (μ 10), .ref (μ 11)]))) 28 ((μ 8), .inl (Γ.2.1 0, 150, .inl (upd (fun i => (E i).2.2.2.2.2.2.2) t (nI (k + 1)))))) s H _ := hG
                refine lv_aload_n hx hb dX5_write_109 rfl (lv_at hl 2 rfl) ?_
                refine sl_get (C := RX5) (T := TX5) (N := 16) hC hG 20 (sl_up_to (by decide) (sl_up_s _ _ _)) rfl la_5 14 (by decide) lk_RX5_37 rfl rfl dX5_write_110 ?_
                refine lv_iload_n hx hb dX5_write_113 rfl (lv_at hl 0 rfl) ?_
                refine lv_aload_n hx hb dX5_write_114 rfl (lv_at hl 2 rfl) ?_
                refine sl_get (C := RX5) (T := TX5) (N := 16) hC hG 20 (sl_up_to (by decide) (sl_up_s _ _ _)) rfl la_5 14 (by decide) lk_RX5_37 rfl rfl dX5_write_115 ?_
                refine lv_iload_n hx hb dX5_write_118 rfl (lv_at hl 0 rfl) ?_
                refine sl_ialdN hC hG 30 (sl_up_to (by decide) (sl_up_to (by decide) h30)) (j := 120 * k + q) rfl (by omega) (by omega) dX5_write_119 ?_
                refine lv_bipush (v := (-2)) hx hb dX5_write_120 (by decide) ?_
                refine lv_icmp_ne (tgt := 129) hx hb dX5_write_122 (by decide) (fun c_122 => ?_) (fun c_122 => ?_)
                · refine lv_aload_n hx hb dX5_write_129 rfl (lv_at hl 2 rfl) ?_
                  refine sl_get (C := RX5) (T := TX5) (N := 16) hC hG 20 (sl_up_to (by decide) (sl_up_s _ _ _)) rfl la_5 14 (by decide) lk_RX5_37 rfl rfl dX5_write_130 ?_
                  refine lv_iload_n hx hb dX5_write_133 rfl (lv_at hl 0 rfl) ?_
                  refine sl_ialdN hC hG 30 (sl_up_to (by decide) (sl_up_to (by decide) h30)) (j := 120 * k + q) rfl (by omega) (by omega) dX5_write_134 ?_
                  refine sl_iastN hC hG 30 (sl_up_to (by decide) (sl_up_to (by decide) h30)) (j := 120 * k + q) rfl (by omega) (by omega) dX5_write_135 (fun H locs hG => ?_)
                  have hG : sl_I Γ (sl_up (sl_up (sl_up g 20 ((μ 0), .inr (5, [.int 0, .int ep, .int (sl_bi lo), .int (nI tl), .ref (μ 1), .int (nI n), .ref (μ 2), .ref (μ 3), .ref (μ 4), .ref (μ 5), .ref (μ 6), .ref (μ 7), .ref (μ 8), .ref (μ 9), .ref (μ 10), .ref (μ 11)]))) 28 ((μ 8), .inl (Γ.2.1 0, 150, .inl (upd (fun i => (E i).2.2.2.2.2.2.2) t (nI (k + 1)))))) 30 ((μ 10), .inl (Γ.2.1 0, 360, .inl (upd C (120 * k + q) (C (120 * k + q)))))) s H _ := hG
                  refine lv_aload_n hx hb dX5_write_136 rfl (lv_at hl 2 rfl) ?_
                  refine sl_get (C := RX5) (T := TX5) (N := 16) hC hG 20 (sl_up_to (by decide) (sl_up_to (by decide) (sl_up_s _ _ _))) rfl la_5 12 (by decide) lk_RX5_31 rfl rfl dX5_write_137 ?_
                  refine lv_iload_n hx hb dX5_write_140 rfl (lv_at hl 3 rfl) ?_
                  refine sl_ialdN hC hG 28 (sl_up_to (by decide) (sl_up_s _ _ _)) (j := t) rfl (by omega) (by omega) dX5_write_141 ?_
                  have e1 : sl_cg C (E t).2.2.2.2.2.2.2 (E t).1 = C (120 * k + q) := by rw [ek, eq]; exact sl_cgN C (by omega) (by omega)
                  have e2 : (if sl_cg C (E t).2.2.2.2.2.2.2 (E t).1 = -1 then (-1 : Int32) else (E t).2.2.2.2.2.2.2 + 1) = nI (k + 1) := by rw [e1, if_neg c_98, ek, nI_1]
                  have e3 : (if sl_cg C (E t).2.2.2.2.2.2.2 (E t).1 = -1 then C else sl_cp C (E t).2.2.2.2.2.2.2 (E t).1 (nI t)) = upd C (120 * k + q) (C (120 * k + q)) := by rw [ek, eq, sl_cp_eq C (by omega) (by omega), if_neg c_122]
                  have hce : ∀ i, i < 360 → sl_ce n (upd C (120 * k + q) (C (120 * k + q)) i) := sl_ce_upd hC9 (hC9 _ (by omega))
                  exact sl_ri (v := (upd (fun i => (E i).2.2.2.2.2.2.2) t (nI (k + 1))) t) hC hr hG (sl_up (sl_up (sl_up g 20 ((μ 0), .inr (5, [.int 0, .int ep, .int (sl_bi lo), .int (nI tl), .ref (μ 1), .int (nI n), .ref (μ 2), .ref (μ 3), .ref (μ 4), .ref (μ 5), .ref (μ 6), .ref (μ 7), .ref (μ 8), .ref (μ 9), .ref (μ 10), .ref (μ 11)]))) 28 ((μ 8), .inl (Γ.2.1 0, 150, .inl (upd (fun i => (E i).2.2.2.2.2.2.2) t (nI (k + 1)))))) 30 ((μ 10), .inl (Γ.2.1 0, 360, .inl (upd C (120 * k + q) (C (120 * k + q)))))) ⟨Or.inl ⟨t, htok, (fun w9 => w9.elim c_36 (fun w9 => w9.elim c_41 (fun w9 => w9 c_54))), by rw [e2]; exact pk_us, by rw [e2, e3]; exact sl_Mdl_up10 (sl_Mdl_st (sl_Mdl_up0 hM 0 ep tl lo (by omega)) ht (nI (k + 1)) (Or.inr ⟨k + 1, by omega, rfl⟩)) _ hce⟩, ((((sl_fm.rf g).up _ (by omega)).up _ (by omega)).up _ (by omega))⟩ rfl (Nat.le_of_ble_eq_true rfl) (Nat.le_of_ble_eq_true rfl) dX5_write_142
                · refine lv_iload_n hx hb dX5_write_125 rfl (lv_at hl 3 rfl) ?_
                  refine lv_goto (tgt := 135) hx hb dX5_write_126 (by decide) ?_
                  refine sl_iastN hC hG 30 (sl_up_to (by decide) (sl_up_to (by decide) h30)) (j := 120 * k + q) rfl (by omega) (by omega) dX5_write_135 (fun H locs hG => ?_)
                  have hG : sl_I Γ (sl_up (sl_up (sl_up g 20 ((μ 0), .inr (5, [.int 0, .int ep, .int (sl_bi lo), .int (nI tl), .ref (μ 1), .int (nI n), .ref (μ 2), .ref (μ 3), .ref (μ 4), .ref (μ 5), .ref (μ 6), .ref (μ 7), .ref (μ 8), .ref (μ 9), .ref (μ 10), .ref (μ 11)]))) 28 ((μ 8), .inl (Γ.2.1 0, 150, .inl (upd (fun i => (E i).2.2.2.2.2.2.2) t (nI (k + 1)))))) 30 ((μ 10), .inl (Γ.2.1 0, 360, .inl (upd C (120 * k + q) (nI t))))) s H _ := hG
                  refine lv_aload_n hx hb dX5_write_136 rfl (lv_at hl 2 rfl) ?_
                  refine sl_get (C := RX5) (T := TX5) (N := 16) hC hG 20 (sl_up_to (by decide) (sl_up_to (by decide) (sl_up_s _ _ _))) rfl la_5 12 (by decide) lk_RX5_31 rfl rfl dX5_write_137 ?_
                  refine lv_iload_n hx hb dX5_write_140 rfl (lv_at hl 3 rfl) ?_
                  refine sl_ialdN hC hG 28 (sl_up_to (by decide) (sl_up_s _ _ _)) (j := t) rfl (by omega) (by omega) dX5_write_141 ?_
                  have e1 : sl_cg C (E t).2.2.2.2.2.2.2 (E t).1 = C (120 * k + q) := by rw [ek, eq]; exact sl_cgN C (by omega) (by omega)
                  have e2 : (if sl_cg C (E t).2.2.2.2.2.2.2 (E t).1 = -1 then (-1 : Int32) else (E t).2.2.2.2.2.2.2 + 1) = nI (k + 1) := by rw [e1, if_neg c_98, ek, nI_1]
                  have e3 : (if sl_cg C (E t).2.2.2.2.2.2.2 (E t).1 = -1 then C else sl_cp C (E t).2.2.2.2.2.2.2 (E t).1 (nI t)) = upd C (120 * k + q) (nI t) := by rw [ek, eq, sl_cp_eq C (by omega) (by omega), if_pos c_122]
                  have hce : ∀ i, i < 360 → sl_ce n (upd C (120 * k + q) (nI t) i) := sl_ce_upd hC9 (Or.inr (Or.inr ⟨t, ht, rfl⟩))
                  exact sl_ri (v := (upd (fun i => (E i).2.2.2.2.2.2.2) t (nI (k + 1))) t) hC hr hG (sl_up (sl_up (sl_up g 20 ((μ 0), .inr (5, [.int 0, .int ep, .int (sl_bi lo), .int (nI tl), .ref (μ 1), .int (nI n), .ref (μ 2), .ref (μ 3), .ref (μ 4), .ref (μ 5), .ref (μ 6), .ref (μ 7), .ref (μ 8), .ref (μ 9), .ref (μ 10), .ref (μ 11)]))) 28 ((μ 8), .inl (Γ.2.1 0, 150, .inl (upd (fun i => (E i).2.2.2.2.2.2.2) t (nI (k + 1)))))) 30 ((μ 10), .inl (Γ.2.1 0, 360, .inl (upd C (120 * k + q) (nI t))))) ⟨Or.inl ⟨t, htok, (fun w9 => w9.elim c_36 (fun w9 => w9.elim c_41 (fun w9 => w9 c_54))), by rw [e2]; exact pk_us, by rw [e2, e3]; exact sl_Mdl_up10 (sl_Mdl_st (sl_Mdl_up0 hM 0 ep tl lo (by omega)) ht (nI (k + 1)) (Or.inr ⟨k + 1, by omega, rfl⟩)) _ hce⟩, ((((sl_fm.rf g).up _ (by omega)).up _ (by omega)).up _ (by omega))⟩ rfl (Nat.le_of_ble_eq_true rfl) (Nat.le_of_ble_eq_true rfl) dX5_write_142
              · refine lv_iconst (v := (-1)) hx hb dX5_write_101 (by decide) ?_
                refine lv_goto (tgt := 108) hx hb dX5_write_102 (by decide) ?_
                refine sl_iastN hC hG 28 (sl_up_to (by decide) h28) (j := t) rfl (by omega) (by omega) dX5_write_108 (fun H locs hG => ?_)
                have hG : sl_I Γ (sl_up (sl_up g 20 ((μ 0), .inr (5, [.int 0, .int ep, .int (sl_bi lo), .int (nI tl), .ref (μ 1), .int (nI n), .ref (μ 2), .ref (μ 3), .ref (μ 4), .ref (μ 5), .ref (μ 6), .ref (μ 7), .ref (μ 8), .ref (μ 9), .ref (μ 10), .ref (μ 11)]))) 28 ((μ 8), .inl (Γ.2.1 0, 150, .inl (upd (fun i => (E i).2.2.2.2.2.2.2) t (-1))))) s H _ := hG
                refine lv_aload_n hx hb dX5_write_109 rfl (lv_at hl 2 rfl) ?_
                refine sl_get (C := RX5) (T := TX5) (N := 16) hC hG 20 (sl_up_to (by decide) (sl_up_s _ _ _)) rfl la_5 14 (by decide) lk_RX5_37 rfl rfl dX5_write_110 ?_
                refine lv_iload_n hx hb dX5_write_113 rfl (lv_at hl 0 rfl) ?_
                refine lv_aload_n hx hb dX5_write_114 rfl (lv_at hl 2 rfl) ?_
                refine sl_get (C := RX5) (T := TX5) (N := 16) hC hG 20 (sl_up_to (by decide) (sl_up_s _ _ _)) rfl la_5 14 (by decide) lk_RX5_37 rfl rfl dX5_write_115 ?_
                refine lv_iload_n hx hb dX5_write_118 rfl (lv_at hl 0 rfl) ?_
                refine sl_ialdN hC hG 30 (sl_up_to (by decide) (sl_up_to (by decide) h30)) (j := 120 * k + q) rfl (by omega) (by omega) dX5_write_119 ?_
                refine lv_bipush (v := (-2)) hx hb dX5_write_120 (by decide) ?_
                refine lv_icmp_ne (tgt := 129) hx hb dX5_write_122 (by decide) (fun c_122 => ?_) (fun c_122 => ?_)
                · refine lv_aload_n hx hb dX5_write_129 rfl (lv_at hl 2 rfl) ?_
                  refine sl_get (C := RX5) (T := TX5) (N := 16) hC hG 20 (sl_up_to (by decide) (sl_up_s _ _ _)) rfl la_5 14 (by decide) lk_RX5_37 rfl rfl dX5_write_130 ?_
                  refine lv_iload_n hx hb dX5_write_133 rfl (lv_at hl 0 rfl) ?_
                  refine sl_ialdN hC hG 30 (sl_up_to (by decide) (sl_up_to (by decide) h30)) (j := 120 * k + q) rfl (by omega) (by omega) dX5_write_134 ?_
                  refine sl_iastN hC hG 30 (sl_up_to (by decide) (sl_up_to (by decide) h30)) (j := 120 * k + q) rfl (by omega) (by omega) dX5_write_135 (fun H locs hG => ?_)
                  have hG : sl_I Γ (sl_up (sl_up (sl_up g 20 ((μ 0), .inr (5, [.int 0, .int ep, .int (sl_bi lo), .int (nI tl), .ref (μ 1), .int (nI n), .ref (μ 2), .ref (μ 3), .ref (μ 4), .ref (μ 5), .ref (μ 6), .ref (μ 7), .ref (μ 8), .ref (μ 9), .ref (μ 10), .ref (μ 11)]))) 28 ((μ 8), .inl (Γ.2.1 0, 150, .inl (upd (fun i => (E i).2.2.2.2.2.2.2) t (-1))))) 30 ((μ 10), .inl (Γ.2.1 0, 360, .inl (upd C (120 * k + q) (C (120 * k + q)))))) s H _ := hG
                  refine lv_aload_n hx hb dX5_write_136 rfl (lv_at hl 2 rfl) ?_
                  refine sl_get (C := RX5) (T := TX5) (N := 16) hC hG 20 (sl_up_to (by decide) (sl_up_to (by decide) (sl_up_s _ _ _))) rfl la_5 12 (by decide) lk_RX5_31 rfl rfl dX5_write_137 ?_
                  refine lv_iload_n hx hb dX5_write_140 rfl (lv_at hl 3 rfl) ?_
                  refine sl_ialdN hC hG 28 (sl_up_to (by decide) (sl_up_s _ _ _)) (j := t) rfl (by omega) (by omega) dX5_write_141 ?_
                  have e1 : sl_cg C (E t).2.2.2.2.2.2.2 (E t).1 = C (120 * k + q) := by rw [ek, eq]; exact sl_cgN C (by omega) (by omega)
                  have e2 : (if sl_cg C (E t).2.2.2.2.2.2.2 (E t).1 = -1 then (-1 : Int32) else (E t).2.2.2.2.2.2.2 + 1) = (-1) := by rw [e1, if_pos c_98]
                  have e3 : (if sl_cg C (E t).2.2.2.2.2.2.2 (E t).1 = -1 then C else sl_cp C (E t).2.2.2.2.2.2.2 (E t).1 (nI t)) = upd C (120 * k + q) (C (120 * k + q)) := by rw [ek, eq, sl_cp_eq C (by omega) (by omega), if_neg c_122]
                  have hce : ∀ i, i < 360 → sl_ce n (upd C (120 * k + q) (C (120 * k + q)) i) := sl_ce_upd hC9 (hC9 _ (by omega))
                  exact sl_ri (v := (upd (fun i => (E i).2.2.2.2.2.2.2) t (-1)) t) hC hr hG (sl_up (sl_up (sl_up g 20 ((μ 0), .inr (5, [.int 0, .int ep, .int (sl_bi lo), .int (nI tl), .ref (μ 1), .int (nI n), .ref (μ 2), .ref (μ 3), .ref (μ 4), .ref (μ 5), .ref (μ 6), .ref (μ 7), .ref (μ 8), .ref (μ 9), .ref (μ 10), .ref (μ 11)]))) 28 ((μ 8), .inl (Γ.2.1 0, 150, .inl (upd (fun i => (E i).2.2.2.2.2.2.2) t (-1))))) 30 ((μ 10), .inl (Γ.2.1 0, 360, .inl (upd C (120 * k + q) (C (120 * k + q)))))) ⟨Or.inl ⟨t, htok, (fun w9 => w9.elim c_36 (fun w9 => w9.elim c_41 (fun w9 => w9 c_54))), by rw [e2]; exact pk_us, by rw [e2, e3]; exact sl_Mdl_up10 (sl_Mdl_st (sl_Mdl_up0 hM 0 ep tl lo (by omega)) ht (-1) (Or.inl rfl)) _ hce⟩, ((((sl_fm.rf g).up _ (by omega)).up _ (by omega)).up _ (by omega))⟩ rfl (Nat.le_of_ble_eq_true rfl) (Nat.le_of_ble_eq_true rfl) dX5_write_142
                · refine lv_iload_n hx hb dX5_write_125 rfl (lv_at hl 3 rfl) ?_
                  refine lv_goto (tgt := 135) hx hb dX5_write_126 (by decide) ?_
                  refine sl_iastN hC hG 30 (sl_up_to (by decide) (sl_up_to (by decide) h30)) (j := 120 * k + q) rfl (by omega) (by omega) dX5_write_135 (fun H locs hG => ?_)
                  have hG : sl_I Γ (sl_up (sl_up (sl_up g 20 ((μ 0), .inr (5, [.int 0, .int ep, .int (sl_bi lo), .int (nI tl), .ref (μ 1), .int (nI n), .ref (μ 2), .ref (μ 3), .ref (μ 4), .ref (μ 5), .ref (μ 6), .ref (μ 7), .ref (μ 8), .ref (μ 9), .ref (μ 10), .ref (μ 11)]))) 28 ((μ 8), .inl (Γ.2.1 0, 150, .inl (upd (fun i => (E i).2.2.2.2.2.2.2) t (-1))))) 30 ((μ 10), .inl (Γ.2.1 0, 360, .inl (upd C (120 * k + q) (nI t))))) s H _ := hG
                  refine lv_aload_n hx hb dX5_write_136 rfl (lv_at hl 2 rfl) ?_
                  refine sl_get (C := RX5) (T := TX5) (N := 16) hC hG 20 (sl_up_to (by decide) (sl_up_to (by decide) (sl_up_s _ _ _))) rfl la_5 12 (by decide) lk_RX5_31 rfl rfl dX5_write_137 ?_
                  refine lv_iload_n hx hb dX5_write_140 rfl (lv_at hl 3 rfl) ?_
                  refine sl_ialdN hC hG 28 (sl_up_to (by decide) (sl_up_s _ _ _)) (j := t) rfl (by omega) (by omega) dX5_write_141 ?_
                  have e1 : sl_cg C (E t).2.2.2.2.2.2.2 (E t).1 = C (120 * k + q) := by rw [ek, eq]; exact sl_cgN C (by omega) (by omega)
                  have e2 : (if sl_cg C (E t).2.2.2.2.2.2.2 (E t).1 = -1 then (-1 : Int32) else (E t).2.2.2.2.2.2.2 + 1) = (-1) := by rw [e1, if_pos c_98]
                  have e3 : (if sl_cg C (E t).2.2.2.2.2.2.2 (E t).1 = -1 then C else sl_cp C (E t).2.2.2.2.2.2.2 (E t).1 (nI t)) = upd C (120 * k + q) (nI t) := by rw [ek, eq, sl_cp_eq C (by omega) (by omega), if_pos c_122]
                  have hce : ∀ i, i < 360 → sl_ce n (upd C (120 * k + q) (nI t) i) := sl_ce_upd hC9 (Or.inr (Or.inr ⟨t, ht, rfl⟩))
                  exact sl_ri (v := (upd (fun i => (E i).2.2.2.2.2.2.2) t (-1)) t) hC hr hG (sl_up (sl_up (sl_up g 20 ((μ 0), .inr (5, [.int 0, .int ep, .int (sl_bi lo), .int (nI tl), .ref (μ 1), .int (nI n), .ref (μ 2), .ref (μ 3), .ref (μ 4), .ref (μ 5), .ref (μ 6), .ref (μ 7), .ref (μ 8), .ref (μ 9), .ref (μ 10), .ref (μ 11)]))) 28 ((μ 8), .inl (Γ.2.1 0, 150, .inl (upd (fun i => (E i).2.2.2.2.2.2.2) t (-1))))) 30 ((μ 10), .inl (Γ.2.1 0, 360, .inl (upd C (120 * k + q) (nI t))))) ⟨Or.inl ⟨t, htok, (fun w9 => w9.elim c_36 (fun w9 => w9.elim c_41 (fun w9 => w9 c_54))), by rw [e2]; exact pk_us, by rw [e2, e3]; exact sl_Mdl_up10 (sl_Mdl_st (sl_Mdl_up0 hM 0 ep tl lo (by omega)) ht (-1) (Or.inl rfl)) _ hce⟩, ((((sl_fm.rf g).up _ (by omega)).up _ (by omega)).up _ (by omega))⟩ rfl (Nat.le_of_ble_eq_true rfl) (Nat.le_of_ble_eq_true rfl) dX5_write_142
            · exact absurd c_69 (by decide)
          · refine lv_iconst (v := 2) hx hb dX5_write_57 (by decide) ?_
            refine lv_goto (tgt := 62) hx hb dX5_write_58 (by decide) ?_
            refine sl_put (C := RX5) (T := TX5) (N := 16) (ty := .int) (v := .int 2) hC hG 20 (sl_up_s _ _ _) rfl la_5 tyX5 tyX5_ok nmX5 0 (by decide) lk_RX5_44 rfl rfl (by decide +kernel) rfl rfl (Nat.le_of_ble_eq_true rfl) dX5_write_62 (fun H locs hG => ?_)
            rw [sl_up_up] at hG
            have hG : sl_I Γ (sl_up g 20 ((μ 0), .inr (5, [.int 2, .int ep, .int (sl_bi lo), .int (nI tl), .ref (μ 1), .int (nI n), .ref (μ 2), .ref (μ 3), .ref (μ 4), .ref (μ 5), .ref (μ 6), .ref (μ 7), .ref (μ 8), .ref (μ 9), .ref (μ 10), .ref (μ 11)]))) s H _ := hG
            refine lv_aload_n hx hb dX5_write_65 rfl (lv_at hl 1 rfl) ?_
            refine sl_get (C := RX5) (T := TX5) (N := 16) hC hG 20 (sl_up_s _ _ _) rfl la_5 0 (by decide) lk_RX5_44 rfl rfl dX5_write_66 ?_
            refine lv_if_le (tgt := 74) hx hb dX5_write_69 (by decide) (fun c_69 => ?_) (fun c_69 => ?_)
            · exact absurd c_69 (by decide)
            · refine lv_iconst (v := 0) hx hb dX5_write_72 (by decide) ?_
              exact sl_ri (v := 0) hC hr hG (sl_up g 20 ((μ 0), .inr (5, [.int 2, .int ep, .int (sl_bi lo), .int (nI tl), .ref (μ 1), .int (nI n), .ref (μ 2), .ref (μ 3), .ref (μ 4), .ref (μ 5), .ref (μ 6), .ref (μ 7), .ref (μ 8), .ref (μ 9), .ref (μ 10), .ref (μ 11)]))) ⟨Or.inr (Or.inl ⟨t, htok, Or.inr (Or.inr c_54), (sl_Mdl_up0 hM 2 ep tl lo (by omega))⟩), ((sl_fm.rf g).up _ (by omega))⟩ rfl (Nat.le_of_ble_eq_true rfl) (Nat.le_of_ble_eq_true rfl) dX5_write_73
    · exact absurd c_21 (by decide)
set_option maxHeartbeats 4000000 in
set_option maxRecDepth 100000 in
theorem kX5_fill (l : Launch) (Γ : sl_G) (g : sl_W) (μ : Nat → Nat) (n : Nat) (ep : Int32) (tl : Nat) (lo : Bool) (T C : Nat → Int32) (E : Nat → sl_Ent) (th : Int32) (hM : sl_Mdl Γ μ n ep tl lo T C E th g) (x : Int32) : Met l yX5_fill [Cond.code yX5_fill cX5_fill 4 (some .boolean)] ({ frames := 2, cells := 0, slots := 0, locals := 42 } : Room) (va_Pc [.ref (μ 0), .int x] (sl_B Γ g)) (sl_Qi Γ (fun r g' => ((∃ b, x = nI b ∧ b < 120 ∧ lo = false ∧ b < tl ∧ sl_wh C b = false ∧ r = sl_bi (sl_tok n (C b)).isSome ∧ sl_Mdl Γ μ n ep tl lo T (sl_mf C b (if (sl_tok n (C b)).isSome = true then C b else -1)) E 0 g') ∨ (∃ b, x = nI b ∧ b < 120 ∧ (lo = true ∨ tl ≤ b ∨ sl_wh C b = true) ∧ sl_Mdl Γ μ n ep tl lo T C E 2 g') ∨ (sl_in x 0 119 = false ∧ sl_Mdl Γ μ n ep tl lo T C E 1 g')) ∧ sl_fm g g') (fun g' => g')) 0 0 (sl_A Γ) := by
  refine sl_ent (by decide) (Nat.le_of_ble_eq_true rfl) ?_
  intro p e s m below meth c ls hC hr hin hG hl
  have hx := hC.1
  have hb := hC.2.1
  have hl : lv_has ls 4 [(0, .ref (μ 0)), (1, .int x)] := hl
  obtain ⟨h20, h21, h22, h23, h24, h25, h26, h27, h28, h29, h30, ⟨F, h31⟩, hn9, ht9, hC9, hE9, hZ9⟩ := id hM
  refine lv_aload_n hx hb dX5_fill_0 rfl (lv_at hl 0 rfl) ?_
  refine lv_iload_n hx hb dX5_fill_1 rfl (lv_at hl 1 rfl) ?_
  refine sl_calli (sl_runS (As := [.int x]) (rest := [.ref (μ 0)]) hC hG (kX5_isPosition l Γ g x) mi_X5_isPosition lk_RX5_91 rfl rfl ⟨Nat.le_of_ble_eq_true rfl, Nat.le_of_ble_eq_true rfl⟩ rfl hl.1 rfl (Nat.le_of_ble_eq_true rfl) dX5_fill_2 ⟨Nat.le_of_ble_eq_true rfl, Nat.le_of_ble_eq_true rfl⟩) hG (fun r_2 u_2 H locs hr_2 hG => ?_)
  subst hr_2
  refine lv_if_ne (tgt := 12) hx hb dX5_fill_5 (by decide) (fun c_5 => ?_) (fun c_5 => ?_)
  · have c_5 := sl_bT c_5
    obtain ⟨b, hb9, rfl⟩ := sl_c119 c_5
    refine lv_aload_n hx hb dX5_fill_12 rfl (lv_at hl 0 rfl) ?_
    refine sl_get (C := RX5) (T := TX5) (N := 16) hC hG 20 h20 rfl la_5 2 (by decide) lk_RX5_55 rfl rfl dX5_fill_13 ?_
    refine lv_if_ne (tgt := 35) hx hb dX5_fill_16 (by decide) (fun c_16 => ?_) (fun c_16 => ?_)
    · have c_16 := sl_bT c_16
      refine lv_iconst (v := 2) hx hb dX5_fill_35 (by decide) ?_
      refine lv_goto (tgt := 40) hx hb dX5_fill_36 (by decide) ?_
      refine sl_put (C := RX5) (T := TX5) (N := 16) (ty := .int) (v := .int 2) hC hG 20 h20 rfl la_5 tyX5 tyX5_ok nmX5 0 (by decide) lk_RX5_44 rfl rfl (by decide +kernel) rfl rfl (Nat.le_of_ble_eq_true rfl) dX5_fill_40 (fun H locs hG => ?_)
      have hG : sl_I Γ (sl_up g 20 ((μ 0), .inr (5, [.int 2, .int ep, .int (sl_bi lo), .int (nI tl), .ref (μ 1), .int (nI n), .ref (μ 2), .ref (μ 3), .ref (μ 4), .ref (μ 5), .ref (μ 6), .ref (μ 7), .ref (μ 8), .ref (μ 9), .ref (μ 10), .ref (μ 11)]))) s H _ := hG
      refine lv_aload_n hx hb dX5_fill_43 rfl (lv_at hl 0 rfl) ?_
      refine sl_get (C := RX5) (T := TX5) (N := 16) hC hG 20 (sl_up_s _ _ _) rfl la_5 0 (by decide) lk_RX5_44 rfl rfl dX5_fill_44 ?_
      refine lv_if_le (tgt := 52) hx hb dX5_fill_47 (by decide) (fun c_47 => ?_) (fun c_47 => ?_)
      · exact absurd c_47 (by decide)
      · refine lv_iconst (v := 0) hx hb dX5_fill_50 (by decide) ?_
        exact sl_rz (v := 0) hC hr rfl hG (sl_up g 20 ((μ 0), .inr (5, [.int 2, .int ep, .int (sl_bi lo), .int (nI tl), .ref (μ 1), .int (nI n), .ref (μ 2), .ref (μ 3), .ref (μ 4), .ref (μ 5), .ref (μ 6), .ref (μ 7), .ref (μ 8), .ref (μ 9), .ref (μ 10), .ref (μ 11)]))) ⟨Or.inr (Or.inl ⟨b, rfl, by omega, Or.inl c_16, (sl_Mdl_up0 hM 2 ep tl lo (by omega))⟩), ((sl_fm.rf g).up _ (by omega))⟩ rfl (Nat.le_of_ble_eq_true rfl) (Nat.le_of_ble_eq_true rfl) dX5_fill_51
    · have c_16 := sl_bF c_16
      refine lv_iload_n hx hb dX5_fill_19 rfl (lv_at hl 1 rfl) ?_
      refine lv_aload_n hx hb dX5_fill_20 rfl (lv_at hl 0 rfl) ?_
      refine sl_get (C := RX5) (T := TX5) (N := 16) hC hG 20 h20 rfl la_5 3 (by decide) lk_RX5_59 rfl rfl dX5_fill_21 ?_
      refine lv_icmp_ge (tgt := 35) hx hb dX5_fill_24 (by decide) (fun c_24 => ?_) (fun c_24 => ?_)
      · have n_24 : tl ≤ b := (nI_leI (a := tl) (b := b) (by omega) (by omega)).mp c_24
        refine lv_iconst (v := 2) hx hb dX5_fill_35 (by decide) ?_
        refine lv_goto (tgt := 40) hx hb dX5_fill_36 (by decide) ?_
        refine sl_put (C := RX5) (T := TX5) (N := 16) (ty := .int) (v := .int 2) hC hG 20 h20 rfl la_5 tyX5 tyX5_ok nmX5 0 (by decide) lk_RX5_44 rfl rfl (by decide +kernel) rfl rfl (Nat.le_of_ble_eq_true rfl) dX5_fill_40 (fun H locs hG => ?_)
        have hG : sl_I Γ (sl_up g 20 ((μ 0), .inr (5, [.int 2, .int ep, .int (sl_bi lo), .int (nI tl), .ref (μ 1), .int (nI n), .ref (μ 2), .ref (μ 3), .ref (μ 4), .ref (μ 5), .ref (μ 6), .ref (μ 7), .ref (μ 8), .ref (μ 9), .ref (μ 10), .ref (μ 11)]))) s H _ := hG
        refine lv_aload_n hx hb dX5_fill_43 rfl (lv_at hl 0 rfl) ?_
        refine sl_get (C := RX5) (T := TX5) (N := 16) hC hG 20 (sl_up_s _ _ _) rfl la_5 0 (by decide) lk_RX5_44 rfl rfl dX5_fill_44 ?_
        refine lv_if_le (tgt := 52) hx hb dX5_fill_47 (by decide) (fun c_47 => ?_) (fun c_47 => ?_)
        · exact absurd c_47 (by decide)
        · refine lv_iconst (v := 0) hx hb dX5_fill_50 (by decide) ?_
          exact sl_rz (v := 0) hC hr rfl hG (sl_up g 20 ((μ 0), .inr (5, [.int 2, .int ep, .int (sl_bi lo), .int (nI tl), .ref (μ 1), .int (nI n), .ref (μ 2), .ref (μ 3), .ref (μ 4), .ref (μ 5), .ref (μ 6), .ref (μ 7), .ref (μ 8), .ref (μ 9), .ref (μ 10), .ref (μ 11)]))) ⟨Or.inr (Or.inl ⟨b, rfl, by omega, Or.inr (Or.inl n_24), (sl_Mdl_up0 hM 2 ep tl lo (by omega))⟩), ((sl_fm.rf g).up _ (by omega))⟩ rfl (Nat.le_of_ble_eq_true rfl) (Nat.le_of_ble_eq_true rfl) dX5_fill_51
      · have n_24 : ¬ (tl ≤ b) := fun z => c_24 ((nI_leI (a := tl) (b := b) (by omega) (by omega)).mpr z)
        refine lv_aload_n hx hb dX5_fill_27 rfl (lv_at hl 0 rfl) ?_
        refine lv_iload_n hx hb dX5_fill_28 rfl (lv_at hl 1 rfl) ?_
        refine sl_calli (sl_runV (As := [.int (nI b)]) (rest := [.ref (μ 0)]) hC hG (kX5_isWhole l Γ g μ n ep tl lo T C E th hM b (by omega)) mi_X5_isWhole lk_RX5_94 20 h20 rfl rfl rfl ⟨Nat.le_of_ble_eq_true rfl, Nat.le_of_ble_eq_true rfl⟩ rfl hl.1 rfl (Nat.le_of_ble_eq_true rfl) dX5_fill_29 ⟨Nat.le_of_ble_eq_true rfl, Nat.le_of_ble_eq_true rfl⟩) hG (fun r_29 u_29 H locs hr_29 hG => ?_)
        subst hr_29
        refine lv_if_eq (tgt := 39) hx hb dX5_fill_32 (by decide) (fun c_32 => ?_) (fun c_32 => ?_)
        · have c_32 := sl_bF c_32
          refine lv_iconst (v := 0) hx hb dX5_fill_39 (by decide) ?_
          refine sl_put (C := RX5) (T := TX5) (N := 16) (ty := .int) (v := .int 0) hC hG 20 h20 rfl la_5 tyX5 tyX5_ok nmX5 0 (by decide) lk_RX5_44 rfl rfl (by decide +kernel) rfl rfl (Nat.le_of_ble_eq_true rfl) dX5_fill_40 (fun H locs hG => ?_)
          have hG : sl_I Γ (sl_up g 20 ((μ 0), .inr (5, [.int 0, .int ep, .int (sl_bi lo), .int (nI tl), .ref (μ 1), .int (nI n), .ref (μ 2), .ref (μ 3), .ref (μ 4), .ref (μ 5), .ref (μ 6), .ref (μ 7), .ref (μ 8), .ref (μ 9), .ref (μ 10), .ref (μ 11)]))) s H _ := hG
          refine lv_aload_n hx hb dX5_fill_43 rfl (lv_at hl 0 rfl) ?_
          refine sl_get (C := RX5) (T := TX5) (N := 16) hC hG 20 (sl_up_s _ _ _) rfl la_5 0 (by decide) lk_RX5_44 rfl rfl dX5_fill_44 ?_
          refine lv_if_le (tgt := 52) hx hb dX5_fill_47 (by decide) (fun c_47 => ?_) (fun c_47 => ?_)
          · refine lv_aload_n hx hb dX5_fill_52 rfl (lv_at hl 0 rfl) ?_
            refine sl_get (C := RX5) (T := TX5) (N := 16) hC hG 20 (sl_up_s _ _ _) rfl la_5 14 (by decide) lk_RX5_37 rfl rfl dX5_fill_53 ?_
            refine lv_iload_n hx hb dX5_fill_56 rfl (lv_at hl 1 rfl) ?_
            refine sl_ialdN hC hG 30 (sl_up_to (by decide) h30) (j := b) rfl (by omega) (by omega) dX5_fill_57 ?_
            refine lv_if_lt (tgt := 70) hx hb dX5_fill_58 (by decide) (fun c_58 => ?_) (fun c_58 => ?_)
            · refine lv_iconst (v := (-1)) hx hb dX5_fill_70 (by decide) ?_
              refine lv_istore_n (lv' := [(2, .int (-1)), (0, .ref (μ 0)), (1, .int (nI b))]) hx hb dX5_fill_71 rfl hl (by decide) rfl (fun ls hl => ?_)
              refine lv_iconst (v := 0) hx hb dX5_fill_72 (by decide) ?_
              refine lv_istore_n (lv' := [(3, .int 0), (2, .int (-1)), (0, .ref (μ 0)), (1, .int (nI b))]) hx hb dX5_fill_73 rfl hl (by decide) rfl (fun ls hl => ?_)
              refine lv_iload_n hx hb dX5_fill_74 rfl (lv_at hl 0 rfl) ?_
              refine lv_iconst (v := 3) hx hb dX5_fill_75 (by decide) ?_
              refine lv_icmp_ge (tgt := 97) hx hb dX5_fill_76 (by decide) (fun c_76 => ?_) (fun c_76 => ?_)
              · exact absurd c_76 (by decide)
              · refine lv_aload_n hx hb dX5_fill_79 rfl (lv_at hl 2 rfl) ?_
                refine sl_get (C := RX5) (T := TX5) (N := 16) hC hG 20 (sl_up_s _ _ _) rfl la_5 14 (by decide) lk_RX5_37 rfl rfl dX5_fill_80 ?_
                refine lv_bipush (v := 120) hx hb dX5_fill_83 (by decide) ?_
                refine lv_iload_n hx hb dX5_fill_85 rfl (lv_at hl 0 rfl) ?_
                refine lv_imul hx hb dX5_fill_86 ?_
                refine sl_topi (y := 0) (by decide) ?_
                refine lv_iload_n hx hb dX5_fill_87 rfl (lv_at hl 3 rfl) ?_
                refine lv_iadd hx hb dX5_fill_88 ?_
                refine sl_topi (y := nI (0 + b)) (nI_add 0 b) ?_
                refine lv_iload_n hx hb dX5_fill_89 rfl (lv_at hl 1 rfl) ?_
                refine sl_iastN hC hG 30 (sl_up_to (by decide) h30) (j := b) (by rw [Nat.zero_add]) (by omega) (by omega) dX5_fill_90 (fun H locs hG => ?_)
                have hG : sl_I Γ (sl_up (sl_up g 20 ((μ 0), .inr (5, [.int 0, .int ep, .int (sl_bi lo), .int (nI tl), .ref (μ 1), .int (nI n), .ref (μ 2), .ref (μ 3), .ref (μ 4), .ref (μ 5), .ref (μ 6), .ref (μ 7), .ref (μ 8), .ref (μ 9), .ref (μ 10), .ref (μ 11)]))) 30 ((μ 10), .inl (Γ.2.1 0, 360, .inl (upd C b (-1))))) s H _ := hG
                refine lv_iinc (v := 1) (lv' := [(3, .int 1), (2, .int (-1)), (0, .ref (μ 0)), (1, .int (nI b))]) hx hb dX5_fill_91 hl (k := 0) rfl (by decide) (by decide) rfl (fun ls hl => ?_)
                refine lv_goto (tgt := 74) hx hb dX5_fill_94 (by decide) ?_
                refine lv_iload_n hx hb dX5_fill_74 rfl (lv_at hl 0 rfl) ?_
                refine lv_iconst (v := 3) hx hb dX5_fill_75 (by decide) ?_
                refine lv_icmp_ge (tgt := 97) hx hb dX5_fill_76 (by decide) (fun c_76 => ?_) (fun c_76 => ?_)
                · exact absurd c_76 (by decide)
                · refine lv_aload_n hx hb dX5_fill_79 rfl (lv_at hl 2 rfl) ?_
                  refine sl_get (C := RX5) (T := TX5) (N := 16) hC hG 20 (sl_up_to (by decide) (sl_up_s _ _ _)) rfl la_5 14 (by decide) lk_RX5_37 rfl rfl dX5_fill_80 ?_
                  refine lv_bipush (v := 120) hx hb dX5_fill_83 (by decide) ?_
                  refine lv_iload_n hx hb dX5_fill_85 rfl (lv_at hl 0 rfl) ?_
                  refine lv_imul hx hb dX5_fill_86 ?_
                  refine sl_topi (y := 120) (by decide) ?_
                  refine lv_iload_n hx hb dX5_fill_87 rfl (lv_at hl 3 rfl) ?_
                  refine lv_iadd hx hb dX5_fill_88 ?_
                  refine sl_topi (y := nI (120 + b)) (nI_add 120 b) ?_
                  refine lv_iload_n hx hb dX5_fill_89 rfl (lv_at hl 1 rfl) ?_
                  refine sl_iastN hC hG 30 (sl_up_s _ _ _) (j := 120 + b) rfl (by omega) (by omega) dX5_fill_90 (fun H locs hG => ?_)
                  rw [sl_up_up] at hG
                  have hG : sl_I Γ (sl_up (sl_up g 20 ((μ 0), .inr (5, [.int 0, .int ep, .int (sl_bi lo), .int (nI tl), .ref (μ 1), .int (nI n), .ref (μ 2), .ref (μ 3), .ref (μ 4), .ref (μ 5), .ref (μ 6), .ref (μ 7), .ref (μ 8), .ref (μ 9), .ref (μ 10), .ref (μ 11)]))) 30 ((μ 10), .inl (Γ.2.1 0, 360, .inl (upd (upd C b (-1)) (120 + b) (-1))))) s H _ := hG
                  refine lv_iinc (v := 2) (lv' := [(3, .int 2), (2, .int (-1)), (0, .ref (μ 0)), (1, .int (nI b))]) hx hb dX5_fill_91 hl (k := 0) rfl (by decide) (by decide) rfl (fun ls hl => ?_)
                  refine lv_goto (tgt := 74) hx hb dX5_fill_94 (by decide) ?_
                  refine lv_iload_n hx hb dX5_fill_74 rfl (lv_at hl 0 rfl) ?_
                  refine lv_iconst (v := 3) hx hb dX5_fill_75 (by decide) ?_
                  refine lv_icmp_ge (tgt := 97) hx hb dX5_fill_76 (by decide) (fun c_76 => ?_) (fun c_76 => ?_)
                  · exact absurd c_76 (by decide)
                  · refine lv_aload_n hx hb dX5_fill_79 rfl (lv_at hl 2 rfl) ?_
                    refine sl_get (C := RX5) (T := TX5) (N := 16) hC hG 20 (sl_up_to (by decide) (sl_up_s _ _ _)) rfl la_5 14 (by decide) lk_RX5_37 rfl rfl dX5_fill_80 ?_
                    refine lv_bipush (v := 120) hx hb dX5_fill_83 (by decide) ?_
                    refine lv_iload_n hx hb dX5_fill_85 rfl (lv_at hl 0 rfl) ?_
                    refine lv_imul hx hb dX5_fill_86 ?_
                    refine sl_topi (y := 240) (by decide) ?_
                    refine lv_iload_n hx hb dX5_fill_87 rfl (lv_at hl 3 rfl) ?_
                    refine lv_iadd hx hb dX5_fill_88 ?_
                    refine sl_topi (y := nI (240 + b)) (nI_add 240 b) ?_
                    refine lv_iload_n hx hb dX5_fill_89 rfl (lv_at hl 1 rfl) ?_
                    refine sl_iastN hC hG 30 (sl_up_s _ _ _) (j := 240 + b) rfl (by omega) (by omega) dX5_fill_90 (fun H locs hG => ?_)
                    rw [sl_up_up] at hG
                    have hG : sl_I Γ (sl_up (sl_up g 20 ((μ 0), .inr (5, [.int 0, .int ep, .int (sl_bi lo), .int (nI tl), .ref (μ 1), .int (nI n), .ref (μ 2), .ref (μ 3), .ref (μ 4), .ref (μ 5), .ref (μ 6), .ref (μ 7), .ref (μ 8), .ref (μ 9), .ref (μ 10), .ref (μ 11)]))) 30 ((μ 10), .inl (Γ.2.1 0, 360, .inl (upd (upd (upd C b (-1)) (120 + b) (-1)) (240 + b) (-1))))) s H _ := hG
                    refine lv_iinc (v := 3) (lv' := [(3, .int 3), (2, .int (-1)), (0, .ref (μ 0)), (1, .int (nI b))]) hx hb dX5_fill_91 hl (k := 0) rfl (by decide) (by decide) rfl (fun ls hl => ?_)
                    refine lv_goto (tgt := 74) hx hb dX5_fill_94 (by decide) ?_
                    refine lv_iload_n hx hb dX5_fill_74 rfl (lv_at hl 0 rfl) ?_
                    refine lv_iconst (v := 3) hx hb dX5_fill_75 (by decide) ?_
                    refine lv_icmp_ge (tgt := 97) hx hb dX5_fill_76 (by decide) (fun c_76 => ?_) (fun c_76 => ?_)
                    · refine lv_iload_n hx hb dX5_fill_97 rfl (lv_at hl 1 rfl) ?_
                      refine lv_if_lt (tgt := 105) hx hb dX5_fill_98 (by decide) (fun c_98 => ?_) (fun c_98 => ?_)
                      · refine lv_iconst (v := 0) hx hb dX5_fill_105 (by decide) ?_
                        have e1 : (sl_tok n (C b)).isSome = false := by rw [sl_tok_isS hn9 (hC9 b (by omega)), decide_eq_true c_58]; rfl
                        have e2 : (if (sl_tok n (C b)).isSome = true then C b else -1) = (-1) := by rw [e1]; rfl
                        exact sl_rz (v := 0) hC hr rfl hG (sl_up (sl_up g 20 ((μ 0), .inr (5, [.int 0, .int ep, .int (sl_bi lo), .int (nI tl), .ref (μ 1), .int (nI n), .ref (μ 2), .ref (μ 3), .ref (μ 4), .ref (μ 5), .ref (μ 6), .ref (μ 7), .ref (μ 8), .ref (μ 9), .ref (μ 10), .ref (μ 11)]))) 30 ((μ 10), .inl (Γ.2.1 0, 360, .inl (upd (upd (upd C b (-1)) (120 + b) (-1)) (240 + b) (-1))))) ⟨Or.inl ⟨b, rfl, by omega, c_16, by omega, c_32, by rw [e1]; rfl, by rw [e2]; exact sl_Mdl_up10 (sl_Mdl_up0 hM 0 ep tl lo (by omega)) (sl_mf C b (-1)) (sl_ce_upd (sl_ce_upd (sl_ce_upd hC9 (Or.inl rfl)) (Or.inl rfl)) (Or.inl rfl))⟩, (((sl_fm.rf g).up _ (by omega)).up _ (by omega))⟩ rfl (Nat.le_of_ble_eq_true rfl) (Nat.le_of_ble_eq_true rfl) dX5_fill_106
                      · exact absurd c_98 (by decide)
                    · exact absurd c_76 (by decide)
            · refine lv_aload_n hx hb dX5_fill_61 rfl (lv_at hl 0 rfl) ?_
              refine sl_get (C := RX5) (T := TX5) (N := 16) hC hG 20 (sl_up_s _ _ _) rfl la_5 14 (by decide) lk_RX5_37 rfl rfl dX5_fill_62 ?_
              refine lv_iload_n hx hb dX5_fill_65 rfl (lv_at hl 1 rfl) ?_
              refine sl_ialdN hC hG 30 (sl_up_to (by decide) h30) (j := b) rfl (by omega) (by omega) dX5_fill_66 ?_
              refine lv_goto (tgt := 71) hx hb dX5_fill_67 (by decide) ?_
              refine lv_istore_n (lv' := [(2, .int (C b)), (0, .ref (μ 0)), (1, .int (nI b))]) hx hb dX5_fill_71 rfl hl (by decide) rfl (fun ls hl => ?_)
              refine lv_iconst (v := 0) hx hb dX5_fill_72 (by decide) ?_
              refine lv_istore_n (lv' := [(3, .int 0), (2, .int (C b)), (0, .ref (μ 0)), (1, .int (nI b))]) hx hb dX5_fill_73 rfl hl (by decide) rfl (fun ls hl => ?_)
              refine lv_iload_n hx hb dX5_fill_74 rfl (lv_at hl 0 rfl) ?_
              refine lv_iconst (v := 3) hx hb dX5_fill_75 (by decide) ?_
              refine lv_icmp_ge (tgt := 97) hx hb dX5_fill_76 (by decide) (fun c_76 => ?_) (fun c_76 => ?_)
              · exact absurd c_76 (by decide)
              · refine lv_aload_n hx hb dX5_fill_79 rfl (lv_at hl 2 rfl) ?_
                refine sl_get (C := RX5) (T := TX5) (N := 16) hC hG 20 (sl_up_s _ _ _) rfl la_5 14 (by decide) lk_RX5_37 rfl rfl dX5_fill_80 ?_
                refine lv_bipush (v := 120) hx hb dX5_fill_83 (by decide) ?_
                refine lv_iload_n hx hb dX5_fill_85 rfl (lv_at hl 0 rfl) ?_
                refine lv_imul hx hb dX5_fill_86 ?_
                refine sl_topi (y := 0) (by decide) ?_
                refine lv_iload_n hx hb dX5_fill_87 rfl (lv_at hl 3 rfl) ?_
                refine lv_iadd hx hb dX5_fill_88 ?_
                refine sl_topi (y := nI (0 + b)) (nI_add 0 b) ?_
                refine lv_iload_n hx hb dX5_fill_89 rfl (lv_at hl 1 rfl) ?_
                refine sl_iastN hC hG 30 (sl_up_to (by decide) h30) (j := b) (by rw [Nat.zero_add]) (by omega) (by omega) dX5_fill_90 (fun H locs hG => ?_)
                have hG : sl_I Γ (sl_up (sl_up g 20 ((μ 0), .inr (5, [.int 0, .int ep, .int (sl_bi lo), .int (nI tl), .ref (μ 1), .int (nI n), .ref (μ 2), .ref (μ 3), .ref (μ 4), .ref (μ 5), .ref (μ 6), .ref (μ 7), .ref (μ 8), .ref (μ 9), .ref (μ 10), .ref (μ 11)]))) 30 ((μ 10), .inl (Γ.2.1 0, 360, .inl (upd C b (C b))))) s H _ := hG
                refine lv_iinc (v := 1) (lv' := [(3, .int 1), (2, .int (C b)), (0, .ref (μ 0)), (1, .int (nI b))]) hx hb dX5_fill_91 hl (k := 0) rfl (by decide) (by decide) rfl (fun ls hl => ?_)
                refine lv_goto (tgt := 74) hx hb dX5_fill_94 (by decide) ?_
                refine lv_iload_n hx hb dX5_fill_74 rfl (lv_at hl 0 rfl) ?_
                refine lv_iconst (v := 3) hx hb dX5_fill_75 (by decide) ?_
                refine lv_icmp_ge (tgt := 97) hx hb dX5_fill_76 (by decide) (fun c_76 => ?_) (fun c_76 => ?_)
                · exact absurd c_76 (by decide)
                · refine lv_aload_n hx hb dX5_fill_79 rfl (lv_at hl 2 rfl) ?_
                  refine sl_get (C := RX5) (T := TX5) (N := 16) hC hG 20 (sl_up_to (by decide) (sl_up_s _ _ _)) rfl la_5 14 (by decide) lk_RX5_37 rfl rfl dX5_fill_80 ?_
                  refine lv_bipush (v := 120) hx hb dX5_fill_83 (by decide) ?_
                  refine lv_iload_n hx hb dX5_fill_85 rfl (lv_at hl 0 rfl) ?_
                  refine lv_imul hx hb dX5_fill_86 ?_
                  refine sl_topi (y := 120) (by decide) ?_
                  refine lv_iload_n hx hb dX5_fill_87 rfl (lv_at hl 3 rfl) ?_
                  refine lv_iadd hx hb dX5_fill_88 ?_
                  refine sl_topi (y := nI (120 + b)) (nI_add 120 b) ?_
                  refine lv_iload_n hx hb dX5_fill_89 rfl (lv_at hl 1 rfl) ?_
                  refine sl_iastN hC hG 30 (sl_up_s _ _ _) (j := 120 + b) rfl (by omega) (by omega) dX5_fill_90 (fun H locs hG => ?_)
                  rw [sl_up_up] at hG
                  have hG : sl_I Γ (sl_up (sl_up g 20 ((μ 0), .inr (5, [.int 0, .int ep, .int (sl_bi lo), .int (nI tl), .ref (μ 1), .int (nI n), .ref (μ 2), .ref (μ 3), .ref (μ 4), .ref (μ 5), .ref (μ 6), .ref (μ 7), .ref (μ 8), .ref (μ 9), .ref (μ 10), .ref (μ 11)]))) 30 ((μ 10), .inl (Γ.2.1 0, 360, .inl (upd (upd C b (C b)) (120 + b) (C b))))) s H _ := hG
                  refine lv_iinc (v := 2) (lv' := [(3, .int 2), (2, .int (C b)), (0, .ref (μ 0)), (1, .int (nI b))]) hx hb dX5_fill_91 hl (k := 0) rfl (by decide) (by decide) rfl (fun ls hl => ?_)
                  refine lv_goto (tgt := 74) hx hb dX5_fill_94 (by decide) ?_
                  refine lv_iload_n hx hb dX5_fill_74 rfl (lv_at hl 0 rfl) ?_
                  refine lv_iconst (v := 3) hx hb dX5_fill_75 (by decide) ?_
                  refine lv_icmp_ge (tgt := 97) hx hb dX5_fill_76 (by decide) (fun c_76 => ?_) (fun c_76 => ?_)
                  · exact absurd c_76 (by decide)
                  · refine lv_aload_n hx hb dX5_fill_79 rfl (lv_at hl 2 rfl) ?_
                    refine sl_get (C := RX5) (T := TX5) (N := 16) hC hG 20 (sl_up_to (by decide) (sl_up_s _ _ _)) rfl la_5 14 (by decide) lk_RX5_37 rfl rfl dX5_fill_80 ?_
                    refine lv_bipush (v := 120) hx hb dX5_fill_83 (by decide) ?_
                    refine lv_iload_n hx hb dX5_fill_85 rfl (lv_at hl 0 rfl) ?_
                    refine lv_imul hx hb dX5_fill_86 ?_
                    refine sl_topi (y := 240) (by decide) ?_
                    refine lv_iload_n hx hb dX5_fill_87 rfl (lv_at hl 3 rfl) ?_
                    refine lv_iadd hx hb dX5_fill_88 ?_
                    refine sl_topi (y := nI (240 + b)) (nI_add 240 b) ?_
                    refine lv_iload_n hx hb dX5_fill_89 rfl (lv_at hl 1 rfl) ?_
                    refine sl_iastN hC hG 30 (sl_up_s _ _ _) (j := 240 + b) rfl (by omega) (by omega) dX5_fill_90 (fun H locs hG => ?_)
                    rw [sl_up_up] at hG
                    have hG : sl_I Γ (sl_up (sl_up g 20 ((μ 0), .inr (5, [.int 0, .int ep, .int (sl_bi lo), .int (nI tl), .ref (μ 1), .int (nI n), .ref (μ 2), .ref (μ 3), .ref (μ 4), .ref (μ 5), .ref (μ 6), .ref (μ 7), .ref (μ 8), .ref (μ 9), .ref (μ 10), .ref (μ 11)]))) 30 ((μ 10), .inl (Γ.2.1 0, 360, .inl (upd (upd (upd C b (C b)) (120 + b) (C b)) (240 + b) (C b))))) s H _ := hG
                    refine lv_iinc (v := 3) (lv' := [(3, .int 3), (2, .int (C b)), (0, .ref (μ 0)), (1, .int (nI b))]) hx hb dX5_fill_91 hl (k := 0) rfl (by decide) (by decide) rfl (fun ls hl => ?_)
                    refine lv_goto (tgt := 74) hx hb dX5_fill_94 (by decide) ?_
                    refine lv_iload_n hx hb dX5_fill_74 rfl (lv_at hl 0 rfl) ?_
                    refine lv_iconst (v := 3) hx hb dX5_fill_75 (by decide) ?_
                    refine lv_icmp_ge (tgt := 97) hx hb dX5_fill_76 (by decide) (fun c_76 => ?_) (fun c_76 => ?_)
                    · refine lv_iload_n hx hb dX5_fill_97 rfl (lv_at hl 1 rfl) ?_
                      refine lv_if_lt (tgt := 105) hx hb dX5_fill_98 (by decide) (fun c_98 => ?_) (fun c_98 => ?_)
                      · exact absurd c_98 c_58
                      · refine lv_iconst (v := 1) hx hb dX5_fill_101 (by decide) ?_
                        refine lv_goto (tgt := 106) hx hb dX5_fill_102 (by decide) ?_
                        have e1 : (sl_tok n (C b)).isSome = true := by rw [sl_tok_isS hn9 (hC9 b (by omega)), decide_eq_false c_58]; rfl
                        have e2 : (if (sl_tok n (C b)).isSome = true then C b else -1) = C b := by rw [e1]; rfl
                        exact sl_rz (v := 1) hC hr rfl hG (sl_up (sl_up g 20 ((μ 0), .inr (5, [.int 0, .int ep, .int (sl_bi lo), .int (nI tl), .ref (μ 1), .int (nI n), .ref (μ 2), .ref (μ 3), .ref (μ 4), .ref (μ 5), .ref (μ 6), .ref (μ 7), .ref (μ 8), .ref (μ 9), .ref (μ 10), .ref (μ 11)]))) 30 ((μ 10), .inl (Γ.2.1 0, 360, .inl (upd (upd (upd C b (C b)) (120 + b) (C b)) (240 + b) (C b))))) ⟨Or.inl ⟨b, rfl, by omega, c_16, by omega, c_32, by rw [e1]; rfl, by rw [e2]; exact sl_Mdl_up10 (sl_Mdl_up0 hM 0 ep tl lo (by omega)) (sl_mf C b (C b)) (sl_ce_upd (sl_ce_upd (sl_ce_upd hC9 (hC9 b (by omega))) (hC9 b (by omega))) (hC9 b (by omega)))⟩, (((sl_fm.rf g).up _ (by omega)).up _ (by omega))⟩ rfl (Nat.le_of_ble_eq_true rfl) (Nat.le_of_ble_eq_true rfl) dX5_fill_106
                    · exact absurd c_76 (by decide)
          · exact absurd c_47 (by decide)
        · have c_32 := sl_bT c_32
          refine lv_iconst (v := 2) hx hb dX5_fill_35 (by decide) ?_
          refine lv_goto (tgt := 40) hx hb dX5_fill_36 (by decide) ?_
          refine sl_put (C := RX5) (T := TX5) (N := 16) (ty := .int) (v := .int 2) hC hG 20 h20 rfl la_5 tyX5 tyX5_ok nmX5 0 (by decide) lk_RX5_44 rfl rfl (by decide +kernel) rfl rfl (Nat.le_of_ble_eq_true rfl) dX5_fill_40 (fun H locs hG => ?_)
          have hG : sl_I Γ (sl_up g 20 ((μ 0), .inr (5, [.int 2, .int ep, .int (sl_bi lo), .int (nI tl), .ref (μ 1), .int (nI n), .ref (μ 2), .ref (μ 3), .ref (μ 4), .ref (μ 5), .ref (μ 6), .ref (μ 7), .ref (μ 8), .ref (μ 9), .ref (μ 10), .ref (μ 11)]))) s H _ := hG
          refine lv_aload_n hx hb dX5_fill_43 rfl (lv_at hl 0 rfl) ?_
          refine sl_get (C := RX5) (T := TX5) (N := 16) hC hG 20 (sl_up_s _ _ _) rfl la_5 0 (by decide) lk_RX5_44 rfl rfl dX5_fill_44 ?_
          refine lv_if_le (tgt := 52) hx hb dX5_fill_47 (by decide) (fun c_47 => ?_) (fun c_47 => ?_)
          · exact absurd c_47 (by decide)
          · refine lv_iconst (v := 0) hx hb dX5_fill_50 (by decide) ?_
            exact sl_rz (v := 0) hC hr rfl hG (sl_up g 20 ((μ 0), .inr (5, [.int 2, .int ep, .int (sl_bi lo), .int (nI tl), .ref (μ 1), .int (nI n), .ref (μ 2), .ref (μ 3), .ref (μ 4), .ref (μ 5), .ref (μ 6), .ref (μ 7), .ref (μ 8), .ref (μ 9), .ref (μ 10), .ref (μ 11)]))) ⟨Or.inr (Or.inl ⟨b, rfl, by omega, Or.inr (Or.inr c_32), (sl_Mdl_up0 hM 2 ep tl lo (by omega))⟩), ((sl_fm.rf g).up _ (by omega))⟩ rfl (Nat.le_of_ble_eq_true rfl) (Nat.le_of_ble_eq_true rfl) dX5_fill_51
  · have c_5 := sl_bF c_5
    refine lv_iconst (v := 1) hx hb dX5_fill_8 (by decide) ?_
    refine lv_goto (tgt := 40) hx hb dX5_fill_9 (by decide) ?_
    refine sl_put (C := RX5) (T := TX5) (N := 16) (ty := .int) (v := .int 1) hC hG 20 h20 rfl la_5 tyX5 tyX5_ok nmX5 0 (by decide) lk_RX5_44 rfl rfl (by decide +kernel) rfl rfl (Nat.le_of_ble_eq_true rfl) dX5_fill_40 (fun H locs hG => ?_)
    have hG : sl_I Γ (sl_up g 20 ((μ 0), .inr (5, [.int 1, .int ep, .int (sl_bi lo), .int (nI tl), .ref (μ 1), .int (nI n), .ref (μ 2), .ref (μ 3), .ref (μ 4), .ref (μ 5), .ref (μ 6), .ref (μ 7), .ref (μ 8), .ref (μ 9), .ref (μ 10), .ref (μ 11)]))) s H _ := hG
    refine lv_aload_n hx hb dX5_fill_43 rfl (lv_at hl 0 rfl) ?_
    refine sl_get (C := RX5) (T := TX5) (N := 16) hC hG 20 (sl_up_s _ _ _) rfl la_5 0 (by decide) lk_RX5_44 rfl rfl dX5_fill_44 ?_
    refine lv_if_le (tgt := 52) hx hb dX5_fill_47 (by decide) (fun c_47 => ?_) (fun c_47 => ?_)
    · exact absurd c_47 (by decide)
    · refine lv_iconst (v := 0) hx hb dX5_fill_50 (by decide) ?_
      exact sl_rz (v := 0) hC hr rfl hG (sl_up g 20 ((μ 0), .inr (5, [.int 1, .int ep, .int (sl_bi lo), .int (nI tl), .ref (μ 1), .int (nI n), .ref (μ 2), .ref (μ 3), .ref (μ 4), .ref (μ 5), .ref (μ 6), .ref (μ 7), .ref (μ 8), .ref (μ 9), .ref (μ 10), .ref (μ 11)]))) ⟨Or.inr (Or.inr ⟨c_5, (sl_Mdl_up0 hM 1 ep tl lo (by omega))⟩), ((sl_fm.rf g).up _ (by omega))⟩ rfl (Nat.le_of_ble_eq_true rfl) (Nat.le_of_ble_eq_true rfl) dX5_fill_51
set_option maxHeartbeats 4000000 in
set_option maxRecDepth 100000 in
theorem kX5_isAsked (l : Launch) (Γ : sl_G) (g : sl_W) (μ : Nat → Nat) (n : Nat) (ep : Int32) (tl : Nat) (lo : Bool) (T C : Nat → Int32) (E : Nat → sl_Ent) (th : Int32) (hM : sl_Mdl Γ μ n ep tl lo T C E th g) (x y : Int32) : Met l yX5_isAsked [Cond.code yX5_isAsked cX5_isAsked 3 (some .boolean)] ({ frames := 2, cells := 0, slots := 0, locals := 42 } : Room) (va_Pc [.ref (μ 0), .int x, .int y] (sl_B Γ g)) (sl_Qi Γ (fun r g' => r = sl_bi (sl_in x 0 3 && sl_in y 0 (nI (sl_kn C))) ∧ sl_Mdl Γ μ n ep tl lo T C E (if (sl_in x 0 3 && sl_in y 0 (nI (sl_kn C))) = true then 0 else 1) g' ∧ sl_fm g g') (fun g' => g')) 0 0 (sl_A Γ) := by
  refine sl_ent (by decide) (Nat.le_of_ble_eq_true rfl) ?_
  intro p e s m below meth c ls hC hr hin hG hl
  have hx := hC.1
  have hb := hC.2.1
  have hl : lv_has ls 3 [(0, .ref (μ 0)), (1, .int x), (2, .int y)] := hl
  obtain ⟨h20, h21, h22, h23, h24, h25, h26, h27, h28, h29, h30, ⟨F, h31⟩, hn9, ht9, hC9, hE9, hZ9⟩ := id hM
  refine lv_aload_n hx hb dX5_isAsked_0 rfl (lv_at hl 0 rfl) ?_
  refine lv_iload_n hx hb dX5_isAsked_1 rfl (lv_at hl 1 rfl) ?_
  refine lv_iconst (v := 0) hx hb dX5_isAsked_2 (by decide) ?_
  refine lv_iconst (v := 3) hx hb dX5_isAsked_3 (by decide) ?_
  refine sl_calli (sl_runS (As := [.int x, .int 0, .int 3]) (rest := [.ref (μ 0)]) hC hG (kX5_in l Γ g x 0 3) mi_X5_in lk_RX5_48 rfl rfl ⟨Nat.le_of_ble_eq_true rfl, Nat.le_of_ble_eq_true rfl⟩ rfl hl.1 rfl (Nat.le_of_ble_eq_true rfl) dX5_isAsked_4 ⟨Nat.le_of_ble_eq_true rfl, Nat.le_of_ble_eq_true rfl⟩) hG (fun r_4 u_4 H locs hr_4 hG => ?_)
  subst hr_4
  refine lv_if_eq (tgt := 26) hx hb dX5_isAsked_7 (by decide) (fun c_7 => ?_) (fun c_7 => ?_)
  · have c_7 := sl_bF c_7
    refine lv_iconst (v := 1) hx hb dX5_isAsked_26 (by decide) ?_
    refine sl_put (C := RX5) (T := TX5) (N := 16) (ty := .int) (v := .int 1) hC hG 20 h20 rfl la_5 tyX5 tyX5_ok nmX5 0 (by decide) lk_RX5_44 rfl rfl (by decide +kernel) rfl rfl (Nat.le_of_ble_eq_true rfl) dX5_isAsked_27 (fun H locs hG => ?_)
    have hG : sl_I Γ (sl_up g 20 ((μ 0), .inr (5, [.int 1, .int ep, .int (sl_bi lo), .int (nI tl), .ref (μ 1), .int (nI n), .ref (μ 2), .ref (μ 3), .ref (μ 4), .ref (μ 5), .ref (μ 6), .ref (μ 7), .ref (μ 8), .ref (μ 9), .ref (μ 10), .ref (μ 11)]))) s H _ := hG
    refine lv_aload_n hx hb dX5_isAsked_30 rfl (lv_at hl 0 rfl) ?_
    refine sl_get (C := RX5) (T := TX5) (N := 16) hC hG 20 (sl_up_s _ _ _) rfl la_5 0 (by decide) lk_RX5_44 rfl rfl dX5_isAsked_31 ?_
    refine lv_if_ne (tgt := 41) hx hb dX5_isAsked_34 (by decide) (fun c_34 => ?_) (fun c_34 => ?_)
    · refine lv_iconst (v := 0) hx hb dX5_isAsked_41 (by decide) ?_
      have e1 : (sl_in x 0 3 && sl_in y 0 (nI (sl_kn C))) = false := by rw [c_7]; rfl
      exact sl_rz (v := 0) hC hr rfl hG (sl_up g 20 ((μ 0), .inr (5, [.int 1, .int ep, .int (sl_bi lo), .int (nI tl), .ref (μ 1), .int (nI n), .ref (μ 2), .ref (μ 3), .ref (μ 4), .ref (μ 5), .ref (μ 6), .ref (μ 7), .ref (μ 8), .ref (μ 9), .ref (μ 10), .ref (μ 11)]))) ⟨by rw [e1]; rfl, by rw [e1]; exact (sl_Mdl_up0 hM 1 ep tl lo (by omega)), ((sl_fm.rf g).up _ (by omega))⟩ rfl (Nat.le_of_ble_eq_true rfl) (Nat.le_of_ble_eq_true rfl) dX5_isAsked_42
    · exact absurd c_34 (by decide)
  · have c_7 := sl_bT c_7
    refine lv_iload_n hx hb dX5_isAsked_10 rfl (lv_at hl 2 rfl) ?_
    refine lv_iconst (v := 0) hx hb dX5_isAsked_11 (by decide) ?_
    refine lv_aload_n hx hb dX5_isAsked_12 rfl (lv_at hl 0 rfl) ?_
    refine sl_calli (sl_runV (As := []) (rest := [.int 0, .int y, .ref (μ 0)]) hC hG (kX5_knownMany l Γ g μ n ep tl lo T C E th hM) mi_X5_knownMany lk_RX5_101 20 h20 rfl rfl rfl ⟨Nat.le_of_ble_eq_true rfl, Nat.le_of_ble_eq_true rfl⟩ rfl hl.1 rfl (Nat.le_of_ble_eq_true rfl) dX5_isAsked_13 ⟨Nat.le_of_ble_eq_true rfl, Nat.le_of_ble_eq_true rfl⟩) hG (fun r_13 u_13 H locs hr_13 hG => ?_)
    subst hr_13
    refine sl_calli (sl_runS (As := [.int y, .int 0, .int (nI (sl_kn C))]) (rest := [.ref (μ 0)]) hC hG (kX5_in l Γ g y 0 (nI (sl_kn C))) mi_X5_in lk_RX5_48 rfl rfl ⟨Nat.le_of_ble_eq_true rfl, Nat.le_of_ble_eq_true rfl⟩ rfl hl.1 rfl (Nat.le_of_ble_eq_true rfl) dX5_isAsked_16 ⟨Nat.le_of_ble_eq_true rfl, Nat.le_of_ble_eq_true rfl⟩) hG (fun r_16 u_16 H locs hr_16 hG => ?_)
    subst hr_16
    refine lv_if_eq (tgt := 26) hx hb dX5_isAsked_19 (by decide) (fun c_19 => ?_) (fun c_19 => ?_)
    · have c_19 := sl_bF c_19
      refine lv_iconst (v := 1) hx hb dX5_isAsked_26 (by decide) ?_
      refine sl_put (C := RX5) (T := TX5) (N := 16) (ty := .int) (v := .int 1) hC hG 20 h20 rfl la_5 tyX5 tyX5_ok nmX5 0 (by decide) lk_RX5_44 rfl rfl (by decide +kernel) rfl rfl (Nat.le_of_ble_eq_true rfl) dX5_isAsked_27 (fun H locs hG => ?_)
      have hG : sl_I Γ (sl_up g 20 ((μ 0), .inr (5, [.int 1, .int ep, .int (sl_bi lo), .int (nI tl), .ref (μ 1), .int (nI n), .ref (μ 2), .ref (μ 3), .ref (μ 4), .ref (μ 5), .ref (μ 6), .ref (μ 7), .ref (μ 8), .ref (μ 9), .ref (μ 10), .ref (μ 11)]))) s H _ := hG
      refine lv_aload_n hx hb dX5_isAsked_30 rfl (lv_at hl 0 rfl) ?_
      refine sl_get (C := RX5) (T := TX5) (N := 16) hC hG 20 (sl_up_s _ _ _) rfl la_5 0 (by decide) lk_RX5_44 rfl rfl dX5_isAsked_31 ?_
      refine lv_if_ne (tgt := 41) hx hb dX5_isAsked_34 (by decide) (fun c_34 => ?_) (fun c_34 => ?_)
      · refine lv_iconst (v := 0) hx hb dX5_isAsked_41 (by decide) ?_
        have e1 : (sl_in x 0 3 && sl_in y 0 (nI (sl_kn C))) = false := by rw [c_19]; exact Bool.and_false _
        exact sl_rz (v := 0) hC hr rfl hG (sl_up g 20 ((μ 0), .inr (5, [.int 1, .int ep, .int (sl_bi lo), .int (nI tl), .ref (μ 1), .int (nI n), .ref (μ 2), .ref (μ 3), .ref (μ 4), .ref (μ 5), .ref (μ 6), .ref (μ 7), .ref (μ 8), .ref (μ 9), .ref (μ 10), .ref (μ 11)]))) ⟨by rw [e1]; rfl, by rw [e1]; exact (sl_Mdl_up0 hM 1 ep tl lo (by omega)), ((sl_fm.rf g).up _ (by omega))⟩ rfl (Nat.le_of_ble_eq_true rfl) (Nat.le_of_ble_eq_true rfl) dX5_isAsked_42
      · exact absurd c_34 (by decide)
    · have c_19 := sl_bT c_19
      refine lv_iconst (v := 0) hx hb dX5_isAsked_22 (by decide) ?_
      refine lv_goto (tgt := 27) hx hb dX5_isAsked_23 (by decide) ?_
      refine sl_put (C := RX5) (T := TX5) (N := 16) (ty := .int) (v := .int 0) hC hG 20 h20 rfl la_5 tyX5 tyX5_ok nmX5 0 (by decide) lk_RX5_44 rfl rfl (by decide +kernel) rfl rfl (Nat.le_of_ble_eq_true rfl) dX5_isAsked_27 (fun H locs hG => ?_)
      have hG : sl_I Γ (sl_up g 20 ((μ 0), .inr (5, [.int 0, .int ep, .int (sl_bi lo), .int (nI tl), .ref (μ 1), .int (nI n), .ref (μ 2), .ref (μ 3), .ref (μ 4), .ref (μ 5), .ref (μ 6), .ref (μ 7), .ref (μ 8), .ref (μ 9), .ref (μ 10), .ref (μ 11)]))) s H _ := hG
      refine lv_aload_n hx hb dX5_isAsked_30 rfl (lv_at hl 0 rfl) ?_
      refine sl_get (C := RX5) (T := TX5) (N := 16) hC hG 20 (sl_up_s _ _ _) rfl la_5 0 (by decide) lk_RX5_44 rfl rfl dX5_isAsked_31 ?_
      refine lv_if_ne (tgt := 41) hx hb dX5_isAsked_34 (by decide) (fun c_34 => ?_) (fun c_34 => ?_)
      · exact absurd c_34 (by decide)
      · refine lv_iconst (v := 1) hx hb dX5_isAsked_37 (by decide) ?_
        refine lv_goto (tgt := 42) hx hb dX5_isAsked_38 (by decide) ?_
        have e1 : (sl_in x 0 3 && sl_in y 0 (nI (sl_kn C))) = true := sl_and_t c_7 c_19
        exact sl_rz (v := 1) hC hr rfl hG (sl_up g 20 ((μ 0), .inr (5, [.int 0, .int ep, .int (sl_bi lo), .int (nI tl), .ref (μ 1), .int (nI n), .ref (μ 2), .ref (μ 3), .ref (μ 4), .ref (μ 5), .ref (μ 6), .ref (μ 7), .ref (μ 8), .ref (μ 9), .ref (μ 10), .ref (μ 11)]))) ⟨by rw [e1]; rfl, by rw [e1]; exact (sl_Mdl_up0 hM 0 ep tl lo (by omega)), ((sl_fm.rf g).up _ (by omega))⟩ rfl (Nat.le_of_ble_eq_true rfl) (Nat.le_of_ble_eq_true rfl) dX5_isAsked_42
