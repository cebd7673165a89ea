/-! the reference's calls: the simple ones, and handing out -/
theorem sl_up_mid2 (g : sl_W) {a b : Nat} (x y z : Nat × va_E) (h : a ≠ b) : sl_up (sl_up (sl_up g a x) b y) a z = sl_up (sl_up g a z) b y := by
  rw [sl_up_mid, sl_up_comm g y z (Ne.symm h)]
/-- the pointers' row while a token's are laid -/
def sl_pn (Q : Nat → Int32) (n : Nat) (X : Nat → Int32) (k : Nat) : Nat → Int32 := fun j => if 16 * n ≤ j ∧ j < 16 * n + 4 * k then X (j - 16 * n) else Q j
theorem sl_pn_0 (Q : Nat → Int32) (n : Nat) (X : Nat → Int32) : Q = sl_pn Q n X 0 := by
  funext j
  rw [sl_pn, if_neg (by omega)]
theorem sl_pn_4 {Q X : Nat → Int32} {n k : Nat} {x0 x1 x2 x3 : Int32} (h0 : x0 = X (4 * k + 0)) (h1 : x1 = X (4 * k + 1)) (h2 : x2 = X (4 * k + 2)) (h3 : x3 = X (4 * k + 3)) : upd (upd (upd (upd (sl_pn Q n X k) (16 * n + 4 * k + 0) x0) (16 * n + 4 * k + 1) x1) (16 * n + 4 * k + 2) x2) (16 * n + 4 * k + 3) x3 = sl_pn Q n X (k + 1) := by
  subst h0 h1 h2 h3
  funext j
  by_cases e3 : j = 16 * n + 4 * k + 3
  · subst e3; rw [pk_us, sl_pn, if_pos (by omega)]; congr 1; omega
  · rw [pk_un e3]
    by_cases e2 : j = 16 * n + 4 * k + 2
    · subst e2; rw [pk_us, sl_pn, if_pos (by omega)]; congr 1; omega
    · rw [pk_un e2]
      by_cases e1 : j = 16 * n + 4 * k + 1
      · subst e1; rw [pk_us, sl_pn, if_pos (by omega)]; congr 1; omega
      · rw [pk_un e1]
        by_cases e0 : j = 16 * n + 4 * k + 0
        · subst e0; rw [pk_us, sl_pn, if_pos (by omega)]; congr 1; omega
        · rw [pk_un e0, sl_pn, sl_pn]
          by_cases h : 16 * n ≤ j ∧ j < 16 * n + 4 * k
          · rw [if_pos h, if_pos (by omega)]
          · rw [if_neg h, if_neg (by omega)]
theorem sl_tp_keep (T : Nat → Int32) (ss z : Int32) : ∀ (k j : Nat), 4 * k ≤ j → sl_tp T ss z k j = T j
  | 0, j, _ => rfl
  | k + 1, j, h => by
    rw [sl_tp]
    split
    · rw [sl_t1, pk_un (by omega), pk_un (by omega), pk_un (by omega), pk_un (by omega)]
      exact sl_tp_keep T ss z k j (by omega)
    · exact sl_tp_keep T ss z k j (by omega)
theorem sl_tc_in {T : Nat → Int32} {ss : Int32} {k i : Nat} (hk : k < 4) (hi : i < 4) : sl_tc T ss 4 (4 * k + i) = if sl_has ss (nI k) = true then T (4 * k + i) else -1 := by
  rw [sl_tc, show (4 * k + i) / 4 = k by omega]
  by_cases h : sl_has ss (nI k) = true
  · rw [if_pos ⟨by omega, h⟩, if_pos h]
  · rw [if_neg (fun w => h w.2), if_neg h]
theorem sl_pn_y {T : Nat → Int32} {ss z : Int32} {k i : Nat} (hk : k < 4) (hi : i < 4) (h : ss >>> (nI k &&& 31) &&& 1 = 1) : sl_tp T ss z k (4 * k + i) = sl_tc T ss 4 (4 * k + i) := by
  rw [sl_tc_in hk hi, if_pos (by rw [sl_has]; exact decide_eq_true h), sl_tp_keep T ss z k _ (by omega)]
theorem sl_pn_n {T : Nat → Int32} {ss : Int32} {k i : Nat} (hk : k < 4) (hi : i < 4) (h : ¬ ss >>> (nI k &&& 31) &&& 1 = 1) : -1 = sl_tc T ss 4 (4 * k + i) := by
  rw [sl_tc_in hk hi, if_neg (by rw [sl_has, decide_eq_false h]; decide)]
theorem sl_tp_y {T : Nat → Int32} {ss z : Int32} {k : Nat} (h : ss >>> (nI k &&& 31) &&& 1 = 1) : sl_t1 (sl_tp T ss z k) k z = sl_tp T ss z (k + 1) := by
  rw [sl_tp, if_pos (by rw [sl_has]; exact decide_eq_true h)]
theorem sl_tp_n {T : Nat → Int32} {ss z : Int32} {k : Nat} (h : ¬ ss >>> (nI k &&& 31) &&& 1 = 1) : sl_tp T ss z k = sl_tp T ss z (k + 1) := by
  rw [sl_tp, if_neg (by rw [sl_has, decide_eq_false h]; decide)]
theorem sl_updE (E : Nat → sl_Ent) (n : Nat) (x : sl_Ent) (f : sl_Ent → Int32) : upd (fun i => f (E i)) n (f x) = fun i => f (sl_eu E n x i) := by
  funext i
  by_cases e : i = n
  · subst e; rw [pk_us, sl_eu, if_pos rfl]
  · rw [pk_un e, sl_eu, if_neg e]
theorem sl_updP (E : Nat → sl_Ent) (n : Nat) (x : sl_Ent) : sl_pn (fun j => (E (j / 16)).2.2.2.2.2.2.1 (j % 16)) n x.2.2.2.2.2.2.1 4 = fun j => (sl_eu E n x (j / 16)).2.2.2.2.2.2.1 (j % 16) := by
  funext j
  rw [sl_pn, sl_eu]
  by_cases h : 16 * n ≤ j ∧ j < 16 * n + 4 * 4
  · rw [if_pos h, if_pos (by omega), show j - 16 * n = j % 16 by omega]
  · rw [if_neg h, if_neg (by omega)]
/-- a token is handed out by the reference -/
theorem sl_Mdl_hand {Γ : sl_G} {μ : Nat → Nat} {n : Nat} {ep : Int32} {tl : Nat} {lo : Bool} {T C : Nat → Int32} {E : Nat → sl_Ent} {th : Int32} {g : sl_W} (h : sl_Mdl Γ μ n ep tl lo T C E th g) (hn : n < 150) (ht : tl < 120) (ss am rd ver : Int32) (hr1 : 0 ≤ rd.toInt) (hr2 : rd.toInt ≤ 15) (hv : ∃ v, v ≤ 120 ∧ ver = nI v) (T2 : Nat → Int32) (X : Nat → Int32) :
    let g' := sl_up (sl_up (sl_up (sl_up (sl_up (sl_up (sl_up (sl_up (sl_up g 22 (μ 2, .inl (Γ.2.1 0, 150, .inl (upd (fun i => (E i).1) n (nI tl))))) 23 (μ 3, .inl (Γ.2.1 0, 150, .inl (upd (fun i => (E i).2.1) n ep)))) 24 (μ 4, .inl (Γ.2.1 0, 150, .inl (upd (fun i => (E i).2.2.1) n ss)))) 25 (μ 5, .inl (Γ.2.1 0, 150, .inl (upd (fun i => (E i).2.2.2.1) n am)))) 26 (μ 6, .inl (Γ.2.1 0, 150, .inl (upd (fun i => (E i).2.2.2.2.1) n rd)))) 27 (μ 7, .inl (Γ.2.1 0, 150, .inl (upd (fun i => (E i).2.2.2.2.2.1) n ver)))) 21 (μ 1, .inl (Γ.2.1 0, 16, .inl T2))) 29 (μ 9, .inl (Γ.2.1 0, 2400, .inl (sl_pn (fun j => (E (j / 16)).2.2.2.2.2.2.1 (j % 16)) n X 4)))) 20 (μ 0, .inr (5, [.int th, .int ep, .int (sl_bi lo), .int (nI (tl + 1)), .ref (μ 1), .int (nI (n + 1)), .ref (μ 2), .ref (μ 3), .ref (μ 4), .ref (μ 5), .ref (μ 6), .ref (μ 7), .ref (μ 8), .ref (μ 9), .ref (μ 10), .ref (μ 11)]))
    sl_Mdl Γ μ (n + 1) ep (tl + 1) lo T2 C (sl_eu E n (nI tl, ep, ss, am, rd, ver, X, 0)) th g' ∧ sl_fm g g' := by
  intro g'
  obtain ⟨h20, h21, h22, h23, h24, h25, h26, h27, h28, h29, h30, ⟨F, h31⟩, hw⟩ := h
  have hz : (E n).2.2.2.2.2.2.2 = 0 := hw.2.2.2.2 n (Nat.le_refl n)
  have fm : sl_fm g g' := ((((((((((sl_fm.rf g).up _ (by omega)).up _ (by omega)).up _ (by omega)).up _ (by omega)).up _ (by omega)).up _ (by omega)).up _ (by omega)).up _ (by omega)).up _ (by omega))
  have e1 := sl_updE E n (nI tl, ep, ss, am, rd, ver, X, 0) (fun x => x.1)
  have e2 := sl_updE E n (nI tl, ep, ss, am, rd, ver, X, 0) (fun x => x.2.1)
  have e3 := sl_updE E n (nI tl, ep, ss, am, rd, ver, X, 0) (fun x => x.2.2.1)
  have e4 := sl_updE E n (nI tl, ep, ss, am, rd, ver, X, 0) (fun x => x.2.2.2.1)
  have e5 := sl_updE E n (nI tl, ep, ss, am, rd, ver, X, 0) (fun x => x.2.2.2.2.1)
  have e6 := sl_updE E n (nI tl, ep, ss, am, rd, ver, X, 0) (fun x => x.2.2.2.2.2.1)
  have e7 := sl_updP E n (nI tl, ep, ss, am, rd, ver, X, 0)
  have e8 : (fun i => (E i).2.2.2.2.2.2.2) = fun i => (sl_eu E n (nI tl, ep, ss, am, rd, ver, X, 0) i).2.2.2.2.2.2.2 := by
    funext i
    by_cases e : i = n
    · subst e; rw [sl_eu, if_pos rfl]; exact hz
    · rw [sl_eu, if_neg e]
  refine ⟨⟨sl_up_s _ _ _, sl_up_to (by decide) (sl_up_to (by decide) (sl_up_s _ _ _)), ?_, ?_, ?_, ?_, ?_, ?_, ?_, ?_, ?_, ⟨F, ?_⟩, ?_⟩, fm⟩
  · rw [← e1]; exact sl_up_to (by decide) (sl_up_to (by decide) (sl_up_to (by decide) (sl_up_to (by decide) (sl_up_to (by decide) (sl_up_to (by decide) (sl_up_to (by decide) (sl_up_to (by decide) (sl_up_s _ _ _))))))))
  · rw [← e2]; exact sl_up_to (by decide) (sl_up_to (by decide) (sl_up_to (by decide) (sl_up_to (by decide) (sl_up_to (by decide) (sl_up_to (by decide) (sl_up_to (by decide) (sl_up_s _ _ _)))))))
  · rw [← e3]; exact sl_up_to (by decide) (sl_up_to (by decide) (sl_up_to (by decide) (sl_up_to (by decide) (sl_up_to (by decide) (sl_up_to (by decide) (sl_up_s _ _ _))))))
  · rw [← e4]; exact sl_up_to (by decide) (sl_up_to (by decide) (sl_up_to (by decide) (sl_up_to (by decide) (sl_up_to (by decide) (sl_up_s _ _ _)))))
  · rw [← e5]; exact sl_up_to (by decide) (sl_up_to (by decide) (sl_up_to (by decide) (sl_up_to (by decide) (sl_up_s _ _ _))))
  · rw [← e6]; exact sl_up_to (by decide) (sl_up_to (by decide) (sl_up_to (by decide) (sl_up_s _ _ _)))
  · rw [← e8]; exact sl_up_to (by decide) (sl_up_to (by decide) (sl_up_to (by decide) (sl_up_to (by decide) (sl_up_to (by decide) (sl_up_to (by decide) (sl_up_to (by decide) (sl_up_to (by decide) (sl_up_to (by decide) h28))))))))
  · rw [← e7]; exact sl_up_to (by decide) (sl_up_s _ _ _)
  · exact sl_up_to (by decide) (sl_up_to (by decide) (sl_up_to (by decide) (sl_up_to (by decide) (sl_up_to (by decide) (sl_up_to (by decide) (sl_up_to (by decide) (sl_up_to (by decide) (sl_up_to (by decide) h30))))))))
  · exact sl_up_to (by decide) (sl_up_to (by decide) (sl_up_to (by decide) (sl_up_to (by decide) (sl_up_to (by decide) (sl_up_to (by decide) (sl_up_to (by decide) (sl_up_to (by decide) (sl_up_to (by decide) h31))))))))
  · refine ⟨by omega, by omega, fun i hi => ?_, fun t ht2 => ?_, fun i hi => ?_⟩
    · rcases hw.2.2.1 i hi with a | a | ⟨t, a1, a2⟩
      · exact Or.inl a
      · exact Or.inr (Or.inl a)
      · exact Or.inr (Or.inr ⟨t, by omega, a2⟩)
    · by_cases e : t = n
      · subst e
        rw [sl_eu, if_pos rfl]
        exact ⟨⟨tl, ht, rfl⟩, hv, Or.inr ⟨0, by omega, rfl⟩, hr1, hr2⟩
      · rw [sl_eu, if_neg e]
        exact hw.2.2.2.1 t (by omega)
    · rw [sl_eu, if_neg (by omega)]
      exact hw.2.2.2.2 i (by omega)
set_option maxHeartbeats 4000000 in
set_option maxRecDepth 100000 in
theorem kX5_epoch (l : Launch) (Γ : sl_G) (g : sl_W) (μ : Nat → Nat) (n : Nat) (ep : Int32) (tl : Nat) (lo : Bool) (T C : Nat → Int32) (E : Nat → sl_Ent) (th : Int32) (hM : sl_Mdl Γ μ n ep tl lo T C E th g) : Met l yX5_epoch [Cond.code yX5_epoch cX5_epoch 1 (some .int)] ({ frames := 0, cells := 0, slots := 0, locals := 0 } : Room) (va_Pc [.ref (μ 0)] (sl_B Γ g)) (sl_Qi Γ (fun r g' => r = (ep) ∧ sl_Mdl Γ μ n ep tl lo T C E 0 g' ∧ sl_fm g g') (fun g' => g')) 0 0 (sl_A Γ) := by
  refine sl_ent (by decide) (Nat.le_of_ble_eq_true rfl) ?_
  intro p e s m below meth c ls hC hr hin hG hl
  have hx := hC.1
  have hb := hC.2.1
  have hl : lv_has ls 1 [(0, .ref (μ 0))] := hl
  obtain ⟨h20, h21, h22, h23, h24, h25, h26, h27, h28, h29, h30, ⟨F, h31⟩, hn9, ht9, hC9, hE9, hZ9⟩ := id hM
  refine lv_aload_n hx hb dX5_epoch_0 rfl (lv_at hl 0 rfl) ?_
  refine lv_iconst (v := 0) hx hb dX5_epoch_1 (by decide) ?_
  refine sl_put (C := RX5) (T := TX5) (N := 16) (ty := .int) (v := .int 0) hC hG 20 h20 rfl la_5 tyX5 tyX5_ok nmX5 0 (by decide) lk_RX5_44 rfl rfl (by decide +kernel) rfl rfl (Nat.le_of_ble_eq_true rfl) dX5_epoch_2 (fun H locs hG => ?_)
  have hG : sl_I Γ (sl_up g 20 ((μ 0), .inr (5, [.int 0, .int ep, .int (sl_bi lo), .int (nI tl), .ref (μ 1), .int (nI n), .ref (μ 2), .ref (μ 3), .ref (μ 4), .ref (μ 5), .ref (μ 6), .ref (μ 7), .ref (μ 8), .ref (μ 9), .ref (μ 10), .ref (μ 11)]))) s H _ := hG
  refine lv_aload_n hx hb dX5_epoch_5 rfl (lv_at hl 0 rfl) ?_
  refine sl_get (C := RX5) (T := TX5) (N := 16) hC hG 20 (sl_up_s _ _ _) rfl la_5 1 (by decide) lk_RX5_62 rfl rfl dX5_epoch_6 ?_
  exact sl_ri (v := ep) hC hr hG (sl_up g 20 ((μ 0), .inr (5, [.int 0, .int ep, .int (sl_bi lo), .int (nI tl), .ref (μ 1), .int (nI n), .ref (μ 2), .ref (μ 3), .ref (μ 4), .ref (μ 5), .ref (μ 6), .ref (μ 7), .ref (μ 8), .ref (μ 9), .ref (μ 10), .ref (μ 11)]))) ⟨rfl, (sl_Mdl_up0 hM 0 ep tl lo (by omega)), ((sl_fm.rf g).up _ (by omega))⟩ rfl (Nat.le_of_ble_eq_true rfl) (Nat.le_of_ble_eq_true rfl) dX5_epoch_9
set_option maxHeartbeats 4000000 in
set_option maxRecDepth 100000 in
theorem kX5_tokens (l : Launch) (Γ : sl_G) (g : sl_W) (μ : Nat → Nat) (n : Nat) (ep : Int32) (tl : Nat) (lo : Bool) (T C : Nat → Int32) (E : Nat → sl_Ent) (th : Int32) (hM : sl_Mdl Γ μ n ep tl lo T C E th g) : Met l yX5_tokens [Cond.code yX5_tokens cX5_tokens 1 (some .int)] ({ frames := 0, cells := 0, slots := 0, locals := 0 } : Room) (va_Pc [.ref (μ 0)] (sl_B Γ g)) (sl_Qi Γ (fun r g' => r = (nI n) ∧ sl_Mdl Γ μ n ep tl lo T C E 0 g' ∧ sl_fm g g') (fun g' => g')) 0 0 (sl_A Γ) := by
  refine sl_ent (by decide) (Nat.le_of_ble_eq_true rfl) ?_
  intro p e s m below meth c ls hC hr hin hG hl
  have hx := hC.1
  have hb := hC.2.1
  have hl : lv_has ls 1 [(0, .ref (μ 0))] := hl
  obtain ⟨h20, h21, h22, h23, h24, h25, h26, h27, h28, h29, h30, ⟨F, h31⟩, hn9, ht9, hC9, hE9, hZ9⟩ := id hM
  refine lv_aload_n hx hb dX5_tokens_0 rfl (lv_at hl 0 rfl) ?_
  refine lv_iconst (v := 0) hx hb dX5_tokens_1 (by decide) ?_
  refine sl_put (C := RX5) (T := TX5) (N := 16) (ty := .int) (v := .int 0) hC hG 20 h20 rfl la_5 tyX5 tyX5_ok nmX5 0 (by decide) lk_RX5_44 rfl rfl (by decide +kernel) rfl rfl (Nat.le_of_ble_eq_true rfl) dX5_tokens_2 (fun H locs hG => ?_)
  have hG : sl_I Γ (sl_up g 20 ((μ 0), .inr (5, [.int 0, .int ep, .int (sl_bi lo), .int (nI tl), .ref (μ 1), .int (nI n), .ref (μ 2), .ref (μ 3), .ref (μ 4), .ref (μ 5), .ref (μ 6), .ref (μ 7), .ref (μ 8), .ref (μ 9), .ref (μ 10), .ref (μ 11)]))) s H _ := hG
  refine lv_aload_n hx hb dX5_tokens_5 rfl (lv_at hl 0 rfl) ?_
  refine sl_get (C := RX5) (T := TX5) (N := 16) hC hG 20 (sl_up_s _ _ _) rfl la_5 5 (by decide) lk_RX5_52 rfl rfl dX5_tokens_6 ?_
  exact sl_ri (v := nI n) hC hr hG (sl_up g 20 ((μ 0), .inr (5, [.int 0, .int ep, .int (sl_bi lo), .int (nI tl), .ref (μ 1), .int (nI n), .ref (μ 2), .ref (μ 3), .ref (μ 4), .ref (μ 5), .ref (μ 6), .ref (μ 7), .ref (μ 8), .ref (μ 9), .ref (μ 10), .ref (μ 11)]))) ⟨rfl, (sl_Mdl_up0 hM 0 ep tl lo (by omega)), ((sl_fm.rf g).up _ (by omega))⟩ rfl (Nat.le_of_ble_eq_true rfl) (Nat.le_of_ble_eq_true rfl) dX5_tokens_9
set_option maxHeartbeats 4000000 in
set_option maxRecDepth 100000 in
theorem kX5_tail (l : Launch) (Γ : sl_G) (g : sl_W) (μ : Nat → Nat) (n : Nat) (ep : Int32) (tl : Nat) (lo : Bool) (T C : Nat → Int32) (E : Nat → sl_Ent) (th : Int32) (hM : sl_Mdl Γ μ n ep tl lo T C E th g) : Met l yX5_tail [Cond.code yX5_tail cX5_tail 1 (some .int)] ({ frames := 0, cells := 0, slots := 0, locals := 0 } : Room) (va_Pc [.ref (μ 0)] (sl_B Γ g)) (sl_Qi Γ (fun r g' => r = (if lo = true then -1 else nI tl) ∧ sl_Mdl Γ μ n ep tl lo T C E 0 g' ∧ sl_fm g g') (fun g' => g')) 0 0 (sl_A Γ) := by
  refine sl_ent (by decide) (Nat.le_of_ble_eq_true rfl) ?_
  intro p e s m below meth c ls hC hr hin hG hl
  have hx := hC.1
  have hb := hC.2.1
  have hl : lv_has ls 1 [(0, .ref (μ 0))] := hl
  obtain ⟨h20, h21, h22, h23, h24, h25, h26, h27, h28, h29, h30, ⟨F, h31⟩, hn9, ht9, hC9, hE9, hZ9⟩ := id hM
  refine lv_aload_n hx hb dX5_tail_0 rfl (lv_at hl 0 rfl) ?_
  refine lv_iconst (v := 0) hx hb dX5_tail_1 (by decide) ?_
  refine sl_put (C := RX5) (T := TX5) (N := 16) (ty := .int) (v := .int 0) hC hG 20 h20 rfl la_5 tyX5 tyX5_ok nmX5 0 (by decide) lk_RX5_44 rfl rfl (by decide +kernel) rfl rfl (Nat.le_of_ble_eq_true rfl) dX5_tail_2 (fun H locs hG => ?_)
  have hG : sl_I Γ (sl_up g 20 ((μ 0), .inr (5, [.int 0, .int ep, .int (sl_bi lo), .int (nI tl), .ref (μ 1), .int (nI n), .ref (μ 2), .ref (μ 3), .ref (μ 4), .ref (μ 5), .ref (μ 6), .ref (μ 7), .ref (μ 8), .ref (μ 9), .ref (μ 10), .ref (μ 11)]))) s H _ := hG
  refine lv_aload_n hx hb dX5_tail_5 rfl (lv_at hl 0 rfl) ?_
  refine sl_get (C := RX5) (T := TX5) (N := 16) hC hG 20 (sl_up_s _ _ _) rfl la_5 2 (by decide) lk_RX5_55 rfl rfl dX5_tail_6 ?_
  refine lv_if_eq (tgt := 16) hx hb dX5_tail_9 (by decide) (fun c_9 => ?_) (fun c_9 => ?_)
  · have c_9 := sl_bF c_9
    refine lv_aload_n hx hb dX5_tail_16 rfl (lv_at hl 0 rfl) ?_
    refine sl_get (C := RX5) (T := TX5) (N := 16) hC hG 20 (sl_up_s _ _ _) rfl la_5 3 (by decide) lk_RX5_59 rfl rfl dX5_tail_17 ?_
    exact sl_ri (v := nI tl) hC hr hG (sl_up g 20 ((μ 0), .inr (5, [.int 0, .int ep, .int (sl_bi lo), .int (nI tl), .ref (μ 1), .int (nI n), .ref (μ 2), .ref (μ 3), .ref (μ 4), .ref (μ 5), .ref (μ 6), .ref (μ 7), .ref (μ 8), .ref (μ 9), .ref (μ 10), .ref (μ 11)]))) ⟨(by rw [c_9]; rfl), (sl_Mdl_up0 hM 0 ep tl lo (by omega)), ((sl_fm.rf g).up _ (by omega))⟩ rfl (Nat.le_of_ble_eq_true rfl) (Nat.le_of_ble_eq_true rfl) dX5_tail_20
  · have c_9 := sl_bT c_9
    refine lv_iconst (v := (-1)) hx hb dX5_tail_12 (by decide) ?_
    refine lv_goto (tgt := 20) hx hb dX5_tail_13 (by decide) ?_
    exact sl_ri (v := (-1)) hC hr hG (sl_up g 20 ((μ 0), .inr (5, [.int 0, .int ep, .int (sl_bi lo), .int (nI tl), .ref (μ 1), .int (nI n), .ref (μ 2), .ref (μ 3), .ref (μ 4), .ref (μ 5), .ref (μ 6), .ref (μ 7), .ref (μ 8), .ref (μ 9), .ref (μ 10), .ref (μ 11)]))) ⟨(by rw [c_9]; rfl), (sl_Mdl_up0 hM 0 ep tl lo (by omega)), ((sl_fm.rf g).up _ (by omega))⟩ rfl (Nat.le_of_ble_eq_true rfl) (Nat.le_of_ble_eq_true rfl) dX5_tail_20
set_option maxHeartbeats 4000000 in
set_option maxRecDepth 100000 in
theorem kX5_known (l : Launch) (Γ : sl_G) (g : sl_W) (μ : Nat → Nat) (n : Nat) (ep : Int32) (tl : Nat) (lo : Bool) (T C : Nat → Int32) (E : Nat → sl_Ent) (th : Int32) (hM : sl_Mdl Γ μ n ep tl lo T C E th g) : Met l yX5_known [Cond.code yX5_known cX5_known 1 (some .int)] ({ frames := 2, cells := 0, slots := 0, locals := 42 } : Room) (va_Pc [.ref (μ 0)] (sl_B Γ g)) (sl_Qi Γ (fun r g' => r = (nI (sl_kn C)) ∧ sl_Mdl Γ μ n ep tl lo T C E 0 g' ∧ sl_fm g g') (fun g' => g')) 0 0 (sl_A Γ) := by
  refine sl_ent (by decide) (Nat.le_of_ble_eq_true rfl) ?_
  intro p e s m below meth c ls hC hr hin hG hl
  have hx := hC.1
  have hb := hC.2.1
  have hl : lv_has ls 1 [(0, .ref (μ 0))] := hl
  obtain ⟨h20, h21, h22, h23, h24, h25, h26, h27, h28, h29, h30, ⟨F, h31⟩, hn9, ht9, hC9, hE9, hZ9⟩ := id hM
  refine lv_aload_n hx hb dX5_known_0 rfl (lv_at hl 0 rfl) ?_
  refine lv_iconst (v := 0) hx hb dX5_known_1 (by decide) ?_
  refine sl_put (C := RX5) (T := TX5) (N := 16) (ty := .int) (v := .int 0) hC hG 20 h20 rfl la_5 tyX5 tyX5_ok nmX5 0 (by decide) lk_RX5_44 rfl rfl (by decide +kernel) rfl rfl (Nat.le_of_ble_eq_true rfl) dX5_known_2 (fun H locs hG => ?_)
  have hG : sl_I Γ (sl_up g 20 ((μ 0), .inr (5, [.int 0, .int ep, .int (sl_bi lo), .int (nI tl), .ref (μ 1), .int (nI n), .ref (μ 2), .ref (μ 3), .ref (μ 4), .ref (μ 5), .ref (μ 6), .ref (μ 7), .ref (μ 8), .ref (μ 9), .ref (μ 10), .ref (μ 11)]))) s H _ := hG
  refine lv_aload_n hx hb dX5_known_5 rfl (lv_at hl 0 rfl) ?_
  refine sl_calli (sl_runV (As := []) (rest := []) hC hG (kX5_knownMany l Γ (sl_up g 20 ((μ 0), .inr (5, [.int 0, .int ep, .int (sl_bi lo), .int (nI tl), .ref (μ 1), .int (nI n), .ref (μ 2), .ref (μ 3), .ref (μ 4), .ref (μ 5), .ref (μ 6), .ref (μ 7), .ref (μ 8), .ref (μ 9), .ref (μ 10), .ref (μ 11)]))) μ n ep tl lo T C E 0 (sl_Mdl_up0 hM 0 ep tl lo (by omega))) mi_X5_knownMany lk_RX5_101 20 (sl_up_s _ _ _) rfl rfl rfl ⟨Nat.le_of_ble_eq_true rfl, Nat.le_of_ble_eq_true rfl⟩ rfl hl.1 rfl (Nat.le_of_ble_eq_true rfl) dX5_known_6 ⟨Nat.le_of_ble_eq_true rfl, Nat.le_of_ble_eq_true rfl⟩) hG (fun r_6 u_6 H locs hr_6 hG => ?_)
  subst hr_6
  exact sl_ri (v := nI (sl_kn C)) hC hr hG (sl_up g 20 ((μ 0), .inr (5, [.int 0, .int ep, .int (sl_bi lo), .int (nI tl), .ref (μ 1), .int (nI n), .ref (μ 2), .ref (μ 3), .ref (μ 4), .ref (μ 5), .ref (μ 6), .ref (μ 7), .ref (μ 8), .ref (μ 9), .ref (μ 10), .ref (μ 11)]))) ⟨rfl, (sl_Mdl_up0 hM 0 ep tl lo (by omega)), ((sl_fm.rf g).up _ (by omega))⟩ rfl (Nat.le_of_ble_eq_true rfl) (Nat.le_of_ble_eq_true rfl) dX5_known_9
set_option maxHeartbeats 4000000 in
set_option maxRecDepth 100000 in
theorem kX5_positionOf (l : Launch) (Γ : sl_G) (g : sl_W) (μ : Nat → Nat) (n : Nat) (ep : Int32) (tl : Nat) (lo : Bool) (T C : Nat → Int32) (E : Nat → sl_Ent) (th : Int32) (hM : sl_Mdl Γ μ n ep tl lo T C E th g) (x : Int32) : Met l yX5_positionOf [Cond.code yX5_positionOf cX5_positionOf 2 (some .int)] ({ frames := 2, cells := 0, slots := 0, locals := 43 } : Room) (va_Pc [.ref (μ 0), .int x] (sl_B Γ g)) (sl_Qi Γ (fun r g' => ((∃ t, sl_tok n x = some t ∧ r = (E t).1) ∧ sl_Mdl Γ μ n ep tl lo T C E 0 g' ∨ (sl_tok n x).isSome = false ∧ sl_Mdl Γ μ n ep tl lo T C E 1 g') ∧ sl_fm g g') (fun g' => g')) 0 0 (sl_A Γ) := by
  refine sl_ent (by decide) (Nat.le_of_ble_eq_true rfl) ?_
  intro p e s m below meth c ls hC hr hin hG hl
  have hx := hC.1
  have hb := hC.2.1
  have hl : lv_has ls 2 [(0, .ref (μ 0)), (1, .int x)] := hl
  obtain ⟨h20, h21, h22, h23, h24, h25, h26, h27, h28, h29, h30, ⟨F, h31⟩, hn9, ht9, hC9, hE9, hZ9⟩ := id hM
  refine lv_aload_n hx hb dX5_positionOf_0 rfl (lv_at hl 0 rfl) ?_
  refine lv_iconst (v := 0) hx hb dX5_positionOf_1 (by decide) ?_
  refine sl_put (C := RX5) (T := TX5) (N := 16) (ty := .int) (v := .int 0) hC hG 20 h20 rfl la_5 tyX5 tyX5_ok nmX5 0 (by decide) lk_RX5_44 rfl rfl (by decide +kernel) rfl rfl (Nat.le_of_ble_eq_true rfl) dX5_positionOf_2 (fun H locs hG => ?_)
  have hG : sl_I Γ (sl_up g 20 ((μ 0), .inr (5, [.int 0, .int ep, .int (sl_bi lo), .int (nI tl), .ref (μ 1), .int (nI n), .ref (μ 2), .ref (μ 3), .ref (μ 4), .ref (μ 5), .ref (μ 6), .ref (μ 7), .ref (μ 8), .ref (μ 9), .ref (μ 10), .ref (μ 11)]))) s H _ := hG
  refine lv_aload_n hx hb dX5_positionOf_5 rfl (lv_at hl 0 rfl) ?_
  refine lv_iload_n hx hb dX5_positionOf_6 rfl (lv_at hl 1 rfl) ?_
  refine sl_calli (sl_runV (As := [.int x]) (rest := []) hC hG (kX5_isToken l Γ (sl_up g 20 ((μ 0), .inr (5, [.int 0, .int ep, .int (sl_bi lo), .int (nI tl), .ref (μ 1), .int (nI n), .ref (μ 2), .ref (μ 3), .ref (μ 4), .ref (μ 5), .ref (μ 6), .ref (μ 7), .ref (μ 8), .ref (μ 9), .ref (μ 10), .ref (μ 11)]))) μ n ep tl lo T C E 0 (sl_Mdl_up0 hM 0 ep tl lo (by omega)) x) mi_X5_isToken lk_RX5_88 20 (sl_up_s _ _ _) rfl rfl rfl ⟨Nat.le_of_ble_eq_true rfl, Nat.le_of_ble_eq_true rfl⟩ rfl hl.1 rfl (Nat.le_of_ble_eq_true rfl) dX5_positionOf_7 ⟨Nat.le_of_ble_eq_true rfl, Nat.le_of_ble_eq_true rfl⟩) hG (fun r_7 u_7 H locs hr_7 hG => ?_)
  subst hr_7
  refine lv_if_eq (tgt := 22) hx hb dX5_positionOf_10 (by decide) (fun c_10 => ?_) (fun c_10 => ?_)
  · have c_10 := sl_bF c_10
    refine lv_aload_n hx hb dX5_positionOf_22 rfl (lv_at hl 0 rfl) ?_
    refine lv_iconst (v := 1) hx hb dX5_positionOf_23 (by decide) ?_
    refine sl_calli (sl_runV (As := [.int 1]) (rest := []) hC hG (kX5_fails l Γ (sl_up g 20 ((μ 0), .inr (5, [.int 0, .int ep, .int (sl_bi lo), .int (nI tl), .ref (μ 1), .int (nI n), .ref (μ 2), .ref (μ 3), .ref (μ 4), .ref (μ 5), .ref (μ 6), .ref (μ 7), .ref (μ 8), .ref (μ 9), .ref (μ 10), .ref (μ 11)]))) μ n ep tl lo T C E 0 (sl_Mdl_up0 hM 0 ep tl lo (by omega)) 1) mi_X5_fails lk_RX5_97 20 (sl_up_s _ _ _) rfl rfl rfl ⟨Nat.le_of_ble_eq_true rfl, Nat.le_of_ble_eq_true rfl⟩ rfl hl.1 rfl (Nat.le_of_ble_eq_true rfl) dX5_positionOf_24 ⟨Nat.le_of_ble_eq_true rfl, Nat.le_of_ble_eq_true rfl⟩) hG (fun r_24 u_24 H locs hr_24 hG => ?_)
    subst hr_24
    rw [sl_up_up] at hG
    have hG : sl_I Γ (sl_up g 20 ((μ 0), .inr (5, [.int 1, .int ep, .int (sl_bi lo), .int (nI tl), .ref (μ 1), .int (nI n), .ref (μ 2), .ref (μ 3), .ref (μ 4), .ref (μ 5), .ref (μ 6), .ref (μ 7), .ref (μ 8), .ref (μ 9), .ref (μ 10), .ref (μ 11)]))) s H _ := hG
    exact sl_ri (v := 0) hC hr hG (sl_up g 20 ((μ 0), .inr (5, [.int 1, .int ep, .int (sl_bi lo), .int (nI tl), .ref (μ 1), .int (nI n), .ref (μ 2), .ref (μ 3), .ref (μ 4), .ref (μ 5), .ref (μ 6), .ref (μ 7), .ref (μ 8), .ref (μ 9), .ref (μ 10), .ref (μ 11)]))) ⟨Or.inr ⟨c_10, (sl_Mdl_up0 hM 1 ep tl lo (by omega))⟩, ((sl_fm.rf g).up _ (by omega))⟩ rfl (Nat.le_of_ble_eq_true rfl) (Nat.le_of_ble_eq_true rfl) dX5_positionOf_27
  · have c_10 := sl_bT c_10
    obtain ⟨t, ht, rfl, htok⟩ := sl_tok_ex hn9 c_10
    refine lv_aload_n hx hb dX5_positionOf_13 rfl (lv_at hl 0 rfl) ?_
    refine sl_get (C := RX5) (T := TX5) (N := 16) hC hG 20 (sl_up_s _ _ _) rfl la_5 6 (by decide) lk_RX5_13 rfl rfl dX5_positionOf_14 ?_
    refine lv_iload_n hx hb dX5_positionOf_17 rfl (lv_at hl 1 rfl) ?_
    refine sl_ialdN hC hG 22 (sl_up_to (by decide) h22) (j := t) rfl (by omega) (by omega) dX5_positionOf_18 ?_
    refine lv_goto (tgt := 27) hx hb dX5_positionOf_19 (by decide) ?_
    exact sl_ri (v := (fun i => (E i).1) t) hC hr hG (sl_up g 20 ((μ 0), .inr (5, [.int 0, .int ep, .int (sl_bi lo), .int (nI tl), .ref (μ 1), .int (nI n), .ref (μ 2), .ref (μ 3), .ref (μ 4), .ref (μ 5), .ref (μ 6), .ref (μ 7), .ref (μ 8), .ref (μ 9), .ref (μ 10), .ref (μ 11)]))) ⟨Or.inl ⟨⟨t, htok, rfl⟩, (sl_Mdl_up0 hM 0 ep tl lo (by omega))⟩, ((sl_fm.rf g).up _ (by omega))⟩ rfl (Nat.le_of_ble_eq_true rfl) (Nat.le_of_ble_eq_true rfl) dX5_positionOf_27
set_option maxHeartbeats 4000000 in
set_option maxRecDepth 100000 in
theorem kX5_stateOf (l : Launch) (Γ : sl_G) (g : sl_W) (μ : Nat → Nat) (n : Nat) (ep : Int32) (tl : Nat) (lo : Bool) (T C : Nat → Int32) (E : Nat → sl_Ent) (th : Int32) (hM : sl_Mdl Γ μ n ep tl lo T C E th g) (x : Int32) : Met l yX5_stateOf [Cond.code yX5_stateOf cX5_stateOf 2 (some .int)] ({ frames := 2, cells := 0, slots := 0, locals := 43 } : Room) (va_Pc [.ref (μ 0), .int x] (sl_B Γ g)) (sl_Qi Γ (fun r g' => ((∃ t, sl_tok n x = some t ∧ r = (E t).2.2.2.2.2.2.2) ∧ sl_Mdl Γ μ n ep tl lo T C E 0 g' ∨ (sl_tok n x).isSome = false ∧ sl_Mdl Γ μ n ep tl lo T C E 1 g') ∧ sl_fm g g') (fun g' => g')) 0 0 (sl_A Γ) := by
  refine sl_ent (by decide) (Nat.le_of_ble_eq_true rfl) ?_
  intro p e s m below meth c ls hC hr hin hG hl
  have hx := hC.1
  have hb := hC.2.1
  have hl : lv_has ls 2 [(0, .ref (μ 0)), (1, .int x)] := hl
  obtain ⟨h20, h21, h22, h23, h24, h25, h26, h27, h28, h29, h30, ⟨F, h31⟩, hn9, ht9, hC9, hE9, hZ9⟩ := id hM
  refine lv_aload_n hx hb dX5_stateOf_0 rfl (lv_at hl 0 rfl) ?_
  refine lv_iconst (v := 0) hx hb dX5_stateOf_1 (by decide) ?_
  refine sl_put (C := RX5) (T := TX5) (N := 16) (ty := .int) (v := .int 0) hC hG 20 h20 rfl la_5 tyX5 tyX5_ok nmX5 0 (by decide) lk_RX5_44 rfl rfl (by decide +kernel) rfl rfl (Nat.le_of_ble_eq_true rfl) dX5_stateOf_2 (fun H locs hG => ?_)
  have hG : sl_I Γ (sl_up g 20 ((μ 0), .inr (5, [.int 0, .int ep, .int (sl_bi lo), .int (nI tl), .ref (μ 1), .int (nI n), .ref (μ 2), .ref (μ 3), .ref (μ 4), .ref (μ 5), .ref (μ 6), .ref (μ 7), .ref (μ 8), .ref (μ 9), .ref (μ 10), .ref (μ 11)]))) s H _ := hG
  refine lv_aload_n hx hb dX5_stateOf_5 rfl (lv_at hl 0 rfl) ?_
  refine lv_iload_n hx hb dX5_stateOf_6 rfl (lv_at hl 1 rfl) ?_
  refine sl_calli (sl_runV (As := [.int x]) (rest := []) hC hG (kX5_isToken l Γ (sl_up g 20 ((μ 0), .inr (5, [.int 0, .int ep, .int (sl_bi lo), .int (nI tl), .ref (μ 1), .int (nI n), .ref (μ 2), .ref (μ 3), .ref (μ 4), .ref (μ 5), .ref (μ 6), .ref (μ 7), .ref (μ 8), .ref (μ 9), .ref (μ 10), .ref (μ 11)]))) μ n ep tl lo T C E 0 (sl_Mdl_up0 hM 0 ep tl lo (by omega)) x) mi_X5_isToken lk_RX5_88 20 (sl_up_s _ _ _) rfl rfl rfl ⟨Nat.le_of_ble_eq_true rfl, Nat.le_of_ble_eq_true rfl⟩ rfl hl.1 rfl (Nat.le_of_ble_eq_true rfl) dX5_stateOf_7 ⟨Nat.le_of_ble_eq_true rfl, Nat.le_of_ble_eq_true rfl⟩) hG (fun r_7 u_7 H locs hr_7 hG => ?_)
  subst hr_7
  refine lv_if_eq (tgt := 22) hx hb dX5_stateOf_10 (by decide) (fun c_10 => ?_) (fun c_10 => ?_)
  · have c_10 := sl_bF c_10
    refine lv_aload_n hx hb dX5_stateOf_22 rfl (lv_at hl 0 rfl) ?_
    refine lv_iconst (v := 1) hx hb dX5_stateOf_23 (by decide) ?_
    refine sl_calli (sl_runV (As := [.int 1]) (rest := []) hC hG (kX5_fails l Γ (sl_up g 20 ((μ 0), .inr (5, [.int 0, .int ep, .int (sl_bi lo), .int (nI tl), .ref (μ 1), .int (nI n), .ref (μ 2), .ref (μ 3), .ref (μ 4), .ref (μ 5), .ref (μ 6), .ref (μ 7), .ref (μ 8), .ref (μ 9), .ref (μ 10), .ref (μ 11)]))) μ n ep tl lo T C E 0 (sl_Mdl_up0 hM 0 ep tl lo (by omega)) 1) mi_X5_fails lk_RX5_97 20 (sl_up_s _ _ _) rfl rfl rfl ⟨Nat.le_of_ble_eq_true rfl, Nat.le_of_ble_eq_true rfl⟩ rfl hl.1 rfl (Nat.le_of_ble_eq_true rfl) dX5_stateOf_24 ⟨Nat.le_of_ble_eq_true rfl, Nat.le_of_ble_eq_true rfl⟩) hG (fun r_24 u_24 H locs hr_24 hG => ?_)
    subst hr_24
    rw [sl_up_up] at hG
    have hG : sl_I Γ (sl_up g 20 ((μ 0), .inr (5, [.int 1, .int ep, .int (sl_bi lo), .int (nI tl), .ref (μ 1), .int (nI n), .ref (μ 2), .ref (μ 3), .ref (μ 4), .ref (μ 5), .ref (μ 6), .ref (μ 7), .ref (μ 8), .ref (μ 9), .ref (μ 10), .ref (μ 11)]))) s H _ := hG
    exact sl_ri (v := 0) hC hr hG (sl_up g 20 ((μ 0), .inr (5, [.int 1, .int ep, .int (sl_bi lo), .int (nI tl), .ref (μ 1), .int (nI n), .ref (μ 2), .ref (μ 3), .ref (μ 4), .ref (μ 5), .ref (μ 6), .ref (μ 7), .ref (μ 8), .ref (μ 9), .ref (μ 10), .ref (μ 11)]))) ⟨Or.inr ⟨c_10, (sl_Mdl_up0 hM 1 ep tl lo (by omega))⟩, ((sl_fm.rf g).up _ (by omega))⟩ rfl (Nat.le_of_ble_eq_true rfl) (Nat.le_of_ble_eq_true rfl) dX5_stateOf_27
  · have c_10 := sl_bT c_10
    obtain ⟨t, ht, rfl, htok⟩ := sl_tok_ex hn9 c_10
    refine lv_aload_n hx hb dX5_stateOf_13 rfl (lv_at hl 0 rfl) ?_
    refine sl_get (C := RX5) (T := TX5) (N := 16) hC hG 20 (sl_up_s _ _ _) rfl la_5 12 (by decide) lk_RX5_31 rfl rfl dX5_stateOf_14 ?_
    refine lv_iload_n hx hb dX5_stateOf_17 rfl (lv_at hl 1 rfl) ?_
    refine sl_ialdN hC hG 28 (sl_up_to (by decide) h28) (j := t) rfl (by omega) (by omega) dX5_stateOf_18 ?_
    refine lv_goto (tgt := 27) hx hb dX5_stateOf_19 (by decide) ?_
    exact sl_ri (v := (fun i => (E i).2.2.2.2.2.2.2) t) hC hr hG (sl_up g 20 ((μ 0), .inr (5, [.int 0, .int ep, .int (sl_bi lo), .int (nI tl), .ref (μ 1), .int (nI n), .ref (μ 2), .ref (μ 3), .ref (μ 4), .ref (μ 5), .ref (μ 6), .ref (μ 7), .ref (μ 8), .ref (μ 9), .ref (μ 10), .ref (μ 11)]))) ⟨Or.inl ⟨⟨t, htok, rfl⟩, (sl_Mdl_up0 hM 0 ep tl lo (by omega))⟩, ((sl_fm.rf g).up _ (by omega))⟩ rfl (Nat.le_of_ble_eq_true rfl) (Nat.le_of_ble_eq_true rfl) dX5_stateOf_27
set_option maxHeartbeats 4000000 in
set_option maxRecDepth 100000 in
theorem kX5_cellAt (l : Launch) (Γ : sl_G) (g : sl_W) (μ : Nat → Nat) (n : Nat) (ep : Int32) (tl : Nat) (lo : Bool) (T C : Nat → Int32) (E : Nat → sl_Ent) (th : Int32) (hM : sl_Mdl Γ μ n ep tl lo T C E th g) (x y : Int32) : Met l yX5_cellAt [Cond.code yX5_cellAt cX5_cellAt 3 (some .int)] ({ frames := 2, cells := 0, slots := 0, locals := 42 } : Room) (va_Pc [.ref (μ 0), .int x, .int y] (sl_B Γ g)) (sl_Qi Γ (fun r g' => (((sl_in x 0 2 && sl_in y 0 119) = true ∧ r = sl_cg C x y) ∧ sl_Mdl Γ μ n ep tl lo T C E 0 g' ∨ (sl_in x 0 2 && sl_in y 0 119) = false ∧ sl_Mdl Γ μ n ep tl lo T C E 1 g') ∧ sl_fm g g') (fun g' => g')) 0 0 (sl_A Γ) := by
  refine sl_ent (by decide) (Nat.le_of_ble_eq_true rfl) ?_
  intro p e s m below meth c ls hC hr hin hG hl
  have hx := hC.1
  have hb := hC.2.1
  have hl : lv_has ls 3 [(0, .ref (μ 0)), (1, .int x), (2, .int y)] := hl
  obtain ⟨h20, h21, h22, h23, h24, h25, h26, h27, h28, h29, h30, ⟨F, h31⟩, hn9, ht9, hC9, hE9, hZ9⟩ := id hM
  refine lv_aload_n hx hb dX5_cellAt_0 rfl (lv_at hl 0 rfl) ?_
  refine lv_iconst (v := 0) hx hb dX5_cellAt_1 (by decide) ?_
  refine sl_put (C := RX5) (T := TX5) (N := 16) (ty := .int) (v := .int 0) hC hG 20 h20 rfl la_5 tyX5 tyX5_ok nmX5 0 (by decide) lk_RX5_44 rfl rfl (by decide +kernel) rfl rfl (Nat.le_of_ble_eq_true rfl) dX5_cellAt_2 (fun H locs hG => ?_)
  have hG : sl_I Γ (sl_up g 20 ((μ 0), .inr (5, [.int 0, .int ep, .int (sl_bi lo), .int (nI tl), .ref (μ 1), .int (nI n), .ref (μ 2), .ref (μ 3), .ref (μ 4), .ref (μ 5), .ref (μ 6), .ref (μ 7), .ref (μ 8), .ref (μ 9), .ref (μ 10), .ref (μ 11)]))) s H _ := hG
  refine lv_iload_n hx hb dX5_cellAt_5 rfl (lv_at hl 1 rfl) ?_
  refine lv_iconst (v := 0) hx hb dX5_cellAt_6 (by decide) ?_
  refine lv_iconst (v := 2) hx hb dX5_cellAt_7 (by decide) ?_
  refine sl_calli (sl_runS (As := [.int x, .int 0, .int 2]) (rest := []) hC hG (kX5_in l Γ (sl_up g 20 ((μ 0), .inr (5, [.int 0, .int ep, .int (sl_bi lo), .int (nI tl), .ref (μ 1), .int (nI n), .ref (μ 2), .ref (μ 3), .ref (μ 4), .ref (μ 5), .ref (μ 6), .ref (μ 7), .ref (μ 8), .ref (μ 9), .ref (μ 10), .ref (μ 11)]))) x 0 2) mi_X5_in lk_RX5_48 rfl rfl ⟨Nat.le_of_ble_eq_true rfl, Nat.le_of_ble_eq_true rfl⟩ rfl hl.1 rfl (Nat.le_of_ble_eq_true rfl) dX5_cellAt_8 ⟨Nat.le_of_ble_eq_true rfl, Nat.le_of_ble_eq_true rfl⟩) hG (fun r_8 u_8 H locs hr_8 hG => ?_)
  subst hr_8
  refine lv_if_eq (tgt := 35) hx hb dX5_cellAt_11 (by decide) (fun c_11 => ?_) (fun c_11 => ?_)
  · have c_11 := sl_bF c_11
    refine lv_aload_n hx hb dX5_cellAt_35 rfl (lv_at hl 0 rfl) ?_
    refine lv_iconst (v := 1) hx hb dX5_cellAt_36 (by decide) ?_
    refine sl_calli (sl_runV (As := [.int 1]) (rest := []) hC hG (kX5_fails l Γ (sl_up g 20 ((μ 0), .inr (5, [.int 0, .int ep, .int (sl_bi lo), .int (nI tl), .ref (μ 1), .int (nI n), .ref (μ 2), .ref (μ 3), .ref (μ 4), .ref (μ 5), .ref (μ 6), .ref (μ 7), .ref (μ 8), .ref (μ 9), .ref (μ 10), .ref (μ 11)]))) μ n ep tl lo T C E 0 (sl_Mdl_up0 hM 0 ep tl lo (by omega)) 1) mi_X5_fails lk_RX5_97 20 (sl_up_s _ _ _) rfl rfl rfl ⟨Nat.le_of_ble_eq_true rfl, Nat.le_of_ble_eq_true rfl⟩ rfl hl.1 rfl (Nat.le_of_ble_eq_true rfl) dX5_cellAt_37 ⟨Nat.le_of_ble_eq_true rfl, Nat.le_of_ble_eq_true rfl⟩) hG (fun r_37 u_37 H locs hr_37 hG => ?_)
    subst hr_37
    rw [sl_up_up] at hG
    have hG : sl_I Γ (sl_up g 20 ((μ 0), .inr (5, [.int 1, .int ep, .int (sl_bi lo), .int (nI tl), .ref (μ 1), .int (nI n), .ref (μ 2), .ref (μ 3), .ref (μ 4), .ref (μ 5), .ref (μ 6), .ref (μ 7), .ref (μ 8), .ref (μ 9), .ref (μ 10), .ref (μ 11)]))) s H _ := hG
    exact sl_ri (v := 0) hC hr hG (sl_up g 20 ((μ 0), .inr (5, [.int 1, .int ep, .int (sl_bi lo), .int (nI tl), .ref (μ 1), .int (nI n), .ref (μ 2), .ref (μ 3), .ref (μ 4), .ref (μ 5), .ref (μ 6), .ref (μ 7), .ref (μ 8), .ref (μ 9), .ref (μ 10), .ref (μ 11)]))) ⟨Or.inr ⟨(by rw [c_11]; rfl), (sl_Mdl_up0 hM 1 ep tl lo (by omega))⟩, ((sl_fm.rf g).up _ (by omega))⟩ rfl (Nat.le_of_ble_eq_true rfl) (Nat.le_of_ble_eq_true rfl) dX5_cellAt_40
  · have c_11 := sl_bT c_11
    refine lv_iload_n hx hb dX5_cellAt_14 rfl (lv_at hl 2 rfl) ?_
    refine sl_calli (sl_runS (As := [.int y]) (rest := []) hC hG (kX5_isPosition l Γ (sl_up g 20 ((μ 0), .inr (5, [.int 0, .int ep, .int (sl_bi lo), .int (nI tl), .ref (μ 1), .int (nI n), .ref (μ 2), .ref (μ 3), .ref (μ 4), .ref (μ 5), .ref (μ 6), .ref (μ 7), .ref (μ 8), .ref (μ 9), .ref (μ 10), .ref (μ 11)]))) y) mi_X5_isPosition lk_RX5_91 rfl rfl ⟨Nat.le_of_ble_eq_true rfl, Nat.le_of_ble_eq_true rfl⟩ rfl hl.1 rfl (Nat.le_of_ble_eq_true rfl) dX5_cellAt_15 ⟨Nat.le_of_ble_eq_true rfl, Nat.le_of_ble_eq_true rfl⟩) hG (fun r_15 u_15 H locs hr_15 hG => ?_)
    subst hr_15
    refine lv_if_eq (tgt := 35) hx hb dX5_cellAt_18 (by decide) (fun c_18 => ?_) (fun c_18 => ?_)
    · have c_18 := sl_bF c_18
      refine lv_aload_n hx hb dX5_cellAt_35 rfl (lv_at hl 0 rfl) ?_
      refine lv_iconst (v := 1) hx hb dX5_cellAt_36 (by decide) ?_
      refine sl_calli (sl_runV (As := [.int 1]) (rest := []) hC hG (kX5_fails l Γ (sl_up g 20 ((μ 0), .inr (5, [.int 0, .int ep, .int (sl_bi lo), .int (nI tl), .ref (μ 1), .int (nI n), .ref (μ 2), .ref (μ 3), .ref (μ 4), .ref (μ 5), .ref (μ 6), .ref (μ 7), .ref (μ 8), .ref (μ 9), .ref (μ 10), .ref (μ 11)]))) μ n ep tl lo T C E 0 (sl_Mdl_up0 hM 0 ep tl lo (by omega)) 1) mi_X5_fails lk_RX5_97 20 (sl_up_s _ _ _) rfl rfl rfl ⟨Nat.le_of_ble_eq_true rfl, Nat.le_of_ble_eq_true rfl⟩ rfl hl.1 rfl (Nat.le_of_ble_eq_true rfl) dX5_cellAt_37 ⟨Nat.le_of_ble_eq_true rfl, Nat.le_of_ble_eq_true rfl⟩) hG (fun r_37 u_37 H locs hr_37 hG => ?_)
      subst hr_37
      rw [sl_up_up] at hG
      have hG : sl_I Γ (sl_up g 20 ((μ 0), .inr (5, [.int 1, .int ep, .int (sl_bi lo), .int (nI tl), .ref (μ 1), .int (nI n), .ref (μ 2), .ref (μ 3), .ref (μ 4), .ref (μ 5), .ref (μ 6), .ref (μ 7), .ref (μ 8), .ref (μ 9), .ref (μ 10), .ref (μ 11)]))) s H _ := hG
      exact sl_ri (v := 0) hC hr hG (sl_up g 20 ((μ 0), .inr (5, [.int 1, .int ep, .int (sl_bi lo), .int (nI tl), .ref (μ 1), .int (nI n), .ref (μ 2), .ref (μ 3), .ref (μ 4), .ref (μ 5), .ref (μ 6), .ref (μ 7), .ref (μ 8), .ref (μ 9), .ref (μ 10), .ref (μ 11)]))) ⟨Or.inr ⟨(by rw [c_18]; exact Bool.and_false _), (sl_Mdl_up0 hM 1 ep tl lo (by omega))⟩, ((sl_fm.rf g).up _ (by omega))⟩ rfl (Nat.le_of_ble_eq_true rfl) (Nat.le_of_ble_eq_true rfl) dX5_cellAt_40
    · have c_18 := sl_bT c_18
      obtain ⟨a, ha9, rfl⟩ := sl_c2 c_11
      obtain ⟨b, hb9, rfl⟩ := sl_c119 c_18
      refine lv_aload_n hx hb dX5_cellAt_21 rfl (lv_at hl 0 rfl) ?_
      refine sl_get (C := RX5) (T := TX5) (N := 16) hC hG 20 (sl_up_s _ _ _) rfl la_5 14 (by decide) lk_RX5_37 rfl rfl dX5_cellAt_22 ?_
      refine lv_bipush (v := 120) hx hb dX5_cellAt_25 (by decide) ?_
      refine lv_iload_n hx hb dX5_cellAt_27 rfl (lv_at hl 1 rfl) ?_
      refine lv_imul hx hb dX5_cellAt_28 ?_
      refine sl_topi (y := nI (120 * a)) (pk_mul 120 a) ?_
      refine lv_iload_n hx hb dX5_cellAt_29 rfl (lv_at hl 2 rfl) ?_
      refine lv_iadd hx hb dX5_cellAt_30 ?_
      refine sl_topi (y := nI (120 * a + b)) (nI_add (120 * a) b) ?_
      refine sl_ialdN hC hG 30 (sl_up_to (by decide) h30) (j := 120 * a + b) rfl (by omega) (by omega) dX5_cellAt_31 ?_
      refine lv_goto (tgt := 40) hx hb dX5_cellAt_32 (by decide) ?_
      exact sl_ri (v := C (120 * a + b)) hC hr hG (sl_up g 20 ((μ 0), .inr (5, [.int 0, .int ep, .int (sl_bi lo), .int (nI tl), .ref (μ 1), .int (nI n), .ref (μ 2), .ref (μ 3), .ref (μ 4), .ref (μ 5), .ref (μ 6), .ref (μ 7), .ref (μ 8), .ref (μ 9), .ref (μ 10), .ref (μ 11)]))) ⟨Or.inl ⟨⟨(sl_and_t c_11 c_18), (sl_cgN C (by omega) (by omega)).symm⟩, (sl_Mdl_up0 hM 0 ep tl lo (by omega))⟩, ((sl_fm.rf g).up _ (by omega))⟩ rfl (Nat.le_of_ble_eq_true rfl) (Nat.le_of_ble_eq_true rfl) dX5_cellAt_40
theorem sl_ptr (t a b : Nat) (ha : a < 4) (hb : b < 4) (E : Nat → sl_Ent) : sl_tg (E t).2.2.2.2.2.2.1 (nI a) (nI b) = (E ((16 * t + 4 * a + b) / 16)).2.2.2.2.2.2.1 ((16 * t + 4 * a + b) % 16) := by
  rw [sl_tgN _ ha hb, show (16 * t + 4 * a + b) / 16 = t by omega, show (16 * t + 4 * a + b) % 16 = 4 * a + b by omega]
set_option maxHeartbeats 4000000 in
set_option maxRecDepth 100000 in
theorem kX5_pointer (l : Launch) (Γ : sl_G) (g : sl_W) (μ : Nat → Nat) (n : Nat) (ep : Int32) (tl : Nat) (lo : Bool) (T C : Nat → Int32) (E : Nat → sl_Ent) (th : Int32) (hM : sl_Mdl Γ μ n ep tl lo T C E th g) (x y z : Int32) : Met l yX5_pointer [Cond.code yX5_pointer cX5_pointer 4 (some .int)] ({ frames := 2, cells := 0, slots := 0, locals := 43 } : Room) (va_Pc [.ref (μ 0), .int x, .int y, .int z] (sl_B Γ g)) (sl_Qi Γ (fun r g' => ((∃ t, sl_tok n x = some t ∧ (sl_in y 0 3 && sl_in z 0 3) = true ∧ r = sl_tg (E t).2.2.2.2.2.2.1 y z) ∧ sl_Mdl Γ μ n ep tl lo T C E 0 g' ∨ ((sl_tok n x).isSome = false ∨ (sl_in y 0 3 && sl_in z 0 3) = false) ∧ sl_Mdl Γ μ n ep tl lo T C E 1 g') ∧ sl_fm g g') (fun g' => g')) 0 0 (sl_A Γ) := by
  refine sl_ent (by decide) (Nat.le_of_ble_eq_true rfl) ?_
  intro p e s m below meth c ls hC hr hin hG hl
  have hx := hC.1
  have hb := hC.2.1
  have hl : lv_has ls 4 [(0, .ref (μ 0)), (1, .int x), (2, .int y), (3, .int z)] := hl
  obtain ⟨h20, h21, h22, h23, h24, h25, h26, h27, h28, h29, h30, ⟨F, h31⟩, hn9, ht9, hC9, hE9, hZ9⟩ := id hM
  refine lv_aload_n hx hb dX5_pointer_0 rfl (lv_at hl 0 rfl) ?_
  refine lv_iconst (v := 0) hx hb dX5_pointer_1 (by decide) ?_
  refine sl_put (C := RX5) (T := TX5) (N := 16) (ty := .int) (v := .int 0) hC hG 20 h20 rfl la_5 tyX5 tyX5_ok nmX5 0 (by decide) lk_RX5_44 rfl rfl (by decide +kernel) rfl rfl (Nat.le_of_ble_eq_true rfl) dX5_pointer_2 (fun H locs hG => ?_)
  have hG : sl_I Γ (sl_up g 20 ((μ 0), .inr (5, [.int 0, .int ep, .int (sl_bi lo), .int (nI tl), .ref (μ 1), .int (nI n), .ref (μ 2), .ref (μ 3), .ref (μ 4), .ref (μ 5), .ref (μ 6), .ref (μ 7), .ref (μ 8), .ref (μ 9), .ref (μ 10), .ref (μ 11)]))) s H _ := hG
  refine lv_aload_n hx hb dX5_pointer_5 rfl (lv_at hl 0 rfl) ?_
  refine lv_iload_n hx hb dX5_pointer_6 rfl (lv_at hl 1 rfl) ?_
  refine sl_calli (sl_runV (As := [.int x]) (rest := []) hC hG (kX5_isToken l Γ (sl_up g 20 ((μ 0), .inr (5, [.int 0, .int ep, .int (sl_bi lo), .int (nI tl), .ref (μ 1), .int (nI n), .ref (μ 2), .ref (μ 3), .ref (μ 4), .ref (μ 5), .ref (μ 6), .ref (μ 7), .ref (μ 8), .ref (μ 9), .ref (μ 10), .ref (μ 11)]))) μ n ep tl lo T C E 0 (sl_Mdl_up0 hM 0 ep tl lo (by omega)) x) mi_X5_isToken lk_RX5_88 20 (sl_up_s _ _ _) rfl rfl rfl ⟨Nat.le_of_ble_eq_true rfl, Nat.le_of_ble_eq_true rfl⟩ rfl hl.1 rfl (Nat.le_of_ble_eq_true rfl) dX5_pointer_7 ⟨Nat.le_of_ble_eq_true rfl, Nat.le_of_ble_eq_true rfl⟩) hG (fun r_7 u_7 H locs hr_7 hG => ?_)
  subst hr_7
  refine lv_if_eq (tgt := 49) hx hb dX5_pointer_10 (by decide) (fun c_10 => ?_) (fun c_10 => ?_)
  · have c_10 := sl_bF c_10
    refine lv_aload_n hx hb dX5_pointer_49 rfl (lv_at hl 0 rfl) ?_
    refine lv_iconst (v := 1) hx hb dX5_pointer_50 (by decide) ?_
    refine sl_calli (sl_runV (As := [.int 1]) (rest := []) hC hG (kX5_fails l Γ (sl_up g 20 ((μ 0), .inr (5, [.int 0, .int ep, .int (sl_bi lo), .int (nI tl), .ref (μ 1), .int (nI n), .ref (μ 2), .ref (μ 3), .ref (μ 4), .ref (μ 5), .ref (μ 6), .ref (μ 7), .ref (μ 8), .ref (μ 9), .ref (μ 10), .ref (μ 11)]))) μ n ep tl lo T C E 0 (sl_Mdl_up0 hM 0 ep tl lo (by omega)) 1) mi_X5_fails lk_RX5_97 20 (sl_up_s _ _ _) rfl rfl rfl ⟨Nat.le_of_ble_eq_true rfl, Nat.le_of_ble_eq_true rfl⟩ rfl hl.1 rfl (Nat.le_of_ble_eq_true rfl) dX5_pointer_51 ⟨Nat.le_of_ble_eq_true rfl, Nat.le_of_ble_eq_true rfl⟩) hG (fun r_51 u_51 H locs hr_51 hG => ?_)
    subst hr_51
    rw [sl_up_up] at hG
    have hG : sl_I Γ (sl_up g 20 ((μ 0), .inr (5, [.int 1, .int ep, .int (sl_bi lo), .int (nI tl), .ref (μ 1), .int (nI n), .ref (μ 2), .ref (μ 3), .ref (μ 4), .ref (μ 5), .ref (μ 6), .ref (μ 7), .ref (μ 8), .ref (μ 9), .ref (μ 10), .ref (μ 11)]))) s H _ := hG
    exact sl_ri (v := 0) hC hr hG (sl_up g 20 ((μ 0), .inr (5, [.int 1, .int ep, .int (sl_bi lo), .int (nI tl), .ref (μ 1), .int (nI n), .ref (μ 2), .ref (μ 3), .ref (μ 4), .ref (μ 5), .ref (μ 6), .ref (μ 7), .ref (μ 8), .ref (μ 9), .ref (μ 10), .ref (μ 11)]))) ⟨Or.inr ⟨(Or.inl c_10), (sl_Mdl_up0 hM 1 ep tl lo (by omega))⟩, ((sl_fm.rf g).up _ (by omega))⟩ rfl (Nat.le_of_ble_eq_true rfl) (Nat.le_of_ble_eq_true rfl) dX5_pointer_54
  · have c_10 := sl_bT c_10
    obtain ⟨t, ht, rfl, htok⟩ := sl_tok_ex hn9 c_10
    refine lv_iload_n hx hb dX5_pointer_13 rfl (lv_at hl 2 rfl) ?_
    refine lv_iconst (v := 0) hx hb dX5_pointer_14 (by decide) ?_
    refine lv_iconst (v := 3) hx hb dX5_pointer_15 (by decide) ?_
    refine sl_calli (sl_runS (As := [.int y, .int 0, .int 3]) (rest := []) hC hG (kX5_in l Γ (sl_up g 20 ((μ 0), .inr (5, [.int 0, .int ep, .int (sl_bi lo), .int (nI tl), .ref (μ 1), .int (nI n), .ref (μ 2), .ref (μ 3), .ref (μ 4), .ref (μ 5), .ref (μ 6), .ref (μ 7), .ref (μ 8), .ref (μ 9), .ref (μ 10), .ref (μ 11)]))) y 0 3) mi_X5_in lk_RX5_48 rfl rfl ⟨Nat.le_of_ble_eq_true rfl, Nat.le_of_ble_eq_true rfl⟩ rfl hl.1 rfl (Nat.le_of_ble_eq_true rfl) dX5_pointer_16 ⟨Nat.le_of_ble_eq_true rfl, Nat.le_of_ble_eq_true rfl⟩) hG (fun r_16 u_16 H locs hr_16 hG => ?_)
    subst hr_16
    refine lv_if_eq (tgt := 49) hx hb dX5_pointer_19 (by decide) (fun c_19 => ?_) (fun c_19 => ?_)
    · have c_19 := sl_bF c_19
      refine lv_aload_n hx hb dX5_pointer_49 rfl (lv_at hl 0 rfl) ?_
      refine lv_iconst (v := 1) hx hb dX5_pointer_50 (by decide) ?_
      refine sl_calli (sl_runV (As := [.int 1]) (rest := []) hC hG (kX5_fails l Γ (sl_up g 20 ((μ 0), .inr (5, [.int 0, .int ep, .int (sl_bi lo), .int (nI tl), .ref (μ 1), .int (nI n), .ref (μ 2), .ref (μ 3), .ref (μ 4), .ref (μ 5), .ref (μ 6), .ref (μ 7), .ref (μ 8), .ref (μ 9), .ref (μ 10), .ref (μ 11)]))) μ n ep tl lo T C E 0 (sl_Mdl_up0 hM 0 ep tl lo (by omega)) 1) mi_X5_fails lk_RX5_97 20 (sl_up_s _ _ _) rfl rfl rfl ⟨Nat.le_of_ble_eq_true rfl, Nat.le_of_ble_eq_true rfl⟩ rfl hl.1 rfl (Nat.le_of_ble_eq_true rfl) dX5_pointer_51 ⟨Nat.le_of_ble_eq_true rfl, Nat.le_of_ble_eq_true rfl⟩) hG (fun r_51 u_51 H locs hr_51 hG => ?_)
      subst hr_51
      rw [sl_up_up] at hG
      have hG : sl_I Γ (sl_up g 20 ((μ 0), .inr (5, [.int 1, .int ep, .int (sl_bi lo), .int (nI tl), .ref (μ 1), .int (nI n), .ref (μ 2), .ref (μ 3), .ref (μ 4), .ref (μ 5), .ref (μ 6), .ref (μ 7), .ref (μ 8), .ref (μ 9), .ref (μ 10), .ref (μ 11)]))) s H _ := hG
      exact sl_ri (v := 0) hC hr hG (sl_up g 20 ((μ 0), .inr (5, [.int 1, .int ep, .int (sl_bi lo), .int (nI tl), .ref (μ 1), .int (nI n), .ref (μ 2), .ref (μ 3), .ref (μ 4), .ref (μ 5), .ref (μ 6), .ref (μ 7), .ref (μ 8), .ref (μ 9), .ref (μ 10), .ref (μ 11)]))) ⟨Or.inr ⟨(Or.inr (by rw [c_19]; rfl)), (sl_Mdl_up0 hM 1 ep tl lo (by omega))⟩, ((sl_fm.rf g).up _ (by omega))⟩ rfl (Nat.le_of_ble_eq_true rfl) (Nat.le_of_ble_eq_true rfl) dX5_pointer_54
    · have c_19 := sl_bT c_19
      refine lv_iload_n hx hb dX5_pointer_22 rfl (lv_at hl 3 rfl) ?_
      refine lv_iconst (v := 0) hx hb dX5_pointer_23 (by decide) ?_
      refine lv_iconst (v := 3) hx hb dX5_pointer_24 (by decide) ?_
      refine sl_calli (sl_runS (As := [.int z, .int 0, .int 3]) (rest := []) hC hG (kX5_in l Γ (sl_up g 20 ((μ 0), .inr (5, [.int 0, .int ep, .int (sl_bi lo), .int (nI tl), .ref (μ 1), .int (nI n), .ref (μ 2), .ref (μ 3), .ref (μ 4), .ref (μ 5), .ref (μ 6), .ref (μ 7), .ref (μ 8), .ref (μ 9), .ref (μ 10), .ref (μ 11)]))) z 0 3) mi_X5_in lk_RX5_48 rfl rfl ⟨Nat.le_of_ble_eq_true rfl, Nat.le_of_ble_eq_true rfl⟩ rfl hl.1 rfl (Nat.le_of_ble_eq_true rfl) dX5_pointer_25 ⟨Nat.le_of_ble_eq_true rfl, Nat.le_of_ble_eq_true rfl⟩) hG (fun r_25 u_25 H locs hr_25 hG => ?_)
      subst hr_25
      refine lv_if_eq (tgt := 49) hx hb dX5_pointer_28 (by decide) (fun c_28 => ?_) (fun c_28 => ?_)
      · have c_28 := sl_bF c_28
        refine lv_aload_n hx hb dX5_pointer_49 rfl (lv_at hl 0 rfl) ?_
        refine lv_iconst (v := 1) hx hb dX5_pointer_50 (by decide) ?_
        refine sl_calli (sl_runV (As := [.int 1]) (rest := []) hC hG (kX5_fails l Γ (sl_up g 20 ((μ 0), .inr (5, [.int 0, .int ep, .int (sl_bi lo), .int (nI tl), .ref (μ 1), .int (nI n), .ref (μ 2), .ref (μ 3), .ref (μ 4), .ref (μ 5), .ref (μ 6), .ref (μ 7), .ref (μ 8), .ref (μ 9), .ref (μ 10), .ref (μ 11)]))) μ n ep tl lo T C E 0 (sl_Mdl_up0 hM 0 ep tl lo (by omega)) 1) mi_X5_fails lk_RX5_97 20 (sl_up_s _ _ _) rfl rfl rfl ⟨Nat.le_of_ble_eq_true rfl, Nat.le_of_ble_eq_true rfl⟩ rfl hl.1 rfl (Nat.le_of_ble_eq_true rfl) dX5_pointer_51 ⟨Nat.le_of_ble_eq_true rfl, Nat.le_of_ble_eq_true rfl⟩) hG (fun r_51 u_51 H locs hr_51 hG => ?_)
        subst hr_51
        rw [sl_up_up] at hG
        have hG : sl_I Γ (sl_up g 20 ((μ 0), .inr (5, [.int 1, .int ep, .int (sl_bi lo), .int (nI tl), .ref (μ 1), .int (nI n), .ref (μ 2), .ref (μ 3), .ref (μ 4), .ref (μ 5), .ref (μ 6), .ref (μ 7), .ref (μ 8), .ref (μ 9), .ref (μ 10), .ref (μ 11)]))) s H _ := hG
        exact sl_ri (v := 0) hC hr hG (sl_up g 20 ((μ 0), .inr (5, [.int 1, .int ep, .int (sl_bi lo), .int (nI tl), .ref (μ 1), .int (nI n), .ref (μ 2), .ref (μ 3), .ref (μ 4), .ref (μ 5), .ref (μ 6), .ref (μ 7), .ref (μ 8), .ref (μ 9), .ref (μ 10), .ref (μ 11)]))) ⟨Or.inr ⟨(Or.inr (by rw [c_28]; exact Bool.and_false _)), (sl_Mdl_up0 hM 1 ep tl lo (by omega))⟩, ((sl_fm.rf g).up _ (by omega))⟩ rfl (Nat.le_of_ble_eq_true rfl) (Nat.le_of_ble_eq_true rfl) dX5_pointer_54
      · have c_28 := sl_bT c_28
        obtain ⟨a, ha9, rfl⟩ := sl_c3 c_19
        obtain ⟨b, hb9, rfl⟩ := sl_c3 c_28
        refine lv_aload_n hx hb dX5_pointer_31 rfl (lv_at hl 0 rfl) ?_
        refine sl_get (C := RX5) (T := TX5) (N := 16) hC hG 20 (sl_up_s _ _ _) rfl la_5 13 (by decide) lk_RX5_34 rfl rfl dX5_pointer_32 ?_
        refine lv_bipush (v := 16) hx hb dX5_pointer_35 (by decide) ?_
        refine lv_iload_n hx hb dX5_pointer_37 rfl (lv_at hl 1 rfl) ?_
        refine lv_imul hx hb dX5_pointer_38 ?_
        refine sl_topi (y := nI (16 * t)) (pk_mul 16 t) ?_
        refine lv_iconst (v := 4) hx hb dX5_pointer_39 (by decide) ?_
        refine lv_iload_n hx hb dX5_pointer_40 rfl (lv_at hl 2 rfl) ?_
        refine lv_imul hx hb dX5_pointer_41 ?_
        refine sl_topi (y := nI (4 * a)) (pk_mul 4 a) ?_
        refine lv_iadd hx hb dX5_pointer_42 ?_
        refine sl_topi (y := nI (16 * t + 4 * a)) (nI_add (16 * t) (4 * a)) ?_
        refine lv_iload_n hx hb dX5_pointer_43 rfl (lv_at hl 3 rfl) ?_
        refine lv_iadd hx hb dX5_pointer_44 ?_
        refine sl_topi (y := nI (16 * t + 4 * a + b)) (nI_add (16 * t + 4 * a) b) ?_
        refine sl_ialdN hC hG 29 (sl_up_to (by decide) h29) (j := 16 * t + 4 * a + b) rfl (by omega) (by omega) dX5_pointer_45 ?_
        refine lv_goto (tgt := 54) hx hb dX5_pointer_46 (by decide) ?_
        exact sl_ri (v := (fun j => (E (j / 16)).2.2.2.2.2.2.1 (j % 16)) (16 * t + 4 * a + b)) hC hr hG (sl_up g 20 ((μ 0), .inr (5, [.int 0, .int ep, .int (sl_bi lo), .int (nI tl), .ref (μ 1), .int (nI n), .ref (μ 2), .ref (μ 3), .ref (μ 4), .ref (μ 5), .ref (μ 6), .ref (μ 7), .ref (μ 8), .ref (μ 9), .ref (μ 10), .ref (μ 11)]))) ⟨Or.inl ⟨⟨t, htok, sl_and_t c_19 c_28, (sl_ptr t a b (by omega) (by omega) E).symm⟩, (sl_Mdl_up0 hM 0 ep tl lo (by omega))⟩, ((sl_fm.rf g).up _ (by omega))⟩ rfl (Nat.le_of_ble_eq_true rfl) (Nat.le_of_ble_eq_true rfl) dX5_pointer_54
set_option maxHeartbeats 4000000 in
set_option maxRecDepth 100000 in
theorem kX5_lose (l : Launch) (Γ : sl_G) (g : sl_W) (μ : Nat → Nat) (n : Nat) (ep : Int32) (tl : Nat) (lo : Bool) (T C : Nat → Int32) (E : Nat → sl_Ent) (th : Int32) (hM : sl_Mdl Γ μ n ep tl lo T C E th g) : Met l yX5_lose [Cond.code yX5_lose cX5_lose 1 (some .int)] ({ frames := 0, cells := 0, slots := 0, locals := 0 } : Room) (va_Pc [.ref (μ 0)] (sl_B Γ g)) (sl_Qi Γ (fun r g' => ((lo = false ∧ r = nI tl) ∧ sl_Mdl Γ μ n ep tl true T C E 0 g' ∨ lo = true ∧ sl_Mdl Γ μ n ep tl true T C E 1 g') ∧ sl_fm g g') (fun g' => g')) 0 0 (sl_A Γ) := by
  refine sl_ent (by decide) (Nat.le_of_ble_eq_true rfl) ?_
  intro p e s m below meth c ls hC hr hin hG hl
  have hx := hC.1
  have hb := hC.2.1
  have hl : lv_has ls 1 [(0, .ref (μ 0))] := hl
  obtain ⟨h20, h21, h22, h23, h24, h25, h26, h27, h28, h29, h30, ⟨F, h31⟩, hn9, ht9, hC9, hE9, hZ9⟩ := id hM
  refine lv_aload_n hx hb dX5_lose_0 rfl (lv_at hl 0 rfl) ?_
  refine lv_aload_n hx hb dX5_lose_1 rfl (lv_at hl 0 rfl) ?_
  refine sl_get (C := RX5) (T := TX5) (N := 16) hC hG 20 h20 rfl la_5 2 (by decide) lk_RX5_55 rfl rfl dX5_lose_2 ?_
  refine lv_if_eq (tgt := 12) hx hb dX5_lose_5 (by decide) (fun c_5 => ?_) (fun c_5 => ?_)
  · have c_5 := sl_bF c_5
    refine lv_iconst (v := 0) hx hb dX5_lose_12 (by decide) ?_
    refine sl_put (C := RX5) (T := TX5) (N := 16) (ty := .int) (v := .int 0) hC hG 20 h20 rfl la_5 tyX5 tyX5_ok nmX5 0 (by decide) lk_RX5_44 rfl rfl (by decide +kernel) rfl rfl (Nat.le_of_ble_eq_true rfl) dX5_lose_13 (fun H locs hG => ?_)
    have hG : sl_I Γ (sl_up g 20 ((μ 0), .inr (5, [.int 0, .int ep, .int (sl_bi lo), .int (nI tl), .ref (μ 1), .int (nI n), .ref (μ 2), .ref (μ 3), .ref (μ 4), .ref (μ 5), .ref (μ 6), .ref (μ 7), .ref (μ 8), .ref (μ 9), .ref (μ 10), .ref (μ 11)]))) s H _ := hG
    refine lv_aload_n hx hb dX5_lose_16 rfl (lv_at hl 0 rfl) ?_
    refine lv_iconst (v := 1) hx hb dX5_lose_17 (by decide) ?_
    refine sl_put (C := RX5) (T := TX5) (N := 16) (ty := .boolean) (v := .int 1) hC hG 20 (sl_up_s _ _ _) rfl la_5 tyX5 tyX5_ok nmX5 2 (by decide) lk_RX5_55 rfl rfl (by decide +kernel) rfl rfl (Nat.le_of_ble_eq_true rfl) dX5_lose_18 (fun H locs hG => ?_)
    rw [sl_up_up] at hG
    have hG : sl_I Γ (sl_up g 20 ((μ 0), .inr (5, [.int 0, .int ep, .int 1, .int (nI tl), .ref (μ 1), .int (nI n), .ref (μ 2), .ref (μ 3), .ref (μ 4), .ref (μ 5), .ref (μ 6), .ref (μ 7), .ref (μ 8), .ref (μ 9), .ref (μ 10), .ref (μ 11)]))) s H _ := hG
    refine lv_aload_n hx hb dX5_lose_21 rfl (lv_at hl 0 rfl) ?_
    refine sl_get (C := RX5) (T := TX5) (N := 16) hC hG 20 (sl_up_s _ _ _) rfl la_5 0 (by decide) lk_RX5_44 rfl rfl dX5_lose_22 ?_
    refine lv_if_le (tgt := 32) hx hb dX5_lose_25 (by decide) (fun c_25 => ?_) (fun c_25 => ?_)
    · refine lv_aload_n hx hb dX5_lose_32 rfl (lv_at hl 0 rfl) ?_
      refine sl_get (C := RX5) (T := TX5) (N := 16) hC hG 20 (sl_up_s _ _ _) rfl la_5 3 (by decide) lk_RX5_59 rfl rfl dX5_lose_33 ?_
      exact sl_ri (v := nI tl) hC hr hG (sl_up g 20 ((μ 0), .inr (5, [.int 0, .int ep, .int 1, .int (nI tl), .ref (μ 1), .int (nI n), .ref (μ 2), .ref (μ 3), .ref (μ 4), .ref (μ 5), .ref (μ 6), .ref (μ 7), .ref (μ 8), .ref (μ 9), .ref (μ 10), .ref (μ 11)]))) ⟨Or.inl ⟨⟨c_5, rfl⟩, (sl_Mdl_up0 hM 0 ep tl true (by omega))⟩, ((sl_fm.rf g).up _ (by omega))⟩ rfl (Nat.le_of_ble_eq_true rfl) (Nat.le_of_ble_eq_true rfl) dX5_lose_36
    · exact absurd c_25 (by decide)
  · have c_5 := sl_bT c_5
    refine lv_iconst (v := 1) hx hb dX5_lose_8 (by decide) ?_
    refine lv_goto (tgt := 13) hx hb dX5_lose_9 (by decide) ?_
    refine sl_put (C := RX5) (T := TX5) (N := 16) (ty := .int) (v := .int 1) hC hG 20 h20 rfl la_5 tyX5 tyX5_ok nmX5 0 (by decide) lk_RX5_44 rfl rfl (by decide +kernel) rfl rfl (Nat.le_of_ble_eq_true rfl) dX5_lose_13 (fun H locs hG => ?_)
    have hG : sl_I Γ (sl_up g 20 ((μ 0), .inr (5, [.int 1, .int ep, .int (sl_bi lo), .int (nI tl), .ref (μ 1), .int (nI n), .ref (μ 2), .ref (μ 3), .ref (μ 4), .ref (μ 5), .ref (μ 6), .ref (μ 7), .ref (μ 8), .ref (μ 9), .ref (μ 10), .ref (μ 11)]))) s H _ := hG
    refine lv_aload_n hx hb dX5_lose_16 rfl (lv_at hl 0 rfl) ?_
    refine lv_iconst (v := 1) hx hb dX5_lose_17 (by decide) ?_
    refine sl_put (C := RX5) (T := TX5) (N := 16) (ty := .boolean) (v := .int 1) hC hG 20 (sl_up_s _ _ _) rfl la_5 tyX5 tyX5_ok nmX5 2 (by decide) lk_RX5_55 rfl rfl (by decide +kernel) rfl rfl (Nat.le_of_ble_eq_true rfl) dX5_lose_18 (fun H locs hG => ?_)
    rw [sl_up_up] at hG
    have hG : sl_I Γ (sl_up g 20 ((μ 0), .inr (5, [.int 1, .int ep, .int 1, .int (nI tl), .ref (μ 1), .int (nI n), .ref (μ 2), .ref (μ 3), .ref (μ 4), .ref (μ 5), .ref (μ 6), .ref (μ 7), .ref (μ 8), .ref (μ 9), .ref (μ 10), .ref (μ 11)]))) s H _ := hG
    refine lv_aload_n hx hb dX5_lose_21 rfl (lv_at hl 0 rfl) ?_
    refine sl_get (C := RX5) (T := TX5) (N := 16) hC hG 20 (sl_up_s _ _ _) rfl la_5 0 (by decide) lk_RX5_44 rfl rfl dX5_lose_22 ?_
    refine lv_if_le (tgt := 32) hx hb dX5_lose_25 (by decide) (fun c_25 => ?_) (fun c_25 => ?_)
    · exact absurd c_25 (by decide)
    · refine lv_iconst (v := 0) hx hb dX5_lose_28 (by decide) ?_
      refine lv_goto (tgt := 36) hx hb dX5_lose_29 (by decide) ?_
      exact sl_ri (v := 0) hC hr hG (sl_up g 20 ((μ 0), .inr (5, [.int 1, .int ep, .int 1, .int (nI tl), .ref (μ 1), .int (nI n), .ref (μ 2), .ref (μ 3), .ref (μ 4), .ref (μ 5), .ref (μ 6), .ref (μ 7), .ref (μ 8), .ref (μ 9), .ref (μ 10), .ref (μ 11)]))) ⟨Or.inr ⟨c_5, (sl_Mdl_up0 hM 1 ep tl true (by omega))⟩, ((sl_fm.rf g).up _ (by omega))⟩ rfl (Nat.le_of_ble_eq_true rfl) (Nat.le_of_ble_eq_true rfl) dX5_lose_36
set_option maxHeartbeats 4000000 in
set_option maxRecDepth 100000 in
theorem kX5_learns0 (l : Launch) (Γ : sl_G) (g : sl_W) (a0 a1 : Nat) (f0 f1 f2 f3 f5 : Int32) (b6 b7 b8 b9 b10 b11 b12 b13 b14 b15 : Nat) (h20 : g 20 = some (a0, .inr (5, [.int f0, .int f1, .int f2, .int f3, .ref a1, .int f5, .ref b6, .ref b7, .ref b8, .ref b9, .ref b10, .ref b11, .ref b12, .ref b13, .ref b14, .ref b15]))) (T : Nat → Int32) (h21 : g 21 = some (a1, .inl (Γ.2.1 0, 16, .inl T))) (k : Nat) (hk9 : k < 4) (z : Int32) : Met l yX5_learns [Cond.code yX5_learns cX5_learns 4 none] ({ frames := 0, cells := 0, slots := 0, locals := 0 } : Room) (va_Pc [.ref a0, .int (nI k), .int z] (sl_B Γ g)) (sl_Qv Γ (fun (_ : Unit) => True) (fun _ => sl_up g 21 (a1, .inl (Γ.2.1 0, 16, .inl (sl_t1 T k z))))) 0 0 (sl_A Γ) := by
  refine sl_ent (by decide) (Nat.le_of_ble_eq_true rfl) ?_
  intro p e s m below meth c ls hC hr hin hG hl
  have hx := hC.1
  have hb := hC.2.1
  have hl : lv_has ls 4 [(0, .ref a0), (1, .int (nI k)), (2, .int z)] := hl
  refine lv_iconst (v := 3) hx hb dX5_learns_0 (by decide) ?_
  refine lv_istore_n (lv' := [(3, .int 3), (0, .ref a0), (1, .int (nI k)), (2, .int z)]) hx hb dX5_learns_1 rfl hl (by decide) rfl (fun ls hl => ?_)
  refine lv_iload_n hx hb dX5_learns_2 rfl (lv_at hl 0 rfl) ?_
  refine lv_if_le (tgt := 34) hx hb dX5_learns_3 (by decide) (fun c_3 => ?_) (fun c_3 => ?_)
  · exact absurd c_3 (by decide)
  · refine lv_aload_n hx hb dX5_learns_6 rfl (lv_at hl 1 rfl) ?_
    refine sl_get (C := RX5) (T := TX5) (N := 16) hC hG 20 h20 rfl la_5 4 (by decide) lk_RX5_7 rfl rfl dX5_learns_7 ?_
    refine lv_iconst (v := 4) hx hb dX5_learns_10 (by decide) ?_
    refine lv_iload_n hx hb dX5_learns_11 rfl (lv_at hl 2 rfl) ?_
    refine lv_imul hx hb dX5_learns_12 ?_
    refine sl_topi (y := nI (4 * k)) (pk_mul 4 k) ?_
    refine lv_iload_n hx hb dX5_learns_13 rfl (lv_at hl 0 rfl) ?_
    refine lv_iadd hx hb dX5_learns_14 ?_
    refine sl_topi (y := nI (4 * k + 3)) (nI_add (4 * k) 3) ?_
    refine lv_aload_n hx hb dX5_learns_15 rfl (lv_at hl 1 rfl) ?_
    refine sl_get (C := RX5) (T := TX5) (N := 16) hC hG 20 h20 rfl la_5 4 (by decide) lk_RX5_7 rfl rfl dX5_learns_16 ?_
    refine lv_iconst (v := 4) hx hb dX5_learns_19 (by decide) ?_
    refine lv_iload_n hx hb dX5_learns_20 rfl (lv_at hl 2 rfl) ?_
    refine lv_imul hx hb dX5_learns_21 ?_
    refine sl_topi (y := nI (4 * k)) (pk_mul 4 k) ?_
    refine lv_iload_n hx hb dX5_learns_22 rfl (lv_at hl 0 rfl) ?_
    refine lv_iadd hx hb dX5_learns_23 ?_
    refine sl_topi (y := nI (4 * k + 3)) (nI_add (4 * k) 3) ?_
    refine lv_iconst (v := 1) hx hb dX5_learns_24 (by decide) ?_
    refine lv_isub hx hb dX5_learns_25 ?_
    refine sl_topi (y := nI (4 * k + 2)) (nI_pred (4 * k + 2)) ?_
    refine sl_ialdN hC hG 21 h21 (j := 4 * k + 2) rfl (by omega) (by omega) dX5_learns_26 ?_
    refine sl_iastN hC hG 21 h21 (j := 4 * k + 3) rfl (by omega) (by omega) dX5_learns_27 (fun H locs hG => ?_)
    have hG : sl_I Γ (sl_up g 21 (a1, .inl (Γ.2.1 0, 16, .inl (upd T (4 * k + 3) (T (4 * k + 2)))))) s H _ := hG
    refine lv_iinc (v := 2) (lv' := [(3, .int 2), (0, .ref a0), (1, .int (nI k)), (2, .int z)]) hx hb dX5_learns_28 hl (k := 0) rfl (by decide) (by decide) rfl (fun ls hl => ?_)
    refine lv_goto (tgt := 2) hx hb dX5_learns_31 (by decide) ?_
    refine lv_iload_n hx hb dX5_learns_2 rfl (lv_at hl 0 rfl) ?_
    refine lv_if_le (tgt := 34) hx hb dX5_learns_3 (by decide) (fun c_3 => ?_) (fun c_3 => ?_)
    · exact absurd c_3 (by decide)
    · refine lv_aload_n hx hb dX5_learns_6 rfl (lv_at hl 1 rfl) ?_
      refine sl_get (C := RX5) (T := TX5) (N := 16) hC hG 20 (sl_up_to (by decide) h20) rfl la_5 4 (by decide) lk_RX5_7 rfl rfl dX5_learns_7 ?_
      refine lv_iconst (v := 4) hx hb dX5_learns_10 (by decide) ?_
      refine lv_iload_n hx hb dX5_learns_11 rfl (lv_at hl 2 rfl) ?_
      refine lv_imul hx hb dX5_learns_12 ?_
      refine sl_topi (y := nI (4 * k)) (pk_mul 4 k) ?_
      refine lv_iload_n hx hb dX5_learns_13 rfl (lv_at hl 0 rfl) ?_
      refine lv_iadd hx hb dX5_learns_14 ?_
      refine sl_topi (y := nI (4 * k + 2)) (nI_add (4 * k) 2) ?_
      refine lv_aload_n hx hb dX5_learns_15 rfl (lv_at hl 1 rfl) ?_
      refine sl_get (C := RX5) (T := TX5) (N := 16) hC hG 20 (sl_up_to (by decide) h20) rfl la_5 4 (by decide) lk_RX5_7 rfl rfl dX5_learns_16 ?_
      refine lv_iconst (v := 4) hx hb dX5_learns_19 (by decide) ?_
      refine lv_iload_n hx hb dX5_learns_20 rfl (lv_at hl 2 rfl) ?_
      refine lv_imul hx hb dX5_learns_21 ?_
      refine sl_topi (y := nI (4 * k)) (pk_mul 4 k) ?_
      refine lv_iload_n hx hb dX5_learns_22 rfl (lv_at hl 0 rfl) ?_
      refine lv_iadd hx hb dX5_learns_23 ?_
      refine sl_topi (y := nI (4 * k + 2)) (nI_add (4 * k) 2) ?_
      refine lv_iconst (v := 1) hx hb dX5_learns_24 (by decide) ?_
      refine lv_isub hx hb dX5_learns_25 ?_
      refine sl_topi (y := nI (4 * k + 1)) (nI_pred (4 * k + 1)) ?_
      refine sl_ialdN hC hG 21 (sl_up_s _ _ _) (j := 4 * k + 1) rfl (by omega) (by omega) dX5_learns_26 ?_
      refine sl_iastN hC hG 21 (sl_up_s _ _ _) (j := 4 * k + 2) rfl (by omega) (by omega) dX5_learns_27 (fun H locs hG => ?_)
      rw [sl_up_up] at hG
      have hG : sl_I Γ (sl_up g 21 (a1, .inl (Γ.2.1 0, 16, .inl (upd (upd T (4 * k + 3) (T (4 * k + 2))) (4 * k + 2) ((upd T (4 * k + 3) (T (4 * k + 2))) (4 * k + 1)))))) s H _ := hG
      refine lv_iinc (v := 1) (lv' := [(3, .int 1), (0, .ref a0), (1, .int (nI k)), (2, .int z)]) hx hb dX5_learns_28 hl (k := 0) rfl (by decide) (by decide) rfl (fun ls hl => ?_)
      refine lv_goto (tgt := 2) hx hb dX5_learns_31 (by decide) ?_
      refine lv_iload_n hx hb dX5_learns_2 rfl (lv_at hl 0 rfl) ?_
      refine lv_if_le (tgt := 34) hx hb dX5_learns_3 (by decide) (fun c_3 => ?_) (fun c_3 => ?_)
      · exact absurd c_3 (by decide)
      · refine lv_aload_n hx hb dX5_learns_6 rfl (lv_at hl 1 rfl) ?_
        refine sl_get (C := RX5) (T := TX5) (N := 16) hC hG 20 (sl_up_to (by decide) h20) rfl la_5 4 (by decide) lk_RX5_7 rfl rfl dX5_learns_7 ?_
        refine lv_iconst (v := 4) hx hb dX5_learns_10 (by decide) ?_
        refine lv_iload_n hx hb dX5_learns_11 rfl (lv_at hl 2 rfl) ?_
        refine lv_imul hx hb dX5_learns_12 ?_
        refine sl_topi (y := nI (4 * k)) (pk_mul 4 k) ?_
        refine lv_iload_n hx hb dX5_learns_13 rfl (lv_at hl 0 rfl) ?_
        refine lv_iadd hx hb dX5_learns_14 ?_
        refine sl_topi (y := nI (4 * k + 1)) (nI_add (4 * k) 1) ?_
        refine lv_aload_n hx hb dX5_learns_15 rfl (lv_at hl 1 rfl) ?_
        refine sl_get (C := RX5) (T := TX5) (N := 16) hC hG 20 (sl_up_to (by decide) h20) rfl la_5 4 (by decide) lk_RX5_7 rfl rfl dX5_learns_16 ?_
        refine lv_iconst (v := 4) hx hb dX5_learns_19 (by decide) ?_
        refine lv_iload_n hx hb dX5_learns_20 rfl (lv_at hl 2 rfl) ?_
        refine lv_imul hx hb dX5_learns_21 ?_
        refine sl_topi (y := nI (4 * k)) (pk_mul 4 k) ?_
        refine lv_iload_n hx hb dX5_learns_22 rfl (lv_at hl 0 rfl) ?_
        refine lv_iadd hx hb dX5_learns_23 ?_
        refine sl_topi (y := nI (4 * k + 1)) (nI_add (4 * k) 1) ?_
        refine lv_iconst (v := 1) hx hb dX5_learns_24 (by decide) ?_
        refine lv_isub hx hb dX5_learns_25 ?_
        refine sl_topi (y := nI (4 * k + 0)) (nI_pred (4 * k + 0)) ?_
        refine sl_ialdN hC hG 21 (sl_up_s _ _ _) (j := 4 * k + 0) rfl (by omega) (by omega) dX5_learns_26 ?_
        refine sl_iastN hC hG 21 (sl_up_s _ _ _) (j := 4 * k + 1) rfl (by omega) (by omega) dX5_learns_27 (fun H locs hG => ?_)
        rw [sl_up_up] at hG
        have hG : sl_I Γ (sl_up g 21 (a1, .inl (Γ.2.1 0, 16, .inl (upd (upd (upd T (4 * k + 3) (T (4 * k + 2))) (4 * k + 2) ((upd T (4 * k + 3) (T (4 * k + 2))) (4 * k + 1))) (4 * k + 1) ((upd (upd T (4 * k + 3) (T (4 * k + 2))) (4 * k + 2) ((upd T (4 * k + 3) (T (4 * k + 2))) (4 * k + 1))) (4 * k + 0)))))) s H _ := hG
        refine lv_iinc (v := 0) (lv' := [(3, .int 0), (0, .ref a0), (1, .int (nI k)), (2, .int z)]) hx hb dX5_learns_28 hl (k := 0) rfl (by decide) (by decide) rfl (fun ls hl => ?_)
        refine lv_goto (tgt := 2) hx hb dX5_learns_31 (by decide) ?_
        refine lv_iload_n hx hb dX5_learns_2 rfl (lv_at hl 0 rfl) ?_
        refine lv_if_le (tgt := 34) hx hb dX5_learns_3 (by decide) (fun c_3 => ?_) (fun c_3 => ?_)
        · refine lv_aload_n hx hb dX5_learns_34 rfl (lv_at hl 1 rfl) ?_
          refine sl_get (C := RX5) (T := TX5) (N := 16) hC hG 20 (sl_up_to (by decide) h20) rfl la_5 4 (by decide) lk_RX5_7 rfl rfl dX5_learns_35 ?_
          refine lv_iconst (v := 4) hx hb dX5_learns_38 (by decide) ?_
          refine lv_iload_n hx hb dX5_learns_39 rfl (lv_at hl 2 rfl) ?_
          refine lv_imul hx hb dX5_learns_40 ?_
          refine sl_topi (y := nI (4 * k)) (pk_mul 4 k) ?_
          refine lv_iload_n hx hb dX5_learns_41 rfl (lv_at hl 3 rfl) ?_
          refine sl_iastN hC hG 21 (sl_up_s _ _ _) (j := 4 * k) rfl (by omega) (by omega) dX5_learns_42 (fun H locs hG => ?_)
          rw [sl_up_up] at hG
          have hG : sl_I Γ (sl_up g 21 (a1, .inl (Γ.2.1 0, 16, .inl (upd (upd (upd (upd T (4 * k + 3) (T (4 * k + 2))) (4 * k + 2) ((upd T (4 * k + 3) (T (4 * k + 2))) (4 * k + 1))) (4 * k + 1) ((upd (upd T (4 * k + 3) (T (4 * k + 2))) (4 * k + 2) ((upd T (4 * k + 3) (T (4 * k + 2))) (4 * k + 1))) (4 * k + 0))) (4 * k) z)))) s H _ := hG
          exact sl_rv hC hr hG () trivial (by show sl_up g 21 _ = sl_up g 21 _; rw [sl_t1, pk_un (k := 4 * k + 3) (j := 4 * k + 1) (by omega), pk_un (k := 4 * k + 2) (j := 4 * k + 0) (by omega), pk_un (k := 4 * k + 3) (j := 4 * k + 0) (by omega)]; rfl) (Nat.le_of_ble_eq_true rfl) (Nat.le_of_ble_eq_true rfl) dX5_learns_43
        · exact absurd c_3 (by decide)
theorem sl_ch_f {lo : Bool} {tl n : Nat} (h : sl_ch lo tl n = false) : lo = false ∧ tl < 120 ∧ n < 150 := by
  rw [sl_ch, Bool.or_eq_false_iff, Bool.or_eq_false_iff, decide_eq_false_iff_not, decide_eq_false_iff_not] at h
  exact ⟨h.1.1, by omega, by omega⟩
set_option maxHeartbeats 4000000 in
set_option maxRecDepth 100000 in
theorem kX5_hands (l : Launch) (Γ : sl_G) (g : sl_W) (μ : Nat → Nat) (n : Nat) (ep : Int32) (tl : Nat) (lo : Bool) (T C : Nat → Int32) (E : Nat → sl_Ent) (th : Int32) (hM : sl_Mdl Γ μ n ep tl lo T C E th g) (ss am rd ver : Int32) (hch : sl_ch lo tl n = false) (hr1 : 0 ≤ rd.toInt) (hr2 : rd.toInt ≤ 15) (hv : ∃ v, v ≤ 120 ∧ ver = nI v) : Met l yX5_hands [Cond.code yX5_hands cX5_hands 9 (some .int)] ({ frames := 1, cells := 0, slots := 0, locals := 23 } : Room) (va_Pc [.ref (μ 0), .int ss, .int am, .int rd, .int ver] (sl_B Γ g)) (sl_Qi Γ (fun r g' => r = nI n ∧ sl_Mdl Γ μ (n + 1) ep (tl + 1) lo (sl_tp T ss (nI tl) 4) C (sl_eu E n (nI tl, ep, ss, am, rd, ver, sl_tc T ss 4, 0)) th g' ∧ sl_fm g g') (fun g' => g')) 0 0 (sl_A Γ) := by
  refine sl_ent (by decide) (Nat.le_of_ble_eq_true rfl) ?_
  intro p e s m below meth c ls hC hr hin hG hl
  have hx := hC.1
  have hb := hC.2.1
  have hl : lv_has ls 9 [(0, .ref (μ 0)), (1, .int ss), (2, .int am), (3, .int rd), (4, .int ver)] := hl
  obtain ⟨h20, h21, h22, h23, h24, h25, h26, h27, h28, h29, h30, ⟨F, h31⟩, hn9, ht9, hC9, hE9, hZ9⟩ := id hM
  obtain ⟨hlo9, htl9, hnn9⟩ := sl_ch_f hch
  refine lv_aload_n hx hb dX5_hands_0 rfl (lv_at hl 0 rfl) ?_
  refine sl_get (C := RX5) (T := TX5) (N := 16) hC hG 20 h20 rfl la_5 5 (by decide) lk_RX5_52 rfl rfl dX5_hands_1 ?_
  refine lv_istore (lv' := [(5, .int (nI n)), (0, .ref (μ 0)), (1, .int ss), (2, .int am), (3, .int rd), (4, .int ver)]) hx hb dX5_hands_4 hl (by decide) rfl (fun ls hl => ?_)
  refine lv_aload_n hx hb dX5_hands_6 rfl (lv_at hl 1 rfl) ?_
  refine sl_get (C := RX5) (T := TX5) (N := 16) hC hG 20 h20 rfl la_5 6 (by decide) lk_RX5_13 rfl rfl dX5_hands_7 ?_
  refine lv_iload hx hb dX5_hands_10 (lv_at hl 0 rfl) ?_
  refine lv_aload_n hx hb dX5_hands_12 rfl (lv_at hl 1 rfl) ?_
  refine sl_get (C := RX5) (T := TX5) (N := 16) hC hG 20 h20 rfl la_5 3 (by decide) lk_RX5_59 rfl rfl dX5_hands_13 ?_
  refine sl_iastN hC hG 22 h22 (j := n) rfl (by omega) (by omega) dX5_hands_16 (fun H locs hG => ?_)
  have hG : sl_I Γ (sl_up g 22 ((μ 2), .inl (Γ.2.1 0, 150, .inl (upd (fun i => (E i).1) n (nI tl))))) s H _ := hG
  refine lv_aload_n hx hb dX5_hands_17 rfl (lv_at hl 1 rfl) ?_
  refine sl_get (C := RX5) (T := TX5) (N := 16) hC hG 20 (sl_up_to (by decide) h20) rfl la_5 7 (by decide) lk_RX5_16 rfl rfl dX5_hands_18 ?_
  refine lv_iload hx hb dX5_hands_21 (lv_at hl 0 rfl) ?_
  refine lv_aload_n hx hb dX5_hands_23 rfl (lv_at hl 1 rfl) ?_
  refine sl_get (C := RX5) (T := TX5) (N := 16) hC hG 20 (sl_up_to (by decide) h20) rfl la_5 1 (by decide) lk_RX5_62 rfl rfl dX5_hands_24 ?_
  refine sl_iastN hC hG 23 (sl_up_to (by decide) h23) (j := n) rfl (by omega) (by omega) dX5_hands_27 (fun H locs hG => ?_)
  have hG : sl_I Γ (sl_up (sl_up g 22 ((μ 2), .inl (Γ.2.1 0, 150, .inl (upd (fun i => (E i).1) n (nI tl))))) 23 ((μ 3), .inl (Γ.2.1 0, 150, .inl (upd (fun i => (E i).2.1) n ep)))) s H _ := hG
  refine lv_aload_n hx hb dX5_hands_28 rfl (lv_at hl 1 rfl) ?_
  refine sl_get (C := RX5) (T := TX5) (N := 16) hC hG 20 (sl_up_to (by decide) (sl_up_to (by decide) h20)) rfl la_5 8 (by decide) lk_RX5_19 rfl rfl dX5_hands_29 ?_
  refine lv_iload hx hb dX5_hands_32 (lv_at hl 0 rfl) ?_
  refine lv_iload_n hx hb dX5_hands_34 rfl (lv_at hl 2 rfl) ?_
  refine sl_iastN hC hG 24 (sl_up_to (by decide) (sl_up_to (by decide) h24)) (j := n) rfl (by omega) (by omega) dX5_hands_35 (fun H locs hG => ?_)
  have hG : sl_I Γ (sl_up (sl_up (sl_up g 22 ((μ 2), .inl (Γ.2.1 0, 150, .inl (upd (fun i => (E i).1) n (nI tl))))) 23 ((μ 3), .inl (Γ.2.1 0, 150, .inl (upd (fun i => (E i).2.1) n ep)))) 24 ((μ 4), .inl (Γ.2.1 0, 150, .inl (upd (fun i => (E i).2.2.1) n ss)))) s H _ := hG
  refine lv_aload_n hx hb dX5_hands_36 rfl (lv_at hl 1 rfl) ?_
  refine sl_get (C := RX5) (T := TX5) (N := 16) hC hG 20 (sl_up_to (by decide) (sl_up_to (by decide) (sl_up_to (by decide) h20))) rfl la_5 9 (by decide) lk_RX5_22 rfl rfl dX5_hands_37 ?_
  refine lv_iload hx hb dX5_hands_40 (lv_at hl 0 rfl) ?_
  refine lv_iload_n hx hb dX5_hands_42 rfl (lv_at hl 3 rfl) ?_
  refine sl_iastN hC hG 25 (sl_up_to (by decide) (sl_up_to (by decide) (sl_up_to (by decide) h25))) (j := n) rfl (by omega) (by omega) dX5_hands_43 (fun H locs hG => ?_)
  have hG : sl_I Γ (sl_up (sl_up (sl_up (sl_up g 22 ((μ 2), .inl (Γ.2.1 0, 150, .inl (upd (fun i => (E i).1) n (nI tl))))) 23 ((μ 3), .inl (Γ.2.1 0, 150, .inl (upd (fun i => (E i).2.1) n ep)))) 24 ((μ 4), .inl (Γ.2.1 0, 150, .inl (upd (fun i => (E i).2.2.1) n ss)))) 25 ((μ 5), .inl (Γ.2.1 0, 150, .inl (upd (fun i => (E i).2.2.2.1) n am)))) s H _ := hG
  refine lv_aload_n hx hb dX5_hands_44 rfl (lv_at hl 1 rfl) ?_
  refine sl_get (C := RX5) (T := TX5) (N := 16) hC hG 20 (sl_up_to (by decide) (sl_up_to (by decide) (sl_up_to (by decide) (sl_up_to (by decide) h20)))) rfl la_5 10 (by decide) lk_RX5_25 rfl rfl dX5_hands_45 ?_
  refine lv_iload hx hb dX5_hands_48 (lv_at hl 0 rfl) ?_
  refine lv_iload_n hx hb dX5_hands_50 rfl (lv_at hl 4 rfl) ?_
  refine sl_iastN hC hG 26 (sl_up_to (by decide) (sl_up_to (by decide) (sl_up_to (by decide) (sl_up_to (by decide) h26)))) (j := n) rfl (by omega) (by omega) dX5_hands_51 (fun H locs hG => ?_)
  have hG : sl_I Γ (sl_up (sl_up (sl_up (sl_up (sl_up g 22 ((μ 2), .inl (Γ.2.1 0, 150, .inl (upd (fun i => (E i).1) n (nI tl))))) 23 ((μ 3), .inl (Γ.2.1 0, 150, .inl (upd (fun i => (E i).2.1) n ep)))) 24 ((μ 4), .inl (Γ.2.1 0, 150, .inl (upd (fun i => (E i).2.2.1) n ss)))) 25 ((μ 5), .inl (Γ.2.1 0, 150, .inl (upd (fun i => (E i).2.2.2.1) n am)))) 26 ((μ 6), .inl (Γ.2.1 0, 150, .inl (upd (fun i => (E i).2.2.2.2.1) n rd)))) s H _ := hG
  refine lv_aload_n hx hb dX5_hands_52 rfl (lv_at hl 1 rfl) ?_
  refine sl_get (C := RX5) (T := TX5) (N := 16) hC hG 20 (sl_up_to (by decide) (sl_up_to (by decide) (sl_up_to (by decide) (sl_up_to (by decide) (sl_up_to (by decide) h20))))) rfl la_5 11 (by decide) lk_RX5_28 rfl rfl dX5_hands_53 ?_
  refine lv_iload hx hb dX5_hands_56 (lv_at hl 0 rfl) ?_
  refine lv_iload hx hb dX5_hands_58 (lv_at hl 5 rfl) ?_
  refine sl_iastN hC hG 27 (sl_up_to (by decide) (sl_up_to (by decide) (sl_up_to (by decide) (sl_up_to (by decide) (sl_up_to (by decide) h27))))) (j := n) rfl (by omega) (by omega) dX5_hands_60 (fun H locs hG => ?_)
  have hG : sl_I Γ (sl_up (sl_up (sl_up (sl_up (sl_up (sl_up g 22 ((μ 2), .inl (Γ.2.1 0, 150, .inl (upd (fun i => (E i).1) n (nI tl))))) 23 ((μ 3), .inl (Γ.2.1 0, 150, .inl (upd (fun i => (E i).2.1) n ep)))) 24 ((μ 4), .inl (Γ.2.1 0, 150, .inl (upd (fun i => (E i).2.2.1) n ss)))) 25 ((μ 5), .inl (Γ.2.1 0, 150, .inl (upd (fun i => (E i).2.2.2.1) n am)))) 26 ((μ 6), .inl (Γ.2.1 0, 150, .inl (upd (fun i => (E i).2.2.2.2.1) n rd)))) 27 ((μ 7), .inl (Γ.2.1 0, 150, .inl (upd (fun i => (E i).2.2.2.2.2.1) n ver)))) s H _ := hG
  refine lv_iconst (v := 0) hx hb dX5_hands_61 (by decide) ?_
  refine lv_istore (lv' := [(6, .int 0), (5, .int (nI n)), (0, .ref (μ 0)), (1, .int ss), (2, .int am), (3, .int rd), (4, .int ver)]) hx hb dX5_hands_62 hl (by decide) rfl (fun ls hl => ?_)
  have loop_64 : ∀ (fuel k : Nat), k ≤ 4 → 4 + 1 ≤ k + fuel → ∀ (H : Heap) (locs : List Loc), sl_I Γ (sl_up (sl_up (sl_up (sl_up (sl_up (sl_up (sl_up (sl_up g 22 ((μ 2), .inl (Γ.2.1 0, 150, .inl (upd (fun i => (E i).1) n (nI tl))))) 23 ((μ 3), .inl (Γ.2.1 0, 150, .inl (upd (fun i => (E i).2.1) n ep)))) 24 ((μ 4), .inl (Γ.2.1 0, 150, .inl (upd (fun i => (E i).2.2.1) n ss)))) 25 ((μ 5), .inl (Γ.2.1 0, 150, .inl (upd (fun i => (E i).2.2.2.1) n am)))) 26 ((μ 6), .inl (Γ.2.1 0, 150, .inl (upd (fun i => (E i).2.2.2.2.1) n rd)))) 27 ((μ 7), .inl (Γ.2.1 0, 150, .inl (upd (fun i => (E i).2.2.2.2.2.1) n ver)))) 21 ((μ 1), .inl (Γ.2.1 0, 16, .inl (sl_tp T ss (nI tl) k)))) 29 ((μ 9), .inl (Γ.2.1 0, 2400, .inl (sl_pn (fun j => (E (j / 16)).2.2.2.2.2.2.1 (j % 16)) n (sl_tc T ss 4) k)))) s H locs → ∀ (ls : Array Slot), lv_has ls 9 [(0, .ref (μ 0)), (1, .int ss), (2, .int am), (3, .int rd), (4, .int ver), (5, .int (nI n)), (6, .int (nI k))] → W p l e ({ frames := 1, cells := 0, slots := 0, locals := 23 } : Room) s m ([.ref (μ 0), .int ss, .int am, .int rd, .int ver] : List Value).toArray below meth c H locs 0 0 (MQ below (sl_Qi Γ (fun r g' => r = nI n ∧ sl_Mdl Γ μ (n + 1) ep (tl + 1) lo (sl_tp T ss (nI tl) 4) C (sl_eu E n (nI tl, ep, ss, am, rd, ver, sl_tc T ss 4, 0)) th g' ∧ sl_fm g g') (fun g' => g')) ([.ref (μ 0), .int ss, .int am, .int rd, .int ver] : List Value).toArray s 0 0 (sl_A Γ)) (F0 m 64 ls []) := by
    intro fuel
    induction fuel with
    | zero =>
      intro k  h1 h2
      exact absurd h2 (by omega)
    | succ fuel ih_64 =>
      intro k  hk_64 hn_64  H locs hG ls hl
      refine lv_iload hx hb dX5_hands_64 (lv_at hl 6 rfl) ?_
      refine lv_iconst (v := 4) hx hb dX5_hands_66 (by decide) ?_
      refine lv_icmp_ge (tgt := 162) hx hb dX5_hands_67 (by decide) (fun c_67 => ?_) (fun c_67 => ?_)
      · have n_67 : 4 ≤ k := (nI_leI (a := 4) (b := k) (by omega) (by omega)).mp c_67
        refine lv_aload_n hx hb dX5_hands_162 rfl (lv_at hl 0 rfl) ?_
        refine lv_dup hx hb dX5_hands_163 rfl ?_
        refine sl_get (C := RX5) (T := TX5) (N := 16) hC hG 20 (sl_up_to (by decide) (sl_up_to (by decide) (sl_up_to (by decide) (sl_up_to (by decide) (sl_up_to (by decide) (sl_up_to (by decide) (sl_up_to (by decide) (sl_up_to (by decide) h20)))))))) rfl la_5 3 (by decide) lk_RX5_59 rfl rfl dX5_hands_164 ?_
        refine lv_iconst (v := 1) hx hb dX5_hands_167 (by decide) ?_
        refine lv_iadd hx hb dX5_hands_168 ?_
        refine sl_topi (y := nI (tl + 1)) (nI_add tl 1) ?_
        refine sl_put (C := RX5) (T := TX5) (N := 16) (ty := .int) (v := .int (nI (tl + 1))) hC hG 20 (sl_up_to (by decide) (sl_up_to (by decide) (sl_up_to (by decide) (sl_up_to (by decide) (sl_up_to (by decide) (sl_up_to (by decide) (sl_up_to (by decide) (sl_up_to (by decide) h20)))))))) rfl la_5 tyX5 tyX5_ok nmX5 3 (by decide) lk_RX5_59 rfl rfl (by decide +kernel) rfl rfl (Nat.le_of_ble_eq_true rfl) dX5_hands_169 (fun H locs hG => ?_)
        have hG : sl_I Γ (sl_up (sl_up (sl_up (sl_up (sl_up (sl_up (sl_up (sl_up (sl_up g 22 ((μ 2), .inl (Γ.2.1 0, 150, .inl (upd (fun i => (E i).1) n (nI tl))))) 23 ((μ 3), .inl (Γ.2.1 0, 150, .inl (upd (fun i => (E i).2.1) n ep)))) 24 ((μ 4), .inl (Γ.2.1 0, 150, .inl (upd (fun i => (E i).2.2.1) n ss)))) 25 ((μ 5), .inl (Γ.2.1 0, 150, .inl (upd (fun i => (E i).2.2.2.1) n am)))) 26 ((μ 6), .inl (Γ.2.1 0, 150, .inl (upd (fun i => (E i).2.2.2.2.1) n rd)))) 27 ((μ 7), .inl (Γ.2.1 0, 150, .inl (upd (fun i => (E i).2.2.2.2.2.1) n ver)))) 21 ((μ 1), .inl (Γ.2.1 0, 16, .inl (sl_tp T ss (nI tl) k)))) 29 ((μ 9), .inl (Γ.2.1 0, 2400, .inl (sl_pn (fun j => (E (j / 16)).2.2.2.2.2.2.1 (j % 16)) n (sl_tc T ss 4) k)))) 20 ((μ 0), .inr (5, [.int th, .int ep, .int (sl_bi lo), .int (nI (tl + 1)), .ref (μ 1), .int (nI n), .ref (μ 2), .ref (μ 3), .ref (μ 4), .ref (μ 5), .ref (μ 6), .ref (μ 7), .ref (μ 8), .ref (μ 9), .ref (μ 10), .ref (μ 11)]))) s H _ := hG
        refine lv_aload_n hx hb dX5_hands_172 rfl (lv_at hl 0 rfl) ?_
        refine lv_dup hx hb dX5_hands_173 rfl ?_
        refine sl_get (C := RX5) (T := TX5) (N := 16) hC hG 20 (sl_up_s _ _ _) rfl la_5 5 (by decide) lk_RX5_52 rfl rfl dX5_hands_174 ?_
        refine lv_iconst (v := 1) hx hb dX5_hands_177 (by decide) ?_
        refine lv_iadd hx hb dX5_hands_178 ?_
        refine sl_topi (y := nI (n + 1)) (nI_add n 1) ?_
        refine sl_put (C := RX5) (T := TX5) (N := 16) (ty := .int) (v := .int (nI (n + 1))) hC hG 20 (sl_up_s _ _ _) rfl la_5 tyX5 tyX5_ok nmX5 5 (by decide) lk_RX5_52 rfl rfl (by decide +kernel) rfl rfl (Nat.le_of_ble_eq_true rfl) dX5_hands_179 (fun H locs hG => ?_)
        rw [sl_up_up] at hG
        have hG : sl_I Γ (sl_up (sl_up (sl_up (sl_up (sl_up (sl_up (sl_up (sl_up (sl_up g 22 ((μ 2), .inl (Γ.2.1 0, 150, .inl (upd (fun i => (E i).1) n (nI tl))))) 23 ((μ 3), .inl (Γ.2.1 0, 150, .inl (upd (fun i => (E i).2.1) n ep)))) 24 ((μ 4), .inl (Γ.2.1 0, 150, .inl (upd (fun i => (E i).2.2.1) n ss)))) 25 ((μ 5), .inl (Γ.2.1 0, 150, .inl (upd (fun i => (E i).2.2.2.1) n am)))) 26 ((μ 6), .inl (Γ.2.1 0, 150, .inl (upd (fun i => (E i).2.2.2.2.1) n rd)))) 27 ((μ 7), .inl (Γ.2.1 0, 150, .inl (upd (fun i => (E i).2.2.2.2.2.1) n ver)))) 21 ((μ 1), .inl (Γ.2.1 0, 16, .inl (sl_tp T ss (nI tl) k)))) 29 ((μ 9), .inl (Γ.2.1 0, 2400, .inl (sl_pn (fun j => (E (j / 16)).2.2.2.2.2.2.1 (j % 16)) n (sl_tc T ss 4) k)))) 20 ((μ 0), .inr (5, [.int th, .int ep, .int (sl_bi lo), .int (nI (tl + 1)), .ref (μ 1), .int (nI (n + 1)), .ref (μ 2), .ref (μ 3), .ref (μ 4), .ref (μ 5), .ref (μ 6), .ref (μ 7), .ref (μ 8), .ref (μ 9), .ref (μ 10), .ref (μ 11)]))) s H _ := hG
        refine lv_iload hx hb dX5_hands_182 (lv_at hl 5 rfl) ?_
        have hk9 : k = 4 := by omega
        rw [hk9] at hG
        exact sl_ri (v := nI n) hC hr hG (sl_up (sl_up (sl_up (sl_up (sl_up (sl_up (sl_up (sl_up (sl_up g 22 ((μ 2), .inl (Γ.2.1 0, 150, .inl (upd (fun i => (E i).1) n (nI tl))))) 23 ((μ 3), .inl (Γ.2.1 0, 150, .inl (upd (fun i => (E i).2.1) n ep)))) 24 ((μ 4), .inl (Γ.2.1 0, 150, .inl (upd (fun i => (E i).2.2.1) n ss)))) 25 ((μ 5), .inl (Γ.2.1 0, 150, .inl (upd (fun i => (E i).2.2.2.1) n am)))) 26 ((μ 6), .inl (Γ.2.1 0, 150, .inl (upd (fun i => (E i).2.2.2.2.1) n rd)))) 27 ((μ 7), .inl (Γ.2.1 0, 150, .inl (upd (fun i => (E i).2.2.2.2.2.1) n ver)))) 21 ((μ 1), .inl (Γ.2.1 0, 16, .inl (sl_tp T ss (nI tl) 4)))) 29 ((μ 9), .inl (Γ.2.1 0, 2400, .inl (sl_pn (fun j => (E (j / 16)).2.2.2.2.2.2.1 (j % 16)) n (sl_tc T ss 4) 4)))) 20 ((μ 0), .inr (5, [.int th, .int ep, .int (sl_bi lo), .int (nI (tl + 1)), .ref (μ 1), .int (nI (n + 1)), .ref (μ 2), .ref (μ 3), .ref (μ 4), .ref (μ 5), .ref (μ 6), .ref (μ 7), .ref (μ 8), .ref (μ 9), .ref (μ 10), .ref (μ 11)]))) ⟨rfl, sl_Mdl_hand hM (by omega) (by omega) ss am rd ver hr1 hr2 hv (sl_tp T ss (nI tl) 4) (sl_tc T ss 4)⟩ rfl (Nat.le_of_ble_eq_true rfl) (Nat.le_of_ble_eq_true rfl) dX5_hands_184
      · have n_67 : ¬ (4 ≤ k) := fun z => c_67 ((nI_leI (a := 4) (b := k) (by omega) (by omega)).mpr z)
        refine lv_iload_n hx hb dX5_hands_70 rfl (lv_at hl 1 rfl) ?_
        refine lv_iload hx hb dX5_hands_71 (lv_at hl 6 rfl) ?_
        refine lv_ishr hx hb dX5_hands_73 ?_
        refine lv_iconst (v := 1) hx hb dX5_hands_74 (by decide) ?_
        refine lv_iand hx hb dX5_hands_75 ?_
        refine lv_iconst (v := 1) hx hb dX5_hands_76 (by decide) ?_
        refine lv_icmp_ne (tgt := 84) hx hb dX5_hands_77 (by decide) (fun c_77 => ?_) (fun c_77 => ?_)
        · refine lv_iconst (v := 0) hx hb dX5_hands_84 (by decide) ?_
          refine lv_istore (lv' := [(7, .int 0), (0, .ref (μ 0)), (1, .int ss), (2, .int am), (3, .int rd), (4, .int ver), (5, .int (nI n)), (6, .int (nI k))]) hx hb dX5_hands_85 hl (by decide) rfl (fun ls hl => ?_)
          refine lv_iconst (v := 0) hx hb dX5_hands_87 (by decide) ?_
          refine lv_istore (lv' := [(8, .int 0), (7, .int 0), (0, .ref (μ 0)), (1, .int ss), (2, .int am), (3, .int rd), (4, .int ver), (5, .int (nI n)), (6, .int (nI k))]) hx hb dX5_hands_88 hl (by decide) rfl (fun ls hl => ?_)
          refine lv_iload hx hb dX5_hands_90 (lv_at hl 0 rfl) ?_
          refine lv_iconst (v := 4) hx hb dX5_hands_92 (by decide) ?_
          refine lv_icmp_ge (tgt := 141) hx hb dX5_hands_93 (by decide) (fun c_93 => ?_) (fun c_93 => ?_)
          · exact absurd c_93 (by decide)
          · refine lv_aload_n hx hb dX5_hands_96 rfl (lv_at hl 2 rfl) ?_
            refine sl_get (C := RX5) (T := TX5) (N := 16) hC hG 20 (sl_up_to (by decide) (sl_up_to (by decide) (sl_up_to (by decide) (sl_up_to (by decide) (sl_up_to (by decide) (sl_up_to (by decide) (sl_up_to (by decide) (sl_up_to (by decide) h20)))))))) rfl la_5 13 (by decide) lk_RX5_34 rfl rfl dX5_hands_97 ?_
            refine lv_bipush (v := 16) hx hb dX5_hands_100 (by decide) ?_
            refine lv_iload hx hb dX5_hands_102 (lv_at hl 7 rfl) ?_
            refine lv_imul hx hb dX5_hands_104 ?_
            refine sl_topi (y := nI (16 * n)) (pk_mul 16 n) ?_
            refine lv_iconst (v := 4) hx hb dX5_hands_105 (by decide) ?_
            refine lv_iload hx hb dX5_hands_106 (lv_at hl 8 rfl) ?_
            refine lv_imul hx hb dX5_hands_108 ?_
            refine sl_topi (y := nI (4 * k)) (pk_mul 4 k) ?_
            refine lv_iadd hx hb dX5_hands_109 ?_
            refine sl_topi (y := nI (16 * n + 4 * k)) (nI_add (16 * n) (4 * k)) ?_
            refine lv_iload hx hb dX5_hands_110 (lv_at hl 0 rfl) ?_
            refine lv_iadd hx hb dX5_hands_112 ?_
            refine sl_topi (y := nI (16 * n + 4 * k + 0)) (nI_add (16 * n + 4 * k) 0) ?_
            refine lv_iload hx hb dX5_hands_113 (lv_at hl 1 rfl) ?_
            refine lv_if_eq (tgt := 133) hx hb dX5_hands_115 (by decide) (fun c_115 => ?_) (fun c_115 => ?_)
            · refine lv_iconst (v := (-1)) hx hb dX5_hands_133 (by decide) ?_
              refine sl_iastN hC hG 29 (sl_up_s _ _ _) (j := 16 * n + 4 * k + 0) rfl (by omega) (by omega) dX5_hands_134 (fun H locs hG => ?_)
              have hG : sl_I Γ (sl_up (sl_up (sl_up (sl_up (sl_up (sl_up (sl_up (sl_up (sl_up g 22 ((μ 2), .inl (Γ.2.1 0, 150, .inl (upd (fun i => (E i).1) n (nI tl))))) 23 ((μ 3), .inl (Γ.2.1 0, 150, .inl (upd (fun i => (E i).2.1) n ep)))) 24 ((μ 4), .inl (Γ.2.1 0, 150, .inl (upd (fun i => (E i).2.2.1) n ss)))) 25 ((μ 5), .inl (Γ.2.1 0, 150, .inl (upd (fun i => (E i).2.2.2.1) n am)))) 26 ((μ 6), .inl (Γ.2.1 0, 150, .inl (upd (fun i => (E i).2.2.2.2.1) n rd)))) 27 ((μ 7), .inl (Γ.2.1 0, 150, .inl (upd (fun i => (E i).2.2.2.2.2.1) n ver)))) 21 ((μ 1), .inl (Γ.2.1 0, 16, .inl (sl_tp T ss (nI tl) k)))) 29 ((μ 9), .inl (Γ.2.1 0, 2400, .inl (sl_pn (fun j => (E (j / 16)).2.2.2.2.2.2.1 (j % 16)) n (sl_tc T ss 4) k)))) 29 ((μ 9), .inl (Γ.2.1 0, 2400, .inl (upd (sl_pn (fun j => (E (j / 16)).2.2.2.2.2.2.1 (j % 16)) n (sl_tc T ss 4) k) (16 * n + 4 * k + 0) (-1))))) s H _ := hG
              refine lv_iinc (v := 1) (lv' := [(8, .int 1), (7, .int 0), (0, .ref (μ 0)), (1, .int ss), (2, .int am), (3, .int rd), (4, .int ver), (5, .int (nI n)), (6, .int (nI k))]) hx hb dX5_hands_135 hl (k := 0) rfl (by decide) (by decide) rfl (fun ls hl => ?_)
              refine lv_goto (tgt := 90) hx hb dX5_hands_138 (by decide) ?_
              refine lv_iload hx hb dX5_hands_90 (lv_at hl 0 rfl) ?_
              refine lv_iconst (v := 4) hx hb dX5_hands_92 (by decide) ?_
              refine lv_icmp_ge (tgt := 141) hx hb dX5_hands_93 (by decide) (fun c_93 => ?_) (fun c_93 => ?_)
              · exact absurd c_93 (by decide)
              · refine lv_aload_n hx hb dX5_hands_96 rfl (lv_at hl 2 rfl) ?_
                refine sl_get (C := RX5) (T := TX5) (N := 16) hC hG 20 (sl_up_to (by decide) (sl_up_to (by decide) (sl_up_to (by decide) (sl_up_to (by decide) (sl_up_to (by decide) (sl_up_to (by decide) (sl_up_to (by decide) (sl_up_to (by decide) (sl_up_to (by decide) h20))))))))) rfl la_5 13 (by decide) lk_RX5_34 rfl rfl dX5_hands_97 ?_
                refine lv_bipush (v := 16) hx hb dX5_hands_100 (by decide) ?_
                refine lv_iload hx hb dX5_hands_102 (lv_at hl 7 rfl) ?_
                refine lv_imul hx hb dX5_hands_104 ?_
                refine sl_topi (y := nI (16 * n)) (pk_mul 16 n) ?_
                refine lv_iconst (v := 4) hx hb dX5_hands_105 (by decide) ?_
                refine lv_iload hx hb dX5_hands_106 (lv_at hl 8 rfl) ?_
                refine lv_imul hx hb dX5_hands_108 ?_
                refine sl_topi (y := nI (4 * k)) (pk_mul 4 k) ?_
                refine lv_iadd hx hb dX5_hands_109 ?_
                refine sl_topi (y := nI (16 * n + 4 * k)) (nI_add (16 * n) (4 * k)) ?_
                refine lv_iload hx hb dX5_hands_110 (lv_at hl 0 rfl) ?_
                refine lv_iadd hx hb dX5_hands_112 ?_
                refine sl_topi (y := nI (16 * n + 4 * k + 1)) (nI_add (16 * n + 4 * k) 1) ?_
                refine lv_iload hx hb dX5_hands_113 (lv_at hl 1 rfl) ?_
                refine lv_if_eq (tgt := 133) hx hb dX5_hands_115 (by decide) (fun c_115 => ?_) (fun c_115 => ?_)
                · refine lv_iconst (v := (-1)) hx hb dX5_hands_133 (by decide) ?_
                  refine sl_iastN hC hG 29 (sl_up_s _ _ _) (j := 16 * n + 4 * k + 1) rfl (by omega) (by omega) dX5_hands_134 (fun H locs hG => ?_)
                  rw [sl_up_up] at hG
                  have hG : sl_I Γ (sl_up (sl_up (sl_up (sl_up (sl_up (sl_up (sl_up (sl_up (sl_up g 22 ((μ 2), .inl (Γ.2.1 0, 150, .inl (upd (fun i => (E i).1) n (nI tl))))) 23 ((μ 3), .inl (Γ.2.1 0, 150, .inl (upd (fun i => (E i).2.1) n ep)))) 24 ((μ 4), .inl (Γ.2.1 0, 150, .inl (upd (fun i => (E i).2.2.1) n ss)))) 25 ((μ 5), .inl (Γ.2.1 0, 150, .inl (upd (fun i => (E i).2.2.2.1) n am)))) 26 ((μ 6), .inl (Γ.2.1 0, 150, .inl (upd (fun i => (E i).2.2.2.2.1) n rd)))) 27 ((μ 7), .inl (Γ.2.1 0, 150, .inl (upd (fun i => (E i).2.2.2.2.2.1) n ver)))) 21 ((μ 1), .inl (Γ.2.1 0, 16, .inl (sl_tp T ss (nI tl) k)))) 29 ((μ 9), .inl (Γ.2.1 0, 2400, .inl (sl_pn (fun j => (E (j / 16)).2.2.2.2.2.2.1 (j % 16)) n (sl_tc T ss 4) k)))) 29 ((μ 9), .inl (Γ.2.1 0, 2400, .inl (upd (upd (sl_pn (fun j => (E (j / 16)).2.2.2.2.2.2.1 (j % 16)) n (sl_tc T ss 4) k) (16 * n + 4 * k + 0) (-1)) (16 * n + 4 * k + 1) (-1))))) s H _ := hG
                  refine lv_iinc (v := 2) (lv' := [(8, .int 2), (7, .int 0), (0, .ref (μ 0)), (1, .int ss), (2, .int am), (3, .int rd), (4, .int ver), (5, .int (nI n)), (6, .int (nI k))]) hx hb dX5_hands_135 hl (k := 0) rfl (by decide) (by decide) rfl (fun ls hl => ?_)
                  refine lv_goto (tgt := 90) hx hb dX5_hands_138 (by decide) ?_
                  refine lv_iload hx hb dX5_hands_90 (lv_at hl 0 rfl) ?_
                  refine lv_iconst (v := 4) hx hb dX5_hands_92 (by decide) ?_
                  refine lv_icmp_ge (tgt := 141) hx hb dX5_hands_93 (by decide) (fun c_93 => ?_) (fun c_93 => ?_)
                  · exact absurd c_93 (by decide)
                  · refine lv_aload_n hx hb dX5_hands_96 rfl (lv_at hl 2 rfl) ?_
                    refine sl_get (C := RX5) (T := TX5) (N := 16) hC hG 20 (sl_up_to (by decide) (sl_up_to (by decide) (sl_up_to (by decide) (sl_up_to (by decide) (sl_up_to (by decide) (sl_up_to (by decide) (sl_up_to (by decide) (sl_up_to (by decide) (sl_up_to (by decide) h20))))))))) rfl la_5 13 (by decide) lk_RX5_34 rfl rfl dX5_hands_97 ?_
                    refine lv_bipush (v := 16) hx hb dX5_hands_100 (by decide) ?_
                    refine lv_iload hx hb dX5_hands_102 (lv_at hl 7 rfl) ?_
                    refine lv_imul hx hb dX5_hands_104 ?_
                    refine sl_topi (y := nI (16 * n)) (pk_mul 16 n) ?_
                    refine lv_iconst (v := 4) hx hb dX5_hands_105 (by decide) ?_
                    refine lv_iload hx hb dX5_hands_106 (lv_at hl 8 rfl) ?_
                    refine lv_imul hx hb dX5_hands_108 ?_
                    refine sl_topi (y := nI (4 * k)) (pk_mul 4 k) ?_
                    refine lv_iadd hx hb dX5_hands_109 ?_
                    refine sl_topi (y := nI (16 * n + 4 * k)) (nI_add (16 * n) (4 * k)) ?_
                    refine lv_iload hx hb dX5_hands_110 (lv_at hl 0 rfl) ?_
                    refine lv_iadd hx hb dX5_hands_112 ?_
                    refine sl_topi (y := nI (16 * n + 4 * k + 2)) (nI_add (16 * n + 4 * k) 2) ?_
                    refine lv_iload hx hb dX5_hands_113 (lv_at hl 1 rfl) ?_
                    refine lv_if_eq (tgt := 133) hx hb dX5_hands_115 (by decide) (fun c_115 => ?_) (fun c_115 => ?_)
                    · refine lv_iconst (v := (-1)) hx hb dX5_hands_133 (by decide) ?_
                      refine sl_iastN hC hG 29 (sl_up_s _ _ _) (j := 16 * n + 4 * k + 2) rfl (by omega) (by omega) dX5_hands_134 (fun H locs hG => ?_)
                      rw [sl_up_up] at hG
                      have hG : sl_I Γ (sl_up (sl_up (sl_up (sl_up (sl_up (sl_up (sl_up (sl_up (sl_up g 22 ((μ 2), .inl (Γ.2.1 0, 150, .inl (upd (fun i => (E i).1) n (nI tl))))) 23 ((μ 3), .inl (Γ.2.1 0, 150, .inl (upd (fun i => (E i).2.1) n ep)))) 24 ((μ 4), .inl (Γ.2.1 0, 150, .inl (upd (fun i => (E i).2.2.1) n ss)))) 25 ((μ 5), .inl (Γ.2.1 0, 150, .inl (upd (fun i => (E i).2.2.2.1) n am)))) 26 ((μ 6), .inl (Γ.2.1 0, 150, .inl (upd (fun i => (E i).2.2.2.2.1) n rd)))) 27 ((μ 7), .inl (Γ.2.1 0, 150, .inl (upd (fun i => (E i).2.2.2.2.2.1) n ver)))) 21 ((μ 1), .inl (Γ.2.1 0, 16, .inl (sl_tp T ss (nI tl) k)))) 29 ((μ 9), .inl (Γ.2.1 0, 2400, .inl (sl_pn (fun j => (E (j / 16)).2.2.2.2.2.2.1 (j % 16)) n (sl_tc T ss 4) k)))) 29 ((μ 9), .inl (Γ.2.1 0, 2400, .inl (upd (upd (upd (sl_pn (fun j => (E (j / 16)).2.2.2.2.2.2.1 (j % 16)) n (sl_tc T ss 4) k) (16 * n + 4 * k + 0) (-1)) (16 * n + 4 * k + 1) (-1)) (16 * n + 4 * k + 2) (-1))))) s H _ := hG
                      refine lv_iinc (v := 3) (lv' := [(8, .int 3), (7, .int 0), (0, .ref (μ 0)), (1, .int ss), (2, .int am), (3, .int rd), (4, .int ver), (5, .int (nI n)), (6, .int (nI k))]) hx hb dX5_hands_135 hl (k := 0) rfl (by decide) (by decide) rfl (fun ls hl => ?_)
                      refine lv_goto (tgt := 90) hx hb dX5_hands_138 (by decide) ?_
                      refine lv_iload hx hb dX5_hands_90 (lv_at hl 0 rfl) ?_
                      refine lv_iconst (v := 4) hx hb dX5_hands_92 (by decide) ?_
                      refine lv_icmp_ge (tgt := 141) hx hb dX5_hands_93 (by decide) (fun c_93 => ?_) (fun c_93 => ?_)
                      · exact absurd c_93 (by decide)
                      · refine lv_aload_n hx hb dX5_hands_96 rfl (lv_at hl 2 rfl) ?_
                        refine sl_get (C := RX5) (T := TX5) (N := 16) hC hG 20 (sl_up_to (by decide) (sl_up_to (by decide) (sl_up_to (by decide) (sl_up_to (by decide) (sl_up_to (by decide) (sl_up_to (by decide) (sl_up_to (by decide) (sl_up_to (by decide) (sl_up_to (by decide) h20))))))))) rfl la_5 13 (by decide) lk_RX5_34 rfl rfl dX5_hands_97 ?_
                        refine lv_bipush (v := 16) hx hb dX5_hands_100 (by decide) ?_
                        refine lv_iload hx hb dX5_hands_102 (lv_at hl 7 rfl) ?_
                        refine lv_imul hx hb dX5_hands_104 ?_
                        refine sl_topi (y := nI (16 * n)) (pk_mul 16 n) ?_
                        refine lv_iconst (v := 4) hx hb dX5_hands_105 (by decide) ?_
                        refine lv_iload hx hb dX5_hands_106 (lv_at hl 8 rfl) ?_
                        refine lv_imul hx hb dX5_hands_108 ?_
                        refine sl_topi (y := nI (4 * k)) (pk_mul 4 k) ?_
                        refine lv_iadd hx hb dX5_hands_109 ?_
                        refine sl_topi (y := nI (16 * n + 4 * k)) (nI_add (16 * n) (4 * k)) ?_
                        refine lv_iload hx hb dX5_hands_110 (lv_at hl 0 rfl) ?_
                        refine lv_iadd hx hb dX5_hands_112 ?_
                        refine sl_topi (y := nI (16 * n + 4 * k + 3)) (nI_add (16 * n + 4 * k) 3) ?_
                        refine lv_iload hx hb dX5_hands_113 (lv_at hl 1 rfl) ?_
                        refine lv_if_eq (tgt := 133) hx hb dX5_hands_115 (by decide) (fun c_115 => ?_) (fun c_115 => ?_)
                        · refine lv_iconst (v := (-1)) hx hb dX5_hands_133 (by decide) ?_
                          refine sl_iastN hC hG 29 (sl_up_s _ _ _) (j := 16 * n + 4 * k + 3) rfl (by omega) (by omega) dX5_hands_134 (fun H locs hG => ?_)
                          rw [sl_up_up] at hG
                          have hG : sl_I Γ (sl_up (sl_up (sl_up (sl_up (sl_up (sl_up (sl_up (sl_up (sl_up g 22 ((μ 2), .inl (Γ.2.1 0, 150, .inl (upd (fun i => (E i).1) n (nI tl))))) 23 ((μ 3), .inl (Γ.2.1 0, 150, .inl (upd (fun i => (E i).2.1) n ep)))) 24 ((μ 4), .inl (Γ.2.1 0, 150, .inl (upd (fun i => (E i).2.2.1) n ss)))) 25 ((μ 5), .inl (Γ.2.1 0, 150, .inl (upd (fun i => (E i).2.2.2.1) n am)))) 26 ((μ 6), .inl (Γ.2.1 0, 150, .inl (upd (fun i => (E i).2.2.2.2.1) n rd)))) 27 ((μ 7), .inl (Γ.2.1 0, 150, .inl (upd (fun i => (E i).2.2.2.2.2.1) n ver)))) 21 ((μ 1), .inl (Γ.2.1 0, 16, .inl (sl_tp T ss (nI tl) k)))) 29 ((μ 9), .inl (Γ.2.1 0, 2400, .inl (sl_pn (fun j => (E (j / 16)).2.2.2.2.2.2.1 (j % 16)) n (sl_tc T ss 4) k)))) 29 ((μ 9), .inl (Γ.2.1 0, 2400, .inl (upd (upd (upd (upd (sl_pn (fun j => (E (j / 16)).2.2.2.2.2.2.1 (j % 16)) n (sl_tc T ss 4) k) (16 * n + 4 * k + 0) (-1)) (16 * n + 4 * k + 1) (-1)) (16 * n + 4 * k + 2) (-1)) (16 * n + 4 * k + 3) (-1))))) s H _ := hG
                          refine lv_iinc (v := 4) (lv' := [(8, .int 4), (7, .int 0), (0, .ref (μ 0)), (1, .int ss), (2, .int am), (3, .int rd), (4, .int ver), (5, .int (nI n)), (6, .int (nI k))]) hx hb dX5_hands_135 hl (k := 0) rfl (by decide) (by decide) rfl (fun ls hl => ?_)
                          refine lv_goto (tgt := 90) hx hb dX5_hands_138 (by decide) ?_
                          refine lv_iload hx hb dX5_hands_90 (lv_at hl 0 rfl) ?_
                          refine lv_iconst (v := 4) hx hb dX5_hands_92 (by decide) ?_
                          refine lv_icmp_ge (tgt := 141) hx hb dX5_hands_93 (by decide) (fun c_93 => ?_) (fun c_93 => ?_)
                          · refine lv_iload hx hb dX5_hands_141 (lv_at hl 1 rfl) ?_
                            refine lv_if_eq (tgt := 156) hx hb dX5_hands_143 (by decide) (fun c_143 => ?_) (fun c_143 => ?_)
                            · refine lv_iinc (v := nI (k + 1)) (lv' := [(6, .int (nI (k + 1))), (8, .int 4), (7, .int 0), (0, .ref (μ 0)), (1, .int ss), (2, .int am), (3, .int rd), (4, .int ver), (5, .int (nI n))]) hx hb dX5_hands_156 hl (k := 8) rfl (nI_1 k) (by decide) rfl (fun ls hl => ?_)
                              refine lv_goto (tgt := 64) hx hb dX5_hands_159 (by decide) ?_
                              rw [sl_up_up, sl_pn_4 (X := sl_tc T ss 4) (sl_pn_n (by omega) (by omega) c_77) (sl_pn_n (by omega) (by omega) c_77) (sl_pn_n (by omega) (by omega) c_77) (sl_pn_n (by omega) (by omega) c_77), sl_tp_n (T := T) (z := nI tl) c_77] at hG
                              exact ih_64 (k + 1) (by omega) (by omega) _ _ hG _ (lv_sub hl [3, 4, 5, 6, 7, 8, 0] rfl)
                            · exact absurd c_143 (by decide)
                          · exact absurd c_93 (by decide)
                        · exact absurd c_115 (by decide)
                    · exact absurd c_115 (by decide)
                · exact absurd c_115 (by decide)
            · exact absurd c_115 (by decide)
        · refine lv_iconst (v := 1) hx hb dX5_hands_80 (by decide) ?_
          refine lv_goto (tgt := 85) hx hb dX5_hands_81 (by decide) ?_
          refine lv_istore (lv' := [(7, .int 1), (0, .ref (μ 0)), (1, .int ss), (2, .int am), (3, .int rd), (4, .int ver), (5, .int (nI n)), (6, .int (nI k))]) hx hb dX5_hands_85 hl (by decide) rfl (fun ls hl => ?_)
          refine lv_iconst (v := 0) hx hb dX5_hands_87 (by decide) ?_
          refine lv_istore (lv' := [(8, .int 0), (7, .int 1), (0, .ref (μ 0)), (1, .int ss), (2, .int am), (3, .int rd), (4, .int ver), (5, .int (nI n)), (6, .int (nI k))]) hx hb dX5_hands_88 hl (by decide) rfl (fun ls hl => ?_)
          refine lv_iload hx hb dX5_hands_90 (lv_at hl 0 rfl) ?_
          refine lv_iconst (v := 4) hx hb dX5_hands_92 (by decide) ?_
          refine lv_icmp_ge (tgt := 141) hx hb dX5_hands_93 (by decide) (fun c_93 => ?_) (fun c_93 => ?_)
          · exact absurd c_93 (by decide)
          · refine lv_aload_n hx hb dX5_hands_96 rfl (lv_at hl 2 rfl) ?_
            refine sl_get (C := RX5) (T := TX5) (N := 16) hC hG 20 (sl_up_to (by decide) (sl_up_to (by decide) (sl_up_to (by decide) (sl_up_to (by decide) (sl_up_to (by decide) (sl_up_to (by decide) (sl_up_to (by decide) (sl_up_to (by decide) h20)))))))) rfl la_5 13 (by decide) lk_RX5_34 rfl rfl dX5_hands_97 ?_
            refine lv_bipush (v := 16) hx hb dX5_hands_100 (by decide) ?_
            refine lv_iload hx hb dX5_hands_102 (lv_at hl 7 rfl) ?_
            refine lv_imul hx hb dX5_hands_104 ?_
            refine sl_topi (y := nI (16 * n)) (pk_mul 16 n) ?_
            refine lv_iconst (v := 4) hx hb dX5_hands_105 (by decide) ?_
            refine lv_iload hx hb dX5_hands_106 (lv_at hl 8 rfl) ?_
            refine lv_imul hx hb dX5_hands_108 ?_
            refine sl_topi (y := nI (4 * k)) (pk_mul 4 k) ?_
            refine lv_iadd hx hb dX5_hands_109 ?_
            refine sl_topi (y := nI (16 * n + 4 * k)) (nI_add (16 * n) (4 * k)) ?_
            refine lv_iload hx hb dX5_hands_110 (lv_at hl 0 rfl) ?_
            refine lv_iadd hx hb dX5_hands_112 ?_
            refine sl_topi (y := nI (16 * n + 4 * k + 0)) (nI_add (16 * n + 4 * k) 0) ?_
            refine lv_iload hx hb dX5_hands_113 (lv_at hl 1 rfl) ?_
            refine lv_if_eq (tgt := 133) hx hb dX5_hands_115 (by decide) (fun c_115 => ?_) (fun c_115 => ?_)
            · exact absurd c_115 (by decide)
            · refine lv_aload_n hx hb dX5_hands_118 rfl (lv_at hl 2 rfl) ?_
              refine sl_get (C := RX5) (T := TX5) (N := 16) hC hG 20 (sl_up_to (by decide) (sl_up_to (by decide) (sl_up_to (by decide) (sl_up_to (by decide) (sl_up_to (by decide) (sl_up_to (by decide) (sl_up_to (by decide) (sl_up_to (by decide) h20)))))))) rfl la_5 4 (by decide) lk_RX5_7 rfl rfl dX5_hands_119 ?_
              refine lv_iconst (v := 4) hx hb dX5_hands_122 (by decide) ?_
              refine lv_iload hx hb dX5_hands_123 (lv_at hl 8 rfl) ?_
              refine lv_imul hx hb dX5_hands_125 ?_
              refine sl_topi (y := nI (4 * k)) (pk_mul 4 k) ?_
              refine lv_iload hx hb dX5_hands_126 (lv_at hl 0 rfl) ?_
              refine lv_iadd hx hb dX5_hands_128 ?_
              refine sl_topi (y := nI (4 * k + 0)) (nI_add (4 * k) 0) ?_
              refine sl_ialdN hC hG 21 (sl_up_to (by decide) (sl_up_s _ _ _)) (j := 4 * k + 0) rfl (by omega) (by omega) dX5_hands_129 ?_
              refine lv_goto (tgt := 134) hx hb dX5_hands_130 (by decide) ?_
              refine sl_iastN hC hG 29 (sl_up_s _ _ _) (j := 16 * n + 4 * k + 0) rfl (by omega) (by omega) dX5_hands_134 (fun H locs hG => ?_)
              have hG : sl_I Γ (sl_up (sl_up (sl_up (sl_up (sl_up (sl_up (sl_up (sl_up (sl_up g 22 ((μ 2), .inl (Γ.2.1 0, 150, .inl (upd (fun i => (E i).1) n (nI tl))))) 23 ((μ 3), .inl (Γ.2.1 0, 150, .inl (upd (fun i => (E i).2.1) n ep)))) 24 ((μ 4), .inl (Γ.2.1 0, 150, .inl (upd (fun i => (E i).2.2.1) n ss)))) 25 ((μ 5), .inl (Γ.2.1 0, 150, .inl (upd (fun i => (E i).2.2.2.1) n am)))) 26 ((μ 6), .inl (Γ.2.1 0, 150, .inl (upd (fun i => (E i).2.2.2.2.1) n rd)))) 27 ((μ 7), .inl (Γ.2.1 0, 150, .inl (upd (fun i => (E i).2.2.2.2.2.1) n ver)))) 21 ((μ 1), .inl (Γ.2.1 0, 16, .inl (sl_tp T ss (nI tl) k)))) 29 ((μ 9), .inl (Γ.2.1 0, 2400, .inl (sl_pn (fun j => (E (j / 16)).2.2.2.2.2.2.1 (j % 16)) n (sl_tc T ss 4) k)))) 29 ((μ 9), .inl (Γ.2.1 0, 2400, .inl (upd (sl_pn (fun j => (E (j / 16)).2.2.2.2.2.2.1 (j % 16)) n (sl_tc T ss 4) k) (16 * n + 4 * k + 0) ((sl_tp T ss (nI tl) k) (4 * k + 0)))))) s H _ := hG
              refine lv_iinc (v := 1) (lv' := [(8, .int 1), (7, .int 1), (0, .ref (μ 0)), (1, .int ss), (2, .int am), (3, .int rd), (4, .int ver), (5, .int (nI n)), (6, .int (nI k))]) hx hb dX5_hands_135 hl (k := 0) rfl (by decide) (by decide) rfl (fun ls hl => ?_)
              refine lv_goto (tgt := 90) hx hb dX5_hands_138 (by decide) ?_
              refine lv_iload hx hb dX5_hands_90 (lv_at hl 0 rfl) ?_
              refine lv_iconst (v := 4) hx hb dX5_hands_92 (by decide) ?_
              refine lv_icmp_ge (tgt := 141) hx hb dX5_hands_93 (by decide) (fun c_93 => ?_) (fun c_93 => ?_)
              · exact absurd c_93 (by decide)
              · refine lv_aload_n hx hb dX5_hands_96 rfl (lv_at hl 2 rfl) ?_
                refine sl_get (C := RX5) (T := TX5) (N := 16) hC hG 20 (sl_up_to (by decide) (sl_up_to (by decide) (sl_up_to (by decide) (sl_up_to (by decide) (sl_up_to (by decide) (sl_up_to (by decide) (sl_up_to (by decide) (sl_up_to (by decide) (sl_up_to (by decide) h20))))))))) rfl la_5 13 (by decide) lk_RX5_34 rfl rfl dX5_hands_97 ?_
                refine lv_bipush (v := 16) hx hb dX5_hands_100 (by decide) ?_
                refine lv_iload hx hb dX5_hands_102 (lv_at hl 7 rfl) ?_
                refine lv_imul hx hb dX5_hands_104 ?_
                refine sl_topi (y := nI (16 * n)) (pk_mul 16 n) ?_
                refine lv_iconst (v := 4) hx hb dX5_hands_105 (by decide) ?_
                refine lv_iload hx hb dX5_hands_106 (lv_at hl 8 rfl) ?_
                refine lv_imul hx hb dX5_hands_108 ?_
                refine sl_topi (y := nI (4 * k)) (pk_mul 4 k) ?_
                refine lv_iadd hx hb dX5_hands_109 ?_
                refine sl_topi (y := nI (16 * n + 4 * k)) (nI_add (16 * n) (4 * k)) ?_
                refine lv_iload hx hb dX5_hands_110 (lv_at hl 0 rfl) ?_
                refine lv_iadd hx hb dX5_hands_112 ?_
                refine sl_topi (y := nI (16 * n + 4 * k + 1)) (nI_add (16 * n + 4 * k) 1) ?_
                refine lv_iload hx hb dX5_hands_113 (lv_at hl 1 rfl) ?_
                refine lv_if_eq (tgt := 133) hx hb dX5_hands_115 (by decide) (fun c_115 => ?_) (fun c_115 => ?_)
                · exact absurd c_115 (by decide)
                · refine lv_aload_n hx hb dX5_hands_118 rfl (lv_at hl 2 rfl) ?_
                  refine sl_get (C := RX5) (T := TX5) (N := 16) hC hG 20 (sl_up_to (by decide) (sl_up_to (by decide) (sl_up_to (by decide) (sl_up_to (by decide) (sl_up_to (by decide) (sl_up_to (by decide) (sl_up_to (by decide) (sl_up_to (by decide) (sl_up_to (by decide) h20))))))))) rfl la_5 4 (by decide) lk_RX5_7 rfl rfl dX5_hands_119 ?_
                  refine lv_iconst (v := 4) hx hb dX5_hands_122 (by decide) ?_
                  refine lv_iload hx hb dX5_hands_123 (lv_at hl 8 rfl) ?_
                  refine lv_imul hx hb dX5_hands_125 ?_
                  refine sl_topi (y := nI (4 * k)) (pk_mul 4 k) ?_
                  refine lv_iload hx hb dX5_hands_126 (lv_at hl 0 rfl) ?_
                  refine lv_iadd hx hb dX5_hands_128 ?_
                  refine sl_topi (y := nI (4 * k + 1)) (nI_add (4 * k) 1) ?_
                  refine sl_ialdN hC hG 21 (sl_up_to (by decide) (sl_up_to (by decide) (sl_up_s _ _ _))) (j := 4 * k + 1) rfl (by omega) (by omega) dX5_hands_129 ?_
                  refine lv_goto (tgt := 134) hx hb dX5_hands_130 (by decide) ?_
                  refine sl_iastN hC hG 29 (sl_up_s _ _ _) (j := 16 * n + 4 * k + 1) rfl (by omega) (by omega) dX5_hands_134 (fun H locs hG => ?_)
                  rw [sl_up_up] at hG
                  have hG : sl_I Γ (sl_up (sl_up (sl_up (sl_up (sl_up (sl_up (sl_up (sl_up (sl_up g 22 ((μ 2), .inl (Γ.2.1 0, 150, .inl (upd (fun i => (E i).1) n (nI tl))))) 23 ((μ 3), .inl (Γ.2.1 0, 150, .inl (upd (fun i => (E i).2.1) n ep)))) 24 ((μ 4), .inl (Γ.2.1 0, 150, .inl (upd (fun i => (E i).2.2.1) n ss)))) 25 ((μ 5), .inl (Γ.2.1 0, 150, .inl (upd (fun i => (E i).2.2.2.1) n am)))) 26 ((μ 6), .inl (Γ.2.1 0, 150, .inl (upd (fun i => (E i).2.2.2.2.1) n rd)))) 27 ((μ 7), .inl (Γ.2.1 0, 150, .inl (upd (fun i => (E i).2.2.2.2.2.1) n ver)))) 21 ((μ 1), .inl (Γ.2.1 0, 16, .inl (sl_tp T ss (nI tl) k)))) 29 ((μ 9), .inl (Γ.2.1 0, 2400, .inl (sl_pn (fun j => (E (j / 16)).2.2.2.2.2.2.1 (j % 16)) n (sl_tc T ss 4) k)))) 29 ((μ 9), .inl (Γ.2.1 0, 2400, .inl (upd (upd (sl_pn (fun j => (E (j / 16)).2.2.2.2.2.2.1 (j % 16)) n (sl_tc T ss 4) k) (16 * n + 4 * k + 0) ((sl_tp T ss (nI tl) k) (4 * k + 0))) (16 * n + 4 * k + 1) ((sl_tp T ss (nI tl) k) (4 * k + 1)))))) s H _ := hG
                  refine lv_iinc (v := 2) (lv' := [(8, .int 2), (7, .int 1), (0, .ref (μ 0)), (1, .int ss), (2, .int am), (3, .int rd), (4, .int ver), (5, .int (nI n)), (6, .int (nI k))]) hx hb dX5_hands_135 hl (k := 0) rfl (by decide) (by decide) rfl (fun ls hl => ?_)
                  refine lv_goto (tgt := 90) hx hb dX5_hands_138 (by decide) ?_
                  refine lv_iload hx hb dX5_hands_90 (lv_at hl 0 rfl) ?_
                  refine lv_iconst (v := 4) hx hb dX5_hands_92 (by decide) ?_
                  refine lv_icmp_ge (tgt := 141) hx hb dX5_hands_93 (by decide) (fun c_93 => ?_) (fun c_93 => ?_)
                  · exact absurd c_93 (by decide)
                  · refine lv_aload_n hx hb dX5_hands_96 rfl (lv_at hl 2 rfl) ?_
                    refine sl_get (C := RX5) (T := TX5) (N := 16) hC hG 20 (sl_up_to (by decide) (sl_up_to (by decide) (sl_up_to (by decide) (sl_up_to (by decide) (sl_up_to (by decide) (sl_up_to (by decide) (sl_up_to (by decide) (sl_up_to (by decide) (sl_up_to (by decide) h20))))))))) rfl la_5 13 (by decide) lk_RX5_34 rfl rfl dX5_hands_97 ?_
                    refine lv_bipush (v := 16) hx hb dX5_hands_100 (by decide) ?_
                    refine lv_iload hx hb dX5_hands_102 (lv_at hl 7 rfl) ?_
                    refine lv_imul hx hb dX5_hands_104 ?_
                    refine sl_topi (y := nI (16 * n)) (pk_mul 16 n) ?_
                    refine lv_iconst (v := 4) hx hb dX5_hands_105 (by decide) ?_
                    refine lv_iload hx hb dX5_hands_106 (lv_at hl 8 rfl) ?_
                    refine lv_imul hx hb dX5_hands_108 ?_
                    refine sl_topi (y := nI (4 * k)) (pk_mul 4 k) ?_
                    refine lv_iadd hx hb dX5_hands_109 ?_
                    refine sl_topi (y := nI (16 * n + 4 * k)) (nI_add (16 * n) (4 * k)) ?_
                    refine lv_iload hx hb dX5_hands_110 (lv_at hl 0 rfl) ?_
                    refine lv_iadd hx hb dX5_hands_112 ?_
                    refine sl_topi (y := nI (16 * n + 4 * k + 2)) (nI_add (16 * n + 4 * k) 2) ?_
                    refine lv_iload hx hb dX5_hands_113 (lv_at hl 1 rfl) ?_
                    refine lv_if_eq (tgt := 133) hx hb dX5_hands_115 (by decide) (fun c_115 => ?_) (fun c_115 => ?_)
                    · exact absurd c_115 (by decide)
                    · refine lv_aload_n hx hb dX5_hands_118 rfl (lv_at hl 2 rfl) ?_
                      refine sl_get (C := RX5) (T := TX5) (N := 16) hC hG 20 (sl_up_to (by decide) (sl_up_to (by decide) (sl_up_to (by decide) (sl_up_to (by decide) (sl_up_to (by decide) (sl_up_to (by decide) (sl_up_to (by decide) (sl_up_to (by decide) (sl_up_to (by decide) h20))))))))) rfl la_5 4 (by decide) lk_RX5_7 rfl rfl dX5_hands_119 ?_
                      refine lv_iconst (v := 4) hx hb dX5_hands_122 (by decide) ?_
                      refine lv_iload hx hb dX5_hands_123 (lv_at hl 8 rfl) ?_
                      refine lv_imul hx hb dX5_hands_125 ?_
                      refine sl_topi (y := nI (4 * k)) (pk_mul 4 k) ?_
                      refine lv_iload hx hb dX5_hands_126 (lv_at hl 0 rfl) ?_
                      refine lv_iadd hx hb dX5_hands_128 ?_
                      refine sl_topi (y := nI (4 * k + 2)) (nI_add (4 * k) 2) ?_
                      refine sl_ialdN hC hG 21 (sl_up_to (by decide) (sl_up_to (by decide) (sl_up_s _ _ _))) (j := 4 * k + 2) rfl (by omega) (by omega) dX5_hands_129 ?_
                      refine lv_goto (tgt := 134) hx hb dX5_hands_130 (by decide) ?_
                      refine sl_iastN hC hG 29 (sl_up_s _ _ _) (j := 16 * n + 4 * k + 2) rfl (by omega) (by omega) dX5_hands_134 (fun H locs hG => ?_)
                      rw [sl_up_up] at hG
                      have hG : sl_I Γ (sl_up (sl_up (sl_up (sl_up (sl_up (sl_up (sl_up (sl_up (sl_up g 22 ((μ 2), .inl (Γ.2.1 0, 150, .inl (upd (fun i => (E i).1) n (nI tl))))) 23 ((μ 3), .inl (Γ.2.1 0, 150, .inl (upd (fun i => (E i).2.1) n ep)))) 24 ((μ 4), .inl (Γ.2.1 0, 150, .inl (upd (fun i => (E i).2.2.1) n ss)))) 25 ((μ 5), .inl (Γ.2.1 0, 150, .inl (upd (fun i => (E i).2.2.2.1) n am)))) 26 ((μ 6), .inl (Γ.2.1 0, 150, .inl (upd (fun i => (E i).2.2.2.2.1) n rd)))) 27 ((μ 7), .inl (Γ.2.1 0, 150, .inl (upd (fun i => (E i).2.2.2.2.2.1) n ver)))) 21 ((μ 1), .inl (Γ.2.1 0, 16, .inl (sl_tp T ss (nI tl) k)))) 29 ((μ 9), .inl (Γ.2.1 0, 2400, .inl (sl_pn (fun j => (E (j / 16)).2.2.2.2.2.2.1 (j % 16)) n (sl_tc T ss 4) k)))) 29 ((μ 9), .inl (Γ.2.1 0, 2400, .inl (upd (upd (upd (sl_pn (fun j => (E (j / 16)).2.2.2.2.2.2.1 (j % 16)) n (sl_tc T ss 4) k) (16 * n + 4 * k + 0) ((sl_tp T ss (nI tl) k) (4 * k + 0))) (16 * n + 4 * k + 1) ((sl_tp T ss (nI tl) k) (4 * k + 1))) (16 * n + 4 * k + 2) ((sl_tp T ss (nI tl) k) (4 * k + 2)))))) s H _ := hG
                      refine lv_iinc (v := 3) (lv' := [(8, .int 3), (7, .int 1), (0, .ref (μ 0)), (1, .int ss), (2, .int am), (3, .int rd), (4, .int ver), (5, .int (nI n)), (6, .int (nI k))]) hx hb dX5_hands_135 hl (k := 0) rfl (by decide) (by decide) rfl (fun ls hl => ?_)
                      refine lv_goto (tgt := 90) hx hb dX5_hands_138 (by decide) ?_
                      refine lv_iload hx hb dX5_hands_90 (lv_at hl 0 rfl) ?_
                      refine lv_iconst (v := 4) hx hb dX5_hands_92 (by decide) ?_
                      refine lv_icmp_ge (tgt := 141) hx hb dX5_hands_93 (by decide) (fun c_93 => ?_) (fun c_93 => ?_)
                      · exact absurd c_93 (by decide)
                      · refine lv_aload_n hx hb dX5_hands_96 rfl (lv_at hl 2 rfl) ?_
                        refine sl_get (C := RX5) (T := TX5) (N := 16) hC hG 20 (sl_up_to (by decide) (sl_up_to (by decide) (sl_up_to (by decide) (sl_up_to (by decide) (sl_up_to (by decide) (sl_up_to (by decide) (sl_up_to (by decide) (sl_up_to (by decide) (sl_up_to (by decide) h20))))))))) rfl la_5 13 (by decide) lk_RX5_34 rfl rfl dX5_hands_97 ?_
                        refine lv_bipush (v := 16) hx hb dX5_hands_100 (by decide) ?_
                        refine lv_iload hx hb dX5_hands_102 (lv_at hl 7 rfl) ?_
                        refine lv_imul hx hb dX5_hands_104 ?_
                        refine sl_topi (y := nI (16 * n)) (pk_mul 16 n) ?_
                        refine lv_iconst (v := 4) hx hb dX5_hands_105 (by decide) ?_
                        refine lv_iload hx hb dX5_hands_106 (lv_at hl 8 rfl) ?_
                        refine lv_imul hx hb dX5_hands_108 ?_
                        refine sl_topi (y := nI (4 * k)) (pk_mul 4 k) ?_
                        refine lv_iadd hx hb dX5_hands_109 ?_
                        refine sl_topi (y := nI (16 * n + 4 * k)) (nI_add (16 * n) (4 * k)) ?_
                        refine lv_iload hx hb dX5_hands_110 (lv_at hl 0 rfl) ?_
                        refine lv_iadd hx hb dX5_hands_112 ?_
                        refine sl_topi (y := nI (16 * n + 4 * k + 3)) (nI_add (16 * n + 4 * k) 3) ?_
                        refine lv_iload hx hb dX5_hands_113 (lv_at hl 1 rfl) ?_
                        refine lv_if_eq (tgt := 133) hx hb dX5_hands_115 (by decide) (fun c_115 => ?_) (fun c_115 => ?_)
                        · exact absurd c_115 (by decide)
                        · refine lv_aload_n hx hb dX5_hands_118 rfl (lv_at hl 2 rfl) ?_
                          refine sl_get (C := RX5) (T := TX5) (N := 16) hC hG 20 (sl_up_to (by decide) (sl_up_to (by decide) (sl_up_to (by decide) (sl_up_to (by decide) (sl_up_to (by decide) (sl_up_to (by decide) (sl_up_to (by decide) (sl_up_to (by decide) (sl_up_to (by decide) h20))))))))) rfl la_5 4 (by decide) lk_RX5_7 rfl rfl dX5_hands_119 ?_
                          refine lv_iconst (v := 4) hx hb dX5_hands_122 (by decide) ?_
                          refine lv_iload hx hb dX5_hands_123 (lv_at hl 8 rfl) ?_
                          refine lv_imul hx hb dX5_hands_125 ?_
                          refine sl_topi (y := nI (4 * k)) (pk_mul 4 k) ?_
                          refine lv_iload hx hb dX5_hands_126 (lv_at hl 0 rfl) ?_
                          refine lv_iadd hx hb dX5_hands_128 ?_
                          refine sl_topi (y := nI (4 * k + 3)) (nI_add (4 * k) 3) ?_
                          refine sl_ialdN hC hG 21 (sl_up_to (by decide) (sl_up_to (by decide) (sl_up_s _ _ _))) (j := 4 * k + 3) rfl (by omega) (by omega) dX5_hands_129 ?_
                          refine lv_goto (tgt := 134) hx hb dX5_hands_130 (by decide) ?_
                          refine sl_iastN hC hG 29 (sl_up_s _ _ _) (j := 16 * n + 4 * k + 3) rfl (by omega) (by omega) dX5_hands_134 (fun H locs hG => ?_)
                          rw [sl_up_up] at hG
                          have hG : sl_I Γ (sl_up (sl_up (sl_up (sl_up (sl_up (sl_up (sl_up (sl_up (sl_up g 22 ((μ 2), .inl (Γ.2.1 0, 150, .inl (upd (fun i => (E i).1) n (nI tl))))) 23 ((μ 3), .inl (Γ.2.1 0, 150, .inl (upd (fun i => (E i).2.1) n ep)))) 24 ((μ 4), .inl (Γ.2.1 0, 150, .inl (upd (fun i => (E i).2.2.1) n ss)))) 25 ((μ 5), .inl (Γ.2.1 0, 150, .inl (upd (fun i => (E i).2.2.2.1) n am)))) 26 ((μ 6), .inl (Γ.2.1 0, 150, .inl (upd (fun i => (E i).2.2.2.2.1) n rd)))) 27 ((μ 7), .inl (Γ.2.1 0, 150, .inl (upd (fun i => (E i).2.2.2.2.2.1) n ver)))) 21 ((μ 1), .inl (Γ.2.1 0, 16, .inl (sl_tp T ss (nI tl) k)))) 29 ((μ 9), .inl (Γ.2.1 0, 2400, .inl (sl_pn (fun j => (E (j / 16)).2.2.2.2.2.2.1 (j % 16)) n (sl_tc T ss 4) k)))) 29 ((μ 9), .inl (Γ.2.1 0, 2400, .inl (upd (upd (upd (upd (sl_pn (fun j => (E (j / 16)).2.2.2.2.2.2.1 (j % 16)) n (sl_tc T ss 4) k) (16 * n + 4 * k + 0) ((sl_tp T ss (nI tl) k) (4 * k + 0))) (16 * n + 4 * k + 1) ((sl_tp T ss (nI tl) k) (4 * k + 1))) (16 * n + 4 * k + 2) ((sl_tp T ss (nI tl) k) (4 * k + 2))) (16 * n + 4 * k + 3) ((sl_tp T ss (nI tl) k) (4 * k + 3)))))) s H _ := hG
                          refine lv_iinc (v := 4) (lv' := [(8, .int 4), (7, .int 1), (0, .ref (μ 0)), (1, .int ss), (2, .int am), (3, .int rd), (4, .int ver), (5, .int (nI n)), (6, .int (nI k))]) hx hb dX5_hands_135 hl (k := 0) rfl (by decide) (by decide) rfl (fun ls hl => ?_)
                          refine lv_goto (tgt := 90) hx hb dX5_hands_138 (by decide) ?_
                          refine lv_iload hx hb dX5_hands_90 (lv_at hl 0 rfl) ?_
                          refine lv_iconst (v := 4) hx hb dX5_hands_92 (by decide) ?_
                          refine lv_icmp_ge (tgt := 141) hx hb dX5_hands_93 (by decide) (fun c_93 => ?_) (fun c_93 => ?_)
                          · refine lv_iload hx hb dX5_hands_141 (lv_at hl 1 rfl) ?_
                            refine lv_if_eq (tgt := 156) hx hb dX5_hands_143 (by decide) (fun c_143 => ?_) (fun c_143 => ?_)
                            · exact absurd c_143 (by decide)
                            · refine lv_aload_n hx hb dX5_hands_146 rfl (lv_at hl 2 rfl) ?_
                              refine lv_iload hx hb dX5_hands_147 (lv_at hl 8 rfl) ?_
                              refine lv_aload_n hx hb dX5_hands_149 rfl (lv_at hl 2 rfl) ?_
                              refine sl_get (C := RX5) (T := TX5) (N := 16) hC hG 20 (sl_up_to (by decide) (sl_up_to (by decide) (sl_up_to (by decide) (sl_up_to (by decide) (sl_up_to (by decide) (sl_up_to (by decide) (sl_up_to (by decide) (sl_up_to (by decide) (sl_up_to (by decide) h20))))))))) rfl la_5 3 (by decide) lk_RX5_59 rfl rfl dX5_hands_150 ?_
                              refine sl_callv (sl_runV (As := [.int (nI k), .int (nI tl)]) (rest := []) hC hG (kX5_learns0 l Γ (sl_up (sl_up (sl_up (sl_up (sl_up (sl_up (sl_up (sl_up (sl_up g 22 ((μ 2), .inl (Γ.2.1 0, 150, .inl (upd (fun i => (E i).1) n (nI tl))))) 23 ((μ 3), .inl (Γ.2.1 0, 150, .inl (upd (fun i => (E i).2.1) n ep)))) 24 ((μ 4), .inl (Γ.2.1 0, 150, .inl (upd (fun i => (E i).2.2.1) n ss)))) 25 ((μ 5), .inl (Γ.2.1 0, 150, .inl (upd (fun i => (E i).2.2.2.1) n am)))) 26 ((μ 6), .inl (Γ.2.1 0, 150, .inl (upd (fun i => (E i).2.2.2.2.1) n rd)))) 27 ((μ 7), .inl (Γ.2.1 0, 150, .inl (upd (fun i => (E i).2.2.2.2.2.1) n ver)))) 21 ((μ 1), .inl (Γ.2.1 0, 16, .inl (sl_tp T ss (nI tl) k)))) 29 ((μ 9), .inl (Γ.2.1 0, 2400, .inl (sl_pn (fun j => (E (j / 16)).2.2.2.2.2.2.1 (j % 16)) n (sl_tc T ss 4) k)))) 29 ((μ 9), .inl (Γ.2.1 0, 2400, .inl (upd (upd (upd (upd (sl_pn (fun j => (E (j / 16)).2.2.2.2.2.2.1 (j % 16)) n (sl_tc T ss 4) k) (16 * n + 4 * k + 0) ((sl_tp T ss (nI tl) k) (4 * k + 0))) (16 * n + 4 * k + 1) ((sl_tp T ss (nI tl) k) (4 * k + 1))) (16 * n + 4 * k + 2) ((sl_tp T ss (nI tl) k) (4 * k + 2))) (16 * n + 4 * k + 3) ((sl_tp T ss (nI tl) k) (4 * k + 3)))))) (μ 0) (μ 1) _ _ _ _ _ _ _ _ _ _ _ _ _ _ _ (sl_up_to (by decide) (sl_up_to (by decide) (sl_up_to (by decide) (sl_up_to (by decide) (sl_up_to (by decide) (sl_up_to (by decide) (sl_up_to (by decide) (sl_up_to (by decide) (sl_up_to (by decide) h20))))))))) (sl_tp T ss (nI tl) k) (sl_up_to (by decide) (sl_up_to (by decide) (sl_up_s _ _ _))) k (by omega) (nI tl)) mi_X5_learns lk_RX5_65 20 (sl_up_to (by decide) (sl_up_to (by decide) (sl_up_to (by decide) (sl_up_to (by decide) (sl_up_to (by decide) (sl_up_to (by decide) (sl_up_to (by decide) (sl_up_to (by decide) (sl_up_to (by decide) h20))))))))) rfl rfl rfl ⟨Nat.le_of_ble_eq_true rfl, Nat.le_of_ble_eq_true rfl⟩ rfl hl.1 rfl (Nat.le_of_ble_eq_true rfl) dX5_hands_153 ⟨Nat.le_of_ble_eq_true rfl, Nat.le_of_ble_eq_true rfl⟩) hG (fun u_153 H locs hr_153 hG => ?_)
                              have hG : sl_I Γ (sl_up (sl_up (sl_up (sl_up (sl_up (sl_up (sl_up (sl_up (sl_up (sl_up g 22 ((μ 2), .inl (Γ.2.1 0, 150, .inl (upd (fun i => (E i).1) n (nI tl))))) 23 ((μ 3), .inl (Γ.2.1 0, 150, .inl (upd (fun i => (E i).2.1) n ep)))) 24 ((μ 4), .inl (Γ.2.1 0, 150, .inl (upd (fun i => (E i).2.2.1) n ss)))) 25 ((μ 5), .inl (Γ.2.1 0, 150, .inl (upd (fun i => (E i).2.2.2.1) n am)))) 26 ((μ 6), .inl (Γ.2.1 0, 150, .inl (upd (fun i => (E i).2.2.2.2.1) n rd)))) 27 ((μ 7), .inl (Γ.2.1 0, 150, .inl (upd (fun i => (E i).2.2.2.2.2.1) n ver)))) 21 ((μ 1), .inl (Γ.2.1 0, 16, .inl (sl_tp T ss (nI tl) k)))) 29 ((μ 9), .inl (Γ.2.1 0, 2400, .inl (sl_pn (fun j => (E (j / 16)).2.2.2.2.2.2.1 (j % 16)) n (sl_tc T ss 4) k)))) 29 ((μ 9), .inl (Γ.2.1 0, 2400, .inl (upd (upd (upd (upd (sl_pn (fun j => (E (j / 16)).2.2.2.2.2.2.1 (j % 16)) n (sl_tc T ss 4) k) (16 * n + 4 * k + 0) ((sl_tp T ss (nI tl) k) (4 * k + 0))) (16 * n + 4 * k + 1) ((sl_tp T ss (nI tl) k) (4 * k + 1))) (16 * n + 4 * k + 2) ((sl_tp T ss (nI tl) k) (4 * k + 2))) (16 * n + 4 * k + 3) ((sl_tp T ss (nI tl) k) (4 * k + 3)))))) 21 ((μ 1), .inl (Γ.2.1 0, 16, .inl (sl_t1 (sl_tp T ss (nI tl) k) k (nI tl))))) s H _ := hG
                              refine lv_iinc (v := nI (k + 1)) (lv' := [(6, .int (nI (k + 1))), (8, .int 4), (7, .int 1), (0, .ref (μ 0)), (1, .int ss), (2, .int am), (3, .int rd), (4, .int ver), (5, .int (nI n))]) hx hb dX5_hands_156 hl (k := 8) rfl (nI_1 k) (by decide) rfl (fun ls hl => ?_)
                              refine lv_goto (tgt := 64) hx hb dX5_hands_159 (by decide) ?_
                              rw [sl_up_up, sl_up_mid2 _ _ _ _ (by decide), sl_tp_y c_77, sl_pn_4 (X := sl_tc T ss 4) (sl_pn_y (by omega) (by omega) c_77) (sl_pn_y (by omega) (by omega) c_77) (sl_pn_y (by omega) (by omega) c_77) (sl_pn_y (by omega) (by omega) c_77)] at hG
                              exact ih_64 (k + 1) (by omega) (by omega) _ _ hG _ (lv_sub hl [3, 4, 5, 6, 7, 8, 0] rfl)
                          · exact absurd c_93 (by decide)
  rw [← sl_up_same (g := (sl_up (sl_up (sl_up (sl_up (sl_up (sl_up g 22 ((μ 2), .inl (Γ.2.1 0, 150, .inl (upd (fun i => (E i).1) n (nI tl))))) 23 ((μ 3), .inl (Γ.2.1 0, 150, .inl (upd (fun i => (E i).2.1) n ep)))) 24 ((μ 4), .inl (Γ.2.1 0, 150, .inl (upd (fun i => (E i).2.2.1) n ss)))) 25 ((μ 5), .inl (Γ.2.1 0, 150, .inl (upd (fun i => (E i).2.2.2.1) n am)))) 26 ((μ 6), .inl (Γ.2.1 0, 150, .inl (upd (fun i => (E i).2.2.2.2.1) n rd)))) 27 ((μ 7), .inl (Γ.2.1 0, 150, .inl (upd (fun i => (E i).2.2.2.2.2.1) n ver))))) (k := 21) (q := ((μ 1), .inl (Γ.2.1 0, 16, .inl T))) (sl_up_to (by decide) (sl_up_to (by decide) (sl_up_to (by decide) (sl_up_to (by decide) (sl_up_to (by decide) (sl_up_to (by decide) h21))))))] at hG
  rw [← sl_up_same (g := (sl_up (sl_up (sl_up (sl_up (sl_up (sl_up (sl_up g 22 ((μ 2), .inl (Γ.2.1 0, 150, .inl (upd (fun i => (E i).1) n (nI tl))))) 23 ((μ 3), .inl (Γ.2.1 0, 150, .inl (upd (fun i => (E i).2.1) n ep)))) 24 ((μ 4), .inl (Γ.2.1 0, 150, .inl (upd (fun i => (E i).2.2.1) n ss)))) 25 ((μ 5), .inl (Γ.2.1 0, 150, .inl (upd (fun i => (E i).2.2.2.1) n am)))) 26 ((μ 6), .inl (Γ.2.1 0, 150, .inl (upd (fun i => (E i).2.2.2.2.1) n rd)))) 27 ((μ 7), .inl (Γ.2.1 0, 150, .inl (upd (fun i => (E i).2.2.2.2.2.1) n ver)))) 21 ((μ 1), .inl (Γ.2.1 0, 16, .inl T)))) (k := 29) (q := ((μ 9), .inl (Γ.2.1 0, 2400, .inl (fun j => (E (j / 16)).2.2.2.2.2.2.1 (j % 16))))) (sl_up_to (by decide) (sl_up_to (by decide) (sl_up_to (by decide) (sl_up_to (by decide) (sl_up_to (by decide) (sl_up_to (by decide) (sl_up_to (by decide) h29))))))), sl_pn_0 (fun j => (E (j / 16)).2.2.2.2.2.2.1 (j % 16)) n (sl_tc T ss 4)] at hG
  exact loop_64 (4 + 1) 0 (by omega) (by omega) _ _ hG _ (lv_sub hl [2, 3, 4, 5, 6, 1, 0] rfl)
