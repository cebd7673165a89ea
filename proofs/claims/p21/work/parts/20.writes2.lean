/-! take, takeIf, write, fill, the constructor -/
def sl_k2 (ss am : Int32) : Bool := sl_in ss 1 15 && sl_in am (-1000) 1000
def sl_k4 (lo : Bool) (tl : Nat) (ss am rd ver : Int32) : Bool := sl_in ss 1 15 && sl_in am (-1000) 1000 && sl_in rd 1 15 && (lo || sl_in ver 0 (nI tl))
def sl_al (l : List Nat) : Nat → Nat := fun k => l.getD k 0
theorem sl_ea_0 (β : Nat → Nat × Nat × Nat) : sl_ea 0 β = fun _ => none := by
  funext i
  rw [sl_ea, if_neg (Nat.not_lt_zero i)]
def sl_b0 : Nat → Nat × Nat × Nat := fun _ => (0, 0, 0)
def sl_E0 : Nat → sl_Ent := fun _ => (0, 0, 0, 0, 0, 0, fun _ => 0, 0)
set_option maxHeartbeats 4000000 in
set_option maxRecDepth 100000 in
theorem kX4_take (l : Launch) (hlt : l.stackTraces = false) (Γ : sl_G) (g : sl_W) (α : Nat → Nat) (β : Nat → Nat × Nat × Nat) (n : Nat) (ep : Int32) (tl : Nat) (lo : Bool) (T C : Nat → Int32) (E : Nat → sl_Ent) (hK : sl_Cls Γ α β n ep tl lo T C E g) (ss am : Int32) : vx_Met l yX4_take [Cond.code yX4_take cX4_take 3 (some .int)] ({ frames := 7, cells := 3, slots := 25, locals := 126 } : Room) (va_Pc [.ref (α 0), .int ss, .int am] (sl_B Γ g)) (sl_Qi Γ (fun r (u : (Nat → Nat × Nat × Nat) × sl_W) => sl_k2 ss am = true ∧ sl_ch lo tl n = false ∧ r = nI n ∧ sl_Cls Γ α u.1 (n + 1) ep (tl + 1) lo (sl_tp T ss (nI tl) 4) C (sl_eu E n (nI tl, ep, ss, am, 0, 0, sl_tc T ss 4, 0)) u.2 ∧ sl_fr g u.2) (fun (u : (Nat → Nat × Nat × Nat) × sl_W) => u.2)) (sl_X Γ g (fun E0 => (E0 = "java/lang/IllegalArgumentException" ∧ sl_k2 ss am = false) ∨ (E0 = "java/lang/IllegalStateException" ∧ sl_k2 ss am = true ∧ sl_ch lo tl n = true))) 3 25 (sl_A Γ) := by
  refine sl_entx (by decide) (Nat.le_of_ble_eq_true rfl) ?_
  intro p e s m below meth c ls hC hr hno hG hl
  have hx := hC.1
  have hb := hC.2.1
  have hl : lv_has ls 3 [(0, .ref (α 0)), (1, .int ss), (2, .int am)] := hl
  have hS := hK.ro
  obtain ⟨h0, h1, h2, h3, h4, h5, ⟨F, X, fd, h6, h7, h8⟩, hE, hN, hn9, ht9⟩ := id hK
  refine lv_iload_n hx hb dX4_take_0 rfl (lv_at hl 1 rfl) ?_
  refine sl_calli (sl_runS (As := [.int ss]) (rest := []) hC hG (kX4_isSetOfStreams l Γ g ss) mi_X4_isSetOfStreams lk_RX4_50 rfl rfl ⟨Nat.le_of_ble_eq_true rfl, Nat.le_of_ble_eq_true rfl⟩ rfl hl.1 rfl (Nat.le_of_ble_eq_true rfl) dX4_take_1 ⟨Nat.le_of_ble_eq_true rfl, Nat.le_of_ble_eq_true rfl⟩) hG (fun r_1 u_1 H locs hr_1 hG => ?_)
  subst hr_1
  refine lv_if_eq (tgt := 14) hx hb dX4_take_4 (by decide) (fun c_4 => ?_) (fun c_4 => ?_)
  · have c_4 := sl_bF c_4
    exact sl_thr (text := "streams or amount is out of range") (rest := []) hlt hC hG (Or.inl ⟨rfl, by rw [sl_k2, c_4]; rfl⟩) (by decide) lk_RX4_57 ini_IllegalArgumentException (by decide +kernel) sl_hatA sl_otA hl.1 dX4_take_14 dX4_take_17 dX4_take_18 dX4_take_20 dX4_take_23 hno (Nat.le_of_ble_eq_true rfl) (Nat.le_of_ble_eq_true rfl) (Nat.le_of_ble_eq_true rfl) (Nat.le_of_ble_eq_true rfl) (Nat.le_of_ble_eq_true rfl) (Nat.le_of_ble_eq_true rfl)
  · have c_4 := sl_bT c_4
    refine lv_iload_n hx hb dX4_take_7 rfl (lv_at hl 2 rfl) ?_
    refine sl_calli (sl_runS (As := [.int am]) (rest := []) hC hG (kX4_isAmount l Γ g am) mi_X4_isAmount lk_RX4_54 rfl rfl ⟨Nat.le_of_ble_eq_true rfl, Nat.le_of_ble_eq_true rfl⟩ rfl hl.1 rfl (Nat.le_of_ble_eq_true rfl) dX4_take_8 ⟨Nat.le_of_ble_eq_true rfl, Nat.le_of_ble_eq_true rfl⟩) hG (fun r_8 u_8 H locs hr_8 hG => ?_)
    subst hr_8
    refine lv_if_ne (tgt := 24) hx hb dX4_take_11 (by decide) (fun c_11 => ?_) (fun c_11 => ?_)
    · have c_11 := sl_bT c_11
      refine lv_aload_n hx hb dX4_take_24 rfl (lv_at hl 0 rfl) ?_
      refine lv_iload_n hx hb dX4_take_25 rfl (lv_at hl 1 rfl) ?_
      refine lv_iload_n hx hb dX4_take_26 rfl (lv_at hl 2 rfl) ?_
      refine lv_iconst (v := 0) hx hb dX4_take_27 (by decide) ?_
      refine lv_iconst (v := 0) hx hb dX4_take_28 (by decide) ?_
      refine sl_callxi (sl_runX (As := [.int ss, .int am, .int 0, .int 0]) (rest := []) hC hG (kX4_handOut l hlt Γ g α β n ep tl lo T C E hK ss am 0 0) mi_X4_handOut lk_RX4_64 0 h0 rfl rfl rfl ⟨Nat.le_of_ble_eq_true rfl, Nat.le_of_ble_eq_true rfl⟩ rfl hl.1 rfl (Nat.le_of_ble_eq_true rfl) dX4_take_29 ⟨Nat.le_of_ble_eq_true rfl, Nat.le_of_ble_eq_true rfl⟩) hG (fun E ce q9 H locs hxE hG hce hcv hcl => ?_) (fun r_29 u_29 H locs hr_29 hG => ?_)
      · exact sl_outx hC hno hG (Or.inr ⟨hxE.1, (by rw [sl_k2, c_4, c_11]; rfl), hxE.2⟩) hce hcv hcl (Nat.le_of_ble_eq_true rfl) (Nat.le_of_ble_eq_true rfl)
      · obtain ⟨hc9, hr9, hK9, hf9⟩ := hr_29
        subst hr9
        exact vx_ret (sl_ri (v := nI n) hC hr hG u_29 ⟨(by rw [sl_k2, c_4, c_11]; rfl), hc9, rfl, hK9, hf9⟩ rfl (Nat.le_of_ble_eq_true rfl) (Nat.le_of_ble_eq_true rfl) dX4_take_32)
    · have c_11 := sl_bF c_11
      exact sl_thr (text := "streams or amount is out of range") (rest := []) hlt hC hG (Or.inl ⟨rfl, by rw [sl_k2, c_11]; exact Bool.and_false _⟩) (by decide) lk_RX4_57 ini_IllegalArgumentException (by decide +kernel) sl_hatA sl_otA hl.1 dX4_take_14 dX4_take_17 dX4_take_18 dX4_take_20 dX4_take_23 hno (Nat.le_of_ble_eq_true rfl) (Nat.le_of_ble_eq_true rfl) (Nat.le_of_ble_eq_true rfl) (Nat.le_of_ble_eq_true rfl) (Nat.le_of_ble_eq_true rfl) (Nat.le_of_ble_eq_true rfl)
set_option maxHeartbeats 4000000 in
set_option maxRecDepth 100000 in
theorem kX4_takeIf (l : Launch) (hlt : l.stackTraces = false) (Γ : sl_G) (g : sl_W) (α : Nat → Nat) (β : Nat → Nat × Nat × Nat) (n : Nat) (ep : Int32) (tl : Nat) (lo : Bool) (T C : Nat → Int32) (E : Nat → sl_Ent) (hK : sl_Cls Γ α β n ep tl lo T C E g) (ss am rd ver : Int32) : vx_Met l yX4_takeIf [Cond.code yX4_takeIf cX4_takeIf 5 (some .int)] ({ frames := 7, cells := 3, slots := 25, locals := 126 } : Room) (va_Pc [.ref (α 0), .int ss, .int am, .int rd, .int ver] (sl_B Γ g)) (sl_Qi Γ (fun r (u : (Nat → Nat × Nat × Nat) × sl_W) => sl_k4 lo tl ss am rd ver = true ∧ sl_ch lo tl n = false ∧ r = nI n ∧ sl_Cls Γ α u.1 (n + 1) ep (tl + 1) lo (sl_tp T ss (nI tl) 4) C (sl_eu E n (nI tl, ep, ss, am, rd, ver, sl_tc T ss 4, 0)) u.2 ∧ sl_fr g u.2) (fun (u : (Nat → Nat × Nat × Nat) × sl_W) => u.2)) (sl_X Γ g (fun E0 => (E0 = "java/lang/IllegalArgumentException" ∧ sl_k4 lo tl ss am rd ver = false) ∨ (E0 = "java/lang/IllegalStateException" ∧ sl_k4 lo tl ss am rd ver = true ∧ sl_ch lo tl n = true))) 3 25 (sl_A Γ) := by
  refine sl_entx (by decide) (Nat.le_of_ble_eq_true rfl) ?_
  intro p e s m below meth c ls hC hr hno hG hl
  have hx := hC.1
  have hb := hC.2.1
  have hl : lv_has ls 5 [(0, .ref (α 0)), (1, .int ss), (2, .int am), (3, .int rd), (4, .int ver)] := hl
  have hS := hK.ro
  obtain ⟨h0, h1, h2, h3, h4, h5, ⟨F, X, fd, h6, h7, h8⟩, hE, hN, hn9, ht9⟩ := id hK
  refine lv_iload_n hx hb dX4_takeIf_0 rfl (lv_at hl 1 rfl) ?_
  refine sl_calli (sl_runS (As := [.int ss]) (rest := []) hC hG (kX4_isSetOfStreams l Γ g ss) mi_X4_isSetOfStreams lk_RX4_50 rfl rfl ⟨Nat.le_of_ble_eq_true rfl, Nat.le_of_ble_eq_true rfl⟩ rfl hl.1 rfl (Nat.le_of_ble_eq_true rfl) dX4_takeIf_1 ⟨Nat.le_of_ble_eq_true rfl, Nat.le_of_ble_eq_true rfl⟩) hG (fun r_1 u_1 H locs hr_1 hG => ?_)
  subst hr_1
  refine lv_if_eq (tgt := 21) hx hb dX4_takeIf_4 (by decide) (fun c_4 => ?_) (fun c_4 => ?_)
  · have c_4 := sl_bF c_4
    exact sl_thr (text := "streams, amount or read is out of range") (rest := []) hlt hC hG (Or.inl ⟨rfl, (by rw [sl_k4, c_4]; rfl)⟩) (by decide) lk_RX4_57 ini_IllegalArgumentException (by decide +kernel) sl_hatA sl_otA hl.1 dX4_takeIf_21 dX4_takeIf_24 dX4_takeIf_25 dX4_takeIf_27 dX4_takeIf_30 hno (Nat.le_of_ble_eq_true rfl) (Nat.le_of_ble_eq_true rfl) (Nat.le_of_ble_eq_true rfl) (Nat.le_of_ble_eq_true rfl) (Nat.le_of_ble_eq_true rfl) (Nat.le_of_ble_eq_true rfl)
  · have c_4 := sl_bT c_4
    refine lv_iload_n hx hb dX4_takeIf_7 rfl (lv_at hl 2 rfl) ?_
    refine sl_calli (sl_runS (As := [.int am]) (rest := []) hC hG (kX4_isAmount l Γ g am) mi_X4_isAmount lk_RX4_54 rfl rfl ⟨Nat.le_of_ble_eq_true rfl, Nat.le_of_ble_eq_true rfl⟩ rfl hl.1 rfl (Nat.le_of_ble_eq_true rfl) dX4_takeIf_8 ⟨Nat.le_of_ble_eq_true rfl, Nat.le_of_ble_eq_true rfl⟩) hG (fun r_8 u_8 H locs hr_8 hG => ?_)
    subst hr_8
    refine lv_if_eq (tgt := 21) hx hb dX4_takeIf_11 (by decide) (fun c_11 => ?_) (fun c_11 => ?_)
    · have c_11 := sl_bF c_11
      exact sl_thr (text := "streams, amount or read is out of range") (rest := []) hlt hC hG (Or.inl ⟨rfl, (by rw [sl_k4, c_11, Bool.and_false]; rfl)⟩) (by decide) lk_RX4_57 ini_IllegalArgumentException (by decide +kernel) sl_hatA sl_otA hl.1 dX4_takeIf_21 dX4_takeIf_24 dX4_takeIf_25 dX4_takeIf_27 dX4_takeIf_30 hno (Nat.le_of_ble_eq_true rfl) (Nat.le_of_ble_eq_true rfl) (Nat.le_of_ble_eq_true rfl) (Nat.le_of_ble_eq_true rfl) (Nat.le_of_ble_eq_true rfl) (Nat.le_of_ble_eq_true rfl)
    · have c_11 := sl_bT c_11
      refine lv_iload_n hx hb dX4_takeIf_14 rfl (lv_at hl 3 rfl) ?_
      refine sl_calli (sl_runS (As := [.int rd]) (rest := []) hC hG (kX4_isSetOfStreams l Γ g rd) mi_X4_isSetOfStreams lk_RX4_50 rfl rfl ⟨Nat.le_of_ble_eq_true rfl, Nat.le_of_ble_eq_true rfl⟩ rfl hl.1 rfl (Nat.le_of_ble_eq_true rfl) dX4_takeIf_15 ⟨Nat.le_of_ble_eq_true rfl, Nat.le_of_ble_eq_true rfl⟩) hG (fun r_15 u_15 H locs hr_15 hG => ?_)
      subst hr_15
      refine lv_if_ne (tgt := 31) hx hb dX4_takeIf_18 (by decide) (fun c_18 => ?_) (fun c_18 => ?_)
      · have c_18 := sl_bT c_18
        refine lv_aload_n hx hb dX4_takeIf_31 rfl (lv_at hl 0 rfl) ?_
        refine sl_get (C := RX4) (T := TX4) (N := 8) hC hG 0 h0 rfl la_4 7 (by decide) lk_RX4_46 rfl rfl dX4_takeIf_32 ?_
        refine lv_if_ne (tgt := 62) hx hb dX4_takeIf_35 (by decide) (fun c_35 => ?_) (fun c_35 => ?_)
        · have c_35 := sl_bT c_35
          refine lv_aload_n hx hb dX4_takeIf_62 rfl (lv_at hl 0 rfl) ?_
          refine lv_iload_n hx hb dX4_takeIf_63 rfl (lv_at hl 1 rfl) ?_
          refine lv_iload_n hx hb dX4_takeIf_64 rfl (lv_at hl 2 rfl) ?_
          refine lv_iload_n hx hb dX4_takeIf_65 rfl (lv_at hl 3 rfl) ?_
          refine lv_iload hx hb dX4_takeIf_66 (lv_at hl 4 rfl) ?_
          refine sl_callxi (sl_runX (As := [.int ss, .int am, .int rd, .int ver]) (rest := []) hC hG (kX4_handOut l hlt Γ g α β n ep tl lo T C E hK ss am rd ver) mi_X4_handOut lk_RX4_64 0 h0 rfl rfl rfl ⟨Nat.le_of_ble_eq_true rfl, Nat.le_of_ble_eq_true rfl⟩ rfl hl.1 rfl (Nat.le_of_ble_eq_true rfl) dX4_takeIf_68 ⟨Nat.le_of_ble_eq_true rfl, Nat.le_of_ble_eq_true rfl⟩) hG (fun E ce q9 H locs hxE hG hce hcv hcl => ?_) (fun r_68 u_68 H locs hr_68 hG => ?_)
          · exact sl_outx hC hno hG (Or.inr ⟨hxE.1, (by rw [sl_k4, c_4, c_11, c_18, c_35]; rfl), hxE.2⟩) hce hcv hcl (Nat.le_of_ble_eq_true rfl) (Nat.le_of_ble_eq_true rfl)
          · obtain ⟨hc9, hr9, hK9, hf9⟩ := hr_68
            subst hr9
            exact vx_ret (sl_ri (v := nI n) hC hr hG u_68 ⟨(by rw [sl_k4, c_4, c_11, c_18, c_35]; rfl), hc9, rfl, hK9, hf9⟩ rfl (Nat.le_of_ble_eq_true rfl) (Nat.le_of_ble_eq_true rfl) dX4_takeIf_71)
        · have c_35 := sl_bF c_35
          refine lv_iload hx hb dX4_takeIf_38 (lv_at hl 4 rfl) ?_
          refine lv_if_lt (tgt := 52) hx hb dX4_takeIf_40 (by decide) (fun c_40 => ?_) (fun c_40 => ?_)
          · exact sl_thr (text := "version is out of range") (rest := []) hlt hC hG (Or.inl ⟨rfl, (by rw [sl_k4, c_35, sl_in_f (v := ver) (lo := 0) (hi := nI tl) (Or.inl (by rw [sl_ltI, sl_i0] at c_40; rw [sl_i0]; omega))]; exact Bool.and_false _)⟩) (by decide) lk_RX4_57 ini_IllegalArgumentException (by decide +kernel) sl_hatA sl_otA hl.1 dX4_takeIf_52 dX4_takeIf_55 dX4_takeIf_56 dX4_takeIf_58 dX4_takeIf_61 hno (Nat.le_of_ble_eq_true rfl) (Nat.le_of_ble_eq_true rfl) (Nat.le_of_ble_eq_true rfl) (Nat.le_of_ble_eq_true rfl) (Nat.le_of_ble_eq_true rfl) (Nat.le_of_ble_eq_true rfl)
          · refine lv_iload hx hb dX4_takeIf_43 (lv_at hl 4 rfl) ?_
            refine lv_aload_n hx hb dX4_takeIf_45 rfl (lv_at hl 0 rfl) ?_
            refine sl_get (C := RX4) (T := TX4) (N := 8) hC hG 0 h0 rfl la_4 6 (by decide) lk_RX4_43 rfl rfl dX4_takeIf_46 ?_
            refine lv_icmp_le (tgt := 62) hx hb dX4_takeIf_49 (by decide) (fun c_49 => ?_) (fun c_49 => ?_)
            · refine lv_aload_n hx hb dX4_takeIf_62 rfl (lv_at hl 0 rfl) ?_
              refine lv_iload_n hx hb dX4_takeIf_63 rfl (lv_at hl 1 rfl) ?_
              refine lv_iload_n hx hb dX4_takeIf_64 rfl (lv_at hl 2 rfl) ?_
              refine lv_iload_n hx hb dX4_takeIf_65 rfl (lv_at hl 3 rfl) ?_
              refine lv_iload hx hb dX4_takeIf_66 (lv_at hl 4 rfl) ?_
              refine sl_callxi (sl_runX (As := [.int ss, .int am, .int rd, .int ver]) (rest := []) hC hG (kX4_handOut l hlt Γ g α β n ep tl lo T C E hK ss am rd ver) mi_X4_handOut lk_RX4_64 0 h0 rfl rfl rfl ⟨Nat.le_of_ble_eq_true rfl, Nat.le_of_ble_eq_true rfl⟩ rfl hl.1 rfl (Nat.le_of_ble_eq_true rfl) dX4_takeIf_68 ⟨Nat.le_of_ble_eq_true rfl, Nat.le_of_ble_eq_true rfl⟩) hG (fun E ce q9 H locs hxE hG hce hcv hcl => ?_) (fun r_68 u_68 H locs hr_68 hG => ?_)
              · exact sl_outx hC hno hG (Or.inr ⟨hxE.1, (by rw [sl_k4, c_4, c_11, c_18, c_35, sl_in_t (by rw [sl_ltI, sl_i0] at c_40; rw [sl_i0]; omega) (sl_leI.mp c_49)]; rfl), hxE.2⟩) hce hcv hcl (Nat.le_of_ble_eq_true rfl) (Nat.le_of_ble_eq_true rfl)
              · obtain ⟨hc9, hr9, hK9, hf9⟩ := hr_68
                subst hr9
                exact vx_ret (sl_ri (v := nI n) hC hr hG u_68 ⟨(by rw [sl_k4, c_4, c_11, c_18, c_35, sl_in_t (by rw [sl_ltI, sl_i0] at c_40; rw [sl_i0]; omega) (sl_leI.mp c_49)]; rfl), hc9, rfl, hK9, hf9⟩ rfl (Nat.le_of_ble_eq_true rfl) (Nat.le_of_ble_eq_true rfl) dX4_takeIf_71)
            · exact sl_thr (text := "version is out of range") (rest := []) hlt hC hG (Or.inl ⟨rfl, (by rw [sl_k4, c_35, sl_in_f (v := ver) (lo := 0) (hi := nI tl) (Or.inr (by rw [sl_leI] at c_49; omega))]; exact Bool.and_false _)⟩) (by decide) lk_RX4_57 ini_IllegalArgumentException (by decide +kernel) sl_hatA sl_otA hl.1 dX4_takeIf_52 dX4_takeIf_55 dX4_takeIf_56 dX4_takeIf_58 dX4_takeIf_61 hno (Nat.le_of_ble_eq_true rfl) (Nat.le_of_ble_eq_true rfl) (Nat.le_of_ble_eq_true rfl) (Nat.le_of_ble_eq_true rfl) (Nat.le_of_ble_eq_true rfl) (Nat.le_of_ble_eq_true rfl)
      · have c_18 := sl_bF c_18
        exact sl_thr (text := "streams, amount or read is out of range") (rest := []) hlt hC hG (Or.inl ⟨rfl, (by rw [sl_k4, c_18, Bool.and_false]; rfl)⟩) (by decide) lk_RX4_57 ini_IllegalArgumentException (by decide +kernel) sl_hatA sl_otA hl.1 dX4_takeIf_21 dX4_takeIf_24 dX4_takeIf_25 dX4_takeIf_27 dX4_takeIf_30 hno (Nat.le_of_ble_eq_true rfl) (Nat.le_of_ble_eq_true rfl) (Nat.le_of_ble_eq_true rfl) (Nat.le_of_ble_eq_true rfl) (Nat.le_of_ble_eq_true rfl) (Nat.le_of_ble_eq_true rfl)
set_option maxHeartbeats 4000000 in
set_option maxRecDepth 100000 in
theorem kX4_write (l : Launch) (hlt : l.stackTraces = false) (Γ : sl_G) (g : sl_W) (α : Nat → Nat) (β : Nat → Nat × Nat × Nat) (n : Nat) (ep : Int32) (tl : Nat) (lo : Bool) (T C : Nat → Int32) (E : Nat → sl_Ent) (hK : sl_Cls Γ α β n ep tl lo T C E g) (x : Int32) : vx_Met l yX4_write [Cond.code yX4_write cX4_write 3 (some .int)] ({ frames := 6, cells := 1, slots := 6, locals := 100 } : Room) (va_Pc [.ref (α 0), .int x] (sl_B Γ g)) (sl_Qi Γ (fun r g' => ∃ t, sl_tok n x = some t ∧ ¬ ((E t).2.2.2.2.2.2.2 = -1 ∨ (E t).2.2.2.2.2.2.2 = 3 ∨ ¬ (E t).2.1 = ep) ∧ r = (if sl_cg C (E t).2.2.2.2.2.2.2 (E t).1 = -1 then -1 else (E t).2.2.2.2.2.2.2 + 1) ∧ sl_Cls Γ α β n ep tl lo T (if sl_cg C (E t).2.2.2.2.2.2.2 (E t).1 = -1 then C else sl_cp C (E t).2.2.2.2.2.2.2 (E t).1 x) (sl_es E t (if sl_cg C (E t).2.2.2.2.2.2.2 (E t).1 = -1 then -1 else (E t).2.2.2.2.2.2.2 + 1)) g' ∧ sl_fr g g') (fun g' => g')) (sl_X Γ g (fun E0 => (E0 = "java/lang/IndexOutOfBoundsException" ∧ sl_tok n x = none) ∨ (E0 = "java/lang/IllegalStateException" ∧ ∃ t, sl_tok n x = some t ∧ ((E t).2.2.2.2.2.2.2 = -1 ∨ (E t).2.2.2.2.2.2.2 = 3 ∨ ¬ (E t).2.1 = ep)))) 1 6 (sl_A Γ) := by
  refine sl_entx (by decide) (Nat.le_of_ble_eq_true rfl) ?_
  intro p e s m below meth c ls hC hr hno hG hl
  have hx := hC.1
  have hb := hC.2.1
  have hl : lv_has ls 3 [(0, .ref (α 0)), (1, .int x)] := hl
  have hS := hK.ro
  obtain ⟨h0, h1, h2, h3, h4, h5, ⟨F, X, fd, h6, h7, h8⟩, hE, hN, hn9, ht9⟩ := id hK
  refine lv_aload_n hx hb dX4_write_0 rfl (lv_at hl 0 rfl) ?_
  refine lv_iload_n hx hb dX4_write_1 rfl (lv_at hl 1 rfl) ?_
  refine sl_callq (sl_runV (As := [.int x]) (rest := []) hC hG (kX4_entryOf l Γ g α β n C E hS x) mi_X4_entryOf lk_RX4_95 0 h0 rfl rfl rfl ⟨Nat.le_of_ble_eq_true rfl, Nat.le_of_ble_eq_true rfl⟩ rfl hl.1 rfl (Nat.le_of_ble_eq_true rfl) dX4_write_2 ⟨Nat.le_of_ble_eq_true rfl, Nat.le_of_ble_eq_true rfl⟩) hG (fun r_2 u_2 H locs hr_2 hG => ?_)
  subst hr_2
  rcases sl_opt (sl_tok n x) with hq_2 | ⟨t_2, hq_2⟩
  · refine sl_top (w := .null) (by rw [hq_2]; rfl) ?_
    refine lv_astore_nN (lv' := [(2, .null), (0, .ref (α 0)), (1, .int x)]) hx hb dX4_write_5 rfl hl (by decide) rfl (fun ls hl => ?_)
    refine lv_aload_nN hx hb dX4_write_6 rfl (lv_at hl 0 rfl) ?_
    refine lv_ifnonnullN hx hb dX4_write_7 ?_
    exact sl_thr (text := "no such token") (rest := []) hlt hC hG (Or.inl ⟨rfl, hq_2⟩) (by decide) lk_RX4_98 ini_IndexOutOfBoundsException (by decide +kernel) sl_hatO sl_otO hl.1 dX4_write_10 dX4_write_13 dX4_write_14 dX4_write_16 dX4_write_19 hno (Nat.le_of_ble_eq_true rfl) (Nat.le_of_ble_eq_true rfl) (Nat.le_of_ble_eq_true rfl) (Nat.le_of_ble_eq_true rfl) (Nat.le_of_ble_eq_true rfl) (Nat.le_of_ble_eq_true rfl)
  · refine sl_top (w := .ref ((β t_2).1)) (by rw [hq_2]; rfl) ?_
    have ht_t_2 := sl_tok_lt hq_2
    refine lv_astore_n (lv' := [(2, .ref ((β t_2).1)), (0, .ref (α 0)), (1, .int x)]) hx hb dX4_write_5 rfl hl (by decide) rfl (fun ls hl => ?_)
    refine lv_aload_n hx hb dX4_write_6 rfl (lv_at hl 0 rfl) ?_
    refine lv_ifnonnull (tgt := 20) hx hb dX4_write_7 (by decide) ?_
    refine lv_aload_n hx hb dX4_write_20 rfl (lv_at hl 0 rfl) ?_
    refine sl_getN (C := RX1) (T := TX1) (N := 8) hC hG (100 + 3 * t_2) (hE t_2 ht_t_2).1 rfl la_1 7 (by decide) lk_RX4_103 rfl rfl dX4_write_21 ?_
    refine lv_iconst (v := (-1)) hx hb dX4_write_24 (by decide) ?_
    refine lv_icmp_eq (tgt := 47) hx hb dX4_write_25 (by decide) (fun c_25 => ?_) (fun c_25 => ?_)
    · exact sl_thr (text := "the token cannot write") (rest := []) hlt hC hG (Or.inr ⟨rfl, t_2, hq_2, Or.inl c_25⟩) (by decide) lk_RX4_72 ini_IllegalStateException (by decide +kernel) sl_hatS sl_otS hl.1 dX4_write_47 dX4_write_50 dX4_write_51 dX4_write_53 dX4_write_56 hno (Nat.le_of_ble_eq_true rfl) (Nat.le_of_ble_eq_true rfl) (Nat.le_of_ble_eq_true rfl) (Nat.le_of_ble_eq_true rfl) (Nat.le_of_ble_eq_true rfl) (Nat.le_of_ble_eq_true rfl)
    · refine lv_aload_n hx hb dX4_write_28 rfl (lv_at hl 0 rfl) ?_
      refine sl_getN (C := RX1) (T := TX1) (N := 8) hC hG (100 + 3 * t_2) (hE t_2 ht_t_2).1 rfl la_1 7 (by decide) lk_RX4_103 rfl rfl dX4_write_29 ?_
      refine lv_iconst (v := 3) hx hb dX4_write_32 (by decide) ?_
      refine lv_icmp_eq (tgt := 47) hx hb dX4_write_33 (by decide) (fun c_33 => ?_) (fun c_33 => ?_)
      · exact sl_thr (text := "the token cannot write") (rest := []) hlt hC hG (Or.inr ⟨rfl, t_2, hq_2, Or.inr (Or.inl c_33)⟩) (by decide) lk_RX4_72 ini_IllegalStateException (by decide +kernel) sl_hatS sl_otS hl.1 dX4_write_47 dX4_write_50 dX4_write_51 dX4_write_53 dX4_write_56 hno (Nat.le_of_ble_eq_true rfl) (Nat.le_of_ble_eq_true rfl) (Nat.le_of_ble_eq_true rfl) (Nat.le_of_ble_eq_true rfl) (Nat.le_of_ble_eq_true rfl) (Nat.le_of_ble_eq_true rfl)
      · refine lv_aload_n hx hb dX4_write_36 rfl (lv_at hl 0 rfl) ?_
        refine sl_getN (C := RX1) (T := TX1) (N := 8) hC hG (100 + 3 * t_2) (hE t_2 ht_t_2).1 rfl la_1 1 (by decide) lk_RX4_106 rfl rfl dX4_write_37 ?_
        refine lv_aload_n hx hb dX4_write_40 rfl (lv_at hl 1 rfl) ?_
        refine sl_get (C := RX4) (T := TX4) (N := 8) hC hG 0 h0 rfl la_4 5 (by decide) lk_RX4_40 rfl rfl dX4_write_41 ?_
        refine lv_icmp_eq (tgt := 57) hx hb dX4_write_44 (by decide) (fun c_44 => ?_) (fun c_44 => ?_)
        · refine lv_aload_n hx hb dX4_write_57 rfl (lv_at hl 1 rfl) ?_
          refine sl_get (C := RX4) (T := TX4) (N := 8) hC hG 0 h0 rfl la_4 1 (by decide) lk_RX4_18 rfl rfl dX4_write_58 ?_
          refine lv_aload_n hx hb dX4_write_61 rfl (lv_at hl 0 rfl) ?_
          refine sl_getN (C := RX1) (T := TX1) (N := 8) hC hG (100 + 3 * t_2) (hE t_2 ht_t_2).1 rfl la_1 7 (by decide) lk_RX4_103 rfl rfl dX4_write_62 ?_
          refine lv_aload_n hx hb dX4_write_65 rfl (lv_at hl 0 rfl) ?_
          refine sl_getN (C := RX1) (T := TX1) (N := 8) hC hG (100 + 3 * t_2) (hE t_2 ht_t_2).1 rfl la_1 0 (by decide) lk_RX4_109 rfl rfl dX4_write_66 ?_
          refine sl_calli (sl_runVN (As := [.int ((E t_2).2.2.2.2.2.2.2), .int ((E t_2).1)]) (rest := []) hC hG (kX0_get l Γ g (α 2) (α 3) C h2 h3 ((E t_2).2.2.2.2.2.2.2) ((E t_2).1)) mi_X0_get lk_RX4_112 2 h2 rfl rfl rfl ⟨Nat.le_of_ble_eq_true rfl, Nat.le_of_ble_eq_true rfl⟩ rfl hl.1 rfl (Nat.le_of_ble_eq_true rfl) dX4_write_69 ⟨Nat.le_of_ble_eq_true rfl, Nat.le_of_ble_eq_true rfl⟩) hG (fun r_69 u_69 H locs hr_69 hG => ?_)
          subst hr_69
          refine lv_iconst (v := (-1)) hx hb dX4_write_72 (by decide) ?_
          refine lv_icmp_ne (tgt := 84) hx hb dX4_write_73 (by decide) (fun c_73 => ?_) (fun c_73 => ?_)
          · refine lv_aload_n hx hb dX4_write_84 rfl (lv_at hl 1 rfl) ?_
            refine sl_get (C := RX4) (T := TX4) (N := 8) hC hG 0 h0 rfl la_4 1 (by decide) lk_RX4_18 rfl rfl dX4_write_85 ?_
            refine lv_aload_n hx hb dX4_write_88 rfl (lv_at hl 0 rfl) ?_
            refine sl_getN (C := RX1) (T := TX1) (N := 8) hC hG (100 + 3 * t_2) (hE t_2 ht_t_2).1 rfl la_1 7 (by decide) lk_RX4_103 rfl rfl dX4_write_89 ?_
            refine lv_aload_n hx hb dX4_write_92 rfl (lv_at hl 0 rfl) ?_
            refine sl_getN (C := RX1) (T := TX1) (N := 8) hC hG (100 + 3 * t_2) (hE t_2 ht_t_2).1 rfl la_1 0 (by decide) lk_RX4_109 rfl rfl dX4_write_93 ?_
            refine lv_iload_n hx hb dX4_write_96 rfl (lv_at hl 2 rfl) ?_
            refine sl_callv (sl_runVN (As := [.int ((E t_2).2.2.2.2.2.2.2), .int ((E t_2).1), .int x]) (rest := []) hC hG (kX0_put l Γ g (α 2) (α 3) C h2 h3 ((E t_2).2.2.2.2.2.2.2) ((E t_2).1) x) mi_X0_put lk_RX4_116 2 h2 rfl rfl rfl ⟨Nat.le_of_ble_eq_true rfl, Nat.le_of_ble_eq_true rfl⟩ rfl hl.1 rfl (Nat.le_of_ble_eq_true rfl) dX4_write_97 ⟨Nat.le_of_ble_eq_true rfl, Nat.le_of_ble_eq_true rfl⟩) hG (fun u_97 H locs hr_97 hG => ?_)
            have hG : sl_I Γ (sl_up g 3 ((α 3), .inl (Γ.2.1 0, 360, .inl (sl_cp C ((E t_2).2.2.2.2.2.2.2) ((E t_2).1) x)))) s H _ := hG
            refine lv_aload_n hx hb dX4_write_100 rfl (lv_at hl 0 rfl) ?_
            refine lv_dup hx hb dX4_write_101 rfl ?_
            refine sl_getN (C := RX1) (T := TX1) (N := 8) hC hG (100 + 3 * t_2) (sl_up_to (by omega) (hE t_2 ht_t_2).1) rfl la_1 7 (by decide) lk_RX4_103 rfl rfl dX4_write_102 ?_
            refine lv_iconst (v := 1) hx hb dX4_write_105 (by decide) ?_
            refine lv_iadd hx hb dX4_write_106 ?_
            refine sl_putN (C := RX1) (T := TX1) (N := 8) (ty := .int) (v := .int (((E t_2).2.2.2.2.2.2.2) + 1)) hC hG (100 + 3 * t_2) (sl_up_to (by omega) (hE t_2 ht_t_2).1) rfl la_1 tyX1 tyX1_ok nmX1 7 (by decide) lk_RX4_103 rfl rfl (by decide +kernel) rfl rfl (Nat.le_of_ble_eq_true rfl) dX4_write_107 (fun H locs hG => ?_)
            have hG : sl_I Γ (sl_up (sl_up g 3 ((α 3), .inl (Γ.2.1 0, 360, .inl (sl_cp C ((E t_2).2.2.2.2.2.2.2) ((E t_2).1) x)))) (100 + 3 * t_2) ((β t_2).1, .inr (1, [.int ((E t_2).1), .int ((E t_2).2.1), .int ((E t_2).2.2.1), .int ((E t_2).2.2.2.1), .int ((E t_2).2.2.2.2.1), .int ((E t_2).2.2.2.2.2.1), .ref ((β t_2).2.1), .int (((E t_2).2.2.2.2.2.2.2) + 1)]))) s H _ := hG
            refine lv_aload_n hx hb dX4_write_110 rfl (lv_at hl 0 rfl) ?_
            refine sl_getN (C := RX1) (T := TX1) (N := 8) hC hG (100 + 3 * t_2) (sl_up_s _ _ _) rfl la_1 7 (by decide) lk_RX4_103 rfl rfl dX4_write_111 ?_
            exact vx_ret (sl_ri (v := ((E t_2).2.2.2.2.2.2.2) + 1) hC hr hG (sl_up (sl_up g 3 ((α 3), .inl (Γ.2.1 0, 360, .inl (sl_cp C ((E t_2).2.2.2.2.2.2.2) ((E t_2).1) x)))) (100 + 3 * t_2) ((β t_2).1, .inr (1, [.int ((E t_2).1), .int ((E t_2).2.1), .int ((E t_2).2.2.1), .int ((E t_2).2.2.2.1), .int ((E t_2).2.2.2.2.1), .int ((E t_2).2.2.2.2.2.1), .ref ((β t_2).2.1), .int (((E t_2).2.2.2.2.2.2.2) + 1)]))) ⟨t_2, hq_2, (fun w9 => w9.elim c_25 (fun w9 => w9.elim c_33 (fun w9 => w9 c_44))), by rw [if_neg c_73], by rw [if_neg c_73, if_neg c_73]; exact sl_Cls_st (sl_Cls_up3 hK _) ht_t_2 _, ((sl_fr.rf g).up _ (by omega)).up _ (by omega)⟩ rfl (Nat.le_of_ble_eq_true rfl) (Nat.le_of_ble_eq_true rfl) dX4_write_114)
          · refine lv_aload_n hx hb dX4_write_76 rfl (lv_at hl 0 rfl) ?_
            refine lv_iconst (v := (-1)) hx hb dX4_write_77 (by decide) ?_
            refine sl_putN (C := RX1) (T := TX1) (N := 8) (ty := .int) (v := .int (-1)) hC hG (100 + 3 * t_2) (hE t_2 ht_t_2).1 rfl la_1 tyX1 tyX1_ok nmX1 7 (by decide) lk_RX4_103 rfl rfl (by decide +kernel) rfl rfl (Nat.le_of_ble_eq_true rfl) dX4_write_78 (fun H locs hG => ?_)
            have hG : sl_I Γ (sl_up g (100 + 3 * t_2) ((β t_2).1, .inr (1, [.int ((E t_2).1), .int ((E t_2).2.1), .int ((E t_2).2.2.1), .int ((E t_2).2.2.2.1), .int ((E t_2).2.2.2.2.1), .int ((E t_2).2.2.2.2.2.1), .ref ((β t_2).2.1), .int (-1)]))) s H _ := hG
            refine lv_goto (tgt := 110) hx hb dX4_write_81 (by decide) ?_
            refine lv_aload_n hx hb dX4_write_110 rfl (lv_at hl 0 rfl) ?_
            refine sl_getN (C := RX1) (T := TX1) (N := 8) hC hG (100 + 3 * t_2) (sl_up_s _ _ _) rfl la_1 7 (by decide) lk_RX4_103 rfl rfl dX4_write_111 ?_
            exact vx_ret (sl_ri (v := (-1)) hC hr hG (sl_up g (100 + 3 * t_2) ((β t_2).1, .inr (1, [.int ((E t_2).1), .int ((E t_2).2.1), .int ((E t_2).2.2.1), .int ((E t_2).2.2.2.1), .int ((E t_2).2.2.2.2.1), .int ((E t_2).2.2.2.2.2.1), .ref ((β t_2).2.1), .int (-1)]))) ⟨t_2, hq_2, (fun w9 => w9.elim c_25 (fun w9 => w9.elim c_33 (fun w9 => w9 c_44))), by rw [if_pos c_73], by rw [if_pos c_73, if_pos c_73]; exact sl_Cls_st hK ht_t_2 _, (sl_fr.rf g).up _ (by omega)⟩ rfl (Nat.le_of_ble_eq_true rfl) (Nat.le_of_ble_eq_true rfl) dX4_write_114)
        · exact sl_thr (text := "the token cannot write") (rest := []) hlt hC hG (Or.inr ⟨rfl, t_2, hq_2, Or.inr (Or.inr c_44)⟩) (by decide) lk_RX4_72 ini_IllegalStateException (by decide +kernel) sl_hatS sl_otS hl.1 dX4_write_47 dX4_write_50 dX4_write_51 dX4_write_53 dX4_write_56 hno (Nat.le_of_ble_eq_true rfl) (Nat.le_of_ble_eq_true rfl) (Nat.le_of_ble_eq_true rfl) (Nat.le_of_ble_eq_true rfl) (Nat.le_of_ble_eq_true rfl) (Nat.le_of_ble_eq_true rfl)
set_option maxHeartbeats 4000000 in
set_option maxRecDepth 100000 in
theorem kX4_fill (l : Launch) (hlt : l.stackTraces = false) (Γ : sl_G) (g : sl_W) (α : Nat → Nat) (β : Nat → Nat × Nat × Nat) (n : Nat) (ep : Int32) (tl : Nat) (lo : Bool) (T C : Nat → Int32) (E : Nat → sl_Ent) (hK : sl_Cls Γ α β n ep tl lo T C E g) (x : Int32) : vx_Met l yX4_fill [Cond.code yX4_fill cX4_fill 5 (some .boolean)] ({ frames := 6, cells := 1, slots := 6, locals := 100 } : Room) (va_Pc [.ref (α 0), .int x] (sl_B Γ g)) (sl_Qi Γ (fun r g' => ∃ b, x = nI b ∧ b < 120 ∧ lo = false ∧ b < tl ∧ sl_wh C b = false ∧ r = sl_bi (sl_tok n (C b)).isSome ∧ sl_Cls Γ α β n ep tl lo T (sl_cf C b (if (sl_tok n (C b)).isSome = true then C b else -1)) E g' ∧ sl_fr g g') (fun g' => g')) (sl_X Γ g (fun E0 => (E0 = "java/lang/IndexOutOfBoundsException" ∧ sl_in x 0 119 = false) ∨ (E0 = "java/lang/IllegalStateException" ∧ ∃ b, x = nI b ∧ b < 120 ∧ (lo = true ∨ tl ≤ b ∨ sl_wh C b = true)))) 1 6 (sl_A Γ) := by
  refine sl_entx (by decide) (Nat.le_of_ble_eq_true rfl) ?_
  intro p e s m below meth c ls hC hr hno hG hl
  have hx := hC.1
  have hb := hC.2.1
  have hl : lv_has ls 5 [(0, .ref (α 0)), (1, .int x)] := hl
  have hS := hK.ro
  obtain ⟨h0, h1, h2, h3, h4, h5, ⟨F, X, fd, h6, h7, h8⟩, hE, hN, hn9, ht9⟩ := id hK
  refine lv_iload_n hx hb dX4_fill_0 rfl (lv_at hl 1 rfl) ?_
  refine sl_calli (sl_runS (As := [.int x]) (rest := []) hC hG (kX4_isPosition l Γ g x) mi_X4_isPosition lk_RX4_120 rfl rfl ⟨Nat.le_of_ble_eq_true rfl, Nat.le_of_ble_eq_true rfl⟩ rfl hl.1 rfl (Nat.le_of_ble_eq_true rfl) dX4_fill_1 ⟨Nat.le_of_ble_eq_true rfl, Nat.le_of_ble_eq_true rfl⟩) hG (fun r_1 u_1 H locs hr_1 hG => ?_)
  subst hr_1
  refine lv_if_ne (tgt := 17) hx hb dX4_fill_4 (by decide) (fun c_4 => ?_) (fun c_4 => ?_)
  · have c_4 := sl_bT c_4
    obtain ⟨b, hb9, rfl⟩ := sl_c119 c_4
    refine lv_aload_n hx hb dX4_fill_17 rfl (lv_at hl 0 rfl) ?_
    refine sl_get (C := RX4) (T := TX4) (N := 8) hC hG 0 h0 rfl la_4 7 (by decide) lk_RX4_46 rfl rfl dX4_fill_18 ?_
    refine lv_if_ne (tgt := 43) hx hb dX4_fill_21 (by decide) (fun c_21 => ?_) (fun c_21 => ?_)
    · have c_21 := sl_bT c_21
      exact sl_thr (text := "the position cannot be filled") (rest := []) hlt hC hG (Or.inr ⟨rfl, b, rfl, by omega, Or.inl c_21⟩) (by decide) lk_RX4_72 ini_IllegalStateException (by decide +kernel) sl_hatS sl_otS hl.1 dX4_fill_43 dX4_fill_46 dX4_fill_47 dX4_fill_49 dX4_fill_52 hno (Nat.le_of_ble_eq_true rfl) (Nat.le_of_ble_eq_true rfl) (Nat.le_of_ble_eq_true rfl) (Nat.le_of_ble_eq_true rfl) (Nat.le_of_ble_eq_true rfl) (Nat.le_of_ble_eq_true rfl)
    · have c_21 := sl_bF c_21
      refine lv_iload_n hx hb dX4_fill_24 rfl (lv_at hl 1 rfl) ?_
      refine lv_aload_n hx hb dX4_fill_25 rfl (lv_at hl 0 rfl) ?_
      refine sl_get (C := RX4) (T := TX4) (N := 8) hC hG 0 h0 rfl la_4 6 (by decide) lk_RX4_43 rfl rfl dX4_fill_26 ?_
      refine lv_icmp_ge (tgt := 43) hx hb dX4_fill_29 (by decide) (fun c_29 => ?_) (fun c_29 => ?_)
      · have n_29 : tl ≤ b := (nI_leI (a := tl) (b := b) (by omega) (by omega)).mp c_29
        exact sl_thr (text := "the position cannot be filled") (rest := []) hlt hC hG (Or.inr ⟨rfl, b, rfl, by omega, Or.inr (Or.inl n_29)⟩) (by decide) lk_RX4_72 ini_IllegalStateException (by decide +kernel) sl_hatS sl_otS hl.1 dX4_fill_43 dX4_fill_46 dX4_fill_47 dX4_fill_49 dX4_fill_52 hno (Nat.le_of_ble_eq_true rfl) (Nat.le_of_ble_eq_true rfl) (Nat.le_of_ble_eq_true rfl) (Nat.le_of_ble_eq_true rfl) (Nat.le_of_ble_eq_true rfl) (Nat.le_of_ble_eq_true rfl)
      · have n_29 : ¬ (tl ≤ b) := fun z => c_29 ((nI_leI (a := tl) (b := b) (by omega) (by omega)).mpr z)
        refine lv_aload_n hx hb dX4_fill_32 rfl (lv_at hl 0 rfl) ?_
        refine sl_get (C := RX4) (T := TX4) (N := 8) hC hG 0 h0 rfl la_4 1 (by decide) lk_RX4_18 rfl rfl dX4_fill_33 ?_
        refine lv_iload_n hx hb dX4_fill_36 rfl (lv_at hl 1 rfl) ?_
        refine sl_calli (sl_runVN (As := [.int (nI b)]) (rest := []) hC hG (kX0_isComplete l Γ g (α 2) (α 3) C h2 h3 b (by omega)) mi_X0_isComplete lk_RX4_125 2 h2 rfl rfl rfl ⟨Nat.le_of_ble_eq_true rfl, Nat.le_of_ble_eq_true rfl⟩ rfl hl.1 rfl (Nat.le_of_ble_eq_true rfl) dX4_fill_37 ⟨Nat.le_of_ble_eq_true rfl, Nat.le_of_ble_eq_true rfl⟩) hG (fun r_37 u_37 H locs hr_37 hG => ?_)
        subst hr_37
        refine lv_if_eq (tgt := 53) hx hb dX4_fill_40 (by decide) (fun c_40 => ?_) (fun c_40 => ?_)
        · have c_40 := sl_bF c_40
          refine lv_aload_n hx hb dX4_fill_53 rfl (lv_at hl 0 rfl) ?_
          refine lv_iload_n hx hb dX4_fill_54 rfl (lv_at hl 1 rfl) ?_
          refine sl_callq (sl_runV (As := [.int (nI b)]) (rest := []) hC hG (kX4_entryIn l Γ g α β n C E hS (nI b)) mi_X4_entryIn lk_RX4_84 0 h0 rfl rfl rfl ⟨Nat.le_of_ble_eq_true rfl, Nat.le_of_ble_eq_true rfl⟩ rfl hl.1 rfl (Nat.le_of_ble_eq_true rfl) dX4_fill_55 ⟨Nat.le_of_ble_eq_true rfl, Nat.le_of_ble_eq_true rfl⟩) hG (fun r_55 u_55 H locs hr_55 hG => ?_)
          subst hr_55
          rw [show sl_ta n C (nI b) = sl_tok n (C b) from congrArg (sl_tok n) (sl_cg0 C (by omega))]
          rcases sl_opt (sl_tok n (C b)) with hq_55 | ⟨t_55, hq_55⟩
          · refine sl_top (w := .null) (by rw [hq_55]; rfl) ?_
            refine lv_ifnullN (tgt := 65) hx hb dX4_fill_58 (by decide) ?_
            refine lv_iconst (v := 0) hx hb dX4_fill_65 (by decide) ?_
            refine lv_istore_n (lv' := [(2, .int 0), (0, .ref (α 0)), (1, .int (nI b))]) hx hb dX4_fill_66 rfl hl (by decide) rfl (fun ls hl => ?_)
            refine lv_iload_n hx hb dX4_fill_67 rfl (lv_at hl 0 rfl) ?_
            refine lv_if_eq (tgt := 83) hx hb dX4_fill_68 (by decide) (fun c_68 => ?_) (fun c_68 => ?_)
            · refine lv_iconst (v := (-1)) hx hb dX4_fill_83 (by decide) ?_
              refine lv_istore_n (lv' := [(3, .int (-1)), (2, .int 0), (0, .ref (α 0)), (1, .int (nI b))]) hx hb dX4_fill_84 rfl hl (by decide) rfl (fun ls hl => ?_)
              refine lv_iconst (v := 0) hx hb dX4_fill_85 (by decide) ?_
              refine lv_istore (lv' := [(4, .int 0), (3, .int (-1)), (2, .int 0), (0, .ref (α 0)), (1, .int (nI b))]) hx hb dX4_fill_86 hl (by decide) rfl (fun ls hl => ?_)
              refine lv_iload hx hb dX4_fill_88 (lv_at hl 0 rfl) ?_
              refine lv_iconst (v := 3) hx hb dX4_fill_90 (by decide) ?_
              refine lv_icmp_ge (tgt := 111) hx hb dX4_fill_91 (by decide) (fun c_91 => ?_) (fun c_91 => ?_)
              · exact absurd c_91 (by decide)
              · refine lv_aload_n hx hb dX4_fill_94 rfl (lv_at hl 3 rfl) ?_
                refine sl_get (C := RX4) (T := TX4) (N := 8) hC hG 0 h0 rfl la_4 1 (by decide) lk_RX4_18 rfl rfl dX4_fill_95 ?_
                refine lv_iload hx hb dX4_fill_98 (lv_at hl 0 rfl) ?_
                refine lv_iload_n hx hb dX4_fill_100 rfl (lv_at hl 4 rfl) ?_
                refine lv_iload_n hx hb dX4_fill_101 rfl (lv_at hl 1 rfl) ?_
                refine sl_callv (sl_runVN (As := [.int 0, .int (nI b), .int (-1)]) (rest := []) hC hG (kX0_put l Γ g (α 2) (α 3) C h2 h3 0 (nI b) (-1)) mi_X0_put lk_RX4_116 2 h2 rfl rfl rfl ⟨Nat.le_of_ble_eq_true rfl, Nat.le_of_ble_eq_true rfl⟩ rfl hl.1 rfl (Nat.le_of_ble_eq_true rfl) dX4_fill_102 ⟨Nat.le_of_ble_eq_true rfl, Nat.le_of_ble_eq_true rfl⟩) hG (fun u_102 H locs hr_102 hG => ?_)
                have hG : sl_I Γ (sl_up g 3 ((α 3), .inl (Γ.2.1 0, 360, .inl (sl_cp C 0 (nI b) (-1))))) s H _ := hG
                refine lv_iinc (v := 1) (lv' := [(4, .int 1), (3, .int (-1)), (2, .int 0), (0, .ref (α 0)), (1, .int (nI b))]) hx hb dX4_fill_105 hl (k := 0) rfl (by decide) (by decide) rfl (fun ls hl => ?_)
                refine lv_goto (tgt := 88) hx hb dX4_fill_108 (by decide) ?_
                refine lv_iload hx hb dX4_fill_88 (lv_at hl 0 rfl) ?_
                refine lv_iconst (v := 3) hx hb dX4_fill_90 (by decide) ?_
                refine lv_icmp_ge (tgt := 111) hx hb dX4_fill_91 (by decide) (fun c_91 => ?_) (fun c_91 => ?_)
                · exact absurd c_91 (by decide)
                · refine lv_aload_n hx hb dX4_fill_94 rfl (lv_at hl 3 rfl) ?_
                  refine sl_get (C := RX4) (T := TX4) (N := 8) hC hG 0 (sl_up_to (by decide) h0) rfl la_4 1 (by decide) lk_RX4_18 rfl rfl dX4_fill_95 ?_
                  refine lv_iload hx hb dX4_fill_98 (lv_at hl 0 rfl) ?_
                  refine lv_iload_n hx hb dX4_fill_100 rfl (lv_at hl 4 rfl) ?_
                  refine lv_iload_n hx hb dX4_fill_101 rfl (lv_at hl 1 rfl) ?_
                  refine sl_callv (sl_runVN (As := [.int 1, .int (nI b), .int (-1)]) (rest := []) hC hG (kX0_put l Γ (sl_up g 3 ((α 3), .inl (Γ.2.1 0, 360, .inl (sl_cp C 0 (nI b) (-1))))) (α 2) (α 3) (sl_cp C 0 (nI b) (-1)) (sl_up_to (by decide) h2) (sl_up_s _ _ _) 1 (nI b) (-1)) mi_X0_put lk_RX4_116 2 (sl_up_to (by decide) h2) rfl rfl rfl ⟨Nat.le_of_ble_eq_true rfl, Nat.le_of_ble_eq_true rfl⟩ rfl hl.1 rfl (Nat.le_of_ble_eq_true rfl) dX4_fill_102 ⟨Nat.le_of_ble_eq_true rfl, Nat.le_of_ble_eq_true rfl⟩) hG (fun u_102 H locs hr_102 hG => ?_)
                  rw [sl_up_up] at hG
                  have hG : sl_I Γ (sl_up g 3 ((α 3), .inl (Γ.2.1 0, 360, .inl (sl_cp (sl_cp C 0 (nI b) (-1)) 1 (nI b) (-1))))) s H _ := hG
                  refine lv_iinc (v := 2) (lv' := [(4, .int 2), (3, .int (-1)), (2, .int 0), (0, .ref (α 0)), (1, .int (nI b))]) hx hb dX4_fill_105 hl (k := 0) rfl (by decide) (by decide) rfl (fun ls hl => ?_)
                  refine lv_goto (tgt := 88) hx hb dX4_fill_108 (by decide) ?_
                  refine lv_iload hx hb dX4_fill_88 (lv_at hl 0 rfl) ?_
                  refine lv_iconst (v := 3) hx hb dX4_fill_90 (by decide) ?_
                  refine lv_icmp_ge (tgt := 111) hx hb dX4_fill_91 (by decide) (fun c_91 => ?_) (fun c_91 => ?_)
                  · exact absurd c_91 (by decide)
                  · refine lv_aload_n hx hb dX4_fill_94 rfl (lv_at hl 3 rfl) ?_
                    refine sl_get (C := RX4) (T := TX4) (N := 8) hC hG 0 (sl_up_to (by decide) h0) rfl la_4 1 (by decide) lk_RX4_18 rfl rfl dX4_fill_95 ?_
                    refine lv_iload hx hb dX4_fill_98 (lv_at hl 0 rfl) ?_
                    refine lv_iload_n hx hb dX4_fill_100 rfl (lv_at hl 4 rfl) ?_
                    refine lv_iload_n hx hb dX4_fill_101 rfl (lv_at hl 1 rfl) ?_
                    refine sl_callv (sl_runVN (As := [.int 2, .int (nI b), .int (-1)]) (rest := []) hC hG (kX0_put l Γ (sl_up g 3 ((α 3), .inl (Γ.2.1 0, 360, .inl (sl_cp (sl_cp C 0 (nI b) (-1)) 1 (nI b) (-1))))) (α 2) (α 3) (sl_cp (sl_cp C 0 (nI b) (-1)) 1 (nI b) (-1)) (sl_up_to (by decide) h2) (sl_up_s _ _ _) 2 (nI b) (-1)) mi_X0_put lk_RX4_116 2 (sl_up_to (by decide) h2) rfl rfl rfl ⟨Nat.le_of_ble_eq_true rfl, Nat.le_of_ble_eq_true rfl⟩ rfl hl.1 rfl (Nat.le_of_ble_eq_true rfl) dX4_fill_102 ⟨Nat.le_of_ble_eq_true rfl, Nat.le_of_ble_eq_true rfl⟩) hG (fun u_102 H locs hr_102 hG => ?_)
                    rw [sl_up_up] at hG
                    have hG : sl_I Γ (sl_up g 3 ((α 3), .inl (Γ.2.1 0, 360, .inl (sl_cp (sl_cp (sl_cp C 0 (nI b) (-1)) 1 (nI b) (-1)) 2 (nI b) (-1))))) s H _ := hG
                    refine lv_iinc (v := 3) (lv' := [(4, .int 3), (3, .int (-1)), (2, .int 0), (0, .ref (α 0)), (1, .int (nI b))]) hx hb dX4_fill_105 hl (k := 0) rfl (by decide) (by decide) rfl (fun ls hl => ?_)
                    refine lv_goto (tgt := 88) hx hb dX4_fill_108 (by decide) ?_
                    refine lv_iload hx hb dX4_fill_88 (lv_at hl 0 rfl) ?_
                    refine lv_iconst (v := 3) hx hb dX4_fill_90 (by decide) ?_
                    refine lv_icmp_ge (tgt := 111) hx hb dX4_fill_91 (by decide) (fun c_91 => ?_) (fun c_91 => ?_)
                    · refine lv_iload_n hx hb dX4_fill_111 rfl (lv_at hl 2 rfl) ?_
                      exact vx_ret (sl_rz (v := 0) hC hr rfl hG (sl_up g 3 ((α 3), .inl (Γ.2.1 0, 360, .inl (sl_cp (sl_cp (sl_cp C 0 (nI b) (-1)) 1 (nI b) (-1)) 2 (nI b) (-1))))) ⟨b, rfl, by omega, c_21, by omega, c_40, by rw [hq_55]; rfl, by rw [hq_55]; exact sl_Cls_up3 hK _, (sl_fr.rf g).up _ (by omega)⟩ rfl (Nat.le_of_ble_eq_true rfl) (Nat.le_of_ble_eq_true rfl) dX4_fill_112)
                    · exact absurd c_91 (by decide)
            · exact absurd c_68 (by decide)
          · refine sl_top (w := .ref ((β t_55).1)) (by rw [hq_55]; rfl) ?_
            have ht_t_55 := sl_tok_lt hq_55
            refine lv_ifnull hx hb dX4_fill_58 ?_
            refine lv_iconst (v := 1) hx hb dX4_fill_61 (by decide) ?_
            refine lv_goto (tgt := 66) hx hb dX4_fill_62 (by decide) ?_
            refine lv_istore_n (lv' := [(2, .int 1), (0, .ref (α 0)), (1, .int (nI b))]) hx hb dX4_fill_66 rfl hl (by decide) rfl (fun ls hl => ?_)
            refine lv_iload_n hx hb dX4_fill_67 rfl (lv_at hl 0 rfl) ?_
            refine lv_if_eq (tgt := 83) hx hb dX4_fill_68 (by decide) (fun c_68 => ?_) (fun c_68 => ?_)
            · exact absurd c_68 (by decide)
            · refine lv_aload_n hx hb dX4_fill_71 rfl (lv_at hl 1 rfl) ?_
              refine sl_get (C := RX4) (T := TX4) (N := 8) hC hG 0 h0 rfl la_4 1 (by decide) lk_RX4_18 rfl rfl dX4_fill_72 ?_
              refine lv_iconst (v := 0) hx hb dX4_fill_75 (by decide) ?_
              refine lv_iload_n hx hb dX4_fill_76 rfl (lv_at hl 2 rfl) ?_
              refine sl_calli (sl_runVN (As := [.int 0, .int (nI b)]) (rest := []) hC hG (kX0_get l Γ g (α 2) (α 3) C h2 h3 0 (nI b)) mi_X0_get lk_RX4_112 2 h2 rfl rfl rfl ⟨Nat.le_of_ble_eq_true rfl, Nat.le_of_ble_eq_true rfl⟩ rfl hl.1 rfl (Nat.le_of_ble_eq_true rfl) dX4_fill_77 ⟨Nat.le_of_ble_eq_true rfl, Nat.le_of_ble_eq_true rfl⟩) hG (fun r_77 u_77 H locs hr_77 hG => ?_)
              subst hr_77
              refine sl_topi (sl_cg0 C (by omega)) ?_
              refine lv_goto (tgt := 84) hx hb dX4_fill_80 (by decide) ?_
              refine lv_istore_n (lv' := [(3, .int (C b)), (2, .int 1), (0, .ref (α 0)), (1, .int (nI b))]) hx hb dX4_fill_84 rfl hl (by decide) rfl (fun ls hl => ?_)
              refine lv_iconst (v := 0) hx hb dX4_fill_85 (by decide) ?_
              refine lv_istore (lv' := [(4, .int 0), (3, .int (C b)), (2, .int 1), (0, .ref (α 0)), (1, .int (nI b))]) hx hb dX4_fill_86 hl (by decide) rfl (fun ls hl => ?_)
              refine lv_iload hx hb dX4_fill_88 (lv_at hl 0 rfl) ?_
              refine lv_iconst (v := 3) hx hb dX4_fill_90 (by decide) ?_
              refine lv_icmp_ge (tgt := 111) hx hb dX4_fill_91 (by decide) (fun c_91 => ?_) (fun c_91 => ?_)
              · exact absurd c_91 (by decide)
              · refine lv_aload_n hx hb dX4_fill_94 rfl (lv_at hl 3 rfl) ?_
                refine sl_get (C := RX4) (T := TX4) (N := 8) hC hG 0 h0 rfl la_4 1 (by decide) lk_RX4_18 rfl rfl dX4_fill_95 ?_
                refine lv_iload hx hb dX4_fill_98 (lv_at hl 0 rfl) ?_
                refine lv_iload_n hx hb dX4_fill_100 rfl (lv_at hl 4 rfl) ?_
                refine lv_iload_n hx hb dX4_fill_101 rfl (lv_at hl 1 rfl) ?_
                refine sl_callv (sl_runVN (As := [.int 0, .int (nI b), .int (C b)]) (rest := []) hC hG (kX0_put l Γ g (α 2) (α 3) C h2 h3 0 (nI b) (C b)) mi_X0_put lk_RX4_116 2 h2 rfl rfl rfl ⟨Nat.le_of_ble_eq_true rfl, Nat.le_of_ble_eq_true rfl⟩ rfl hl.1 rfl (Nat.le_of_ble_eq_true rfl) dX4_fill_102 ⟨Nat.le_of_ble_eq_true rfl, Nat.le_of_ble_eq_true rfl⟩) hG (fun u_102 H locs hr_102 hG => ?_)
                have hG : sl_I Γ (sl_up g 3 ((α 3), .inl (Γ.2.1 0, 360, .inl (sl_cp C 0 (nI b) (C b))))) s H _ := hG
                refine lv_iinc (v := 1) (lv' := [(4, .int 1), (3, .int (C b)), (2, .int 1), (0, .ref (α 0)), (1, .int (nI b))]) hx hb dX4_fill_105 hl (k := 0) rfl (by decide) (by decide) rfl (fun ls hl => ?_)
                refine lv_goto (tgt := 88) hx hb dX4_fill_108 (by decide) ?_
                refine lv_iload hx hb dX4_fill_88 (lv_at hl 0 rfl) ?_
                refine lv_iconst (v := 3) hx hb dX4_fill_90 (by decide) ?_
                refine lv_icmp_ge (tgt := 111) hx hb dX4_fill_91 (by decide) (fun c_91 => ?_) (fun c_91 => ?_)
                · exact absurd c_91 (by decide)
                · refine lv_aload_n hx hb dX4_fill_94 rfl (lv_at hl 3 rfl) ?_
                  refine sl_get (C := RX4) (T := TX4) (N := 8) hC hG 0 (sl_up_to (by decide) h0) rfl la_4 1 (by decide) lk_RX4_18 rfl rfl dX4_fill_95 ?_
                  refine lv_iload hx hb dX4_fill_98 (lv_at hl 0 rfl) ?_
                  refine lv_iload_n hx hb dX4_fill_100 rfl (lv_at hl 4 rfl) ?_
                  refine lv_iload_n hx hb dX4_fill_101 rfl (lv_at hl 1 rfl) ?_
                  refine sl_callv (sl_runVN (As := [.int 1, .int (nI b), .int (C b)]) (rest := []) hC hG (kX0_put l Γ (sl_up g 3 ((α 3), .inl (Γ.2.1 0, 360, .inl (sl_cp C 0 (nI b) (C b))))) (α 2) (α 3) (sl_cp C 0 (nI b) (C b)) (sl_up_to (by decide) h2) (sl_up_s _ _ _) 1 (nI b) (C b)) mi_X0_put lk_RX4_116 2 (sl_up_to (by decide) h2) rfl rfl rfl ⟨Nat.le_of_ble_eq_true rfl, Nat.le_of_ble_eq_true rfl⟩ rfl hl.1 rfl (Nat.le_of_ble_eq_true rfl) dX4_fill_102 ⟨Nat.le_of_ble_eq_true rfl, Nat.le_of_ble_eq_true rfl⟩) hG (fun u_102 H locs hr_102 hG => ?_)
                  rw [sl_up_up] at hG
                  have hG : sl_I Γ (sl_up g 3 ((α 3), .inl (Γ.2.1 0, 360, .inl (sl_cp (sl_cp C 0 (nI b) (C b)) 1 (nI b) (C b))))) s H _ := hG
                  refine lv_iinc (v := 2) (lv' := [(4, .int 2), (3, .int (C b)), (2, .int 1), (0, .ref (α 0)), (1, .int (nI b))]) hx hb dX4_fill_105 hl (k := 0) rfl (by decide) (by decide) rfl (fun ls hl => ?_)
                  refine lv_goto (tgt := 88) hx hb dX4_fill_108 (by decide) ?_
                  refine lv_iload hx hb dX4_fill_88 (lv_at hl 0 rfl) ?_
                  refine lv_iconst (v := 3) hx hb dX4_fill_90 (by decide) ?_
                  refine lv_icmp_ge (tgt := 111) hx hb dX4_fill_91 (by decide) (fun c_91 => ?_) (fun c_91 => ?_)
                  · exact absurd c_91 (by decide)
                  · refine lv_aload_n hx hb dX4_fill_94 rfl (lv_at hl 3 rfl) ?_
                    refine sl_get (C := RX4) (T := TX4) (N := 8) hC hG 0 (sl_up_to (by decide) h0) rfl la_4 1 (by decide) lk_RX4_18 rfl rfl dX4_fill_95 ?_
                    refine lv_iload hx hb dX4_fill_98 (lv_at hl 0 rfl) ?_
                    refine lv_iload_n hx hb dX4_fill_100 rfl (lv_at hl 4 rfl) ?_
                    refine lv_iload_n hx hb dX4_fill_101 rfl (lv_at hl 1 rfl) ?_
                    refine sl_callv (sl_runVN (As := [.int 2, .int (nI b), .int (C b)]) (rest := []) hC hG (kX0_put l Γ (sl_up g 3 ((α 3), .inl (Γ.2.1 0, 360, .inl (sl_cp (sl_cp C 0 (nI b) (C b)) 1 (nI b) (C b))))) (α 2) (α 3) (sl_cp (sl_cp C 0 (nI b) (C b)) 1 (nI b) (C b)) (sl_up_to (by decide) h2) (sl_up_s _ _ _) 2 (nI b) (C b)) mi_X0_put lk_RX4_116 2 (sl_up_to (by decide) h2) rfl rfl rfl ⟨Nat.le_of_ble_eq_true rfl, Nat.le_of_ble_eq_true rfl⟩ rfl hl.1 rfl (Nat.le_of_ble_eq_true rfl) dX4_fill_102 ⟨Nat.le_of_ble_eq_true rfl, Nat.le_of_ble_eq_true rfl⟩) hG (fun u_102 H locs hr_102 hG => ?_)
                    rw [sl_up_up] at hG
                    have hG : sl_I Γ (sl_up g 3 ((α 3), .inl (Γ.2.1 0, 360, .inl (sl_cp (sl_cp (sl_cp C 0 (nI b) (C b)) 1 (nI b) (C b)) 2 (nI b) (C b))))) s H _ := hG
                    refine lv_iinc (v := 3) (lv' := [(4, .int 3), (3, .int (C b)), (2, .int 1), (0, .ref (α 0)), (1, .int (nI b))]) hx hb dX4_fill_105 hl (k := 0) rfl (by decide) (by decide) rfl (fun ls hl => ?_)
                    refine lv_goto (tgt := 88) hx hb dX4_fill_108 (by decide) ?_
                    refine lv_iload hx hb dX4_fill_88 (lv_at hl 0 rfl) ?_
                    refine lv_iconst (v := 3) hx hb dX4_fill_90 (by decide) ?_
                    refine lv_icmp_ge (tgt := 111) hx hb dX4_fill_91 (by decide) (fun c_91 => ?_) (fun c_91 => ?_)
                    · refine lv_iload_n hx hb dX4_fill_111 rfl (lv_at hl 2 rfl) ?_
                      exact vx_ret (sl_rz (v := 1) hC hr rfl hG (sl_up g 3 ((α 3), .inl (Γ.2.1 0, 360, .inl (sl_cp (sl_cp (sl_cp C 0 (nI b) (C b)) 1 (nI b) (C b)) 2 (nI b) (C b))))) ⟨b, rfl, by omega, c_21, by omega, c_40, by rw [hq_55]; rfl, by rw [hq_55]; exact sl_Cls_up3 hK _, (sl_fr.rf g).up _ (by omega)⟩ rfl (Nat.le_of_ble_eq_true rfl) (Nat.le_of_ble_eq_true rfl) dX4_fill_112)
                    · exact absurd c_91 (by decide)
        · have c_40 := sl_bT c_40
          exact sl_thr (text := "the position cannot be filled") (rest := []) hlt hC hG (Or.inr ⟨rfl, b, rfl, by omega, Or.inr (Or.inr c_40)⟩) (by decide) lk_RX4_72 ini_IllegalStateException (by decide +kernel) sl_hatS sl_otS hl.1 dX4_fill_43 dX4_fill_46 dX4_fill_47 dX4_fill_49 dX4_fill_52 hno (Nat.le_of_ble_eq_true rfl) (Nat.le_of_ble_eq_true rfl) (Nat.le_of_ble_eq_true rfl) (Nat.le_of_ble_eq_true rfl) (Nat.le_of_ble_eq_true rfl) (Nat.le_of_ble_eq_true rfl)
  · have c_4 := sl_bF c_4
    exact sl_thr (text := "no such position") (rest := []) hlt hC hG (Or.inl ⟨rfl, c_4⟩) (by decide) lk_RX4_98 ini_IndexOutOfBoundsException (by decide +kernel) sl_hatO sl_otO hl.1 dX4_fill_7 dX4_fill_10 dX4_fill_11 dX4_fill_13 dX4_fill_16 hno (Nat.le_of_ble_eq_true rfl) (Nat.le_of_ble_eq_true rfl) (Nat.le_of_ble_eq_true rfl) (Nat.le_of_ble_eq_true rfl) (Nat.le_of_ble_eq_true rfl) (Nat.le_of_ble_eq_true rfl)
set_option maxHeartbeats 4000000 in
set_option maxRecDepth 100000 in
theorem kX4_init (l : Launch) (Γ : sl_G) (g : sl_W) (a0 : Nat) (h0 : g 0 = some (a0, .inr (4, [.null, .null, .null, .null, .int 0, .int 0, .int 0, .int 0]))) (hf : ∀ k, k ≠ 0 → (k < 9 ∨ 100 ≤ k) → g k = none) : Met l yX4_init [Cond.code yX4_init cX4_init 1 none] ({ frames := 2, cells := 9, slots := 673, locals := 43 } : Room) (va_Pc [.ref a0] (sl_B Γ g)) (sl_Qv Γ (fun (u : (Nat → Nat) × sl_W) => sl_Cls Γ u.1 sl_b0 0 0 0 false (fun _ => -1) (fun _ => -2) sl_E0 u.2 ∧ sl_fr g u.2 ∧ u.1 0 = a0) (fun u => u.2)) 9 673 (sl_A Γ) := by
  refine sl_ent (by decide) (Nat.le_of_ble_eq_true rfl) ?_
  intro p e s m below meth c ls hC hr hin hG hl
  have hx := hC.1
  have hb := hC.2.1
  have hl : lv_has ls 1 [(0, .ref a0)] := hl
  have h1 := hf 1 (by decide) (by decide)
  have h2 := hf 2 (by decide) (by decide)
  have h3 := hf 3 (by decide) (by decide)
  have h4 := hf 4 (by decide) (by decide)
  have h5 := hf 5 (by decide) (by decide)
  have h6 := hf 6 (by decide) (by decide)
  have h7 := hf 7 (by decide) (by decide)
  have h8 := hf 8 (by decide) (by decide)
  refine lv_aload_n hx hb dX4_init_0 rfl (lv_at hl 0 rfl) ?_
  refine W.objInit hx hb hC.2.2.2.1 (sl_tab hC lk_RX4_1 rfl) (sl_tab hC oi_inst rfl) (sl_tab hC oi_code rfl) rfl (hl.1.trans hC.2.2.1.symm) rfl dX4_init_1 (Nat.le_of_ble_eq_true rfl) (Nat.le_of_ble_eq_true rfl) ?_
  refine W.eq (g2 := F0 m 4 ls []) rfl ?_
  refine lv_aload_n hx hb dX4_init_4 rfl (lv_at hl 0 rfl) ?_
  refine lv_sipush (v := 150) hx hb dX4_init_5 (by decide) ?_
  refine sl_newq hC hG 1 h1 (N' := 150) lk_RX4_9 (by decide) (by decide) (Nat.le_of_ble_eq_true rfl) (Nat.le_of_ble_eq_true rfl) (Nat.le_of_ble_eq_true rfl) dX4_init_8 (fun q_8 H hG => ?_)
  have hG : sl_I Γ (sl_up g 1 (q_8, .inl (Γ.2.1 2, 150, .inr (.inr (.inr (.inr (fun _ => none))))))) s H _ := hG
  refine sl_putF (C := RX4) (T := TX4) (N := 8) (ty := .array (.object "SharedLog$Entry")) (v := .ref q_8) hC hG 0 (sl_up_to (by decide) h0) rfl la_4 tyX4 tyX4_ok nmX4 0 (by decide) lk_RX4_11 rfl rfl hin rfl (by decide +kernel) rfl rfl (Nat.le_of_ble_eq_true rfl) dX4_init_11 (fun H locs hG => ?_)
  have hG : sl_I Γ (sl_up (sl_up g 1 (q_8, .inl (Γ.2.1 2, 150, .inr (.inr (.inr (.inr (fun _ => none))))))) 0 (a0, .inr (4, [.ref q_8, .null, .null, .null, .int 0, .int 0, .int 0, .int 0]))) s H _ := hG
  refine lv_aload_n hx hb dX4_init_14 rfl (lv_at hl 0 rfl) ?_
  refine sl_new (ci := 0) hC hG 2 (sl_up_to (by decide) (sl_up_to (by decide) h2)) (C := RX0) (T := TX0) (N := 1) (fs := [.null]) rfl la_0 tyX0 tyX0_ok (sl_f0) lk_RX4_15 in_RX0 ini_RX0 (Nat.le_of_ble_eq_true rfl) (Nat.le_of_ble_eq_true rfl) dX4_init_15 (fun q_15 H hG => ?_)
  have hG : sl_I Γ (sl_up (sl_up (sl_up g 1 (q_8, .inl (Γ.2.1 2, 150, .inr (.inr (.inr (.inr (fun _ => none))))))) 0 (a0, .inr (4, [.ref q_8, .null, .null, .null, .int 0, .int 0, .int 0, .int 0]))) 2 (q_15, .inr (0, [.null]))) s H _ := hG
  refine lv_dup hx hb dX4_init_18 rfl ?_
  refine sl_callv (sl_runIN (As := []) (rest := [.ref q_15, .ref a0]) hC hG (kX0_init l Γ (sl_up (sl_up (sl_up g 1 (q_8, .inl (Γ.2.1 2, 150, .inr (.inr (.inr (.inr (fun _ => none))))))) 0 (a0, .inr (4, [.ref q_8, .null, .null, .null, .int 0, .int 0, .int 0, .int 0]))) 2 (q_15, .inr (0, [.null]))) q_15 (sl_up_s _ _ _) (sl_up_to (by decide) (sl_up_to (by decide) (sl_up_to (by decide) h3)))) mi_X0_init lk_RX4_17 rfl rfl ⟨Nat.le_of_ble_eq_true rfl, Nat.le_of_ble_eq_true rfl⟩ rfl hl.1 rfl (Nat.le_of_ble_eq_true rfl) dX4_init_19 ⟨Nat.le_of_ble_eq_true rfl, Nat.le_of_ble_eq_true rfl⟩) hG (fun u_19 H locs hr_19 hG => ?_)
  rw [sl_up_up] at hG
  have hG : sl_I Γ (sl_up (sl_up (sl_up (sl_up g 1 (q_8, .inl (Γ.2.1 2, 150, .inr (.inr (.inr (.inr (fun _ => none))))))) 0 (a0, .inr (4, [.ref q_8, .null, .null, .null, .int 0, .int 0, .int 0, .int 0]))) 2 (q_15, .inr (0, [.ref u_19]))) 3 (u_19, .inl (Γ.2.1 0, 360, .inl (fun _ => (-2))))) s H _ := hG
  refine sl_putF (C := RX4) (T := TX4) (N := 8) (ty := .object "SharedLog$Cells") (v := .ref q_15) hC hG 0 (sl_up_to (by decide) (sl_up_to (by decide) (sl_up_s _ _ _))) rfl la_4 tyX4 tyX4_ok nmX4 1 (by decide) lk_RX4_18 rfl rfl hin rfl (by decide +kernel) rfl rfl (Nat.le_of_ble_eq_true rfl) dX4_init_22 (fun H locs hG => ?_)
  have hG : sl_I Γ (sl_up (sl_up (sl_up (sl_up (sl_up g 1 (q_8, .inl (Γ.2.1 2, 150, .inr (.inr (.inr (.inr (fun _ => none))))))) 0 (a0, .inr (4, [.ref q_8, .null, .null, .null, .int 0, .int 0, .int 0, .int 0]))) 2 (q_15, .inr (0, [.ref u_19]))) 3 (u_19, .inl (Γ.2.1 0, 360, .inl (fun _ => (-2))))) 0 (a0, .inr (4, [.ref q_8, .ref q_15, .null, .null, .int 0, .int 0, .int 0, .int 0]))) s H _ := hG
  refine lv_aload_n hx hb dX4_init_25 rfl (lv_at hl 0 rfl) ?_
  refine sl_new (ci := 3) hC hG 4 (sl_up_to (by decide) (sl_up_to (by decide) (sl_up_to (by decide) (sl_up_to (by decide) (sl_up_to (by decide) h4))))) (C := RX3) (T := TX3) (N := 1) (fs := [.null]) rfl la_3 tyX3 tyX3_ok (sl_f3) lk_RX4_22 in_RX3 ini_RX3 (Nat.le_of_ble_eq_true rfl) (Nat.le_of_ble_eq_true rfl) dX4_init_26 (fun q_26 H hG => ?_)
  have hG : sl_I Γ (sl_up (sl_up (sl_up (sl_up (sl_up (sl_up g 1 (q_8, .inl (Γ.2.1 2, 150, .inr (.inr (.inr (.inr (fun _ => none))))))) 0 (a0, .inr (4, [.ref q_8, .null, .null, .null, .int 0, .int 0, .int 0, .int 0]))) 2 (q_15, .inr (0, [.ref u_19]))) 3 (u_19, .inl (Γ.2.1 0, 360, .inl (fun _ => (-2))))) 0 (a0, .inr (4, [.ref q_8, .ref q_15, .null, .null, .int 0, .int 0, .int 0, .int 0]))) 4 (q_26, .inr (3, [.null]))) s H _ := hG
  refine lv_dup hx hb dX4_init_29 rfl ?_
  refine sl_callv (sl_runIN (As := []) (rest := [.ref q_26, .ref a0]) hC hG (kX3_init l Γ (sl_up (sl_up (sl_up (sl_up (sl_up (sl_up g 1 (q_8, .inl (Γ.2.1 2, 150, .inr (.inr (.inr (.inr (fun _ => none))))))) 0 (a0, .inr (4, [.ref q_8, .null, .null, .null, .int 0, .int 0, .int 0, .int 0]))) 2 (q_15, .inr (0, [.ref u_19]))) 3 (u_19, .inl (Γ.2.1 0, 360, .inl (fun _ => (-2))))) 0 (a0, .inr (4, [.ref q_8, .ref q_15, .null, .null, .int 0, .int 0, .int 0, .int 0]))) 4 (q_26, .inr (3, [.null]))) 4 5 q_26 (sl_up_s _ _ _) (sl_up_to (by decide) (sl_up_to (by decide) (sl_up_to (by decide) (sl_up_to (by decide) (sl_up_to (by decide) (sl_up_to (by decide) h5)))))) (by omega)) mi_X3_init lk_RX4_24 rfl rfl ⟨Nat.le_of_ble_eq_true rfl, Nat.le_of_ble_eq_true rfl⟩ rfl hl.1 rfl (Nat.le_of_ble_eq_true rfl) dX4_init_30 ⟨Nat.le_of_ble_eq_true rfl, Nat.le_of_ble_eq_true rfl⟩) hG (fun u_30 H locs hr_30 hG => ?_)
  rw [sl_up_up] at hG
  have hG : sl_I Γ (sl_up (sl_up (sl_up (sl_up (sl_up (sl_up (sl_up g 1 (q_8, .inl (Γ.2.1 2, 150, .inr (.inr (.inr (.inr (fun _ => none))))))) 0 (a0, .inr (4, [.ref q_8, .null, .null, .null, .int 0, .int 0, .int 0, .int 0]))) 2 (q_15, .inr (0, [.ref u_19]))) 3 (u_19, .inl (Γ.2.1 0, 360, .inl (fun _ => (-2))))) 0 (a0, .inr (4, [.ref q_8, .ref q_15, .null, .null, .int 0, .int 0, .int 0, .int 0]))) 4 (q_26, .inr (3, [.ref u_30]))) 5 (u_30, .inl (Γ.2.1 0, 16, .inl (fun _ => (-1))))) s H _ := hG
  refine sl_putF (C := RX4) (T := TX4) (N := 8) (ty := .object "SharedLog$Trail") (v := .ref q_26) hC hG 0 (sl_up_to (by decide) (sl_up_to (by decide) (sl_up_s _ _ _))) rfl la_4 tyX4 tyX4_ok nmX4 2 (by decide) lk_RX4_25 rfl rfl hin rfl (by decide +kernel) rfl rfl (Nat.le_of_ble_eq_true rfl) dX4_init_33 (fun H locs hG => ?_)
  have hG : sl_I Γ (sl_up (sl_up (sl_up (sl_up (sl_up (sl_up (sl_up (sl_up g 1 (q_8, .inl (Γ.2.1 2, 150, .inr (.inr (.inr (.inr (fun _ => none))))))) 0 (a0, .inr (4, [.ref q_8, .null, .null, .null, .int 0, .int 0, .int 0, .int 0]))) 2 (q_15, .inr (0, [.ref u_19]))) 3 (u_19, .inl (Γ.2.1 0, 360, .inl (fun _ => (-2))))) 0 (a0, .inr (4, [.ref q_8, .ref q_15, .null, .null, .int 0, .int 0, .int 0, .int 0]))) 4 (q_26, .inr (3, [.ref u_30]))) 5 (u_30, .inl (Γ.2.1 0, 16, .inl (fun _ => (-1))))) 0 (a0, .inr (4, [.ref q_8, .ref q_15, .ref q_26, .null, .int 0, .int 0, .int 0, .int 0]))) s H _ := hG
  refine lv_aload_n hx hb dX4_init_36 rfl (lv_at hl 0 rfl) ?_
  refine sl_new (ci := 2) hC hG 6 (sl_up_to (by decide) (sl_up_to (by decide) (sl_up_to (by decide) (sl_up_to (by decide) (sl_up_to (by decide) (sl_up_to (by decide) (sl_up_to (by decide) (sl_up_to (by decide) h6)))))))) (C := RX2) (T := TX2) (N := 3) (fs := [.null, .null, .int 0]) rfl la_2 tyX2 tyX2_ok (sl_f2) lk_RX4_29 in_RX2 ini_RX2 (Nat.le_of_ble_eq_true rfl) (Nat.le_of_ble_eq_true rfl) dX4_init_37 (fun q_37 H hG => ?_)
  have hG : sl_I Γ (sl_up (sl_up (sl_up (sl_up (sl_up (sl_up (sl_up (sl_up (sl_up g 1 (q_8, .inl (Γ.2.1 2, 150, .inr (.inr (.inr (.inr (fun _ => none))))))) 0 (a0, .inr (4, [.ref q_8, .null, .null, .null, .int 0, .int 0, .int 0, .int 0]))) 2 (q_15, .inr (0, [.ref u_19]))) 3 (u_19, .inl (Γ.2.1 0, 360, .inl (fun _ => (-2))))) 0 (a0, .inr (4, [.ref q_8, .ref q_15, .null, .null, .int 0, .int 0, .int 0, .int 0]))) 4 (q_26, .inr (3, [.ref u_30]))) 5 (u_30, .inl (Γ.2.1 0, 16, .inl (fun _ => (-1))))) 0 (a0, .inr (4, [.ref q_8, .ref q_15, .ref q_26, .null, .int 0, .int 0, .int 0, .int 0]))) 6 (q_37, .inr (2, [.null, .null, .int 0]))) s H _ := hG
  refine lv_dup hx hb dX4_init_40 rfl ?_
  refine sl_callv (sl_runIN (As := []) (rest := [.ref q_37, .ref a0]) hC hG (kX2_init l Γ (sl_up (sl_up (sl_up (sl_up (sl_up (sl_up (sl_up (sl_up (sl_up g 1 (q_8, .inl (Γ.2.1 2, 150, .inr (.inr (.inr (.inr (fun _ => none))))))) 0 (a0, .inr (4, [.ref q_8, .null, .null, .null, .int 0, .int 0, .int 0, .int 0]))) 2 (q_15, .inr (0, [.ref u_19]))) 3 (u_19, .inl (Γ.2.1 0, 360, .inl (fun _ => (-2))))) 0 (a0, .inr (4, [.ref q_8, .ref q_15, .null, .null, .int 0, .int 0, .int 0, .int 0]))) 4 (q_26, .inr (3, [.ref u_30]))) 5 (u_30, .inl (Γ.2.1 0, 16, .inl (fun _ => (-1))))) 0 (a0, .inr (4, [.ref q_8, .ref q_15, .ref q_26, .null, .int 0, .int 0, .int 0, .int 0]))) 6 (q_37, .inr (2, [.null, .null, .int 0]))) q_37 (sl_up_s _ _ _) (sl_up_to (by decide) (sl_up_to (by decide) (sl_up_to (by decide) (sl_up_to (by decide) (sl_up_to (by decide) (sl_up_to (by decide) (sl_up_to (by decide) (sl_up_to (by decide) (sl_up_to (by decide) h7))))))))) (sl_up_to (by decide) (sl_up_to (by decide) (sl_up_to (by decide) (sl_up_to (by decide) (sl_up_to (by decide) (sl_up_to (by decide) (sl_up_to (by decide) (sl_up_to (by decide) (sl_up_to (by decide) h8)))))))))) mi_X2_init lk_RX4_31 rfl rfl ⟨Nat.le_of_ble_eq_true rfl, Nat.le_of_ble_eq_true rfl⟩ rfl hl.1 rfl (Nat.le_of_ble_eq_true rfl) dX4_init_41 ⟨Nat.le_of_ble_eq_true rfl, Nat.le_of_ble_eq_true rfl⟩) hG (fun u_41 H locs hr_41 hG => ?_)
  rw [sl_up_up] at hG
  have hG : sl_I Γ (sl_up (sl_up (sl_up (sl_up (sl_up (sl_up (sl_up (sl_up (sl_up (sl_up (sl_up g 1 (q_8, .inl (Γ.2.1 2, 150, .inr (.inr (.inr (.inr (fun _ => none))))))) 0 (a0, .inr (4, [.ref q_8, .null, .null, .null, .int 0, .int 0, .int 0, .int 0]))) 2 (q_15, .inr (0, [.ref u_19]))) 3 (u_19, .inl (Γ.2.1 0, 360, .inl (fun _ => (-2))))) 0 (a0, .inr (4, [.ref q_8, .ref q_15, .null, .null, .int 0, .int 0, .int 0, .int 0]))) 4 (q_26, .inr (3, [.ref u_30]))) 5 (u_30, .inl (Γ.2.1 0, 16, .inl (fun _ => (-1))))) 0 (a0, .inr (4, [.ref q_8, .ref q_15, .ref q_26, .null, .int 0, .int 0, .int 0, .int 0]))) 6 (q_37, .inr (2, [.ref u_41.1, .ref u_41.2, .int 0]))) 7 (u_41.1, .inl (Γ.2.1 1, 120, .inl (fun _ => 0)))) 8 (u_41.2, .inl (Γ.2.1 0, 4, .inl (fun _ => 0)))) s H _ := hG
  refine sl_putF (C := RX4) (T := TX4) (N := 8) (ty := .object "SharedLog$Fold") (v := .ref q_37) hC hG 0 (sl_up_to (by decide) (sl_up_to (by decide) (sl_up_to (by decide) (sl_up_s _ _ _)))) rfl la_4 tyX4 tyX4_ok nmX4 3 (by decide) lk_RX4_32 rfl rfl hin rfl (by decide +kernel) rfl rfl (Nat.le_of_ble_eq_true rfl) dX4_init_44 (fun H locs hG => ?_)
  have hG : sl_I Γ (sl_up (sl_up (sl_up (sl_up (sl_up (sl_up (sl_up (sl_up (sl_up (sl_up (sl_up (sl_up g 1 (q_8, .inl (Γ.2.1 2, 150, .inr (.inr (.inr (.inr (fun _ => none))))))) 0 (a0, .inr (4, [.ref q_8, .null, .null, .null, .int 0, .int 0, .int 0, .int 0]))) 2 (q_15, .inr (0, [.ref u_19]))) 3 (u_19, .inl (Γ.2.1 0, 360, .inl (fun _ => (-2))))) 0 (a0, .inr (4, [.ref q_8, .ref q_15, .null, .null, .int 0, .int 0, .int 0, .int 0]))) 4 (q_26, .inr (3, [.ref u_30]))) 5 (u_30, .inl (Γ.2.1 0, 16, .inl (fun _ => (-1))))) 0 (a0, .inr (4, [.ref q_8, .ref q_15, .ref q_26, .null, .int 0, .int 0, .int 0, .int 0]))) 6 (q_37, .inr (2, [.ref u_41.1, .ref u_41.2, .int 0]))) 7 (u_41.1, .inl (Γ.2.1 1, 120, .inl (fun _ => 0)))) 8 (u_41.2, .inl (Γ.2.1 0, 4, .inl (fun _ => 0)))) 0 (a0, .inr (4, [.ref q_8, .ref q_15, .ref q_26, .ref q_37, .int 0, .int 0, .int 0, .int 0]))) s H _ := hG
  refine lv_aload_n hx hb dX4_init_47 rfl (lv_at hl 0 rfl) ?_
  refine lv_iconst (v := 0) hx hb dX4_init_48 (by decide) ?_
  refine sl_put (C := RX4) (T := TX4) (N := 8) (ty := .int) (v := .int 0) hC hG 0 (sl_up_s _ _ _) rfl la_4 tyX4 tyX4_ok nmX4 4 (by decide) lk_RX4_36 rfl rfl (by decide +kernel) rfl rfl (Nat.le_of_ble_eq_true rfl) dX4_init_49 (fun H locs hG => ?_)
  rw [sl_up_up] at hG
  have hG : sl_I Γ (sl_up (sl_up (sl_up (sl_up (sl_up (sl_up (sl_up (sl_up (sl_up (sl_up (sl_up (sl_up g 1 (q_8, .inl (Γ.2.1 2, 150, .inr (.inr (.inr (.inr (fun _ => none))))))) 0 (a0, .inr (4, [.ref q_8, .null, .null, .null, .int 0, .int 0, .int 0, .int 0]))) 2 (q_15, .inr (0, [.ref u_19]))) 3 (u_19, .inl (Γ.2.1 0, 360, .inl (fun _ => (-2))))) 0 (a0, .inr (4, [.ref q_8, .ref q_15, .null, .null, .int 0, .int 0, .int 0, .int 0]))) 4 (q_26, .inr (3, [.ref u_30]))) 5 (u_30, .inl (Γ.2.1 0, 16, .inl (fun _ => (-1))))) 0 (a0, .inr (4, [.ref q_8, .ref q_15, .ref q_26, .null, .int 0, .int 0, .int 0, .int 0]))) 6 (q_37, .inr (2, [.ref u_41.1, .ref u_41.2, .int 0]))) 7 (u_41.1, .inl (Γ.2.1 1, 120, .inl (fun _ => 0)))) 8 (u_41.2, .inl (Γ.2.1 0, 4, .inl (fun _ => 0)))) 0 (a0, .inr (4, [.ref q_8, .ref q_15, .ref q_26, .ref q_37, .int 0, .int 0, .int 0, .int 0]))) s H _ := hG
  refine lv_aload_n hx hb dX4_init_52 rfl (lv_at hl 0 rfl) ?_
  refine lv_iconst (v := 0) hx hb dX4_init_53 (by decide) ?_
  refine sl_put (C := RX4) (T := TX4) (N := 8) (ty := .int) (v := .int 0) hC hG 0 (sl_up_s _ _ _) rfl la_4 tyX4 tyX4_ok nmX4 5 (by decide) lk_RX4_40 rfl rfl (by decide +kernel) rfl rfl (Nat.le_of_ble_eq_true rfl) dX4_init_54 (fun H locs hG => ?_)
  rw [sl_up_up] at hG
  have hG : sl_I Γ (sl_up (sl_up (sl_up (sl_up (sl_up (sl_up (sl_up (sl_up (sl_up (sl_up (sl_up (sl_up g 1 (q_8, .inl (Γ.2.1 2, 150, .inr (.inr (.inr (.inr (fun _ => none))))))) 0 (a0, .inr (4, [.ref q_8, .null, .null, .null, .int 0, .int 0, .int 0, .int 0]))) 2 (q_15, .inr (0, [.ref u_19]))) 3 (u_19, .inl (Γ.2.1 0, 360, .inl (fun _ => (-2))))) 0 (a0, .inr (4, [.ref q_8, .ref q_15, .null, .null, .int 0, .int 0, .int 0, .int 0]))) 4 (q_26, .inr (3, [.ref u_30]))) 5 (u_30, .inl (Γ.2.1 0, 16, .inl (fun _ => (-1))))) 0 (a0, .inr (4, [.ref q_8, .ref q_15, .ref q_26, .null, .int 0, .int 0, .int 0, .int 0]))) 6 (q_37, .inr (2, [.ref u_41.1, .ref u_41.2, .int 0]))) 7 (u_41.1, .inl (Γ.2.1 1, 120, .inl (fun _ => 0)))) 8 (u_41.2, .inl (Γ.2.1 0, 4, .inl (fun _ => 0)))) 0 (a0, .inr (4, [.ref q_8, .ref q_15, .ref q_26, .ref q_37, .int 0, .int 0, .int 0, .int 0]))) s H _ := hG
  refine lv_aload_n hx hb dX4_init_57 rfl (lv_at hl 0 rfl) ?_
  refine lv_iconst (v := 0) hx hb dX4_init_58 (by decide) ?_
  refine sl_put (C := RX4) (T := TX4) (N := 8) (ty := .int) (v := .int 0) hC hG 0 (sl_up_s _ _ _) rfl la_4 tyX4 tyX4_ok nmX4 6 (by decide) lk_RX4_43 rfl rfl (by decide +kernel) rfl rfl (Nat.le_of_ble_eq_true rfl) dX4_init_59 (fun H locs hG => ?_)
  rw [sl_up_up] at hG
  have hG : sl_I Γ (sl_up (sl_up (sl_up (sl_up (sl_up (sl_up (sl_up (sl_up (sl_up (sl_up (sl_up (sl_up g 1 (q_8, .inl (Γ.2.1 2, 150, .inr (.inr (.inr (.inr (fun _ => none))))))) 0 (a0, .inr (4, [.ref q_8, .null, .null, .null, .int 0, .int 0, .int 0, .int 0]))) 2 (q_15, .inr (0, [.ref u_19]))) 3 (u_19, .inl (Γ.2.1 0, 360, .inl (fun _ => (-2))))) 0 (a0, .inr (4, [.ref q_8, .ref q_15, .null, .null, .int 0, .int 0, .int 0, .int 0]))) 4 (q_26, .inr (3, [.ref u_30]))) 5 (u_30, .inl (Γ.2.1 0, 16, .inl (fun _ => (-1))))) 0 (a0, .inr (4, [.ref q_8, .ref q_15, .ref q_26, .null, .int 0, .int 0, .int 0, .int 0]))) 6 (q_37, .inr (2, [.ref u_41.1, .ref u_41.2, .int 0]))) 7 (u_41.1, .inl (Γ.2.1 1, 120, .inl (fun _ => 0)))) 8 (u_41.2, .inl (Γ.2.1 0, 4, .inl (fun _ => 0)))) 0 (a0, .inr (4, [.ref q_8, .ref q_15, .ref q_26, .ref q_37, .int 0, .int 0, .int 0, .int 0]))) s H _ := hG
  refine lv_aload_n hx hb dX4_init_62 rfl (lv_at hl 0 rfl) ?_
  refine lv_iconst (v := 0) hx hb dX4_init_63 (by decide) ?_
  refine sl_put (C := RX4) (T := TX4) (N := 8) (ty := .boolean) (v := .int 0) hC hG 0 (sl_up_s _ _ _) rfl la_4 tyX4 tyX4_ok nmX4 7 (by decide) lk_RX4_46 rfl rfl (by decide +kernel) rfl rfl (Nat.le_of_ble_eq_true rfl) dX4_init_64 (fun H locs hG => ?_)
  rw [sl_up_up] at hG
  have hG : sl_I Γ (sl_up (sl_up (sl_up (sl_up (sl_up (sl_up (sl_up (sl_up (sl_up (sl_up (sl_up (sl_up g 1 (q_8, .inl (Γ.2.1 2, 150, .inr (.inr (.inr (.inr (fun _ => none))))))) 0 (a0, .inr (4, [.ref q_8, .null, .null, .null, .int 0, .int 0, .int 0, .int 0]))) 2 (q_15, .inr (0, [.ref u_19]))) 3 (u_19, .inl (Γ.2.1 0, 360, .inl (fun _ => (-2))))) 0 (a0, .inr (4, [.ref q_8, .ref q_15, .null, .null, .int 0, .int 0, .int 0, .int 0]))) 4 (q_26, .inr (3, [.ref u_30]))) 5 (u_30, .inl (Γ.2.1 0, 16, .inl (fun _ => (-1))))) 0 (a0, .inr (4, [.ref q_8, .ref q_15, .ref q_26, .null, .int 0, .int 0, .int 0, .int 0]))) 6 (q_37, .inr (2, [.ref u_41.1, .ref u_41.2, .int 0]))) 7 (u_41.1, .inl (Γ.2.1 1, 120, .inl (fun _ => 0)))) 8 (u_41.2, .inl (Γ.2.1 0, 4, .inl (fun _ => 0)))) 0 (a0, .inr (4, [.ref q_8, .ref q_15, .ref q_26, .ref q_37, .int 0, .int 0, .int 0, .int 0]))) s H _ := hG
  have hfin : sl_Cls Γ (sl_al [a0, q_8, q_15, u_19, q_26, u_30, q_37, u_41.1, u_41.2]) sl_b0 0 0 0 false (fun _ => -1) (fun _ => -2) sl_E0 (sl_up (sl_up (sl_up (sl_up (sl_up (sl_up (sl_up (sl_up (sl_up (sl_up (sl_up (sl_up g 1 (q_8, .inl (Γ.2.1 2, 150, .inr (.inr (.inr (.inr (fun _ => none))))))) 0 (a0, .inr (4, [.ref q_8, .null, .null, .null, .int 0, .int 0, .int 0, .int 0]))) 2 (q_15, .inr (0, [.ref u_19]))) 3 (u_19, .inl (Γ.2.1 0, 360, .inl (fun _ => (-2))))) 0 (a0, .inr (4, [.ref q_8, .ref q_15, .null, .null, .int 0, .int 0, .int 0, .int 0]))) 4 (q_26, .inr (3, [.ref u_30]))) 5 (u_30, .inl (Γ.2.1 0, 16, .inl (fun _ => (-1))))) 0 (a0, .inr (4, [.ref q_8, .ref q_15, .ref q_26, .null, .int 0, .int 0, .int 0, .int 0]))) 6 (q_37, .inr (2, [.ref u_41.1, .ref u_41.2, .int 0]))) 7 (u_41.1, .inl (Γ.2.1 1, 120, .inl (fun _ => 0)))) 8 (u_41.2, .inl (Γ.2.1 0, 4, .inl (fun _ => 0)))) 0 (a0, .inr (4, [.ref q_8, .ref q_15, .ref q_26, .ref q_37, .int 0, .int 0, .int 0, .int 0]))) := ⟨(sl_up_s _ _ _), by rw [sl_ea_0]; exact (sl_up_to (by decide) (sl_up_to (by decide) (sl_up_to (by decide) (sl_up_to (by decide) (sl_up_to (by decide) (sl_up_to (by decide) (sl_up_to (by decide) (sl_up_to (by decide) (sl_up_to (by decide) (sl_up_to (by decide) (sl_up_to (by decide) (sl_up_s _ _ _)))))))))))), (sl_up_to (by decide) (sl_up_to (by decide) (sl_up_to (by decide) (sl_up_to (by decide) (sl_up_to (by decide) (sl_up_to (by decide) (sl_up_to (by decide) (sl_up_to (by decide) (sl_up_to (by decide) (sl_up_s _ _ _)))))))))), (sl_up_to (by decide) (sl_up_to (by decide) (sl_up_to (by decide) (sl_up_to (by decide) (sl_up_to (by decide) (sl_up_to (by decide) (sl_up_to (by decide) (sl_up_to (by decide) (sl_up_s _ _ _))))))))), (sl_up_to (by decide) (sl_up_to (by decide) (sl_up_to (by decide) (sl_up_to (by decide) (sl_up_to (by decide) (sl_up_to (by decide) (sl_up_s _ _ _))))))), (sl_up_to (by decide) (sl_up_to (by decide) (sl_up_to (by decide) (sl_up_to (by decide) (sl_up_to (by decide) (sl_up_s _ _ _)))))), ⟨_, _, _, (sl_up_to (by decide) (sl_up_to (by decide) (sl_up_to (by decide) (sl_up_s _ _ _)))), (sl_up_to (by decide) (sl_up_to (by decide) (sl_up_s _ _ _))), (sl_up_to (by decide) (sl_up_s _ _ _))⟩, fun i hi => absurd hi (Nat.not_lt_zero i), fun k hk => (sl_up_to (by omega) (sl_up_to (by omega) (sl_up_to (by omega) (sl_up_to (by omega) (sl_up_to (by omega) (sl_up_to (by omega) (sl_up_to (by omega) (sl_up_to (by omega) (sl_up_to (by omega) (sl_up_to (by omega) (sl_up_to (by omega) (sl_up_to (by omega) (hf k (by omega) (by omega)))))))))))))), by decide, by decide⟩
  have hfr : sl_fr g (sl_up (sl_up (sl_up (sl_up (sl_up (sl_up (sl_up (sl_up (sl_up (sl_up (sl_up (sl_up g 1 (q_8, .inl (Γ.2.1 2, 150, .inr (.inr (.inr (.inr (fun _ => none))))))) 0 (a0, .inr (4, [.ref q_8, .null, .null, .null, .int 0, .int 0, .int 0, .int 0]))) 2 (q_15, .inr (0, [.ref u_19]))) 3 (u_19, .inl (Γ.2.1 0, 360, .inl (fun _ => (-2))))) 0 (a0, .inr (4, [.ref q_8, .ref q_15, .null, .null, .int 0, .int 0, .int 0, .int 0]))) 4 (q_26, .inr (3, [.ref u_30]))) 5 (u_30, .inl (Γ.2.1 0, 16, .inl (fun _ => (-1))))) 0 (a0, .inr (4, [.ref q_8, .ref q_15, .ref q_26, .null, .int 0, .int 0, .int 0, .int 0]))) 6 (q_37, .inr (2, [.ref u_41.1, .ref u_41.2, .int 0]))) 7 (u_41.1, .inl (Γ.2.1 1, 120, .inl (fun _ => 0)))) 8 (u_41.2, .inl (Γ.2.1 0, 4, .inl (fun _ => 0)))) 0 (a0, .inr (4, [.ref q_8, .ref q_15, .ref q_26, .ref q_37, .int 0, .int 0, .int 0, .int 0]))) := fun k h1 h2 => (sl_up_to (by omega) (sl_up_to (by omega) (sl_up_to (by omega) (sl_up_to (by omega) (sl_up_to (by omega) (sl_up_to (by omega) (sl_up_to (by omega) (sl_up_to (by omega) (sl_up_to (by omega) (sl_up_to (by omega) (sl_up_to (by omega) (sl_up_to (by omega) rfl))))))))))))
  exact sl_rv hC hr hG ((sl_al [a0, q_8, q_15, u_19, q_26, u_30, q_37, u_41.1, u_41.2]), (sl_up (sl_up (sl_up (sl_up (sl_up (sl_up (sl_up (sl_up (sl_up (sl_up (sl_up (sl_up g 1 (q_8, .inl (Γ.2.1 2, 150, .inr (.inr (.inr (.inr (fun _ => none))))))) 0 (a0, .inr (4, [.ref q_8, .null, .null, .null, .int 0, .int 0, .int 0, .int 0]))) 2 (q_15, .inr (0, [.ref u_19]))) 3 (u_19, .inl (Γ.2.1 0, 360, .inl (fun _ => (-2))))) 0 (a0, .inr (4, [.ref q_8, .ref q_15, .null, .null, .int 0, .int 0, .int 0, .int 0]))) 4 (q_26, .inr (3, [.ref u_30]))) 5 (u_30, .inl (Γ.2.1 0, 16, .inl (fun _ => (-1))))) 0 (a0, .inr (4, [.ref q_8, .ref q_15, .ref q_26, .null, .int 0, .int 0, .int 0, .int 0]))) 6 (q_37, .inr (2, [.ref u_41.1, .ref u_41.2, .int 0]))) 7 (u_41.1, .inl (Γ.2.1 1, 120, .inl (fun _ => 0)))) 8 (u_41.2, .inl (Γ.2.1 0, 4, .inl (fun _ => 0)))) 0 (a0, .inr (4, [.ref q_8, .ref q_15, .ref q_26, .ref q_37, .int 0, .int 0, .int 0, .int 0])))) ⟨hfin, hfr, rfl⟩ rfl (Nat.le_of_ble_eq_true rfl) (Nat.le_of_ble_eq_true rfl) dX4_init_67

