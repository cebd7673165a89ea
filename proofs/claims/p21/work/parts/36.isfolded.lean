/-! p21: its law's check of the folded values -/
theorem sl_fr.tr {g g' g2 : sl_W} (h : sl_fr g g') (h2 : sl_fr g' g2) : sl_fr g g2 := fun k a b => (h2 k a b).trans (h k a b)
theorem lp_vk {j b k : Nat} (hj : j < 4) (hb : b ≤ k) (hk : k ≤ 120) (h : (sl_in (nI j) 0 3 && sl_in (nI b) 0 (nI k)) = false) : False := by
  rw [sl_nIin (n := 3) rfl (by omega) (by omega), sl_nIin (hi := nI k) (n := k) (nI_toInt (by omega)) hb (by omega)] at h
  cases h
theorem lp_vs_n {n k : Nat} {C : Nat → Int32} {E : Nat → sl_Ent} {x : Int32} (h : sl_hs n C E x k = false) : sl_vs n C E x k + 0 = sl_vs n C E x (k + 1) := by
  rw [sl_vs, Int32.add_zero, if_neg (by rw [h]; decide)]
theorem lp_vs_y {n k t : Nat} {C : Nat → Int32} {E : Nat → sl_Ent} {x : Int32} (e : sl_tok n (C k) = some t) (h : sl_ev n C E k = true) (h2 : sl_hs n C E x k = true) : sl_vs n C E x k + (E t).2.2.2.1 = sl_vs n C E x (k + 1) := by
  rw [sl_vs, if_pos h2, sl_am_1 e, if_pos h]
theorem lp_la_n {n k : Nat} {C : Nat → Int32} {E : Nat → sl_Ent} {x : Int32} (h : sl_hs n C E x k = false) : sl_la n C E x k = sl_la n C E x (k + 1) := by
  rw [sl_la, if_neg (by rw [h]; decide)]
theorem lp_la_y {n k : Nat} {C : Nat → Int32} {E : Nat → sl_Ent} {x : Int32} (h : sl_hs n C E x k = true) : nI k = sl_la n C E x (k + 1) := by
  rw [sl_la, if_pos h]
theorem lp_hs_y {n k t j : Nat} {C : Nat → Int32} {E : Nat → sl_Ent} (e : sl_tok n (C k) = some t) (h : (E t).2.2.1 >>> (nI j &&& 31) &&& 1 = 1) : sl_hs n C E (nI j) k = true := by
  rw [sl_hs_1 e, sl_has, decide_eq_true h]
theorem lp_hs_n {n k t j : Nat} {C : Nat → Int32} {E : Nat → sl_Ent} (e : sl_tok n (C k) = some t) (h : ¬ ((E t).2.2.1 >>> (nI j &&& 31) &&& 1 = 1)) : sl_hs n C E (nI j) k = false := by
  rw [sl_hs_1 e, sl_has, decide_eq_false h]
theorem lp_tk {b k : Nat} (hb : b < k) (hk : k ≤ 120) (h : ¬ (0 ≤ (nI b).toInt ∧ (nI b).toInt < k)) : False := h ⟨by rw [nI_toInt (by omega)]; omega, by rw [nI_toInt (by omega)]; omega⟩
theorem lp_b1 {b : Bool} (h : b = true) : sl_bi b = 1 := by rw [h]; rfl
theorem lp_b0 {b : Bool} (h : b = false) : sl_bi b = 0 := by rw [h]; rfl
set_option maxHeartbeats 4000000 in
set_option maxRecDepth 100000 in
theorem kL_isFolded (l : Launch) (Γ : sl_G) (g : sl_W) (hlt : l.stackTraces = false) (α : Nat → Nat) (β : Nat → Nat × Nat × Nat) (n : Nat) (ep : Int32) (tl : Nat) (lo : Bool) (T C : Nat → Int32) (E : Nat → sl_Ent) (hK : sl_Cls Γ α β n ep tl lo T C E g) (hw : sl_wf n tl C E) {e0 : Nat} (hJ : sl_J n e0 ep tl T C E) (hk60 : sl_kn C ≤ 60) (hn60 : n ≤ 60) (a1 a2 a6 : Nat) (S A F : Nat → Int32) (h41 : g 41 = some (a1, .inl (Γ.2.1 0, 60, .inl S))) (h42 : g 42 = some (a2, .inl (Γ.2.1 0, 60, .inl A))) (h46 : g 46 = some (a6, .inl (Γ.2.1 0, 60, .inl F))) (hS : ∀ t, t < n → S t = (E t).2.2.1) (hA : ∀ t, t < n → A t = (E t).2.2.2.1) (hF : ∀ q, q < sl_kn C → F q = lp_ef n C E q) (j : Nat) (hj : j < 4) (pl : Nat) (hpl : pl ≤ sl_kn C) : Met l yL_isFolded [Cond.code yL_isFolded cL_isFolded 13 (some .boolean)] ({ frames := 7, cells := 427, slots := 2562, locals := 160 } : Room) (va_Pc [.ref (α 0), .ref a1, .ref a2, .ref a6, .int (nI j), .int (nI (sl_kn C)), .int (nI pl)] (sl_B Γ g)) (sl_Qi Γ (fun r g' => r = 1 ∧ sl_Cls Γ α β n ep tl lo T C E g' ∧ sl_fr g g') (fun g' => g')) 427 2562 (sl_A Γ) := by
  refine sl_ent (by decide) (Nat.le_of_ble_eq_true rfl) ?_
  intro p e s m below meth c ls hC hr hin hG hl
  have hx := hC.1
  have hb := hC.2.1
  have hl : lv_has ls 13 [(0, .ref (α 0)), (1, .ref a1), (2, .ref a2), (3, .ref a6), (4, .int (nI j)), (5, .int (nI (sl_kn C))), (6, .int (nI pl))] := hl
  have hn9 := hw.1
  have hkn := sl_kn_le C
  refine lv_iconst (v := 0) hx hb dL_isFolded_0 (by decide) ?_
  refine lv_istore (lv' := [(7, .int 0), (0, .ref (α 0)), (1, .ref a1), (2, .ref a2), (3, .ref a6), (4, .int (nI j)), (5, .int (nI (sl_kn C))), (6, .int (nI pl))]) hx hb dL_isFolded_1 hl (by decide) rfl (fun ls hl => ?_)
  refine lv_iconst (v := (-1)) hx hb dL_isFolded_3 (by decide) ?_
  refine lv_istore (lv' := [(8, .int (-1)), (7, .int 0), (0, .ref (α 0)), (1, .ref a1), (2, .ref a2), (3, .ref a6), (4, .int (nI j)), (5, .int (nI (sl_kn C))), (6, .int (nI pl))]) hx hb dL_isFolded_4 hl (by decide) rfl (fun ls hl => ?_)
  refine lv_iconst (v := 1) hx hb dL_isFolded_6 (by decide) ?_
  refine lv_istore (lv' := [(9, .int 1), (8, .int (-1)), (7, .int 0), (0, .ref (α 0)), (1, .ref a1), (2, .ref a2), (3, .ref a6), (4, .int (nI j)), (5, .int (nI (sl_kn C))), (6, .int (nI pl))]) hx hb dL_isFolded_7 hl (by decide) rfl (fun ls hl => ?_)
  refine lv_iconst (v := 0) hx hb dL_isFolded_9 (by decide) ?_
  refine lv_istore (lv' := [(10, .int 0), (9, .int 1), (8, .int (-1)), (7, .int 0), (0, .ref (α 0)), (1, .ref a1), (2, .ref a2), (3, .ref a6), (4, .int (nI j)), (5, .int (nI (sl_kn C))), (6, .int (nI pl))]) hx hb dL_isFolded_10 hl (by decide) rfl (fun ls hl => ?_)
  have loop_12 : ∀ (fuel pp : Nat) (gg : sl_W) (su : Int32) (la : Int32) (cs : Nat) (ss : Nat), pp ≤ sl_kn C + 1 → sl_kn C + 1 + 1 ≤ pp + fuel → (cs + 7 * (61 - pp) ≤ 427) → (ss + 42 * (61 - pp) ≤ 2562) → (sl_Cls Γ α β n ep tl lo T C E gg) → (sl_fr g gg) → (pp ≤ sl_kn C → su = sl_vs n C E (nI j) pp) → (pp ≤ sl_kn C → la = sl_la n C E (nI j) pp) → ∀ (H : Heap) (locs : List Loc), sl_I Γ gg s H locs → ∀ (ls : Array Slot), lv_has ls 13 [(0, .ref (α 0)), (1, .ref a1), (2, .ref a2), (3, .ref a6), (4, .int (nI j)), (5, .int (nI (sl_kn C))), (6, .int (nI pl)), (7, .int su), (8, .int la), (9, .int 1), (10, .int (nI pp))] → W p l e ({ frames := 7, cells := 427, slots := 2562, locals := 160 } : Room) s m ([.ref (α 0), .ref a1, .ref a2, .ref a6, .int (nI j), .int (nI (sl_kn C)), .int (nI pl)] : List Value).toArray below meth c H locs cs ss (MQ below (sl_Qi Γ (fun r g' => r = 1 ∧ sl_Cls Γ α β n ep tl lo T C E g' ∧ sl_fr g g') (fun g' => g')) ([.ref (α 0), .ref a1, .ref a2, .ref a6, .int (nI j), .int (nI (sl_kn C)), .int (nI pl)] : List Value).toArray s 427 2562 (sl_A Γ)) (F0 m 12 ls []) := by
    intro fuel
    induction fuel with
    | zero =>
      intro pp gg su la cs ss h1 h2
      exact absurd h2 (by omega)
    | succ fuel ih_12 =>
      intro pp gg su la cs ss hk_12 hn_12 hcs hss hKg hfg hsu hla H locs hG ls hl
      refine lv_iload hx hb dL_isFolded_12 (lv_at hl 10 rfl) ?_
      refine lv_iload hx hb dL_isFolded_14 (lv_at hl 5 rfl) ?_
      refine lv_icmp_gt (tgt := 241) hx hb dL_isFolded_16 (by decide) (fun c_16 => ?_) (fun c_16 => ?_)
      · have n_16 : sl_kn C < pp := (nI_ltI (a := sl_kn C) (b := pp) (by omega) (by omega)).mp c_16
        refine lv_iload hx hb dL_isFolded_241 (lv_at hl 9 rfl) ?_
        exact sl_rz (v := 1) hC hr rfl hG gg ⟨rfl, hKg, hfg⟩ rfl (by omega) (by omega) dL_isFolded_243
      · have n_16 : ¬ (sl_kn C < pp) := fun z => c_16 ((nI_ltI (a := sl_kn C) (b := pp) (by omega) (by omega)).mpr z)
        have hsu := hsu (by omega)
        have hla := hla (by omega)
        subst hsu
        subst hla
        refine lv_iload hx hb dL_isFolded_19 (lv_at hl 9 rfl) ?_
        refine lv_if_eq (tgt := 241) hx hb dL_isFolded_21 (by decide) (fun c_21 => ?_) (fun c_21 => ?_)
        · exact absurd c_21 (by decide)
        · refine lv_iload hx hb dL_isFolded_24 (lv_at hl 10 rfl) ?_
          refine lv_iload hx hb dL_isFolded_26 (lv_at hl 6 rfl) ?_
          refine lv_icmp_eq (tgt := 38) hx hb dL_isFolded_28 (by decide) (fun c_28 => ?_) (fun c_28 => ?_)
          · have n_28 : pp = pl := (nI_eq (a := pp) (b := pl) (by omega) (by omega)).mp c_28
            refine lv_aload_n hx hb dL_isFolded_38 rfl (lv_at hl 0 rfl) ?_
            refine lv_iload hx hb dL_isFolded_39 (lv_at hl 4 rfl) ?_
            refine lv_iload hx hb dL_isFolded_41 (lv_at hl 10 rfl) ?_
            refine sl_calli (sl_runV (As := [.int (nI j), .int (nI pp)]) (rest := []) hC hG (sl_nox (kX4_value l hlt Γ gg α β n ep tl lo T C E hKg (nI j) (nI pp)) (fun E9 z => lp_vk hj (by omega) hkn z.2)) mi_X4_value lk_RL_14 0 hKg.1 rfl rfl rfl ⟨Nat.le_of_ble_eq_true rfl, Nat.le_of_ble_eq_true rfl⟩ rfl hl.1 rfl (Nat.le_of_ble_eq_true rfl) dL_isFolded_43 ⟨(by show _ + _ ≤ 427; omega), (by show _ + _ ≤ 2562; omega)⟩) hG (fun r_43 u_43 H locs hr_43 hG => ?_)
            have hG : sl_I Γ u_43 s H locs := hG
            have hK43 := hr_43.2.1
            have hf43 := sl_fr.tr hfg hr_43.2.2
            refine sl_topi (y := sl_vs n C E (nI j) pp) (hr_43.1.2.trans (by rw [nI_clamp (by omega)])) ?_
            refine lv_iload hx hb dL_isFolded_46 (lv_at hl 7 rfl) ?_
            refine lv_icmp_ne (tgt := 81) hx hb dL_isFolded_48 (by decide) (fun c_48 => ?_) (fun c_48 => ?_)
            · exact absurd rfl c_48
            · refine lv_aload_n hx hb dL_isFolded_51 rfl (lv_at hl 0 rfl) ?_
              refine lv_iload hx hb dL_isFolded_52 (lv_at hl 4 rfl) ?_
              refine lv_iload hx hb dL_isFolded_54 (lv_at hl 10 rfl) ?_
              refine sl_calli (sl_runV (As := [.int (nI j), .int (nI pp)]) (rest := []) hC hG (sl_nox (kX4_valueByPointers l hlt Γ u_43 α β n ep tl lo T C E hK43 hJ.hP (hJ.hPP hw) (nI j) (nI pp)) (fun E9 z => lp_vk hj (by omega) hkn z.2)) mi_X4_valueByPointers lk_RL_17 0 hK43.1 rfl rfl rfl ⟨Nat.le_of_ble_eq_true rfl, Nat.le_of_ble_eq_true rfl⟩ rfl hl.1 rfl (Nat.le_of_ble_eq_true rfl) dL_isFolded_56 ⟨(by show _ + _ ≤ 427; omega), (by show _ + _ ≤ 2562; omega)⟩) hG (fun r_56 u_56 H locs hr_56 hG => ?_)
              obtain ⟨⟨j0, y1, y2, y3, y4⟩, y5, y6⟩ := hr_56
              have y7 : j = j0 := sl_nIne (by omega) (by omega) y1
              subst y7
              have hG : sl_I Γ u_56 s H locs := hG
              have hK56 := y5
              have hf56 := sl_fr.tr hf43 y6
              refine sl_topi (y := sl_vs n C E (nI j) pp) (y4.trans (by rw [nI_clamp (by omega)]; exact hJ.vp hw hj (by omega))) ?_
              refine lv_iload hx hb dL_isFolded_59 (lv_at hl 7 rfl) ?_
              refine lv_icmp_ne (tgt := 81) hx hb dL_isFolded_61 (by decide) (fun c_61 => ?_) (fun c_61 => ?_)
              · exact absurd rfl c_61
              · refine lv_aload_n hx hb dL_isFolded_64 rfl (lv_at hl 0 rfl) ?_
                refine lv_iload hx hb dL_isFolded_65 (lv_at hl 4 rfl) ?_
                refine lv_iload hx hb dL_isFolded_67 (lv_at hl 10 rfl) ?_
                refine sl_calli (sl_runV (As := [.int (nI j), .int (nI pp)]) (rest := []) hC hG (sl_nox (kX4_latest l hlt Γ u_56 α β n ep tl lo T C E hK56 (nI j) (nI pp)) (fun E9 z => lp_vk hj (by omega) hkn z.2)) mi_X4_latest lk_RL_20 0 hK56.1 rfl rfl rfl ⟨Nat.le_of_ble_eq_true rfl, Nat.le_of_ble_eq_true rfl⟩ rfl hl.1 rfl (Nat.le_of_ble_eq_true rfl) dL_isFolded_69 ⟨(by show _ + _ ≤ 427; omega), (by show _ + _ ≤ 2562; omega)⟩) hG (fun r_69 u_69 H locs hr_69 hG => ?_)
                refine sl_topi (y := sl_la n C E (nI j) pp) (hr_69.2.trans (by rw [nI_clamp (by omega)])) ?_
                refine lv_iload hx hb dL_isFolded_72 (lv_at hl 8 rfl) ?_
                refine lv_icmp_ne (tgt := 81) hx hb dL_isFolded_74 (by decide) (fun c_74 => ?_) (fun c_74 => ?_)
                · exact absurd rfl c_74
                · refine lv_iconst (v := 1) hx hb dL_isFolded_77 (by decide) ?_
                  refine lv_goto (tgt := 82) hx hb dL_isFolded_78 (by decide) ?_
                  refine lv_istore (lv' := [(9, .int 1), (0, .ref (α 0)), (1, .ref a1), (2, .ref a2), (3, .ref a6), (4, .int (nI j)), (5, .int (nI (sl_kn C))), (6, .int (nI pl)), (7, .int (sl_vs n C E (nI j) pp)), (8, .int (sl_la n C E (nI j) pp)), (10, .int (nI pp))]) hx hb dL_isFolded_82 hl (by decide) rfl (fun ls hl => ?_)
                  refine lv_iload hx hb dL_isFolded_84 (lv_at hl 10 rfl) ?_
                  refine lv_iload hx hb dL_isFolded_86 (lv_at hl 6 rfl) ?_
                  refine lv_icmp_ge (tgt := 235) hx hb dL_isFolded_88 (by decide) (fun c_88 => ?_) (fun c_88 => ?_)
                  · have n_88 : sl_kn C ≤ pp := (nI_leI (a := sl_kn C) (b := pp) (by omega) (by omega)).mp c_88
                    refine lv_iinc (v := nI (pp + 1)) (lv' := [(10, .int (nI (pp + 1))), (9, .int 1), (0, .ref (α 0)), (1, .ref a1), (2, .ref a2), (3, .ref a6), (4, .int (nI j)), (5, .int (nI (sl_kn C))), (6, .int (nI pl)), (7, .int (sl_vs n C E (nI j) pp)), (8, .int (sl_la n C E (nI j) pp))]) hx hb dL_isFolded_235 hl (k := 10) rfl (nI_1 pp) (by decide) rfl (fun ls hl => ?_)
                    refine lv_goto (tgt := 12) hx hb dL_isFolded_238 (by decide) ?_
                    exact ih_12 (pp + 1) u_56 (sl_vs n C E (nI j) pp) (sl_la n C E (nI j) pp) (((cs + 1) + 1) + 1) (((ss + 6) + 6) + 6) (by omega) (by omega) (by omega) (by omega) hK56 hf56 (fun z => absurd z (by omega)) (fun z => absurd z (by omega)) _ _ hG _ (lv_sub hl [2, 3, 4, 5, 6, 7, 8, 9, 10, 1, 0] rfl)
                  · have n_88 : ¬ (sl_kn C ≤ pp) := fun z => c_88 ((nI_leI (a := sl_kn C) (b := pp) (by omega) (by omega)).mpr z)
                    have n_88 : pp < sl_kn C := Nat.lt_of_not_le n_88
                    refine lv_aload_n hx hb dL_isFolded_91 rfl (lv_at hl 1 rfl) ?_
                    refine lv_iconst (v := 0) hx hb dL_isFolded_92 (by decide) ?_
                    refine lv_iload hx hb dL_isFolded_93 (lv_at hl 10 rfl) ?_
                    refine sl_calli (sl_runV (As := [.int 0, .int (nI pp)]) (rest := []) hC hG (sl_nox (kX4_cellAt l hlt Γ u_56 α β n ep tl lo T C E hK56 0 (nI pp)) (fun E9 z => lp_ca (by decide) (by omega) z.2)) mi_X4_cellAt lk_RL_8 0 hK56.1 rfl rfl rfl ⟨Nat.le_of_ble_eq_true rfl, Nat.le_of_ble_eq_true rfl⟩ rfl hl.1 rfl (Nat.le_of_ble_eq_true rfl) dL_isFolded_95 ⟨(by show _ + _ ≤ 427; omega), (by show _ + _ ≤ 2562; omega)⟩) hG (fun r_95 u_95 H locs hr_95 hG => ?_)
                    refine sl_topi (y := C pp) (hr_95.2.trans (sl_cg0 C (by omega))) ?_
                    refine lv_istore (lv' := [(11, .int (C pp)), (9, .int 1), (0, .ref (α 0)), (1, .ref a1), (2, .ref a2), (3, .ref a6), (4, .int (nI j)), (5, .int (nI (sl_kn C))), (6, .int (nI pl)), (7, .int (sl_vs n C E (nI j) pp)), (8, .int (sl_la n C E (nI j) pp)), (10, .int (nI pp))]) hx hb dL_isFolded_98 hl (by decide) rfl (fun ls hl => ?_)
                    refine lv_iload hx hb dL_isFolded_100 (lv_at hl 0 rfl) ?_
                    refine lv_if_lt (tgt := 122) hx hb dL_isFolded_102 (by decide) (fun c_102 => ?_) (fun c_102 => ?_)
                    · have etok : sl_tok n (C pp) = none := sl_ce_neg hn9 (hw.2.2.1 pp (by omega)) c_102
                      have hhs : sl_hs n C E (nI j) pp = false := sl_hs_0 etok
                      refine lv_iconst (v := 0) hx hb dL_isFolded_122 (by decide) ?_
                      refine lv_istore (lv' := [(12, .int 0), (11, .int (C pp)), (9, .int 1), (0, .ref (α 0)), (1, .ref a1), (2, .ref a2), (3, .ref a6), (4, .int (nI j)), (5, .int (nI (sl_kn C))), (6, .int (nI pl)), (7, .int (sl_vs n C E (nI j) pp)), (8, .int (sl_la n C E (nI j) pp)), (10, .int (nI pp))]) hx hb dL_isFolded_123 hl (by decide) rfl (fun ls hl => ?_)
                      refine lv_iload hx hb dL_isFolded_125 (lv_at hl 10 rfl) ?_
                      refine lv_iload hx hb dL_isFolded_127 (lv_at hl 0 rfl) ?_
                      refine lv_if_eq (tgt := 146) hx hb dL_isFolded_129 (by decide) (fun c_129 => ?_) (fun c_129 => ?_)
                      · refine lv_iconst (v := 0) hx hb dL_isFolded_146 (by decide) ?_
                        refine lv_iadd hx hb dL_isFolded_147 ?_
                        refine lv_istore (lv' := [(7, .int ((sl_vs n C E (nI j) pp) + 0)), (12, .int 0), (11, .int (C pp)), (9, .int 1), (0, .ref (α 0)), (1, .ref a1), (2, .ref a2), (3, .ref a6), (4, .int (nI j)), (5, .int (nI (sl_kn C))), (6, .int (nI pl)), (8, .int (sl_la n C E (nI j) pp)), (10, .int (nI pp))]) hx hb dL_isFolded_148 hl (by decide) rfl (fun ls hl => ?_)
                        refine lv_iload hx hb dL_isFolded_150 (lv_at hl 1 rfl) ?_
                        refine lv_if_eq (tgt := 160) hx hb dL_isFolded_152 (by decide) (fun c_152 => ?_) (fun c_152 => ?_)
                        · refine lv_iload hx hb dL_isFolded_160 (lv_at hl 11 rfl) ?_
                          refine lv_istore (lv' := [(8, .int (sl_la n C E (nI j) pp)), (7, .int ((sl_vs n C E (nI j) pp) + 0)), (12, .int 0), (11, .int (C pp)), (9, .int 1), (0, .ref (α 0)), (1, .ref a1), (2, .ref a2), (3, .ref a6), (4, .int (nI j)), (5, .int (nI (sl_kn C))), (6, .int (nI pl)), (10, .int (nI pp))]) hx hb dL_isFolded_162 hl (by decide) rfl (fun ls hl => ?_)
                          refine lv_iload hx hb dL_isFolded_164 (lv_at hl 4 rfl) ?_
                          refine lv_if_eq (tgt := 232) hx hb dL_isFolded_166 (by decide) (fun c_166 => ?_) (fun c_166 => ?_)
                          · exact absurd c_166 (by decide)
                          · refine lv_iload hx hb dL_isFolded_169 (lv_at hl 3 rfl) ?_
                            refine lv_bipush (v := (-2)) hx hb dL_isFolded_171 (by decide) ?_
                            refine lv_icmp_eq (tgt := 232) hx hb dL_isFolded_173 (by decide) (fun c_173 => ?_) (fun c_173 => ?_)
                            · exact absurd c_173 (lp_kn_same hJ n_88).2.2
                            · refine lv_aload_n hx hb dL_isFolded_176 rfl (lv_at hl 5 rfl) ?_
                              refine lv_iconst (v := 1) hx hb dL_isFolded_177 (by decide) ?_
                              refine lv_iload hx hb dL_isFolded_178 (lv_at hl 12 rfl) ?_
                              refine sl_calli (sl_runV (As := [.int 1, .int (nI pp)]) (rest := []) hC hG (sl_nox (kX4_cellAt l hlt Γ u_56 α β n ep tl lo T C E hK56 1 (nI pp)) (fun E9 z => lp_ca (by decide) (by omega) z.2)) mi_X4_cellAt lk_RL_8 0 hK56.1 rfl rfl rfl ⟨Nat.le_of_ble_eq_true rfl, Nat.le_of_ble_eq_true rfl⟩ rfl hl.1 rfl (Nat.le_of_ble_eq_true rfl) dL_isFolded_180 ⟨(by show _ + _ ≤ 427; omega), (by show _ + _ ≤ 2562; omega)⟩) hG (fun r_180 u_180 H locs hr_180 hG => ?_)
                              refine sl_topi (y := C pp) (hr_180.2.trans ((lp_cg1 C (by omega)).trans (lp_kn_same hJ n_88).1)) ?_
                              refine lv_iload hx hb dL_isFolded_183 (lv_at hl 3 rfl) ?_
                              refine lv_icmp_ne (tgt := 232) hx hb dL_isFolded_185 (by decide) (fun c_185 => ?_) (fun c_185 => ?_)
                              · exact absurd rfl c_185
                              · refine lv_aload_n hx hb dL_isFolded_188 rfl (lv_at hl 5 rfl) ?_
                                refine lv_iconst (v := 2) hx hb dL_isFolded_189 (by decide) ?_
                                refine lv_iload hx hb dL_isFolded_190 (lv_at hl 12 rfl) ?_
                                refine sl_calli (sl_runV (As := [.int 2, .int (nI pp)]) (rest := []) hC hG (sl_nox (kX4_cellAt l hlt Γ u_56 α β n ep tl lo T C E hK56 2 (nI pp)) (fun E9 z => lp_ca (by decide) (by omega) z.2)) mi_X4_cellAt lk_RL_8 0 hK56.1 rfl rfl rfl ⟨Nat.le_of_ble_eq_true rfl, Nat.le_of_ble_eq_true rfl⟩ rfl hl.1 rfl (Nat.le_of_ble_eq_true rfl) dL_isFolded_192 ⟨(by show _ + _ ≤ 427; omega), (by show _ + _ ≤ 2562; omega)⟩) hG (fun r_192 u_192 H locs hr_192 hG => ?_)
                                refine sl_topi (y := C pp) (hr_192.2.trans ((lp_cg2 C (by omega)).trans (lp_kn_same hJ n_88).2.1)) ?_
                                refine lv_iload hx hb dL_isFolded_195 (lv_at hl 3 rfl) ?_
                                refine lv_icmp_ne (tgt := 232) hx hb dL_isFolded_197 (by decide) (fun c_197 => ?_) (fun c_197 => ?_)
                                · exact absurd rfl c_197
                                · refine lv_iload hx hb dL_isFolded_200 (lv_at hl 12 rfl) ?_
                                  refine lv_iload hx hb dL_isFolded_202 (lv_at hl 11 rfl) ?_
                                  refine lv_icmp_ne (tgt := 228) hx hb dL_isFolded_204 (by decide) (fun c_204 => ?_) (fun c_204 => ?_)
                                  · have n_204 : ¬ (pp = pl) := fun z => c_204 ((nI_eq (a := pp) (b := pl) (by omega) (by omega)).mpr z)
                                    refine lv_iconst (v := 1) hx hb dL_isFolded_228 (by decide) ?_
                                    refine lv_goto (tgt := 233) hx hb dL_isFolded_229 (by decide) ?_
                                    refine lv_istore (lv' := [(9, .int 1), (8, .int (sl_la n C E (nI j) pp)), (7, .int ((sl_vs n C E (nI j) pp) + 0)), (12, .int 0), (11, .int (C pp)), (0, .ref (α 0)), (1, .ref a1), (2, .ref a2), (3, .ref a6), (4, .int (nI j)), (5, .int (nI (sl_kn C))), (6, .int (nI pl)), (10, .int (nI pp))]) hx hb dL_isFolded_233 hl (by decide) rfl (fun ls hl => ?_)
                                    refine lv_iinc (v := nI (pp + 1)) (lv' := [(10, .int (nI (pp + 1))), (9, .int 1), (8, .int (sl_la n C E (nI j) pp)), (7, .int ((sl_vs n C E (nI j) pp) + 0)), (12, .int 0), (11, .int (C pp)), (0, .ref (α 0)), (1, .ref a1), (2, .ref a2), (3, .ref a6), (4, .int (nI j)), (5, .int (nI (sl_kn C))), (6, .int (nI pl))]) hx hb dL_isFolded_235 hl (k := 12) rfl (nI_1 pp) (by decide) rfl (fun ls hl => ?_)
                                    refine lv_goto (tgt := 12) hx hb dL_isFolded_238 (by decide) ?_
                                    exact ih_12 (pp + 1) u_56 ((sl_vs n C E (nI j) pp) + 0) (sl_la n C E (nI j) pp) ((((((cs + 1) + 1) + 1) + 1) + 1) + 1) ((((((ss + 6) + 6) + 6) + 6) + 6) + 6) (by omega) (by omega) (by omega) (by omega) hK56 hf56 (fun _ => lp_vs_n hhs) (fun _ => lp_la_n hhs) _ _ hG _ (lv_sub hl [6, 7, 8, 9, 10, 11, 12, 3, 2, 1, 0] rfl)
                                  · have n_204 : pp = pl := (nI_eq (a := pp) (b := pl) (by omega) (by omega)).mp c_204
                                    refine lv_aload_n hx hb dL_isFolded_207 rfl (lv_at hl 5 rfl) ?_
                                    refine lv_iload hx hb dL_isFolded_208 (lv_at hl 12 rfl) ?_
                                    refine sl_calli (sl_runV (As := [.int (nI pp)]) (rest := []) hC hG (sl_nox (kX4_takesEffect l hlt Γ u_56 α β n ep tl lo T C E hK56 (nI pp)) (fun E9 z => lp_tk n_88 hkn z.2)) mi_X4_takesEffect lk_RL_23 0 hK56.1 rfl rfl rfl ⟨Nat.le_of_ble_eq_true rfl, Nat.le_of_ble_eq_true rfl⟩ rfl hl.1 rfl (Nat.le_of_ble_eq_true rfl) dL_isFolded_210 ⟨(by show _ + _ ≤ 427; omega), (by show _ + _ ≤ 2562; omega)⟩) hG (fun r_210 u_210 H locs hr_210 hG => ?_)
                                    have hG : sl_I Γ u_210 s H locs := hG
                                    have hK210 := hr_210.2.1
                                    have hf210 := sl_fr.tr hf56 hr_210.2.2
                                    obtain ⟨⟨b9, y1, y2, y3⟩, -⟩ := hr_210
                                    have y7 : b9 = pp := (sl_nIne (by omega) (by omega) y1).symm
                                    refine sl_topi (y := sl_bi (sl_ev n C E pp)) (by rw [y3, y7]) ?_
                                    refine lv_aload_n hx hb dL_isFolded_213 rfl (lv_at hl 8 rfl) ?_
                                    refine lv_iload hx hb dL_isFolded_214 (lv_at hl 12 rfl) ?_
                                    refine sl_ialdN hC hG 46 ((hf210 46 (by decide) (by decide)).trans h46) (j := pp) rfl (by omega) (by omega) dL_isFolded_216 ?_
                                    refine sl_topi (y := lp_ef n C E pp) (hF pp n_88) ?_
                                    refine lv_if_le (tgt := 224) hx hb dL_isFolded_217 (by decide) (fun c_217 => ?_) (fun c_217 => ?_)
                                    · refine lv_iconst (v := 0) hx hb dL_isFolded_224 (by decide) ?_
                                      refine lv_icmp_ne (tgt := 232) hx hb dL_isFolded_225 (by decide) (fun c_225 => ?_) (fun c_225 => ?_)
                                      · exact absurd (lp_b0 (lp_ef_z hn9 c_217)) c_225
                                      · refine lv_iconst (v := 1) hx hb dL_isFolded_228 (by decide) ?_
                                        refine lv_goto (tgt := 233) hx hb dL_isFolded_229 (by decide) ?_
                                        refine lv_istore (lv' := [(9, .int 1), (8, .int (sl_la n C E (nI j) pp)), (7, .int ((sl_vs n C E (nI j) pp) + 0)), (12, .int 0), (11, .int (C pp)), (0, .ref (α 0)), (1, .ref a1), (2, .ref a2), (3, .ref a6), (4, .int (nI j)), (5, .int (nI (sl_kn C))), (6, .int (nI pl)), (10, .int (nI pp))]) hx hb dL_isFolded_233 hl (by decide) rfl (fun ls hl => ?_)
                                        refine lv_iinc (v := nI (pp + 1)) (lv' := [(10, .int (nI (pp + 1))), (9, .int 1), (8, .int (sl_la n C E (nI j) pp)), (7, .int ((sl_vs n C E (nI j) pp) + 0)), (12, .int 0), (11, .int (C pp)), (0, .ref (α 0)), (1, .ref a1), (2, .ref a2), (3, .ref a6), (4, .int (nI j)), (5, .int (nI (sl_kn C))), (6, .int (nI pl))]) hx hb dL_isFolded_235 hl (k := 12) rfl (nI_1 pp) (by decide) rfl (fun ls hl => ?_)
                                        refine lv_goto (tgt := 12) hx hb dL_isFolded_238 (by decide) ?_
                                        exact ih_12 (pp + 1) u_210 ((sl_vs n C E (nI j) pp) + 0) (sl_la n C E (nI j) pp) (((((((cs + 1) + 1) + 1) + 1) + 1) + 1) + 1) (((((((ss + 6) + 6) + 6) + 6) + 6) + 6) + 6) (by omega) (by omega) (by omega) (by omega) hK210 hf210 (fun _ => lp_vs_n hhs) (fun _ => lp_la_n hhs) _ _ hG _ (lv_sub hl [6, 7, 8, 9, 10, 11, 12, 3, 2, 1, 0] rfl)
                                    · refine lv_iconst (v := 1) hx hb dL_isFolded_220 (by decide) ?_
                                      refine lv_goto (tgt := 225) hx hb dL_isFolded_221 (by decide) ?_
                                      refine lv_icmp_ne (tgt := 232) hx hb dL_isFolded_225 (by decide) (fun c_225 => ?_) (fun c_225 => ?_)
                                      · exact absurd (lp_b1 (lp_ef_gt c_217)) c_225
                                      · refine lv_iconst (v := 1) hx hb dL_isFolded_228 (by decide) ?_
                                        refine lv_goto (tgt := 233) hx hb dL_isFolded_229 (by decide) ?_
                                        refine lv_istore (lv' := [(9, .int 1), (8, .int (sl_la n C E (nI j) pp)), (7, .int ((sl_vs n C E (nI j) pp) + 0)), (12, .int 0), (11, .int (C pp)), (0, .ref (α 0)), (1, .ref a1), (2, .ref a2), (3, .ref a6), (4, .int (nI j)), (5, .int (nI (sl_kn C))), (6, .int (nI pl)), (10, .int (nI pp))]) hx hb dL_isFolded_233 hl (by decide) rfl (fun ls hl => ?_)
                                        refine lv_iinc (v := nI (pp + 1)) (lv' := [(10, .int (nI (pp + 1))), (9, .int 1), (8, .int (sl_la n C E (nI j) pp)), (7, .int ((sl_vs n C E (nI j) pp) + 0)), (12, .int 0), (11, .int (C pp)), (0, .ref (α 0)), (1, .ref a1), (2, .ref a2), (3, .ref a6), (4, .int (nI j)), (5, .int (nI (sl_kn C))), (6, .int (nI pl))]) hx hb dL_isFolded_235 hl (k := 12) rfl (nI_1 pp) (by decide) rfl (fun ls hl => ?_)
                                        refine lv_goto (tgt := 12) hx hb dL_isFolded_238 (by decide) ?_
                                        exact ih_12 (pp + 1) u_210 ((sl_vs n C E (nI j) pp) + 0) (sl_la n C E (nI j) pp) (((((((cs + 1) + 1) + 1) + 1) + 1) + 1) + 1) (((((((ss + 6) + 6) + 6) + 6) + 6) + 6) + 6) (by omega) (by omega) (by omega) (by omega) hK210 hf210 (fun _ => lp_vs_n hhs) (fun _ => lp_la_n hhs) _ _ hG _ (lv_sub hl [6, 7, 8, 9, 10, 11, 12, 3, 2, 1, 0] rfl)
                        · exact absurd c_152 (by decide)
                      · exact absurd c_129 (by decide)
                    · obtain ⟨t, ht, et, etok⟩ := sl_ce_pos hn9 (hw.2.2.1 pp (by omega)) c_102
                      refine lv_aload_n hx hb dL_isFolded_105 rfl (lv_at hl 3 rfl) ?_
                      refine lv_iload hx hb dL_isFolded_106 (lv_at hl 0 rfl) ?_
                      refine sl_ialdN hC hG 41 ((hf56 41 (by decide) (by decide)).trans h41) (j := t) et (by omega) (by omega) dL_isFolded_108 ?_
                      refine sl_topi (y := (E t).2.2.1) (hS t ht) ?_
                      refine lv_iload hx hb dL_isFolded_109 (lv_at hl 6 rfl) ?_
                      refine lv_ishr hx hb dL_isFolded_111 ?_
                      refine lv_iconst (v := 1) hx hb dL_isFolded_112 (by decide) ?_
                      refine lv_iand hx hb dL_isFolded_113 ?_
                      refine lv_iconst (v := 1) hx hb dL_isFolded_114 (by decide) ?_
                      refine lv_icmp_ne (tgt := 122) hx hb dL_isFolded_115 (by decide) (fun c_115 => ?_) (fun c_115 => ?_)
                      · have hhs : sl_hs n C E (nI j) pp = false := lp_hs_n etok c_115
                        refine lv_iconst (v := 0) hx hb dL_isFolded_122 (by decide) ?_
                        refine lv_istore (lv' := [(12, .int 0), (11, .int (C pp)), (9, .int 1), (0, .ref (α 0)), (1, .ref a1), (2, .ref a2), (3, .ref a6), (4, .int (nI j)), (5, .int (nI (sl_kn C))), (6, .int (nI pl)), (7, .int (sl_vs n C E (nI j) pp)), (8, .int (sl_la n C E (nI j) pp)), (10, .int (nI pp))]) hx hb dL_isFolded_123 hl (by decide) rfl (fun ls hl => ?_)
                        refine lv_iload hx hb dL_isFolded_125 (lv_at hl 10 rfl) ?_
                        refine lv_iload hx hb dL_isFolded_127 (lv_at hl 0 rfl) ?_
                        refine lv_if_eq (tgt := 146) hx hb dL_isFolded_129 (by decide) (fun c_129 => ?_) (fun c_129 => ?_)
                        · refine lv_iconst (v := 0) hx hb dL_isFolded_146 (by decide) ?_
                          refine lv_iadd hx hb dL_isFolded_147 ?_
                          refine lv_istore (lv' := [(7, .int ((sl_vs n C E (nI j) pp) + 0)), (12, .int 0), (11, .int (C pp)), (9, .int 1), (0, .ref (α 0)), (1, .ref a1), (2, .ref a2), (3, .ref a6), (4, .int (nI j)), (5, .int (nI (sl_kn C))), (6, .int (nI pl)), (8, .int (sl_la n C E (nI j) pp)), (10, .int (nI pp))]) hx hb dL_isFolded_148 hl (by decide) rfl (fun ls hl => ?_)
                          refine lv_iload hx hb dL_isFolded_150 (lv_at hl 1 rfl) ?_
                          refine lv_if_eq (tgt := 160) hx hb dL_isFolded_152 (by decide) (fun c_152 => ?_) (fun c_152 => ?_)
                          · refine lv_iload hx hb dL_isFolded_160 (lv_at hl 11 rfl) ?_
                            refine lv_istore (lv' := [(8, .int (sl_la n C E (nI j) pp)), (7, .int ((sl_vs n C E (nI j) pp) + 0)), (12, .int 0), (11, .int (C pp)), (9, .int 1), (0, .ref (α 0)), (1, .ref a1), (2, .ref a2), (3, .ref a6), (4, .int (nI j)), (5, .int (nI (sl_kn C))), (6, .int (nI pl)), (10, .int (nI pp))]) hx hb dL_isFolded_162 hl (by decide) rfl (fun ls hl => ?_)
                            refine lv_iload hx hb dL_isFolded_164 (lv_at hl 4 rfl) ?_
                            refine lv_if_eq (tgt := 232) hx hb dL_isFolded_166 (by decide) (fun c_166 => ?_) (fun c_166 => ?_)
                            · exact absurd c_166 (by decide)
                            · refine lv_iload hx hb dL_isFolded_169 (lv_at hl 3 rfl) ?_
                              refine lv_bipush (v := (-2)) hx hb dL_isFolded_171 (by decide) ?_
                              refine lv_icmp_eq (tgt := 232) hx hb dL_isFolded_173 (by decide) (fun c_173 => ?_) (fun c_173 => ?_)
                              · exact absurd c_173 (lp_kn_same hJ n_88).2.2
                              · refine lv_aload_n hx hb dL_isFolded_176 rfl (lv_at hl 5 rfl) ?_
                                refine lv_iconst (v := 1) hx hb dL_isFolded_177 (by decide) ?_
                                refine lv_iload hx hb dL_isFolded_178 (lv_at hl 12 rfl) ?_
                                refine sl_calli (sl_runV (As := [.int 1, .int (nI pp)]) (rest := []) hC hG (sl_nox (kX4_cellAt l hlt Γ u_56 α β n ep tl lo T C E hK56 1 (nI pp)) (fun E9 z => lp_ca (by decide) (by omega) z.2)) mi_X4_cellAt lk_RL_8 0 hK56.1 rfl rfl rfl ⟨Nat.le_of_ble_eq_true rfl, Nat.le_of_ble_eq_true rfl⟩ rfl hl.1 rfl (Nat.le_of_ble_eq_true rfl) dL_isFolded_180 ⟨(by show _ + _ ≤ 427; omega), (by show _ + _ ≤ 2562; omega)⟩) hG (fun r_180 u_180 H locs hr_180 hG => ?_)
                                refine sl_topi (y := C pp) (hr_180.2.trans ((lp_cg1 C (by omega)).trans (lp_kn_same hJ n_88).1)) ?_
                                refine lv_iload hx hb dL_isFolded_183 (lv_at hl 3 rfl) ?_
                                refine lv_icmp_ne (tgt := 232) hx hb dL_isFolded_185 (by decide) (fun c_185 => ?_) (fun c_185 => ?_)
                                · exact absurd rfl c_185
                                · refine lv_aload_n hx hb dL_isFolded_188 rfl (lv_at hl 5 rfl) ?_
                                  refine lv_iconst (v := 2) hx hb dL_isFolded_189 (by decide) ?_
                                  refine lv_iload hx hb dL_isFolded_190 (lv_at hl 12 rfl) ?_
                                  refine sl_calli (sl_runV (As := [.int 2, .int (nI pp)]) (rest := []) hC hG (sl_nox (kX4_cellAt l hlt Γ u_56 α β n ep tl lo T C E hK56 2 (nI pp)) (fun E9 z => lp_ca (by decide) (by omega) z.2)) mi_X4_cellAt lk_RL_8 0 hK56.1 rfl rfl rfl ⟨Nat.le_of_ble_eq_true rfl, Nat.le_of_ble_eq_true rfl⟩ rfl hl.1 rfl (Nat.le_of_ble_eq_true rfl) dL_isFolded_192 ⟨(by show _ + _ ≤ 427; omega), (by show _ + _ ≤ 2562; omega)⟩) hG (fun r_192 u_192 H locs hr_192 hG => ?_)
                                  refine sl_topi (y := C pp) (hr_192.2.trans ((lp_cg2 C (by omega)).trans (lp_kn_same hJ n_88).2.1)) ?_
                                  refine lv_iload hx hb dL_isFolded_195 (lv_at hl 3 rfl) ?_
                                  refine lv_icmp_ne (tgt := 232) hx hb dL_isFolded_197 (by decide) (fun c_197 => ?_) (fun c_197 => ?_)
                                  · exact absurd rfl c_197
                                  · refine lv_iload hx hb dL_isFolded_200 (lv_at hl 12 rfl) ?_
                                    refine lv_iload hx hb dL_isFolded_202 (lv_at hl 11 rfl) ?_
                                    refine lv_icmp_ne (tgt := 228) hx hb dL_isFolded_204 (by decide) (fun c_204 => ?_) (fun c_204 => ?_)
                                    · have n_204 : ¬ (pp = pl) := fun z => c_204 ((nI_eq (a := pp) (b := pl) (by omega) (by omega)).mpr z)
                                      refine lv_iconst (v := 1) hx hb dL_isFolded_228 (by decide) ?_
                                      refine lv_goto (tgt := 233) hx hb dL_isFolded_229 (by decide) ?_
                                      refine lv_istore (lv' := [(9, .int 1), (8, .int (sl_la n C E (nI j) pp)), (7, .int ((sl_vs n C E (nI j) pp) + 0)), (12, .int 0), (11, .int (C pp)), (0, .ref (α 0)), (1, .ref a1), (2, .ref a2), (3, .ref a6), (4, .int (nI j)), (5, .int (nI (sl_kn C))), (6, .int (nI pl)), (10, .int (nI pp))]) hx hb dL_isFolded_233 hl (by decide) rfl (fun ls hl => ?_)
                                      refine lv_iinc (v := nI (pp + 1)) (lv' := [(10, .int (nI (pp + 1))), (9, .int 1), (8, .int (sl_la n C E (nI j) pp)), (7, .int ((sl_vs n C E (nI j) pp) + 0)), (12, .int 0), (11, .int (C pp)), (0, .ref (α 0)), (1, .ref a1), (2, .ref a2), (3, .ref a6), (4, .int (nI j)), (5, .int (nI (sl_kn C))), (6, .int (nI pl))]) hx hb dL_isFolded_235 hl (k := 12) rfl (nI_1 pp) (by decide) rfl (fun ls hl => ?_)
                                      refine lv_goto (tgt := 12) hx hb dL_isFolded_238 (by decide) ?_
                                      exact ih_12 (pp + 1) u_56 ((sl_vs n C E (nI j) pp) + 0) (sl_la n C E (nI j) pp) ((((((cs + 1) + 1) + 1) + 1) + 1) + 1) ((((((ss + 6) + 6) + 6) + 6) + 6) + 6) (by omega) (by omega) (by omega) (by omega) hK56 hf56 (fun _ => lp_vs_n hhs) (fun _ => lp_la_n hhs) _ _ hG _ (lv_sub hl [6, 7, 8, 9, 10, 11, 12, 3, 2, 1, 0] rfl)
                                    · have n_204 : pp = pl := (nI_eq (a := pp) (b := pl) (by omega) (by omega)).mp c_204
                                      refine lv_aload_n hx hb dL_isFolded_207 rfl (lv_at hl 5 rfl) ?_
                                      refine lv_iload hx hb dL_isFolded_208 (lv_at hl 12 rfl) ?_
                                      refine sl_calli (sl_runV (As := [.int (nI pp)]) (rest := []) hC hG (sl_nox (kX4_takesEffect l hlt Γ u_56 α β n ep tl lo T C E hK56 (nI pp)) (fun E9 z => lp_tk n_88 hkn z.2)) mi_X4_takesEffect lk_RL_23 0 hK56.1 rfl rfl rfl ⟨Nat.le_of_ble_eq_true rfl, Nat.le_of_ble_eq_true rfl⟩ rfl hl.1 rfl (Nat.le_of_ble_eq_true rfl) dL_isFolded_210 ⟨(by show _ + _ ≤ 427; omega), (by show _ + _ ≤ 2562; omega)⟩) hG (fun r_210 u_210 H locs hr_210 hG => ?_)
                                      have hG : sl_I Γ u_210 s H locs := hG
                                      have hK210 := hr_210.2.1
                                      have hf210 := sl_fr.tr hf56 hr_210.2.2
                                      obtain ⟨⟨b9, y1, y2, y3⟩, -⟩ := hr_210
                                      have y7 : b9 = pp := (sl_nIne (by omega) (by omega) y1).symm
                                      refine sl_topi (y := sl_bi (sl_ev n C E pp)) (by rw [y3, y7]) ?_
                                      refine lv_aload_n hx hb dL_isFolded_213 rfl (lv_at hl 8 rfl) ?_
                                      refine lv_iload hx hb dL_isFolded_214 (lv_at hl 12 rfl) ?_
                                      refine sl_ialdN hC hG 46 ((hf210 46 (by decide) (by decide)).trans h46) (j := pp) rfl (by omega) (by omega) dL_isFolded_216 ?_
                                      refine sl_topi (y := lp_ef n C E pp) (hF pp n_88) ?_
                                      refine lv_if_le (tgt := 224) hx hb dL_isFolded_217 (by decide) (fun c_217 => ?_) (fun c_217 => ?_)
                                      · refine lv_iconst (v := 0) hx hb dL_isFolded_224 (by decide) ?_
                                        refine lv_icmp_ne (tgt := 232) hx hb dL_isFolded_225 (by decide) (fun c_225 => ?_) (fun c_225 => ?_)
                                        · exact absurd (lp_b0 (lp_ef_z hn9 c_217)) c_225
                                        · refine lv_iconst (v := 1) hx hb dL_isFolded_228 (by decide) ?_
                                          refine lv_goto (tgt := 233) hx hb dL_isFolded_229 (by decide) ?_
                                          refine lv_istore (lv' := [(9, .int 1), (8, .int (sl_la n C E (nI j) pp)), (7, .int ((sl_vs n C E (nI j) pp) + 0)), (12, .int 0), (11, .int (C pp)), (0, .ref (α 0)), (1, .ref a1), (2, .ref a2), (3, .ref a6), (4, .int (nI j)), (5, .int (nI (sl_kn C))), (6, .int (nI pl)), (10, .int (nI pp))]) hx hb dL_isFolded_233 hl (by decide) rfl (fun ls hl => ?_)
                                          refine lv_iinc (v := nI (pp + 1)) (lv' := [(10, .int (nI (pp + 1))), (9, .int 1), (8, .int (sl_la n C E (nI j) pp)), (7, .int ((sl_vs n C E (nI j) pp) + 0)), (12, .int 0), (11, .int (C pp)), (0, .ref (α 0)), (1, .ref a1), (2, .ref a2), (3, .ref a6), (4, .int (nI j)), (5, .int (nI (sl_kn C))), (6, .int (nI pl))]) hx hb dL_isFolded_235 hl (k := 12) rfl (nI_1 pp) (by decide) rfl (fun ls hl => ?_)
                                          refine lv_goto (tgt := 12) hx hb dL_isFolded_238 (by decide) ?_
                                          exact ih_12 (pp + 1) u_210 ((sl_vs n C E (nI j) pp) + 0) (sl_la n C E (nI j) pp) (((((((cs + 1) + 1) + 1) + 1) + 1) + 1) + 1) (((((((ss + 6) + 6) + 6) + 6) + 6) + 6) + 6) (by omega) (by omega) (by omega) (by omega) hK210 hf210 (fun _ => lp_vs_n hhs) (fun _ => lp_la_n hhs) _ _ hG _ (lv_sub hl [6, 7, 8, 9, 10, 11, 12, 3, 2, 1, 0] rfl)
                                      · refine lv_iconst (v := 1) hx hb dL_isFolded_220 (by decide) ?_
                                        refine lv_goto (tgt := 225) hx hb dL_isFolded_221 (by decide) ?_
                                        refine lv_icmp_ne (tgt := 232) hx hb dL_isFolded_225 (by decide) (fun c_225 => ?_) (fun c_225 => ?_)
                                        · exact absurd (lp_b1 (lp_ef_gt c_217)) c_225
                                        · refine lv_iconst (v := 1) hx hb dL_isFolded_228 (by decide) ?_
                                          refine lv_goto (tgt := 233) hx hb dL_isFolded_229 (by decide) ?_
                                          refine lv_istore (lv' := [(9, .int 1), (8, .int (sl_la n C E (nI j) pp)), (7, .int ((sl_vs n C E (nI j) pp) + 0)), (12, .int 0), (11, .int (C pp)), (0, .ref (α 0)), (1, .ref a1), (2, .ref a2), (3, .ref a6), (4, .int (nI j)), (5, .int (nI (sl_kn C))), (6, .int (nI pl)), (10, .int (nI pp))]) hx hb dL_isFolded_233 hl (by decide) rfl (fun ls hl => ?_)
                                          refine lv_iinc (v := nI (pp + 1)) (lv' := [(10, .int (nI (pp + 1))), (9, .int 1), (8, .int (sl_la n C E (nI j) pp)), (7, .int ((sl_vs n C E (nI j) pp) + 0)), (12, .int 0), (11, .int (C pp)), (0, .ref (α 0)), (1, .ref a1), (2, .ref a2), (3, .ref a6), (4, .int (nI j)), (5, .int (nI (sl_kn C))), (6, .int (nI pl))]) hx hb dL_isFolded_235 hl (k := 12) rfl (nI_1 pp) (by decide) rfl (fun ls hl => ?_)
                                          refine lv_goto (tgt := 12) hx hb dL_isFolded_238 (by decide) ?_
                                          exact ih_12 (pp + 1) u_210 ((sl_vs n C E (nI j) pp) + 0) (sl_la n C E (nI j) pp) (((((((cs + 1) + 1) + 1) + 1) + 1) + 1) + 1) (((((((ss + 6) + 6) + 6) + 6) + 6) + 6) + 6) (by omega) (by omega) (by omega) (by omega) hK210 hf210 (fun _ => lp_vs_n hhs) (fun _ => lp_la_n hhs) _ _ hG _ (lv_sub hl [6, 7, 8, 9, 10, 11, 12, 3, 2, 1, 0] rfl)
                          · exact absurd c_152 (by decide)
                        · exact absurd c_129 (by decide)
                      · have hhs : sl_hs n C E (nI j) pp = true := lp_hs_y etok c_115
                        refine lv_iconst (v := 1) hx hb dL_isFolded_118 (by decide) ?_
                        refine lv_goto (tgt := 123) hx hb dL_isFolded_119 (by decide) ?_
                        refine lv_istore (lv' := [(12, .int 1), (11, .int (C pp)), (9, .int 1), (0, .ref (α 0)), (1, .ref a1), (2, .ref a2), (3, .ref a6), (4, .int (nI j)), (5, .int (nI (sl_kn C))), (6, .int (nI pl)), (7, .int (sl_vs n C E (nI j) pp)), (8, .int (sl_la n C E (nI j) pp)), (10, .int (nI pp))]) hx hb dL_isFolded_123 hl (by decide) rfl (fun ls hl => ?_)
                        refine lv_iload hx hb dL_isFolded_125 (lv_at hl 10 rfl) ?_
                        refine lv_iload hx hb dL_isFolded_127 (lv_at hl 0 rfl) ?_
                        refine lv_if_eq (tgt := 146) hx hb dL_isFolded_129 (by decide) (fun c_129 => ?_) (fun c_129 => ?_)
                        · exact absurd c_129 (by decide)
                        · refine lv_aload_n hx hb dL_isFolded_132 rfl (lv_at hl 6 rfl) ?_
                          refine lv_iload hx hb dL_isFolded_133 (lv_at hl 12 rfl) ?_
                          refine sl_ialdN hC hG 46 ((hf56 46 (by decide) (by decide)).trans h46) (j := pp) rfl (by omega) (by omega) dL_isFolded_135 ?_
                          refine sl_topi (y := lp_ef n C E pp) (hF pp n_88) ?_
                          refine lv_if_le (tgt := 146) hx hb dL_isFolded_136 (by decide) (fun c_136 => ?_) (fun c_136 => ?_)
                          · refine lv_iconst (v := 0) hx hb dL_isFolded_146 (by decide) ?_
                            refine lv_iadd hx hb dL_isFolded_147 ?_
                            refine lv_istore (lv' := [(7, .int ((sl_vs n C E (nI j) pp) + 0)), (12, .int 1), (11, .int (C pp)), (9, .int 1), (0, .ref (α 0)), (1, .ref a1), (2, .ref a2), (3, .ref a6), (4, .int (nI j)), (5, .int (nI (sl_kn C))), (6, .int (nI pl)), (8, .int (sl_la n C E (nI j) pp)), (10, .int (nI pp))]) hx hb dL_isFolded_148 hl (by decide) rfl (fun ls hl => ?_)
                            refine lv_iload hx hb dL_isFolded_150 (lv_at hl 1 rfl) ?_
                            refine lv_if_eq (tgt := 160) hx hb dL_isFolded_152 (by decide) (fun c_152 => ?_) (fun c_152 => ?_)
                            · exact absurd c_152 (by decide)
                            · refine lv_iload hx hb dL_isFolded_155 (lv_at hl 12 rfl) ?_
                              refine lv_goto (tgt := 162) hx hb dL_isFolded_157 (by decide) ?_
                              refine lv_istore (lv' := [(8, .int (nI pp)), (7, .int ((sl_vs n C E (nI j) pp) + 0)), (12, .int 1), (11, .int (C pp)), (9, .int 1), (0, .ref (α 0)), (1, .ref a1), (2, .ref a2), (3, .ref a6), (4, .int (nI j)), (5, .int (nI (sl_kn C))), (6, .int (nI pl)), (10, .int (nI pp))]) hx hb dL_isFolded_162 hl (by decide) rfl (fun ls hl => ?_)
                              refine lv_iload hx hb dL_isFolded_164 (lv_at hl 4 rfl) ?_
                              refine lv_if_eq (tgt := 232) hx hb dL_isFolded_166 (by decide) (fun c_166 => ?_) (fun c_166 => ?_)
                              · exact absurd c_166 (by decide)
                              · refine lv_iload hx hb dL_isFolded_169 (lv_at hl 3 rfl) ?_
                                refine lv_bipush (v := (-2)) hx hb dL_isFolded_171 (by decide) ?_
                                refine lv_icmp_eq (tgt := 232) hx hb dL_isFolded_173 (by decide) (fun c_173 => ?_) (fun c_173 => ?_)
                                · exact absurd c_173 (lp_kn_same hJ n_88).2.2
                                · refine lv_aload_n hx hb dL_isFolded_176 rfl (lv_at hl 5 rfl) ?_
                                  refine lv_iconst (v := 1) hx hb dL_isFolded_177 (by decide) ?_
                                  refine lv_iload hx hb dL_isFolded_178 (lv_at hl 12 rfl) ?_
                                  refine sl_calli (sl_runV (As := [.int 1, .int (nI pp)]) (rest := []) hC hG (sl_nox (kX4_cellAt l hlt Γ u_56 α β n ep tl lo T C E hK56 1 (nI pp)) (fun E9 z => lp_ca (by decide) (by omega) z.2)) mi_X4_cellAt lk_RL_8 0 hK56.1 rfl rfl rfl ⟨Nat.le_of_ble_eq_true rfl, Nat.le_of_ble_eq_true rfl⟩ rfl hl.1 rfl (Nat.le_of_ble_eq_true rfl) dL_isFolded_180 ⟨(by show _ + _ ≤ 427; omega), (by show _ + _ ≤ 2562; omega)⟩) hG (fun r_180 u_180 H locs hr_180 hG => ?_)
                                  refine sl_topi (y := C pp) (hr_180.2.trans ((lp_cg1 C (by omega)).trans (lp_kn_same hJ n_88).1)) ?_
                                  refine lv_iload hx hb dL_isFolded_183 (lv_at hl 3 rfl) ?_
                                  refine lv_icmp_ne (tgt := 232) hx hb dL_isFolded_185 (by decide) (fun c_185 => ?_) (fun c_185 => ?_)
                                  · exact absurd rfl c_185
                                  · refine lv_aload_n hx hb dL_isFolded_188 rfl (lv_at hl 5 rfl) ?_
                                    refine lv_iconst (v := 2) hx hb dL_isFolded_189 (by decide) ?_
                                    refine lv_iload hx hb dL_isFolded_190 (lv_at hl 12 rfl) ?_
                                    refine sl_calli (sl_runV (As := [.int 2, .int (nI pp)]) (rest := []) hC hG (sl_nox (kX4_cellAt l hlt Γ u_56 α β n ep tl lo T C E hK56 2 (nI pp)) (fun E9 z => lp_ca (by decide) (by omega) z.2)) mi_X4_cellAt lk_RL_8 0 hK56.1 rfl rfl rfl ⟨Nat.le_of_ble_eq_true rfl, Nat.le_of_ble_eq_true rfl⟩ rfl hl.1 rfl (Nat.le_of_ble_eq_true rfl) dL_isFolded_192 ⟨(by show _ + _ ≤ 427; omega), (by show _ + _ ≤ 2562; omega)⟩) hG (fun r_192 u_192 H locs hr_192 hG => ?_)
                                    refine sl_topi (y := C pp) (hr_192.2.trans ((lp_cg2 C (by omega)).trans (lp_kn_same hJ n_88).2.1)) ?_
                                    refine lv_iload hx hb dL_isFolded_195 (lv_at hl 3 rfl) ?_
                                    refine lv_icmp_ne (tgt := 232) hx hb dL_isFolded_197 (by decide) (fun c_197 => ?_) (fun c_197 => ?_)
                                    · exact absurd rfl c_197
                                    · refine lv_iload hx hb dL_isFolded_200 (lv_at hl 12 rfl) ?_
                                      refine lv_iload hx hb dL_isFolded_202 (lv_at hl 11 rfl) ?_
                                      refine lv_icmp_ne (tgt := 228) hx hb dL_isFolded_204 (by decide) (fun c_204 => ?_) (fun c_204 => ?_)
                                      · have n_204 : ¬ (pp = pl) := fun z => c_204 ((nI_eq (a := pp) (b := pl) (by omega) (by omega)).mpr z)
                                        refine lv_iconst (v := 1) hx hb dL_isFolded_228 (by decide) ?_
                                        refine lv_goto (tgt := 233) hx hb dL_isFolded_229 (by decide) ?_
                                        refine lv_istore (lv' := [(9, .int 1), (8, .int (nI pp)), (7, .int ((sl_vs n C E (nI j) pp) + 0)), (12, .int 1), (11, .int (C pp)), (0, .ref (α 0)), (1, .ref a1), (2, .ref a2), (3, .ref a6), (4, .int (nI j)), (5, .int (nI (sl_kn C))), (6, .int (nI pl)), (10, .int (nI pp))]) hx hb dL_isFolded_233 hl (by decide) rfl (fun ls hl => ?_)
                                        refine lv_iinc (v := nI (pp + 1)) (lv' := [(10, .int (nI (pp + 1))), (9, .int 1), (8, .int (nI pp)), (7, .int ((sl_vs n C E (nI j) pp) + 0)), (12, .int 1), (11, .int (C pp)), (0, .ref (α 0)), (1, .ref a1), (2, .ref a2), (3, .ref a6), (4, .int (nI j)), (5, .int (nI (sl_kn C))), (6, .int (nI pl))]) hx hb dL_isFolded_235 hl (k := 12) rfl (nI_1 pp) (by decide) rfl (fun ls hl => ?_)
                                        refine lv_goto (tgt := 12) hx hb dL_isFolded_238 (by decide) ?_
                                        exact ih_12 (pp + 1) u_56 ((sl_vs n C E (nI j) pp) + 0) (nI pp) ((((((cs + 1) + 1) + 1) + 1) + 1) + 1) ((((((ss + 6) + 6) + 6) + 6) + 6) + 6) (by omega) (by omega) (by omega) (by omega) hK56 hf56 (fun _ => sl_vs_0 (lp_ef_z hn9 c_136)) (fun _ => lp_la_y hhs) _ _ hG _ (lv_sub hl [6, 7, 8, 9, 10, 11, 12, 3, 2, 1, 0] rfl)
                                      · have n_204 : pp = pl := (nI_eq (a := pp) (b := pl) (by omega) (by omega)).mp c_204
                                        refine lv_aload_n hx hb dL_isFolded_207 rfl (lv_at hl 5 rfl) ?_
                                        refine lv_iload hx hb dL_isFolded_208 (lv_at hl 12 rfl) ?_
                                        refine sl_calli (sl_runV (As := [.int (nI pp)]) (rest := []) hC hG (sl_nox (kX4_takesEffect l hlt Γ u_56 α β n ep tl lo T C E hK56 (nI pp)) (fun E9 z => lp_tk n_88 hkn z.2)) mi_X4_takesEffect lk_RL_23 0 hK56.1 rfl rfl rfl ⟨Nat.le_of_ble_eq_true rfl, Nat.le_of_ble_eq_true rfl⟩ rfl hl.1 rfl (Nat.le_of_ble_eq_true rfl) dL_isFolded_210 ⟨(by show _ + _ ≤ 427; omega), (by show _ + _ ≤ 2562; omega)⟩) hG (fun r_210 u_210 H locs hr_210 hG => ?_)
                                        have hG : sl_I Γ u_210 s H locs := hG
                                        have hK210 := hr_210.2.1
                                        have hf210 := sl_fr.tr hf56 hr_210.2.2
                                        obtain ⟨⟨b9, y1, y2, y3⟩, -⟩ := hr_210
                                        have y7 : b9 = pp := (sl_nIne (by omega) (by omega) y1).symm
                                        refine sl_topi (y := sl_bi (sl_ev n C E pp)) (by rw [y3, y7]) ?_
                                        refine lv_aload_n hx hb dL_isFolded_213 rfl (lv_at hl 8 rfl) ?_
                                        refine lv_iload hx hb dL_isFolded_214 (lv_at hl 12 rfl) ?_
                                        refine sl_ialdN hC hG 46 ((hf210 46 (by decide) (by decide)).trans h46) (j := pp) rfl (by omega) (by omega) dL_isFolded_216 ?_
                                        refine sl_topi (y := lp_ef n C E pp) (hF pp n_88) ?_
                                        refine lv_if_le (tgt := 224) hx hb dL_isFolded_217 (by decide) (fun c_217 => ?_) (fun c_217 => ?_)
                                        · refine lv_iconst (v := 0) hx hb dL_isFolded_224 (by decide) ?_
                                          refine lv_icmp_ne (tgt := 232) hx hb dL_isFolded_225 (by decide) (fun c_225 => ?_) (fun c_225 => ?_)
                                          · exact absurd (lp_b0 (lp_ef_z hn9 c_217)) c_225
                                          · refine lv_iconst (v := 1) hx hb dL_isFolded_228 (by decide) ?_
                                            refine lv_goto (tgt := 233) hx hb dL_isFolded_229 (by decide) ?_
                                            refine lv_istore (lv' := [(9, .int 1), (8, .int (nI pp)), (7, .int ((sl_vs n C E (nI j) pp) + 0)), (12, .int 1), (11, .int (C pp)), (0, .ref (α 0)), (1, .ref a1), (2, .ref a2), (3, .ref a6), (4, .int (nI j)), (5, .int (nI (sl_kn C))), (6, .int (nI pl)), (10, .int (nI pp))]) hx hb dL_isFolded_233 hl (by decide) rfl (fun ls hl => ?_)
                                            refine lv_iinc (v := nI (pp + 1)) (lv' := [(10, .int (nI (pp + 1))), (9, .int 1), (8, .int (nI pp)), (7, .int ((sl_vs n C E (nI j) pp) + 0)), (12, .int 1), (11, .int (C pp)), (0, .ref (α 0)), (1, .ref a1), (2, .ref a2), (3, .ref a6), (4, .int (nI j)), (5, .int (nI (sl_kn C))), (6, .int (nI pl))]) hx hb dL_isFolded_235 hl (k := 12) rfl (nI_1 pp) (by decide) rfl (fun ls hl => ?_)
                                            refine lv_goto (tgt := 12) hx hb dL_isFolded_238 (by decide) ?_
                                            exact ih_12 (pp + 1) u_210 ((sl_vs n C E (nI j) pp) + 0) (nI pp) (((((((cs + 1) + 1) + 1) + 1) + 1) + 1) + 1) (((((((ss + 6) + 6) + 6) + 6) + 6) + 6) + 6) (by omega) (by omega) (by omega) (by omega) hK210 hf210 (fun _ => sl_vs_0 (lp_ef_z hn9 c_136)) (fun _ => lp_la_y hhs) _ _ hG _ (lv_sub hl [6, 7, 8, 9, 10, 11, 12, 3, 2, 1, 0] rfl)
                                        · refine lv_iconst (v := 1) hx hb dL_isFolded_220 (by decide) ?_
                                          refine lv_goto (tgt := 225) hx hb dL_isFolded_221 (by decide) ?_
                                          refine lv_icmp_ne (tgt := 232) hx hb dL_isFolded_225 (by decide) (fun c_225 => ?_) (fun c_225 => ?_)
                                          · exact absurd (lp_b1 (lp_ef_gt c_217)) c_225
                                          · refine lv_iconst (v := 1) hx hb dL_isFolded_228 (by decide) ?_
                                            refine lv_goto (tgt := 233) hx hb dL_isFolded_229 (by decide) ?_
                                            refine lv_istore (lv' := [(9, .int 1), (8, .int (nI pp)), (7, .int ((sl_vs n C E (nI j) pp) + 0)), (12, .int 1), (11, .int (C pp)), (0, .ref (α 0)), (1, .ref a1), (2, .ref a2), (3, .ref a6), (4, .int (nI j)), (5, .int (nI (sl_kn C))), (6, .int (nI pl)), (10, .int (nI pp))]) hx hb dL_isFolded_233 hl (by decide) rfl (fun ls hl => ?_)
                                            refine lv_iinc (v := nI (pp + 1)) (lv' := [(10, .int (nI (pp + 1))), (9, .int 1), (8, .int (nI pp)), (7, .int ((sl_vs n C E (nI j) pp) + 0)), (12, .int 1), (11, .int (C pp)), (0, .ref (α 0)), (1, .ref a1), (2, .ref a2), (3, .ref a6), (4, .int (nI j)), (5, .int (nI (sl_kn C))), (6, .int (nI pl))]) hx hb dL_isFolded_235 hl (k := 12) rfl (nI_1 pp) (by decide) rfl (fun ls hl => ?_)
                                            refine lv_goto (tgt := 12) hx hb dL_isFolded_238 (by decide) ?_
                                            exact ih_12 (pp + 1) u_210 ((sl_vs n C E (nI j) pp) + 0) (nI pp) (((((((cs + 1) + 1) + 1) + 1) + 1) + 1) + 1) (((((((ss + 6) + 6) + 6) + 6) + 6) + 6) + 6) (by omega) (by omega) (by omega) (by omega) hK210 hf210 (fun _ => sl_vs_0 (lp_ef_z hn9 c_136)) (fun _ => lp_la_y hhs) _ _ hG _ (lv_sub hl [6, 7, 8, 9, 10, 11, 12, 3, 2, 1, 0] rfl)
                          · refine lv_aload_n hx hb dL_isFolded_139 rfl (lv_at hl 5 rfl) ?_
                            refine lv_iload hx hb dL_isFolded_140 (lv_at hl 1 rfl) ?_
                            refine sl_ialdN hC hG 42 ((hf56 42 (by decide) (by decide)).trans h42) (j := t) et (by omega) (by omega) dL_isFolded_142 ?_
                            refine sl_topi (y := (E t).2.2.2.1) (hA t ht) ?_
                            refine lv_goto (tgt := 147) hx hb dL_isFolded_143 (by decide) ?_
                            refine lv_iadd hx hb dL_isFolded_147 ?_
                            refine lv_istore (lv' := [(7, .int ((sl_vs n C E (nI j) pp) + ((E t).2.2.2.1))), (12, .int 1), (11, .int (C pp)), (9, .int 1), (0, .ref (α 0)), (1, .ref a1), (2, .ref a2), (3, .ref a6), (4, .int (nI j)), (5, .int (nI (sl_kn C))), (6, .int (nI pl)), (8, .int (sl_la n C E (nI j) pp)), (10, .int (nI pp))]) hx hb dL_isFolded_148 hl (by decide) rfl (fun ls hl => ?_)
                            refine lv_iload hx hb dL_isFolded_150 (lv_at hl 1 rfl) ?_
                            refine lv_if_eq (tgt := 160) hx hb dL_isFolded_152 (by decide) (fun c_152 => ?_) (fun c_152 => ?_)
                            · exact absurd c_152 (by decide)
                            · refine lv_iload hx hb dL_isFolded_155 (lv_at hl 12 rfl) ?_
                              refine lv_goto (tgt := 162) hx hb dL_isFolded_157 (by decide) ?_
                              refine lv_istore (lv' := [(8, .int (nI pp)), (7, .int ((sl_vs n C E (nI j) pp) + ((E t).2.2.2.1))), (12, .int 1), (11, .int (C pp)), (9, .int 1), (0, .ref (α 0)), (1, .ref a1), (2, .ref a2), (3, .ref a6), (4, .int (nI j)), (5, .int (nI (sl_kn C))), (6, .int (nI pl)), (10, .int (nI pp))]) hx hb dL_isFolded_162 hl (by decide) rfl (fun ls hl => ?_)
                              refine lv_iload hx hb dL_isFolded_164 (lv_at hl 4 rfl) ?_
                              refine lv_if_eq (tgt := 232) hx hb dL_isFolded_166 (by decide) (fun c_166 => ?_) (fun c_166 => ?_)
                              · exact absurd c_166 (by decide)
                              · refine lv_iload hx hb dL_isFolded_169 (lv_at hl 3 rfl) ?_
                                refine lv_bipush (v := (-2)) hx hb dL_isFolded_171 (by decide) ?_
                                refine lv_icmp_eq (tgt := 232) hx hb dL_isFolded_173 (by decide) (fun c_173 => ?_) (fun c_173 => ?_)
                                · exact absurd c_173 (lp_kn_same hJ n_88).2.2
                                · refine lv_aload_n hx hb dL_isFolded_176 rfl (lv_at hl 5 rfl) ?_
                                  refine lv_iconst (v := 1) hx hb dL_isFolded_177 (by decide) ?_
                                  refine lv_iload hx hb dL_isFolded_178 (lv_at hl 12 rfl) ?_
                                  refine sl_calli (sl_runV (As := [.int 1, .int (nI pp)]) (rest := []) hC hG (sl_nox (kX4_cellAt l hlt Γ u_56 α β n ep tl lo T C E hK56 1 (nI pp)) (fun E9 z => lp_ca (by decide) (by omega) z.2)) mi_X4_cellAt lk_RL_8 0 hK56.1 rfl rfl rfl ⟨Nat.le_of_ble_eq_true rfl, Nat.le_of_ble_eq_true rfl⟩ rfl hl.1 rfl (Nat.le_of_ble_eq_true rfl) dL_isFolded_180 ⟨(by show _ + _ ≤ 427; omega), (by show _ + _ ≤ 2562; omega)⟩) hG (fun r_180 u_180 H locs hr_180 hG => ?_)
                                  refine sl_topi (y := C pp) (hr_180.2.trans ((lp_cg1 C (by omega)).trans (lp_kn_same hJ n_88).1)) ?_
                                  refine lv_iload hx hb dL_isFolded_183 (lv_at hl 3 rfl) ?_
                                  refine lv_icmp_ne (tgt := 232) hx hb dL_isFolded_185 (by decide) (fun c_185 => ?_) (fun c_185 => ?_)
                                  · exact absurd rfl c_185
                                  · refine lv_aload_n hx hb dL_isFolded_188 rfl (lv_at hl 5 rfl) ?_
                                    refine lv_iconst (v := 2) hx hb dL_isFolded_189 (by decide) ?_
                                    refine lv_iload hx hb dL_isFolded_190 (lv_at hl 12 rfl) ?_
                                    refine sl_calli (sl_runV (As := [.int 2, .int (nI pp)]) (rest := []) hC hG (sl_nox (kX4_cellAt l hlt Γ u_56 α β n ep tl lo T C E hK56 2 (nI pp)) (fun E9 z => lp_ca (by decide) (by omega) z.2)) mi_X4_cellAt lk_RL_8 0 hK56.1 rfl rfl rfl ⟨Nat.le_of_ble_eq_true rfl, Nat.le_of_ble_eq_true rfl⟩ rfl hl.1 rfl (Nat.le_of_ble_eq_true rfl) dL_isFolded_192 ⟨(by show _ + _ ≤ 427; omega), (by show _ + _ ≤ 2562; omega)⟩) hG (fun r_192 u_192 H locs hr_192 hG => ?_)
                                    refine sl_topi (y := C pp) (hr_192.2.trans ((lp_cg2 C (by omega)).trans (lp_kn_same hJ n_88).2.1)) ?_
                                    refine lv_iload hx hb dL_isFolded_195 (lv_at hl 3 rfl) ?_
                                    refine lv_icmp_ne (tgt := 232) hx hb dL_isFolded_197 (by decide) (fun c_197 => ?_) (fun c_197 => ?_)
                                    · exact absurd rfl c_197
                                    · refine lv_iload hx hb dL_isFolded_200 (lv_at hl 12 rfl) ?_
                                      refine lv_iload hx hb dL_isFolded_202 (lv_at hl 11 rfl) ?_
                                      refine lv_icmp_ne (tgt := 228) hx hb dL_isFolded_204 (by decide) (fun c_204 => ?_) (fun c_204 => ?_)
                                      · have n_204 : ¬ (pp = pl) := fun z => c_204 ((nI_eq (a := pp) (b := pl) (by omega) (by omega)).mpr z)
                                        refine lv_iconst (v := 1) hx hb dL_isFolded_228 (by decide) ?_
                                        refine lv_goto (tgt := 233) hx hb dL_isFolded_229 (by decide) ?_
                                        refine lv_istore (lv' := [(9, .int 1), (8, .int (nI pp)), (7, .int ((sl_vs n C E (nI j) pp) + ((E t).2.2.2.1))), (12, .int 1), (11, .int (C pp)), (0, .ref (α 0)), (1, .ref a1), (2, .ref a2), (3, .ref a6), (4, .int (nI j)), (5, .int (nI (sl_kn C))), (6, .int (nI pl)), (10, .int (nI pp))]) hx hb dL_isFolded_233 hl (by decide) rfl (fun ls hl => ?_)
                                        refine lv_iinc (v := nI (pp + 1)) (lv' := [(10, .int (nI (pp + 1))), (9, .int 1), (8, .int (nI pp)), (7, .int ((sl_vs n C E (nI j) pp) + ((E t).2.2.2.1))), (12, .int 1), (11, .int (C pp)), (0, .ref (α 0)), (1, .ref a1), (2, .ref a2), (3, .ref a6), (4, .int (nI j)), (5, .int (nI (sl_kn C))), (6, .int (nI pl))]) hx hb dL_isFolded_235 hl (k := 12) rfl (nI_1 pp) (by decide) rfl (fun ls hl => ?_)
                                        refine lv_goto (tgt := 12) hx hb dL_isFolded_238 (by decide) ?_
                                        exact ih_12 (pp + 1) u_56 ((sl_vs n C E (nI j) pp) + ((E t).2.2.2.1)) (nI pp) ((((((cs + 1) + 1) + 1) + 1) + 1) + 1) ((((((ss + 6) + 6) + 6) + 6) + 6) + 6) (by omega) (by omega) (by omega) (by omega) hK56 hf56 (fun _ => lp_vs_y etok (lp_ef_gt c_136) hhs) (fun _ => lp_la_y hhs) _ _ hG _ (lv_sub hl [6, 7, 8, 9, 10, 11, 12, 3, 2, 1, 0] rfl)
                                      · have n_204 : pp = pl := (nI_eq (a := pp) (b := pl) (by omega) (by omega)).mp c_204
                                        refine lv_aload_n hx hb dL_isFolded_207 rfl (lv_at hl 5 rfl) ?_
                                        refine lv_iload hx hb dL_isFolded_208 (lv_at hl 12 rfl) ?_
                                        refine sl_calli (sl_runV (As := [.int (nI pp)]) (rest := []) hC hG (sl_nox (kX4_takesEffect l hlt Γ u_56 α β n ep tl lo T C E hK56 (nI pp)) (fun E9 z => lp_tk n_88 hkn z.2)) mi_X4_takesEffect lk_RL_23 0 hK56.1 rfl rfl rfl ⟨Nat.le_of_ble_eq_true rfl, Nat.le_of_ble_eq_true rfl⟩ rfl hl.1 rfl (Nat.le_of_ble_eq_true rfl) dL_isFolded_210 ⟨(by show _ + _ ≤ 427; omega), (by show _ + _ ≤ 2562; omega)⟩) hG (fun r_210 u_210 H locs hr_210 hG => ?_)
                                        have hG : sl_I Γ u_210 s H locs := hG
                                        have hK210 := hr_210.2.1
                                        have hf210 := sl_fr.tr hf56 hr_210.2.2
                                        obtain ⟨⟨b9, y1, y2, y3⟩, -⟩ := hr_210
                                        have y7 : b9 = pp := (sl_nIne (by omega) (by omega) y1).symm
                                        refine sl_topi (y := sl_bi (sl_ev n C E pp)) (by rw [y3, y7]) ?_
                                        refine lv_aload_n hx hb dL_isFolded_213 rfl (lv_at hl 8 rfl) ?_
                                        refine lv_iload hx hb dL_isFolded_214 (lv_at hl 12 rfl) ?_
                                        refine sl_ialdN hC hG 46 ((hf210 46 (by decide) (by decide)).trans h46) (j := pp) rfl (by omega) (by omega) dL_isFolded_216 ?_
                                        refine sl_topi (y := lp_ef n C E pp) (hF pp n_88) ?_
                                        refine lv_if_le (tgt := 224) hx hb dL_isFolded_217 (by decide) (fun c_217 => ?_) (fun c_217 => ?_)
                                        · refine lv_iconst (v := 0) hx hb dL_isFolded_224 (by decide) ?_
                                          refine lv_icmp_ne (tgt := 232) hx hb dL_isFolded_225 (by decide) (fun c_225 => ?_) (fun c_225 => ?_)
                                          · exact absurd (lp_b0 (lp_ef_z hn9 c_217)) c_225
                                          · refine lv_iconst (v := 1) hx hb dL_isFolded_228 (by decide) ?_
                                            refine lv_goto (tgt := 233) hx hb dL_isFolded_229 (by decide) ?_
                                            refine lv_istore (lv' := [(9, .int 1), (8, .int (nI pp)), (7, .int ((sl_vs n C E (nI j) pp) + ((E t).2.2.2.1))), (12, .int 1), (11, .int (C pp)), (0, .ref (α 0)), (1, .ref a1), (2, .ref a2), (3, .ref a6), (4, .int (nI j)), (5, .int (nI (sl_kn C))), (6, .int (nI pl)), (10, .int (nI pp))]) hx hb dL_isFolded_233 hl (by decide) rfl (fun ls hl => ?_)
                                            refine lv_iinc (v := nI (pp + 1)) (lv' := [(10, .int (nI (pp + 1))), (9, .int 1), (8, .int (nI pp)), (7, .int ((sl_vs n C E (nI j) pp) + ((E t).2.2.2.1))), (12, .int 1), (11, .int (C pp)), (0, .ref (α 0)), (1, .ref a1), (2, .ref a2), (3, .ref a6), (4, .int (nI j)), (5, .int (nI (sl_kn C))), (6, .int (nI pl))]) hx hb dL_isFolded_235 hl (k := 12) rfl (nI_1 pp) (by decide) rfl (fun ls hl => ?_)
                                            refine lv_goto (tgt := 12) hx hb dL_isFolded_238 (by decide) ?_
                                            exact ih_12 (pp + 1) u_210 ((sl_vs n C E (nI j) pp) + ((E t).2.2.2.1)) (nI pp) (((((((cs + 1) + 1) + 1) + 1) + 1) + 1) + 1) (((((((ss + 6) + 6) + 6) + 6) + 6) + 6) + 6) (by omega) (by omega) (by omega) (by omega) hK210 hf210 (fun _ => lp_vs_y etok (lp_ef_gt c_136) hhs) (fun _ => lp_la_y hhs) _ _ hG _ (lv_sub hl [6, 7, 8, 9, 10, 11, 12, 3, 2, 1, 0] rfl)
                                        · refine lv_iconst (v := 1) hx hb dL_isFolded_220 (by decide) ?_
                                          refine lv_goto (tgt := 225) hx hb dL_isFolded_221 (by decide) ?_
                                          refine lv_icmp_ne (tgt := 232) hx hb dL_isFolded_225 (by decide) (fun c_225 => ?_) (fun c_225 => ?_)
                                          · exact absurd (lp_b1 (lp_ef_gt c_217)) c_225
                                          · refine lv_iconst (v := 1) hx hb dL_isFolded_228 (by decide) ?_
                                            refine lv_goto (tgt := 233) hx hb dL_isFolded_229 (by decide) ?_
                                            refine lv_istore (lv' := [(9, .int 1), (8, .int (nI pp)), (7, .int ((sl_vs n C E (nI j) pp) + ((E t).2.2.2.1))), (12, .int 1), (11, .int (C pp)), (0, .ref (α 0)), (1, .ref a1), (2, .ref a2), (3, .ref a6), (4, .int (nI j)), (5, .int (nI (sl_kn C))), (6, .int (nI pl)), (10, .int (nI pp))]) hx hb dL_isFolded_233 hl (by decide) rfl (fun ls hl => ?_)
                                            refine lv_iinc (v := nI (pp + 1)) (lv' := [(10, .int (nI (pp + 1))), (9, .int 1), (8, .int (nI pp)), (7, .int ((sl_vs n C E (nI j) pp) + ((E t).2.2.2.1))), (12, .int 1), (11, .int (C pp)), (0, .ref (α 0)), (1, .ref a1), (2, .ref a2), (3, .ref a6), (4, .int (nI j)), (5, .int (nI (sl_kn C))), (6, .int (nI pl))]) hx hb dL_isFolded_235 hl (k := 12) rfl (nI_1 pp) (by decide) rfl (fun ls hl => ?_)
                                            refine lv_goto (tgt := 12) hx hb dL_isFolded_238 (by decide) ?_
                                            exact ih_12 (pp + 1) u_210 ((sl_vs n C E (nI j) pp) + ((E t).2.2.2.1)) (nI pp) (((((((cs + 1) + 1) + 1) + 1) + 1) + 1) + 1) (((((((ss + 6) + 6) + 6) + 6) + 6) + 6) + 6) (by omega) (by omega) (by omega) (by omega) hK210 hf210 (fun _ => lp_vs_y etok (lp_ef_gt c_136) hhs) (fun _ => lp_la_y hhs) _ _ hG _ (lv_sub hl [6, 7, 8, 9, 10, 11, 12, 3, 2, 1, 0] rfl)
          · have n_28 : ¬ (pp = pl) := fun z => c_28 ((nI_eq (a := pp) (b := pl) (by omega) (by omega)).mpr z)
            refine lv_iload hx hb dL_isFolded_31 (lv_at hl 10 rfl) ?_
            refine lv_iload hx hb dL_isFolded_33 (lv_at hl 5 rfl) ?_
            refine lv_icmp_ne (tgt := 84) hx hb dL_isFolded_35 (by decide) (fun c_35 => ?_) (fun c_35 => ?_)
            · have n_35 : ¬ (pp = sl_kn C) := fun z => c_35 ((nI_eq (a := pp) (b := sl_kn C) (by omega) (by omega)).mpr z)
              refine lv_iload hx hb dL_isFolded_84 (lv_at hl 10 rfl) ?_
              refine lv_iload hx hb dL_isFolded_86 (lv_at hl 5 rfl) ?_
              refine lv_icmp_ge (tgt := 235) hx hb dL_isFolded_88 (by decide) (fun c_88 => ?_) (fun c_88 => ?_)
              · have n_88 : sl_kn C ≤ pp := (nI_leI (a := sl_kn C) (b := pp) (by omega) (by omega)).mp c_88
                refine lv_iinc (v := nI (pp + 1)) (lv' := [(10, .int (nI (pp + 1))), (0, .ref (α 0)), (1, .ref a1), (2, .ref a2), (3, .ref a6), (4, .int (nI j)), (5, .int (nI (sl_kn C))), (6, .int (nI pl)), (7, .int (sl_vs n C E (nI j) pp)), (8, .int (sl_la n C E (nI j) pp)), (9, .int 1)]) hx hb dL_isFolded_235 hl (k := 10) rfl (nI_1 pp) (by decide) rfl (fun ls hl => ?_)
                refine lv_goto (tgt := 12) hx hb dL_isFolded_238 (by decide) ?_
                exact ih_12 (pp + 1) gg (sl_vs n C E (nI j) pp) (sl_la n C E (nI j) pp) cs ss (by omega) (by omega) (by omega) (by omega) hKg hfg (fun z => absurd z (by omega)) (fun z => absurd z (by omega)) _ _ hG _ (lv_sub hl [1, 2, 3, 4, 5, 6, 7, 8, 9, 10, 0] rfl)
              · have n_88 : ¬ (sl_kn C ≤ pp) := fun z => c_88 ((nI_leI (a := sl_kn C) (b := pp) (by omega) (by omega)).mpr z)
                have n_88 : pp < sl_kn C := Nat.lt_of_not_le n_88
                refine lv_aload_n hx hb dL_isFolded_91 rfl (lv_at hl 0 rfl) ?_
                refine lv_iconst (v := 0) hx hb dL_isFolded_92 (by decide) ?_
                refine lv_iload hx hb dL_isFolded_93 (lv_at hl 10 rfl) ?_
                refine sl_calli (sl_runV (As := [.int 0, .int (nI pp)]) (rest := []) hC hG (sl_nox (kX4_cellAt l hlt Γ gg α β n ep tl lo T C E hKg 0 (nI pp)) (fun E9 z => lp_ca (by decide) (by omega) z.2)) mi_X4_cellAt lk_RL_8 0 hKg.1 rfl rfl rfl ⟨Nat.le_of_ble_eq_true rfl, Nat.le_of_ble_eq_true rfl⟩ rfl hl.1 rfl (Nat.le_of_ble_eq_true rfl) dL_isFolded_95 ⟨(by show _ + _ ≤ 427; omega), (by show _ + _ ≤ 2562; omega)⟩) hG (fun r_95 u_95 H locs hr_95 hG => ?_)
                refine sl_topi (y := C pp) (hr_95.2.trans (sl_cg0 C (by omega))) ?_
                refine lv_istore (lv' := [(11, .int (C pp)), (0, .ref (α 0)), (1, .ref a1), (2, .ref a2), (3, .ref a6), (4, .int (nI j)), (5, .int (nI (sl_kn C))), (6, .int (nI pl)), (7, .int (sl_vs n C E (nI j) pp)), (8, .int (sl_la n C E (nI j) pp)), (9, .int 1), (10, .int (nI pp))]) hx hb dL_isFolded_98 hl (by decide) rfl (fun ls hl => ?_)
                refine lv_iload hx hb dL_isFolded_100 (lv_at hl 0 rfl) ?_
                refine lv_if_lt (tgt := 122) hx hb dL_isFolded_102 (by decide) (fun c_102 => ?_) (fun c_102 => ?_)
                · have etok : sl_tok n (C pp) = none := sl_ce_neg hn9 (hw.2.2.1 pp (by omega)) c_102
                  have hhs : sl_hs n C E (nI j) pp = false := sl_hs_0 etok
                  refine lv_iconst (v := 0) hx hb dL_isFolded_122 (by decide) ?_
                  refine lv_istore (lv' := [(12, .int 0), (11, .int (C pp)), (0, .ref (α 0)), (1, .ref a1), (2, .ref a2), (3, .ref a6), (4, .int (nI j)), (5, .int (nI (sl_kn C))), (6, .int (nI pl)), (7, .int (sl_vs n C E (nI j) pp)), (8, .int (sl_la n C E (nI j) pp)), (9, .int 1), (10, .int (nI pp))]) hx hb dL_isFolded_123 hl (by decide) rfl (fun ls hl => ?_)
                  refine lv_iload hx hb dL_isFolded_125 (lv_at hl 9 rfl) ?_
                  refine lv_iload hx hb dL_isFolded_127 (lv_at hl 0 rfl) ?_
                  refine lv_if_eq (tgt := 146) hx hb dL_isFolded_129 (by decide) (fun c_129 => ?_) (fun c_129 => ?_)
                  · refine lv_iconst (v := 0) hx hb dL_isFolded_146 (by decide) ?_
                    refine lv_iadd hx hb dL_isFolded_147 ?_
                    refine lv_istore (lv' := [(7, .int ((sl_vs n C E (nI j) pp) + 0)), (12, .int 0), (11, .int (C pp)), (0, .ref (α 0)), (1, .ref a1), (2, .ref a2), (3, .ref a6), (4, .int (nI j)), (5, .int (nI (sl_kn C))), (6, .int (nI pl)), (8, .int (sl_la n C E (nI j) pp)), (9, .int 1), (10, .int (nI pp))]) hx hb dL_isFolded_148 hl (by decide) rfl (fun ls hl => ?_)
                    refine lv_iload hx hb dL_isFolded_150 (lv_at hl 1 rfl) ?_
                    refine lv_if_eq (tgt := 160) hx hb dL_isFolded_152 (by decide) (fun c_152 => ?_) (fun c_152 => ?_)
                    · refine lv_iload hx hb dL_isFolded_160 (lv_at hl 10 rfl) ?_
                      refine lv_istore (lv' := [(8, .int (sl_la n C E (nI j) pp)), (7, .int ((sl_vs n C E (nI j) pp) + 0)), (12, .int 0), (11, .int (C pp)), (0, .ref (α 0)), (1, .ref a1), (2, .ref a2), (3, .ref a6), (4, .int (nI j)), (5, .int (nI (sl_kn C))), (6, .int (nI pl)), (9, .int 1), (10, .int (nI pp))]) hx hb dL_isFolded_162 hl (by decide) rfl (fun ls hl => ?_)
                      refine lv_iload hx hb dL_isFolded_164 (lv_at hl 11 rfl) ?_
                      refine lv_if_eq (tgt := 232) hx hb dL_isFolded_166 (by decide) (fun c_166 => ?_) (fun c_166 => ?_)
                      · exact absurd c_166 (by decide)
                      · refine lv_iload hx hb dL_isFolded_169 (lv_at hl 3 rfl) ?_
                        refine lv_bipush (v := (-2)) hx hb dL_isFolded_171 (by decide) ?_
                        refine lv_icmp_eq (tgt := 232) hx hb dL_isFolded_173 (by decide) (fun c_173 => ?_) (fun c_173 => ?_)
                        · exact absurd c_173 (lp_kn_same hJ n_88).2.2
                        · refine lv_aload_n hx hb dL_isFolded_176 rfl (lv_at hl 4 rfl) ?_
                          refine lv_iconst (v := 1) hx hb dL_isFolded_177 (by decide) ?_
                          refine lv_iload hx hb dL_isFolded_178 (lv_at hl 12 rfl) ?_
                          refine sl_calli (sl_runV (As := [.int 1, .int (nI pp)]) (rest := []) hC hG (sl_nox (kX4_cellAt l hlt Γ gg α β n ep tl lo T C E hKg 1 (nI pp)) (fun E9 z => lp_ca (by decide) (by omega) z.2)) mi_X4_cellAt lk_RL_8 0 hKg.1 rfl rfl rfl ⟨Nat.le_of_ble_eq_true rfl, Nat.le_of_ble_eq_true rfl⟩ rfl hl.1 rfl (Nat.le_of_ble_eq_true rfl) dL_isFolded_180 ⟨(by show _ + _ ≤ 427; omega), (by show _ + _ ≤ 2562; omega)⟩) hG (fun r_180 u_180 H locs hr_180 hG => ?_)
                          refine sl_topi (y := C pp) (hr_180.2.trans ((lp_cg1 C (by omega)).trans (lp_kn_same hJ n_88).1)) ?_
                          refine lv_iload hx hb dL_isFolded_183 (lv_at hl 3 rfl) ?_
                          refine lv_icmp_ne (tgt := 232) hx hb dL_isFolded_185 (by decide) (fun c_185 => ?_) (fun c_185 => ?_)
                          · exact absurd rfl c_185
                          · refine lv_aload_n hx hb dL_isFolded_188 rfl (lv_at hl 4 rfl) ?_
                            refine lv_iconst (v := 2) hx hb dL_isFolded_189 (by decide) ?_
                            refine lv_iload hx hb dL_isFolded_190 (lv_at hl 12 rfl) ?_
                            refine sl_calli (sl_runV (As := [.int 2, .int (nI pp)]) (rest := []) hC hG (sl_nox (kX4_cellAt l hlt Γ gg α β n ep tl lo T C E hKg 2 (nI pp)) (fun E9 z => lp_ca (by decide) (by omega) z.2)) mi_X4_cellAt lk_RL_8 0 hKg.1 rfl rfl rfl ⟨Nat.le_of_ble_eq_true rfl, Nat.le_of_ble_eq_true rfl⟩ rfl hl.1 rfl (Nat.le_of_ble_eq_true rfl) dL_isFolded_192 ⟨(by show _ + _ ≤ 427; omega), (by show _ + _ ≤ 2562; omega)⟩) hG (fun r_192 u_192 H locs hr_192 hG => ?_)
                            refine sl_topi (y := C pp) (hr_192.2.trans ((lp_cg2 C (by omega)).trans (lp_kn_same hJ n_88).2.1)) ?_
                            refine lv_iload hx hb dL_isFolded_195 (lv_at hl 3 rfl) ?_
                            refine lv_icmp_ne (tgt := 232) hx hb dL_isFolded_197 (by decide) (fun c_197 => ?_) (fun c_197 => ?_)
                            · exact absurd rfl c_197
                            · refine lv_iload hx hb dL_isFolded_200 (lv_at hl 12 rfl) ?_
                              refine lv_iload hx hb dL_isFolded_202 (lv_at hl 10 rfl) ?_
                              refine lv_icmp_ne (tgt := 228) hx hb dL_isFolded_204 (by decide) (fun c_204 => ?_) (fun c_204 => ?_)
                              · have n_204 : ¬ (pp = pl) := fun z => c_204 ((nI_eq (a := pp) (b := pl) (by omega) (by omega)).mpr z)
                                refine lv_iconst (v := 1) hx hb dL_isFolded_228 (by decide) ?_
                                refine lv_goto (tgt := 233) hx hb dL_isFolded_229 (by decide) ?_
                                refine lv_istore (lv' := [(9, .int 1), (8, .int (sl_la n C E (nI j) pp)), (7, .int ((sl_vs n C E (nI j) pp) + 0)), (12, .int 0), (11, .int (C pp)), (0, .ref (α 0)), (1, .ref a1), (2, .ref a2), (3, .ref a6), (4, .int (nI j)), (5, .int (nI (sl_kn C))), (6, .int (nI pl)), (10, .int (nI pp))]) hx hb dL_isFolded_233 hl (by decide) rfl (fun ls hl => ?_)
                                refine lv_iinc (v := nI (pp + 1)) (lv' := [(10, .int (nI (pp + 1))), (9, .int 1), (8, .int (sl_la n C E (nI j) pp)), (7, .int ((sl_vs n C E (nI j) pp) + 0)), (12, .int 0), (11, .int (C pp)), (0, .ref (α 0)), (1, .ref a1), (2, .ref a2), (3, .ref a6), (4, .int (nI j)), (5, .int (nI (sl_kn C))), (6, .int (nI pl))]) hx hb dL_isFolded_235 hl (k := 12) rfl (nI_1 pp) (by decide) rfl (fun ls hl => ?_)
                                refine lv_goto (tgt := 12) hx hb dL_isFolded_238 (by decide) ?_
                                exact ih_12 (pp + 1) gg ((sl_vs n C E (nI j) pp) + 0) (sl_la n C E (nI j) pp) (((cs + 1) + 1) + 1) (((ss + 6) + 6) + 6) (by omega) (by omega) (by omega) (by omega) hKg hfg (fun _ => lp_vs_n hhs) (fun _ => lp_la_n hhs) _ _ hG _ (lv_sub hl [6, 7, 8, 9, 10, 11, 12, 3, 2, 1, 0] rfl)
                              · have n_204 : pp = pl := (nI_eq (a := pp) (b := pl) (by omega) (by omega)).mp c_204
                                refine lv_aload_n hx hb dL_isFolded_207 rfl (lv_at hl 4 rfl) ?_
                                refine lv_iload hx hb dL_isFolded_208 (lv_at hl 12 rfl) ?_
                                refine sl_calli (sl_runV (As := [.int (nI pp)]) (rest := []) hC hG (sl_nox (kX4_takesEffect l hlt Γ gg α β n ep tl lo T C E hKg (nI pp)) (fun E9 z => lp_tk n_88 hkn z.2)) mi_X4_takesEffect lk_RL_23 0 hKg.1 rfl rfl rfl ⟨Nat.le_of_ble_eq_true rfl, Nat.le_of_ble_eq_true rfl⟩ rfl hl.1 rfl (Nat.le_of_ble_eq_true rfl) dL_isFolded_210 ⟨(by show _ + _ ≤ 427; omega), (by show _ + _ ≤ 2562; omega)⟩) hG (fun r_210 u_210 H locs hr_210 hG => ?_)
                                have hG : sl_I Γ u_210 s H locs := hG
                                have hK210 := hr_210.2.1
                                have hf210 := sl_fr.tr hfg hr_210.2.2
                                obtain ⟨⟨b9, y1, y2, y3⟩, -⟩ := hr_210
                                have y7 : b9 = pp := (sl_nIne (by omega) (by omega) y1).symm
                                refine sl_topi (y := sl_bi (sl_ev n C E pp)) (by rw [y3, y7]) ?_
                                refine lv_aload_n hx hb dL_isFolded_213 rfl (lv_at hl 7 rfl) ?_
                                refine lv_iload hx hb dL_isFolded_214 (lv_at hl 12 rfl) ?_
                                refine sl_ialdN hC hG 46 ((hf210 46 (by decide) (by decide)).trans h46) (j := pp) rfl (by omega) (by omega) dL_isFolded_216 ?_
                                refine sl_topi (y := lp_ef n C E pp) (hF pp n_88) ?_
                                refine lv_if_le (tgt := 224) hx hb dL_isFolded_217 (by decide) (fun c_217 => ?_) (fun c_217 => ?_)
                                · refine lv_iconst (v := 0) hx hb dL_isFolded_224 (by decide) ?_
                                  refine lv_icmp_ne (tgt := 232) hx hb dL_isFolded_225 (by decide) (fun c_225 => ?_) (fun c_225 => ?_)
                                  · exact absurd (lp_b0 (lp_ef_z hn9 c_217)) c_225
                                  · refine lv_iconst (v := 1) hx hb dL_isFolded_228 (by decide) ?_
                                    refine lv_goto (tgt := 233) hx hb dL_isFolded_229 (by decide) ?_
                                    refine lv_istore (lv' := [(9, .int 1), (8, .int (sl_la n C E (nI j) pp)), (7, .int ((sl_vs n C E (nI j) pp) + 0)), (12, .int 0), (11, .int (C pp)), (0, .ref (α 0)), (1, .ref a1), (2, .ref a2), (3, .ref a6), (4, .int (nI j)), (5, .int (nI (sl_kn C))), (6, .int (nI pl)), (10, .int (nI pp))]) hx hb dL_isFolded_233 hl (by decide) rfl (fun ls hl => ?_)
                                    refine lv_iinc (v := nI (pp + 1)) (lv' := [(10, .int (nI (pp + 1))), (9, .int 1), (8, .int (sl_la n C E (nI j) pp)), (7, .int ((sl_vs n C E (nI j) pp) + 0)), (12, .int 0), (11, .int (C pp)), (0, .ref (α 0)), (1, .ref a1), (2, .ref a2), (3, .ref a6), (4, .int (nI j)), (5, .int (nI (sl_kn C))), (6, .int (nI pl))]) hx hb dL_isFolded_235 hl (k := 12) rfl (nI_1 pp) (by decide) rfl (fun ls hl => ?_)
                                    refine lv_goto (tgt := 12) hx hb dL_isFolded_238 (by decide) ?_
                                    exact ih_12 (pp + 1) u_210 ((sl_vs n C E (nI j) pp) + 0) (sl_la n C E (nI j) pp) ((((cs + 1) + 1) + 1) + 1) ((((ss + 6) + 6) + 6) + 6) (by omega) (by omega) (by omega) (by omega) hK210 hf210 (fun _ => lp_vs_n hhs) (fun _ => lp_la_n hhs) _ _ hG _ (lv_sub hl [6, 7, 8, 9, 10, 11, 12, 3, 2, 1, 0] rfl)
                                · refine lv_iconst (v := 1) hx hb dL_isFolded_220 (by decide) ?_
                                  refine lv_goto (tgt := 225) hx hb dL_isFolded_221 (by decide) ?_
                                  refine lv_icmp_ne (tgt := 232) hx hb dL_isFolded_225 (by decide) (fun c_225 => ?_) (fun c_225 => ?_)
                                  · exact absurd (lp_b1 (lp_ef_gt c_217)) c_225
                                  · refine lv_iconst (v := 1) hx hb dL_isFolded_228 (by decide) ?_
                                    refine lv_goto (tgt := 233) hx hb dL_isFolded_229 (by decide) ?_
                                    refine lv_istore (lv' := [(9, .int 1), (8, .int (sl_la n C E (nI j) pp)), (7, .int ((sl_vs n C E (nI j) pp) + 0)), (12, .int 0), (11, .int (C pp)), (0, .ref (α 0)), (1, .ref a1), (2, .ref a2), (3, .ref a6), (4, .int (nI j)), (5, .int (nI (sl_kn C))), (6, .int (nI pl)), (10, .int (nI pp))]) hx hb dL_isFolded_233 hl (by decide) rfl (fun ls hl => ?_)
                                    refine lv_iinc (v := nI (pp + 1)) (lv' := [(10, .int (nI (pp + 1))), (9, .int 1), (8, .int (sl_la n C E (nI j) pp)), (7, .int ((sl_vs n C E (nI j) pp) + 0)), (12, .int 0), (11, .int (C pp)), (0, .ref (α 0)), (1, .ref a1), (2, .ref a2), (3, .ref a6), (4, .int (nI j)), (5, .int (nI (sl_kn C))), (6, .int (nI pl))]) hx hb dL_isFolded_235 hl (k := 12) rfl (nI_1 pp) (by decide) rfl (fun ls hl => ?_)
                                    refine lv_goto (tgt := 12) hx hb dL_isFolded_238 (by decide) ?_
                                    exact ih_12 (pp + 1) u_210 ((sl_vs n C E (nI j) pp) + 0) (sl_la n C E (nI j) pp) ((((cs + 1) + 1) + 1) + 1) ((((ss + 6) + 6) + 6) + 6) (by omega) (by omega) (by omega) (by omega) hK210 hf210 (fun _ => lp_vs_n hhs) (fun _ => lp_la_n hhs) _ _ hG _ (lv_sub hl [6, 7, 8, 9, 10, 11, 12, 3, 2, 1, 0] rfl)
                    · exact absurd c_152 (by decide)
                  · exact absurd c_129 (by decide)
                · obtain ⟨t, ht, et, etok⟩ := sl_ce_pos hn9 (hw.2.2.1 pp (by omega)) c_102
                  refine lv_aload_n hx hb dL_isFolded_105 rfl (lv_at hl 2 rfl) ?_
                  refine lv_iload hx hb dL_isFolded_106 (lv_at hl 0 rfl) ?_
                  refine sl_ialdN hC hG 41 ((hfg 41 (by decide) (by decide)).trans h41) (j := t) et (by omega) (by omega) dL_isFolded_108 ?_
                  refine sl_topi (y := (E t).2.2.1) (hS t ht) ?_
                  refine lv_iload hx hb dL_isFolded_109 (lv_at hl 5 rfl) ?_
                  refine lv_ishr hx hb dL_isFolded_111 ?_
                  refine lv_iconst (v := 1) hx hb dL_isFolded_112 (by decide) ?_
                  refine lv_iand hx hb dL_isFolded_113 ?_
                  refine lv_iconst (v := 1) hx hb dL_isFolded_114 (by decide) ?_
                  refine lv_icmp_ne (tgt := 122) hx hb dL_isFolded_115 (by decide) (fun c_115 => ?_) (fun c_115 => ?_)
                  · have hhs : sl_hs n C E (nI j) pp = false := lp_hs_n etok c_115
                    refine lv_iconst (v := 0) hx hb dL_isFolded_122 (by decide) ?_
                    refine lv_istore (lv' := [(12, .int 0), (11, .int (C pp)), (0, .ref (α 0)), (1, .ref a1), (2, .ref a2), (3, .ref a6), (4, .int (nI j)), (5, .int (nI (sl_kn C))), (6, .int (nI pl)), (7, .int (sl_vs n C E (nI j) pp)), (8, .int (sl_la n C E (nI j) pp)), (9, .int 1), (10, .int (nI pp))]) hx hb dL_isFolded_123 hl (by decide) rfl (fun ls hl => ?_)
                    refine lv_iload hx hb dL_isFolded_125 (lv_at hl 9 rfl) ?_
                    refine lv_iload hx hb dL_isFolded_127 (lv_at hl 0 rfl) ?_
                    refine lv_if_eq (tgt := 146) hx hb dL_isFolded_129 (by decide) (fun c_129 => ?_) (fun c_129 => ?_)
                    · refine lv_iconst (v := 0) hx hb dL_isFolded_146 (by decide) ?_
                      refine lv_iadd hx hb dL_isFolded_147 ?_
                      refine lv_istore (lv' := [(7, .int ((sl_vs n C E (nI j) pp) + 0)), (12, .int 0), (11, .int (C pp)), (0, .ref (α 0)), (1, .ref a1), (2, .ref a2), (3, .ref a6), (4, .int (nI j)), (5, .int (nI (sl_kn C))), (6, .int (nI pl)), (8, .int (sl_la n C E (nI j) pp)), (9, .int 1), (10, .int (nI pp))]) hx hb dL_isFolded_148 hl (by decide) rfl (fun ls hl => ?_)
                      refine lv_iload hx hb dL_isFolded_150 (lv_at hl 1 rfl) ?_
                      refine lv_if_eq (tgt := 160) hx hb dL_isFolded_152 (by decide) (fun c_152 => ?_) (fun c_152 => ?_)
                      · refine lv_iload hx hb dL_isFolded_160 (lv_at hl 10 rfl) ?_
                        refine lv_istore (lv' := [(8, .int (sl_la n C E (nI j) pp)), (7, .int ((sl_vs n C E (nI j) pp) + 0)), (12, .int 0), (11, .int (C pp)), (0, .ref (α 0)), (1, .ref a1), (2, .ref a2), (3, .ref a6), (4, .int (nI j)), (5, .int (nI (sl_kn C))), (6, .int (nI pl)), (9, .int 1), (10, .int (nI pp))]) hx hb dL_isFolded_162 hl (by decide) rfl (fun ls hl => ?_)
                        refine lv_iload hx hb dL_isFolded_164 (lv_at hl 11 rfl) ?_
                        refine lv_if_eq (tgt := 232) hx hb dL_isFolded_166 (by decide) (fun c_166 => ?_) (fun c_166 => ?_)
                        · exact absurd c_166 (by decide)
                        · refine lv_iload hx hb dL_isFolded_169 (lv_at hl 3 rfl) ?_
                          refine lv_bipush (v := (-2)) hx hb dL_isFolded_171 (by decide) ?_
                          refine lv_icmp_eq (tgt := 232) hx hb dL_isFolded_173 (by decide) (fun c_173 => ?_) (fun c_173 => ?_)
                          · exact absurd c_173 (lp_kn_same hJ n_88).2.2
                          · refine lv_aload_n hx hb dL_isFolded_176 rfl (lv_at hl 4 rfl) ?_
                            refine lv_iconst (v := 1) hx hb dL_isFolded_177 (by decide) ?_
                            refine lv_iload hx hb dL_isFolded_178 (lv_at hl 12 rfl) ?_
                            refine sl_calli (sl_runV (As := [.int 1, .int (nI pp)]) (rest := []) hC hG (sl_nox (kX4_cellAt l hlt Γ gg α β n ep tl lo T C E hKg 1 (nI pp)) (fun E9 z => lp_ca (by decide) (by omega) z.2)) mi_X4_cellAt lk_RL_8 0 hKg.1 rfl rfl rfl ⟨Nat.le_of_ble_eq_true rfl, Nat.le_of_ble_eq_true rfl⟩ rfl hl.1 rfl (Nat.le_of_ble_eq_true rfl) dL_isFolded_180 ⟨(by show _ + _ ≤ 427; omega), (by show _ + _ ≤ 2562; omega)⟩) hG (fun r_180 u_180 H locs hr_180 hG => ?_)
                            refine sl_topi (y := C pp) (hr_180.2.trans ((lp_cg1 C (by omega)).trans (lp_kn_same hJ n_88).1)) ?_
                            refine lv_iload hx hb dL_isFolded_183 (lv_at hl 3 rfl) ?_
                            refine lv_icmp_ne (tgt := 232) hx hb dL_isFolded_185 (by decide) (fun c_185 => ?_) (fun c_185 => ?_)
                            · exact absurd rfl c_185
                            · refine lv_aload_n hx hb dL_isFolded_188 rfl (lv_at hl 4 rfl) ?_
                              refine lv_iconst (v := 2) hx hb dL_isFolded_189 (by decide) ?_
                              refine lv_iload hx hb dL_isFolded_190 (lv_at hl 12 rfl) ?_
                              refine sl_calli (sl_runV (As := [.int 2, .int (nI pp)]) (rest := []) hC hG (sl_nox (kX4_cellAt l hlt Γ gg α β n ep tl lo T C E hKg 2 (nI pp)) (fun E9 z => lp_ca (by decide) (by omega) z.2)) mi_X4_cellAt lk_RL_8 0 hKg.1 rfl rfl rfl ⟨Nat.le_of_ble_eq_true rfl, Nat.le_of_ble_eq_true rfl⟩ rfl hl.1 rfl (Nat.le_of_ble_eq_true rfl) dL_isFolded_192 ⟨(by show _ + _ ≤ 427; omega), (by show _ + _ ≤ 2562; omega)⟩) hG (fun r_192 u_192 H locs hr_192 hG => ?_)
                              refine sl_topi (y := C pp) (hr_192.2.trans ((lp_cg2 C (by omega)).trans (lp_kn_same hJ n_88).2.1)) ?_
                              refine lv_iload hx hb dL_isFolded_195 (lv_at hl 3 rfl) ?_
                              refine lv_icmp_ne (tgt := 232) hx hb dL_isFolded_197 (by decide) (fun c_197 => ?_) (fun c_197 => ?_)
                              · exact absurd rfl c_197
                              · refine lv_iload hx hb dL_isFolded_200 (lv_at hl 12 rfl) ?_
                                refine lv_iload hx hb dL_isFolded_202 (lv_at hl 10 rfl) ?_
                                refine lv_icmp_ne (tgt := 228) hx hb dL_isFolded_204 (by decide) (fun c_204 => ?_) (fun c_204 => ?_)
                                · have n_204 : ¬ (pp = pl) := fun z => c_204 ((nI_eq (a := pp) (b := pl) (by omega) (by omega)).mpr z)
                                  refine lv_iconst (v := 1) hx hb dL_isFolded_228 (by decide) ?_
                                  refine lv_goto (tgt := 233) hx hb dL_isFolded_229 (by decide) ?_
                                  refine lv_istore (lv' := [(9, .int 1), (8, .int (sl_la n C E (nI j) pp)), (7, .int ((sl_vs n C E (nI j) pp) + 0)), (12, .int 0), (11, .int (C pp)), (0, .ref (α 0)), (1, .ref a1), (2, .ref a2), (3, .ref a6), (4, .int (nI j)), (5, .int (nI (sl_kn C))), (6, .int (nI pl)), (10, .int (nI pp))]) hx hb dL_isFolded_233 hl (by decide) rfl (fun ls hl => ?_)
                                  refine lv_iinc (v := nI (pp + 1)) (lv' := [(10, .int (nI (pp + 1))), (9, .int 1), (8, .int (sl_la n C E (nI j) pp)), (7, .int ((sl_vs n C E (nI j) pp) + 0)), (12, .int 0), (11, .int (C pp)), (0, .ref (α 0)), (1, .ref a1), (2, .ref a2), (3, .ref a6), (4, .int (nI j)), (5, .int (nI (sl_kn C))), (6, .int (nI pl))]) hx hb dL_isFolded_235 hl (k := 12) rfl (nI_1 pp) (by decide) rfl (fun ls hl => ?_)
                                  refine lv_goto (tgt := 12) hx hb dL_isFolded_238 (by decide) ?_
                                  exact ih_12 (pp + 1) gg ((sl_vs n C E (nI j) pp) + 0) (sl_la n C E (nI j) pp) (((cs + 1) + 1) + 1) (((ss + 6) + 6) + 6) (by omega) (by omega) (by omega) (by omega) hKg hfg (fun _ => lp_vs_n hhs) (fun _ => lp_la_n hhs) _ _ hG _ (lv_sub hl [6, 7, 8, 9, 10, 11, 12, 3, 2, 1, 0] rfl)
                                · have n_204 : pp = pl := (nI_eq (a := pp) (b := pl) (by omega) (by omega)).mp c_204
                                  refine lv_aload_n hx hb dL_isFolded_207 rfl (lv_at hl 4 rfl) ?_
                                  refine lv_iload hx hb dL_isFolded_208 (lv_at hl 12 rfl) ?_
                                  refine sl_calli (sl_runV (As := [.int (nI pp)]) (rest := []) hC hG (sl_nox (kX4_takesEffect l hlt Γ gg α β n ep tl lo T C E hKg (nI pp)) (fun E9 z => lp_tk n_88 hkn z.2)) mi_X4_takesEffect lk_RL_23 0 hKg.1 rfl rfl rfl ⟨Nat.le_of_ble_eq_true rfl, Nat.le_of_ble_eq_true rfl⟩ rfl hl.1 rfl (Nat.le_of_ble_eq_true rfl) dL_isFolded_210 ⟨(by show _ + _ ≤ 427; omega), (by show _ + _ ≤ 2562; omega)⟩) hG (fun r_210 u_210 H locs hr_210 hG => ?_)
                                  have hG : sl_I Γ u_210 s H locs := hG
                                  have hK210 := hr_210.2.1
                                  have hf210 := sl_fr.tr hfg hr_210.2.2
                                  obtain ⟨⟨b9, y1, y2, y3⟩, -⟩ := hr_210
                                  have y7 : b9 = pp := (sl_nIne (by omega) (by omega) y1).symm
                                  refine sl_topi (y := sl_bi (sl_ev n C E pp)) (by rw [y3, y7]) ?_
                                  refine lv_aload_n hx hb dL_isFolded_213 rfl (lv_at hl 7 rfl) ?_
                                  refine lv_iload hx hb dL_isFolded_214 (lv_at hl 12 rfl) ?_
                                  refine sl_ialdN hC hG 46 ((hf210 46 (by decide) (by decide)).trans h46) (j := pp) rfl (by omega) (by omega) dL_isFolded_216 ?_
                                  refine sl_topi (y := lp_ef n C E pp) (hF pp n_88) ?_
                                  refine lv_if_le (tgt := 224) hx hb dL_isFolded_217 (by decide) (fun c_217 => ?_) (fun c_217 => ?_)
                                  · refine lv_iconst (v := 0) hx hb dL_isFolded_224 (by decide) ?_
                                    refine lv_icmp_ne (tgt := 232) hx hb dL_isFolded_225 (by decide) (fun c_225 => ?_) (fun c_225 => ?_)
                                    · exact absurd (lp_b0 (lp_ef_z hn9 c_217)) c_225
                                    · refine lv_iconst (v := 1) hx hb dL_isFolded_228 (by decide) ?_
                                      refine lv_goto (tgt := 233) hx hb dL_isFolded_229 (by decide) ?_
                                      refine lv_istore (lv' := [(9, .int 1), (8, .int (sl_la n C E (nI j) pp)), (7, .int ((sl_vs n C E (nI j) pp) + 0)), (12, .int 0), (11, .int (C pp)), (0, .ref (α 0)), (1, .ref a1), (2, .ref a2), (3, .ref a6), (4, .int (nI j)), (5, .int (nI (sl_kn C))), (6, .int (nI pl)), (10, .int (nI pp))]) hx hb dL_isFolded_233 hl (by decide) rfl (fun ls hl => ?_)
                                      refine lv_iinc (v := nI (pp + 1)) (lv' := [(10, .int (nI (pp + 1))), (9, .int 1), (8, .int (sl_la n C E (nI j) pp)), (7, .int ((sl_vs n C E (nI j) pp) + 0)), (12, .int 0), (11, .int (C pp)), (0, .ref (α 0)), (1, .ref a1), (2, .ref a2), (3, .ref a6), (4, .int (nI j)), (5, .int (nI (sl_kn C))), (6, .int (nI pl))]) hx hb dL_isFolded_235 hl (k := 12) rfl (nI_1 pp) (by decide) rfl (fun ls hl => ?_)
                                      refine lv_goto (tgt := 12) hx hb dL_isFolded_238 (by decide) ?_
                                      exact ih_12 (pp + 1) u_210 ((sl_vs n C E (nI j) pp) + 0) (sl_la n C E (nI j) pp) ((((cs + 1) + 1) + 1) + 1) ((((ss + 6) + 6) + 6) + 6) (by omega) (by omega) (by omega) (by omega) hK210 hf210 (fun _ => lp_vs_n hhs) (fun _ => lp_la_n hhs) _ _ hG _ (lv_sub hl [6, 7, 8, 9, 10, 11, 12, 3, 2, 1, 0] rfl)
                                  · refine lv_iconst (v := 1) hx hb dL_isFolded_220 (by decide) ?_
                                    refine lv_goto (tgt := 225) hx hb dL_isFolded_221 (by decide) ?_
                                    refine lv_icmp_ne (tgt := 232) hx hb dL_isFolded_225 (by decide) (fun c_225 => ?_) (fun c_225 => ?_)
                                    · exact absurd (lp_b1 (lp_ef_gt c_217)) c_225
                                    · refine lv_iconst (v := 1) hx hb dL_isFolded_228 (by decide) ?_
                                      refine lv_goto (tgt := 233) hx hb dL_isFolded_229 (by decide) ?_
                                      refine lv_istore (lv' := [(9, .int 1), (8, .int (sl_la n C E (nI j) pp)), (7, .int ((sl_vs n C E (nI j) pp) + 0)), (12, .int 0), (11, .int (C pp)), (0, .ref (α 0)), (1, .ref a1), (2, .ref a2), (3, .ref a6), (4, .int (nI j)), (5, .int (nI (sl_kn C))), (6, .int (nI pl)), (10, .int (nI pp))]) hx hb dL_isFolded_233 hl (by decide) rfl (fun ls hl => ?_)
                                      refine lv_iinc (v := nI (pp + 1)) (lv' := [(10, .int (nI (pp + 1))), (9, .int 1), (8, .int (sl_la n C E (nI j) pp)), (7, .int ((sl_vs n C E (nI j) pp) + 0)), (12, .int 0), (11, .int (C pp)), (0, .ref (α 0)), (1, .ref a1), (2, .ref a2), (3, .ref a6), (4, .int (nI j)), (5, .int (nI (sl_kn C))), (6, .int (nI pl))]) hx hb dL_isFolded_235 hl (k := 12) rfl (nI_1 pp) (by decide) rfl (fun ls hl => ?_)
                                      refine lv_goto (tgt := 12) hx hb dL_isFolded_238 (by decide) ?_
                                      exact ih_12 (pp + 1) u_210 ((sl_vs n C E (nI j) pp) + 0) (sl_la n C E (nI j) pp) ((((cs + 1) + 1) + 1) + 1) ((((ss + 6) + 6) + 6) + 6) (by omega) (by omega) (by omega) (by omega) hK210 hf210 (fun _ => lp_vs_n hhs) (fun _ => lp_la_n hhs) _ _ hG _ (lv_sub hl [6, 7, 8, 9, 10, 11, 12, 3, 2, 1, 0] rfl)
                      · exact absurd c_152 (by decide)
                    · exact absurd c_129 (by decide)
                  · have hhs : sl_hs n C E (nI j) pp = true := lp_hs_y etok c_115
                    refine lv_iconst (v := 1) hx hb dL_isFolded_118 (by decide) ?_
                    refine lv_goto (tgt := 123) hx hb dL_isFolded_119 (by decide) ?_
                    refine lv_istore (lv' := [(12, .int 1), (11, .int (C pp)), (0, .ref (α 0)), (1, .ref a1), (2, .ref a2), (3, .ref a6), (4, .int (nI j)), (5, .int (nI (sl_kn C))), (6, .int (nI pl)), (7, .int (sl_vs n C E (nI j) pp)), (8, .int (sl_la n C E (nI j) pp)), (9, .int 1), (10, .int (nI pp))]) hx hb dL_isFolded_123 hl (by decide) rfl (fun ls hl => ?_)
                    refine lv_iload hx hb dL_isFolded_125 (lv_at hl 9 rfl) ?_
                    refine lv_iload hx hb dL_isFolded_127 (lv_at hl 0 rfl) ?_
                    refine lv_if_eq (tgt := 146) hx hb dL_isFolded_129 (by decide) (fun c_129 => ?_) (fun c_129 => ?_)
                    · exact absurd c_129 (by decide)
                    · refine lv_aload_n hx hb dL_isFolded_132 rfl (lv_at hl 5 rfl) ?_
                      refine lv_iload hx hb dL_isFolded_133 (lv_at hl 12 rfl) ?_
                      refine sl_ialdN hC hG 46 ((hfg 46 (by decide) (by decide)).trans h46) (j := pp) rfl (by omega) (by omega) dL_isFolded_135 ?_
                      refine sl_topi (y := lp_ef n C E pp) (hF pp n_88) ?_
                      refine lv_if_le (tgt := 146) hx hb dL_isFolded_136 (by decide) (fun c_136 => ?_) (fun c_136 => ?_)
                      · refine lv_iconst (v := 0) hx hb dL_isFolded_146 (by decide) ?_
                        refine lv_iadd hx hb dL_isFolded_147 ?_
                        refine lv_istore (lv' := [(7, .int ((sl_vs n C E (nI j) pp) + 0)), (12, .int 1), (11, .int (C pp)), (0, .ref (α 0)), (1, .ref a1), (2, .ref a2), (3, .ref a6), (4, .int (nI j)), (5, .int (nI (sl_kn C))), (6, .int (nI pl)), (8, .int (sl_la n C E (nI j) pp)), (9, .int 1), (10, .int (nI pp))]) hx hb dL_isFolded_148 hl (by decide) rfl (fun ls hl => ?_)
                        refine lv_iload hx hb dL_isFolded_150 (lv_at hl 1 rfl) ?_
                        refine lv_if_eq (tgt := 160) hx hb dL_isFolded_152 (by decide) (fun c_152 => ?_) (fun c_152 => ?_)
                        · exact absurd c_152 (by decide)
                        · refine lv_iload hx hb dL_isFolded_155 (lv_at hl 12 rfl) ?_
                          refine lv_goto (tgt := 162) hx hb dL_isFolded_157 (by decide) ?_
                          refine lv_istore (lv' := [(8, .int (nI pp)), (7, .int ((sl_vs n C E (nI j) pp) + 0)), (12, .int 1), (11, .int (C pp)), (0, .ref (α 0)), (1, .ref a1), (2, .ref a2), (3, .ref a6), (4, .int (nI j)), (5, .int (nI (sl_kn C))), (6, .int (nI pl)), (9, .int 1), (10, .int (nI pp))]) hx hb dL_isFolded_162 hl (by decide) rfl (fun ls hl => ?_)
                          refine lv_iload hx hb dL_isFolded_164 (lv_at hl 11 rfl) ?_
                          refine lv_if_eq (tgt := 232) hx hb dL_isFolded_166 (by decide) (fun c_166 => ?_) (fun c_166 => ?_)
                          · exact absurd c_166 (by decide)
                          · refine lv_iload hx hb dL_isFolded_169 (lv_at hl 3 rfl) ?_
                            refine lv_bipush (v := (-2)) hx hb dL_isFolded_171 (by decide) ?_
                            refine lv_icmp_eq (tgt := 232) hx hb dL_isFolded_173 (by decide) (fun c_173 => ?_) (fun c_173 => ?_)
                            · exact absurd c_173 (lp_kn_same hJ n_88).2.2
                            · refine lv_aload_n hx hb dL_isFolded_176 rfl (lv_at hl 4 rfl) ?_
                              refine lv_iconst (v := 1) hx hb dL_isFolded_177 (by decide) ?_
                              refine lv_iload hx hb dL_isFolded_178 (lv_at hl 12 rfl) ?_
                              refine sl_calli (sl_runV (As := [.int 1, .int (nI pp)]) (rest := []) hC hG (sl_nox (kX4_cellAt l hlt Γ gg α β n ep tl lo T C E hKg 1 (nI pp)) (fun E9 z => lp_ca (by decide) (by omega) z.2)) mi_X4_cellAt lk_RL_8 0 hKg.1 rfl rfl rfl ⟨Nat.le_of_ble_eq_true rfl, Nat.le_of_ble_eq_true rfl⟩ rfl hl.1 rfl (Nat.le_of_ble_eq_true rfl) dL_isFolded_180 ⟨(by show _ + _ ≤ 427; omega), (by show _ + _ ≤ 2562; omega)⟩) hG (fun r_180 u_180 H locs hr_180 hG => ?_)
                              refine sl_topi (y := C pp) (hr_180.2.trans ((lp_cg1 C (by omega)).trans (lp_kn_same hJ n_88).1)) ?_
                              refine lv_iload hx hb dL_isFolded_183 (lv_at hl 3 rfl) ?_
                              refine lv_icmp_ne (tgt := 232) hx hb dL_isFolded_185 (by decide) (fun c_185 => ?_) (fun c_185 => ?_)
                              · exact absurd rfl c_185
                              · refine lv_aload_n hx hb dL_isFolded_188 rfl (lv_at hl 4 rfl) ?_
                                refine lv_iconst (v := 2) hx hb dL_isFolded_189 (by decide) ?_
                                refine lv_iload hx hb dL_isFolded_190 (lv_at hl 12 rfl) ?_
                                refine sl_calli (sl_runV (As := [.int 2, .int (nI pp)]) (rest := []) hC hG (sl_nox (kX4_cellAt l hlt Γ gg α β n ep tl lo T C E hKg 2 (nI pp)) (fun E9 z => lp_ca (by decide) (by omega) z.2)) mi_X4_cellAt lk_RL_8 0 hKg.1 rfl rfl rfl ⟨Nat.le_of_ble_eq_true rfl, Nat.le_of_ble_eq_true rfl⟩ rfl hl.1 rfl (Nat.le_of_ble_eq_true rfl) dL_isFolded_192 ⟨(by show _ + _ ≤ 427; omega), (by show _ + _ ≤ 2562; omega)⟩) hG (fun r_192 u_192 H locs hr_192 hG => ?_)
                                refine sl_topi (y := C pp) (hr_192.2.trans ((lp_cg2 C (by omega)).trans (lp_kn_same hJ n_88).2.1)) ?_
                                refine lv_iload hx hb dL_isFolded_195 (lv_at hl 3 rfl) ?_
                                refine lv_icmp_ne (tgt := 232) hx hb dL_isFolded_197 (by decide) (fun c_197 => ?_) (fun c_197 => ?_)
                                · exact absurd rfl c_197
                                · refine lv_iload hx hb dL_isFolded_200 (lv_at hl 12 rfl) ?_
                                  refine lv_iload hx hb dL_isFolded_202 (lv_at hl 10 rfl) ?_
                                  refine lv_icmp_ne (tgt := 228) hx hb dL_isFolded_204 (by decide) (fun c_204 => ?_) (fun c_204 => ?_)
                                  · have n_204 : ¬ (pp = pl) := fun z => c_204 ((nI_eq (a := pp) (b := pl) (by omega) (by omega)).mpr z)
                                    refine lv_iconst (v := 1) hx hb dL_isFolded_228 (by decide) ?_
                                    refine lv_goto (tgt := 233) hx hb dL_isFolded_229 (by decide) ?_
                                    refine lv_istore (lv' := [(9, .int 1), (8, .int (nI pp)), (7, .int ((sl_vs n C E (nI j) pp) + 0)), (12, .int 1), (11, .int (C pp)), (0, .ref (α 0)), (1, .ref a1), (2, .ref a2), (3, .ref a6), (4, .int (nI j)), (5, .int (nI (sl_kn C))), (6, .int (nI pl)), (10, .int (nI pp))]) hx hb dL_isFolded_233 hl (by decide) rfl (fun ls hl => ?_)
                                    refine lv_iinc (v := nI (pp + 1)) (lv' := [(10, .int (nI (pp + 1))), (9, .int 1), (8, .int (nI pp)), (7, .int ((sl_vs n C E (nI j) pp) + 0)), (12, .int 1), (11, .int (C pp)), (0, .ref (α 0)), (1, .ref a1), (2, .ref a2), (3, .ref a6), (4, .int (nI j)), (5, .int (nI (sl_kn C))), (6, .int (nI pl))]) hx hb dL_isFolded_235 hl (k := 12) rfl (nI_1 pp) (by decide) rfl (fun ls hl => ?_)
                                    refine lv_goto (tgt := 12) hx hb dL_isFolded_238 (by decide) ?_
                                    exact ih_12 (pp + 1) gg ((sl_vs n C E (nI j) pp) + 0) (nI pp) (((cs + 1) + 1) + 1) (((ss + 6) + 6) + 6) (by omega) (by omega) (by omega) (by omega) hKg hfg (fun _ => sl_vs_0 (lp_ef_z hn9 c_136)) (fun _ => lp_la_y hhs) _ _ hG _ (lv_sub hl [6, 7, 8, 9, 10, 11, 12, 3, 2, 1, 0] rfl)
                                  · have n_204 : pp = pl := (nI_eq (a := pp) (b := pl) (by omega) (by omega)).mp c_204
                                    refine lv_aload_n hx hb dL_isFolded_207 rfl (lv_at hl 4 rfl) ?_
                                    refine lv_iload hx hb dL_isFolded_208 (lv_at hl 12 rfl) ?_
                                    refine sl_calli (sl_runV (As := [.int (nI pp)]) (rest := []) hC hG (sl_nox (kX4_takesEffect l hlt Γ gg α β n ep tl lo T C E hKg (nI pp)) (fun E9 z => lp_tk n_88 hkn z.2)) mi_X4_takesEffect lk_RL_23 0 hKg.1 rfl rfl rfl ⟨Nat.le_of_ble_eq_true rfl, Nat.le_of_ble_eq_true rfl⟩ rfl hl.1 rfl (Nat.le_of_ble_eq_true rfl) dL_isFolded_210 ⟨(by show _ + _ ≤ 427; omega), (by show _ + _ ≤ 2562; omega)⟩) hG (fun r_210 u_210 H locs hr_210 hG => ?_)
                                    have hG : sl_I Γ u_210 s H locs := hG
                                    have hK210 := hr_210.2.1
                                    have hf210 := sl_fr.tr hfg hr_210.2.2
                                    obtain ⟨⟨b9, y1, y2, y3⟩, -⟩ := hr_210
                                    have y7 : b9 = pp := (sl_nIne (by omega) (by omega) y1).symm
                                    refine sl_topi (y := sl_bi (sl_ev n C E pp)) (by rw [y3, y7]) ?_
                                    refine lv_aload_n hx hb dL_isFolded_213 rfl (lv_at hl 7 rfl) ?_
                                    refine lv_iload hx hb dL_isFolded_214 (lv_at hl 12 rfl) ?_
                                    refine sl_ialdN hC hG 46 ((hf210 46 (by decide) (by decide)).trans h46) (j := pp) rfl (by omega) (by omega) dL_isFolded_216 ?_
                                    refine sl_topi (y := lp_ef n C E pp) (hF pp n_88) ?_
                                    refine lv_if_le (tgt := 224) hx hb dL_isFolded_217 (by decide) (fun c_217 => ?_) (fun c_217 => ?_)
                                    · refine lv_iconst (v := 0) hx hb dL_isFolded_224 (by decide) ?_
                                      refine lv_icmp_ne (tgt := 232) hx hb dL_isFolded_225 (by decide) (fun c_225 => ?_) (fun c_225 => ?_)
                                      · exact absurd (lp_b0 (lp_ef_z hn9 c_217)) c_225
                                      · refine lv_iconst (v := 1) hx hb dL_isFolded_228 (by decide) ?_
                                        refine lv_goto (tgt := 233) hx hb dL_isFolded_229 (by decide) ?_
                                        refine lv_istore (lv' := [(9, .int 1), (8, .int (nI pp)), (7, .int ((sl_vs n C E (nI j) pp) + 0)), (12, .int 1), (11, .int (C pp)), (0, .ref (α 0)), (1, .ref a1), (2, .ref a2), (3, .ref a6), (4, .int (nI j)), (5, .int (nI (sl_kn C))), (6, .int (nI pl)), (10, .int (nI pp))]) hx hb dL_isFolded_233 hl (by decide) rfl (fun ls hl => ?_)
                                        refine lv_iinc (v := nI (pp + 1)) (lv' := [(10, .int (nI (pp + 1))), (9, .int 1), (8, .int (nI pp)), (7, .int ((sl_vs n C E (nI j) pp) + 0)), (12, .int 1), (11, .int (C pp)), (0, .ref (α 0)), (1, .ref a1), (2, .ref a2), (3, .ref a6), (4, .int (nI j)), (5, .int (nI (sl_kn C))), (6, .int (nI pl))]) hx hb dL_isFolded_235 hl (k := 12) rfl (nI_1 pp) (by decide) rfl (fun ls hl => ?_)
                                        refine lv_goto (tgt := 12) hx hb dL_isFolded_238 (by decide) ?_
                                        exact ih_12 (pp + 1) u_210 ((sl_vs n C E (nI j) pp) + 0) (nI pp) ((((cs + 1) + 1) + 1) + 1) ((((ss + 6) + 6) + 6) + 6) (by omega) (by omega) (by omega) (by omega) hK210 hf210 (fun _ => sl_vs_0 (lp_ef_z hn9 c_136)) (fun _ => lp_la_y hhs) _ _ hG _ (lv_sub hl [6, 7, 8, 9, 10, 11, 12, 3, 2, 1, 0] rfl)
                                    · refine lv_iconst (v := 1) hx hb dL_isFolded_220 (by decide) ?_
                                      refine lv_goto (tgt := 225) hx hb dL_isFolded_221 (by decide) ?_
                                      refine lv_icmp_ne (tgt := 232) hx hb dL_isFolded_225 (by decide) (fun c_225 => ?_) (fun c_225 => ?_)
                                      · exact absurd (lp_b1 (lp_ef_gt c_217)) c_225
                                      · refine lv_iconst (v := 1) hx hb dL_isFolded_228 (by decide) ?_
                                        refine lv_goto (tgt := 233) hx hb dL_isFolded_229 (by decide) ?_
                                        refine lv_istore (lv' := [(9, .int 1), (8, .int (nI pp)), (7, .int ((sl_vs n C E (nI j) pp) + 0)), (12, .int 1), (11, .int (C pp)), (0, .ref (α 0)), (1, .ref a1), (2, .ref a2), (3, .ref a6), (4, .int (nI j)), (5, .int (nI (sl_kn C))), (6, .int (nI pl)), (10, .int (nI pp))]) hx hb dL_isFolded_233 hl (by decide) rfl (fun ls hl => ?_)
                                        refine lv_iinc (v := nI (pp + 1)) (lv' := [(10, .int (nI (pp + 1))), (9, .int 1), (8, .int (nI pp)), (7, .int ((sl_vs n C E (nI j) pp) + 0)), (12, .int 1), (11, .int (C pp)), (0, .ref (α 0)), (1, .ref a1), (2, .ref a2), (3, .ref a6), (4, .int (nI j)), (5, .int (nI (sl_kn C))), (6, .int (nI pl))]) hx hb dL_isFolded_235 hl (k := 12) rfl (nI_1 pp) (by decide) rfl (fun ls hl => ?_)
                                        refine lv_goto (tgt := 12) hx hb dL_isFolded_238 (by decide) ?_
                                        exact ih_12 (pp + 1) u_210 ((sl_vs n C E (nI j) pp) + 0) (nI pp) ((((cs + 1) + 1) + 1) + 1) ((((ss + 6) + 6) + 6) + 6) (by omega) (by omega) (by omega) (by omega) hK210 hf210 (fun _ => sl_vs_0 (lp_ef_z hn9 c_136)) (fun _ => lp_la_y hhs) _ _ hG _ (lv_sub hl [6, 7, 8, 9, 10, 11, 12, 3, 2, 1, 0] rfl)
                      · refine lv_aload_n hx hb dL_isFolded_139 rfl (lv_at hl 4 rfl) ?_
                        refine lv_iload hx hb dL_isFolded_140 (lv_at hl 1 rfl) ?_
                        refine sl_ialdN hC hG 42 ((hfg 42 (by decide) (by decide)).trans h42) (j := t) et (by omega) (by omega) dL_isFolded_142 ?_
                        refine sl_topi (y := (E t).2.2.2.1) (hA t ht) ?_
                        refine lv_goto (tgt := 147) hx hb dL_isFolded_143 (by decide) ?_
                        refine lv_iadd hx hb dL_isFolded_147 ?_
                        refine lv_istore (lv' := [(7, .int ((sl_vs n C E (nI j) pp) + ((E t).2.2.2.1))), (12, .int 1), (11, .int (C pp)), (0, .ref (α 0)), (1, .ref a1), (2, .ref a2), (3, .ref a6), (4, .int (nI j)), (5, .int (nI (sl_kn C))), (6, .int (nI pl)), (8, .int (sl_la n C E (nI j) pp)), (9, .int 1), (10, .int (nI pp))]) hx hb dL_isFolded_148 hl (by decide) rfl (fun ls hl => ?_)
                        refine lv_iload hx hb dL_isFolded_150 (lv_at hl 1 rfl) ?_
                        refine lv_if_eq (tgt := 160) hx hb dL_isFolded_152 (by decide) (fun c_152 => ?_) (fun c_152 => ?_)
                        · exact absurd c_152 (by decide)
                        · refine lv_iload hx hb dL_isFolded_155 (lv_at hl 12 rfl) ?_
                          refine lv_goto (tgt := 162) hx hb dL_isFolded_157 (by decide) ?_
                          refine lv_istore (lv' := [(8, .int (nI pp)), (7, .int ((sl_vs n C E (nI j) pp) + ((E t).2.2.2.1))), (12, .int 1), (11, .int (C pp)), (0, .ref (α 0)), (1, .ref a1), (2, .ref a2), (3, .ref a6), (4, .int (nI j)), (5, .int (nI (sl_kn C))), (6, .int (nI pl)), (9, .int 1), (10, .int (nI pp))]) hx hb dL_isFolded_162 hl (by decide) rfl (fun ls hl => ?_)
                          refine lv_iload hx hb dL_isFolded_164 (lv_at hl 11 rfl) ?_
                          refine lv_if_eq (tgt := 232) hx hb dL_isFolded_166 (by decide) (fun c_166 => ?_) (fun c_166 => ?_)
                          · exact absurd c_166 (by decide)
                          · refine lv_iload hx hb dL_isFolded_169 (lv_at hl 3 rfl) ?_
                            refine lv_bipush (v := (-2)) hx hb dL_isFolded_171 (by decide) ?_
                            refine lv_icmp_eq (tgt := 232) hx hb dL_isFolded_173 (by decide) (fun c_173 => ?_) (fun c_173 => ?_)
                            · exact absurd c_173 (lp_kn_same hJ n_88).2.2
                            · refine lv_aload_n hx hb dL_isFolded_176 rfl (lv_at hl 4 rfl) ?_
                              refine lv_iconst (v := 1) hx hb dL_isFolded_177 (by decide) ?_
                              refine lv_iload hx hb dL_isFolded_178 (lv_at hl 12 rfl) ?_
                              refine sl_calli (sl_runV (As := [.int 1, .int (nI pp)]) (rest := []) hC hG (sl_nox (kX4_cellAt l hlt Γ gg α β n ep tl lo T C E hKg 1 (nI pp)) (fun E9 z => lp_ca (by decide) (by omega) z.2)) mi_X4_cellAt lk_RL_8 0 hKg.1 rfl rfl rfl ⟨Nat.le_of_ble_eq_true rfl, Nat.le_of_ble_eq_true rfl⟩ rfl hl.1 rfl (Nat.le_of_ble_eq_true rfl) dL_isFolded_180 ⟨(by show _ + _ ≤ 427; omega), (by show _ + _ ≤ 2562; omega)⟩) hG (fun r_180 u_180 H locs hr_180 hG => ?_)
                              refine sl_topi (y := C pp) (hr_180.2.trans ((lp_cg1 C (by omega)).trans (lp_kn_same hJ n_88).1)) ?_
                              refine lv_iload hx hb dL_isFolded_183 (lv_at hl 3 rfl) ?_
                              refine lv_icmp_ne (tgt := 232) hx hb dL_isFolded_185 (by decide) (fun c_185 => ?_) (fun c_185 => ?_)
                              · exact absurd rfl c_185
                              · refine lv_aload_n hx hb dL_isFolded_188 rfl (lv_at hl 4 rfl) ?_
                                refine lv_iconst (v := 2) hx hb dL_isFolded_189 (by decide) ?_
                                refine lv_iload hx hb dL_isFolded_190 (lv_at hl 12 rfl) ?_
                                refine sl_calli (sl_runV (As := [.int 2, .int (nI pp)]) (rest := []) hC hG (sl_nox (kX4_cellAt l hlt Γ gg α β n ep tl lo T C E hKg 2 (nI pp)) (fun E9 z => lp_ca (by decide) (by omega) z.2)) mi_X4_cellAt lk_RL_8 0 hKg.1 rfl rfl rfl ⟨Nat.le_of_ble_eq_true rfl, Nat.le_of_ble_eq_true rfl⟩ rfl hl.1 rfl (Nat.le_of_ble_eq_true rfl) dL_isFolded_192 ⟨(by show _ + _ ≤ 427; omega), (by show _ + _ ≤ 2562; omega)⟩) hG (fun r_192 u_192 H locs hr_192 hG => ?_)
                                refine sl_topi (y := C pp) (hr_192.2.trans ((lp_cg2 C (by omega)).trans (lp_kn_same hJ n_88).2.1)) ?_
                                refine lv_iload hx hb dL_isFolded_195 (lv_at hl 3 rfl) ?_
                                refine lv_icmp_ne (tgt := 232) hx hb dL_isFolded_197 (by decide) (fun c_197 => ?_) (fun c_197 => ?_)
                                · exact absurd rfl c_197
                                · refine lv_iload hx hb dL_isFolded_200 (lv_at hl 12 rfl) ?_
                                  refine lv_iload hx hb dL_isFolded_202 (lv_at hl 10 rfl) ?_
                                  refine lv_icmp_ne (tgt := 228) hx hb dL_isFolded_204 (by decide) (fun c_204 => ?_) (fun c_204 => ?_)
                                  · have n_204 : ¬ (pp = pl) := fun z => c_204 ((nI_eq (a := pp) (b := pl) (by omega) (by omega)).mpr z)
                                    refine lv_iconst (v := 1) hx hb dL_isFolded_228 (by decide) ?_
                                    refine lv_goto (tgt := 233) hx hb dL_isFolded_229 (by decide) ?_
                                    refine lv_istore (lv' := [(9, .int 1), (8, .int (nI pp)), (7, .int ((sl_vs n C E (nI j) pp) + ((E t).2.2.2.1))), (12, .int 1), (11, .int (C pp)), (0, .ref (α 0)), (1, .ref a1), (2, .ref a2), (3, .ref a6), (4, .int (nI j)), (5, .int (nI (sl_kn C))), (6, .int (nI pl)), (10, .int (nI pp))]) hx hb dL_isFolded_233 hl (by decide) rfl (fun ls hl => ?_)
                                    refine lv_iinc (v := nI (pp + 1)) (lv' := [(10, .int (nI (pp + 1))), (9, .int 1), (8, .int (nI pp)), (7, .int ((sl_vs n C E (nI j) pp) + ((E t).2.2.2.1))), (12, .int 1), (11, .int (C pp)), (0, .ref (α 0)), (1, .ref a1), (2, .ref a2), (3, .ref a6), (4, .int (nI j)), (5, .int (nI (sl_kn C))), (6, .int (nI pl))]) hx hb dL_isFolded_235 hl (k := 12) rfl (nI_1 pp) (by decide) rfl (fun ls hl => ?_)
                                    refine lv_goto (tgt := 12) hx hb dL_isFolded_238 (by decide) ?_
                                    exact ih_12 (pp + 1) gg ((sl_vs n C E (nI j) pp) + ((E t).2.2.2.1)) (nI pp) (((cs + 1) + 1) + 1) (((ss + 6) + 6) + 6) (by omega) (by omega) (by omega) (by omega) hKg hfg (fun _ => lp_vs_y etok (lp_ef_gt c_136) hhs) (fun _ => lp_la_y hhs) _ _ hG _ (lv_sub hl [6, 7, 8, 9, 10, 11, 12, 3, 2, 1, 0] rfl)
                                  · have n_204 : pp = pl := (nI_eq (a := pp) (b := pl) (by omega) (by omega)).mp c_204
                                    refine lv_aload_n hx hb dL_isFolded_207 rfl (lv_at hl 4 rfl) ?_
                                    refine lv_iload hx hb dL_isFolded_208 (lv_at hl 12 rfl) ?_
                                    refine sl_calli (sl_runV (As := [.int (nI pp)]) (rest := []) hC hG (sl_nox (kX4_takesEffect l hlt Γ gg α β n ep tl lo T C E hKg (nI pp)) (fun E9 z => lp_tk n_88 hkn z.2)) mi_X4_takesEffect lk_RL_23 0 hKg.1 rfl rfl rfl ⟨Nat.le_of_ble_eq_true rfl, Nat.le_of_ble_eq_true rfl⟩ rfl hl.1 rfl (Nat.le_of_ble_eq_true rfl) dL_isFolded_210 ⟨(by show _ + _ ≤ 427; omega), (by show _ + _ ≤ 2562; omega)⟩) hG (fun r_210 u_210 H locs hr_210 hG => ?_)
                                    have hG : sl_I Γ u_210 s H locs := hG
                                    have hK210 := hr_210.2.1
                                    have hf210 := sl_fr.tr hfg hr_210.2.2
                                    obtain ⟨⟨b9, y1, y2, y3⟩, -⟩ := hr_210
                                    have y7 : b9 = pp := (sl_nIne (by omega) (by omega) y1).symm
                                    refine sl_topi (y := sl_bi (sl_ev n C E pp)) (by rw [y3, y7]) ?_
                                    refine lv_aload_n hx hb dL_isFolded_213 rfl (lv_at hl 7 rfl) ?_
                                    refine lv_iload hx hb dL_isFolded_214 (lv_at hl 12 rfl) ?_
                                    refine sl_ialdN hC hG 46 ((hf210 46 (by decide) (by decide)).trans h46) (j := pp) rfl (by omega) (by omega) dL_isFolded_216 ?_
                                    refine sl_topi (y := lp_ef n C E pp) (hF pp n_88) ?_
                                    refine lv_if_le (tgt := 224) hx hb dL_isFolded_217 (by decide) (fun c_217 => ?_) (fun c_217 => ?_)
                                    · refine lv_iconst (v := 0) hx hb dL_isFolded_224 (by decide) ?_
                                      refine lv_icmp_ne (tgt := 232) hx hb dL_isFolded_225 (by decide) (fun c_225 => ?_) (fun c_225 => ?_)
                                      · exact absurd (lp_b0 (lp_ef_z hn9 c_217)) c_225
                                      · refine lv_iconst (v := 1) hx hb dL_isFolded_228 (by decide) ?_
                                        refine lv_goto (tgt := 233) hx hb dL_isFolded_229 (by decide) ?_
                                        refine lv_istore (lv' := [(9, .int 1), (8, .int (nI pp)), (7, .int ((sl_vs n C E (nI j) pp) + ((E t).2.2.2.1))), (12, .int 1), (11, .int (C pp)), (0, .ref (α 0)), (1, .ref a1), (2, .ref a2), (3, .ref a6), (4, .int (nI j)), (5, .int (nI (sl_kn C))), (6, .int (nI pl)), (10, .int (nI pp))]) hx hb dL_isFolded_233 hl (by decide) rfl (fun ls hl => ?_)
                                        refine lv_iinc (v := nI (pp + 1)) (lv' := [(10, .int (nI (pp + 1))), (9, .int 1), (8, .int (nI pp)), (7, .int ((sl_vs n C E (nI j) pp) + ((E t).2.2.2.1))), (12, .int 1), (11, .int (C pp)), (0, .ref (α 0)), (1, .ref a1), (2, .ref a2), (3, .ref a6), (4, .int (nI j)), (5, .int (nI (sl_kn C))), (6, .int (nI pl))]) hx hb dL_isFolded_235 hl (k := 12) rfl (nI_1 pp) (by decide) rfl (fun ls hl => ?_)
                                        refine lv_goto (tgt := 12) hx hb dL_isFolded_238 (by decide) ?_
                                        exact ih_12 (pp + 1) u_210 ((sl_vs n C E (nI j) pp) + ((E t).2.2.2.1)) (nI pp) ((((cs + 1) + 1) + 1) + 1) ((((ss + 6) + 6) + 6) + 6) (by omega) (by omega) (by omega) (by omega) hK210 hf210 (fun _ => lp_vs_y etok (lp_ef_gt c_136) hhs) (fun _ => lp_la_y hhs) _ _ hG _ (lv_sub hl [6, 7, 8, 9, 10, 11, 12, 3, 2, 1, 0] rfl)
                                    · refine lv_iconst (v := 1) hx hb dL_isFolded_220 (by decide) ?_
                                      refine lv_goto (tgt := 225) hx hb dL_isFolded_221 (by decide) ?_
                                      refine lv_icmp_ne (tgt := 232) hx hb dL_isFolded_225 (by decide) (fun c_225 => ?_) (fun c_225 => ?_)
                                      · exact absurd (lp_b1 (lp_ef_gt c_217)) c_225
                                      · refine lv_iconst (v := 1) hx hb dL_isFolded_228 (by decide) ?_
                                        refine lv_goto (tgt := 233) hx hb dL_isFolded_229 (by decide) ?_
                                        refine lv_istore (lv' := [(9, .int 1), (8, .int (nI pp)), (7, .int ((sl_vs n C E (nI j) pp) + ((E t).2.2.2.1))), (12, .int 1), (11, .int (C pp)), (0, .ref (α 0)), (1, .ref a1), (2, .ref a2), (3, .ref a6), (4, .int (nI j)), (5, .int (nI (sl_kn C))), (6, .int (nI pl)), (10, .int (nI pp))]) hx hb dL_isFolded_233 hl (by decide) rfl (fun ls hl => ?_)
                                        refine lv_iinc (v := nI (pp + 1)) (lv' := [(10, .int (nI (pp + 1))), (9, .int 1), (8, .int (nI pp)), (7, .int ((sl_vs n C E (nI j) pp) + ((E t).2.2.2.1))), (12, .int 1), (11, .int (C pp)), (0, .ref (α 0)), (1, .ref a1), (2, .ref a2), (3, .ref a6), (4, .int (nI j)), (5, .int (nI (sl_kn C))), (6, .int (nI pl))]) hx hb dL_isFolded_235 hl (k := 12) rfl (nI_1 pp) (by decide) rfl (fun ls hl => ?_)
                                        refine lv_goto (tgt := 12) hx hb dL_isFolded_238 (by decide) ?_
                                        exact ih_12 (pp + 1) u_210 ((sl_vs n C E (nI j) pp) + ((E t).2.2.2.1)) (nI pp) ((((cs + 1) + 1) + 1) + 1) ((((ss + 6) + 6) + 6) + 6) (by omega) (by omega) (by omega) (by omega) hK210 hf210 (fun _ => lp_vs_y etok (lp_ef_gt c_136) hhs) (fun _ => lp_la_y hhs) _ _ hG _ (lv_sub hl [6, 7, 8, 9, 10, 11, 12, 3, 2, 1, 0] rfl)
            · have n_35 : pp = sl_kn C := (nI_eq (a := pp) (b := sl_kn C) (by omega) (by omega)).mp c_35
              refine lv_aload_n hx hb dL_isFolded_38 rfl (lv_at hl 0 rfl) ?_
              refine lv_iload hx hb dL_isFolded_39 (lv_at hl 4 rfl) ?_
              refine lv_iload hx hb dL_isFolded_41 (lv_at hl 10 rfl) ?_
              refine sl_calli (sl_runV (As := [.int (nI j), .int (nI pp)]) (rest := []) hC hG (sl_nox (kX4_value l hlt Γ gg α β n ep tl lo T C E hKg (nI j) (nI pp)) (fun E9 z => lp_vk hj (by omega) hkn z.2)) mi_X4_value lk_RL_14 0 hKg.1 rfl rfl rfl ⟨Nat.le_of_ble_eq_true rfl, Nat.le_of_ble_eq_true rfl⟩ rfl hl.1 rfl (Nat.le_of_ble_eq_true rfl) dL_isFolded_43 ⟨(by show _ + _ ≤ 427; omega), (by show _ + _ ≤ 2562; omega)⟩) hG (fun r_43 u_43 H locs hr_43 hG => ?_)
              have hG : sl_I Γ u_43 s H locs := hG
              have hK43 := hr_43.2.1
              have hf43 := sl_fr.tr hfg hr_43.2.2
              refine sl_topi (y := sl_vs n C E (nI j) pp) (hr_43.1.2.trans (by rw [nI_clamp (by omega)])) ?_
              refine lv_iload hx hb dL_isFolded_46 (lv_at hl 7 rfl) ?_
              refine lv_icmp_ne (tgt := 81) hx hb dL_isFolded_48 (by decide) (fun c_48 => ?_) (fun c_48 => ?_)
              · exact absurd rfl c_48
              · refine lv_aload_n hx hb dL_isFolded_51 rfl (lv_at hl 0 rfl) ?_
                refine lv_iload hx hb dL_isFolded_52 (lv_at hl 4 rfl) ?_
                refine lv_iload hx hb dL_isFolded_54 (lv_at hl 10 rfl) ?_
                refine sl_calli (sl_runV (As := [.int (nI j), .int (nI pp)]) (rest := []) hC hG (sl_nox (kX4_valueByPointers l hlt Γ u_43 α β n ep tl lo T C E hK43 hJ.hP (hJ.hPP hw) (nI j) (nI pp)) (fun E9 z => lp_vk hj (by omega) hkn z.2)) mi_X4_valueByPointers lk_RL_17 0 hK43.1 rfl rfl rfl ⟨Nat.le_of_ble_eq_true rfl, Nat.le_of_ble_eq_true rfl⟩ rfl hl.1 rfl (Nat.le_of_ble_eq_true rfl) dL_isFolded_56 ⟨(by show _ + _ ≤ 427; omega), (by show _ + _ ≤ 2562; omega)⟩) hG (fun r_56 u_56 H locs hr_56 hG => ?_)
                obtain ⟨⟨j0, y1, y2, y3, y4⟩, y5, y6⟩ := hr_56
                have y7 : j = j0 := sl_nIne (by omega) (by omega) y1
                subst y7
                have hG : sl_I Γ u_56 s H locs := hG
                have hK56 := y5
                have hf56 := sl_fr.tr hf43 y6
                refine sl_topi (y := sl_vs n C E (nI j) pp) (y4.trans (by rw [nI_clamp (by omega)]; exact hJ.vp hw hj (by omega))) ?_
                refine lv_iload hx hb dL_isFolded_59 (lv_at hl 7 rfl) ?_
                refine lv_icmp_ne (tgt := 81) hx hb dL_isFolded_61 (by decide) (fun c_61 => ?_) (fun c_61 => ?_)
                · exact absurd rfl c_61
                · refine lv_aload_n hx hb dL_isFolded_64 rfl (lv_at hl 0 rfl) ?_
                  refine lv_iload hx hb dL_isFolded_65 (lv_at hl 4 rfl) ?_
                  refine lv_iload hx hb dL_isFolded_67 (lv_at hl 10 rfl) ?_
                  refine sl_calli (sl_runV (As := [.int (nI j), .int (nI pp)]) (rest := []) hC hG (sl_nox (kX4_latest l hlt Γ u_56 α β n ep tl lo T C E hK56 (nI j) (nI pp)) (fun E9 z => lp_vk hj (by omega) hkn z.2)) mi_X4_latest lk_RL_20 0 hK56.1 rfl rfl rfl ⟨Nat.le_of_ble_eq_true rfl, Nat.le_of_ble_eq_true rfl⟩ rfl hl.1 rfl (Nat.le_of_ble_eq_true rfl) dL_isFolded_69 ⟨(by show _ + _ ≤ 427; omega), (by show _ + _ ≤ 2562; omega)⟩) hG (fun r_69 u_69 H locs hr_69 hG => ?_)
                  refine sl_topi (y := sl_la n C E (nI j) pp) (hr_69.2.trans (by rw [nI_clamp (by omega)])) ?_
                  refine lv_iload hx hb dL_isFolded_72 (lv_at hl 8 rfl) ?_
                  refine lv_icmp_ne (tgt := 81) hx hb dL_isFolded_74 (by decide) (fun c_74 => ?_) (fun c_74 => ?_)
                  · exact absurd rfl c_74
                  · refine lv_iconst (v := 1) hx hb dL_isFolded_77 (by decide) ?_
                    refine lv_goto (tgt := 82) hx hb dL_isFolded_78 (by decide) ?_
                    refine lv_istore (lv' := [(9, .int 1), (0, .ref (α 0)), (1, .ref a1), (2, .ref a2), (3, .ref a6), (4, .int (nI j)), (5, .int (nI (sl_kn C))), (6, .int (nI pl)), (7, .int (sl_vs n C E (nI j) pp)), (8, .int (sl_la n C E (nI j) pp)), (10, .int (nI pp))]) hx hb dL_isFolded_82 hl (by decide) rfl (fun ls hl => ?_)
                    refine lv_iload hx hb dL_isFolded_84 (lv_at hl 10 rfl) ?_
                    refine lv_iload hx hb dL_isFolded_86 (lv_at hl 6 rfl) ?_
                    refine lv_icmp_ge (tgt := 235) hx hb dL_isFolded_88 (by decide) (fun c_88 => ?_) (fun c_88 => ?_)
                    · have n_88 : sl_kn C ≤ pp := (nI_leI (a := sl_kn C) (b := pp) (by omega) (by omega)).mp c_88
                      refine lv_iinc (v := nI (pp + 1)) (lv' := [(10, .int (nI (pp + 1))), (9, .int 1), (0, .ref (α 0)), (1, .ref a1), (2, .ref a2), (3, .ref a6), (4, .int (nI j)), (5, .int (nI (sl_kn C))), (6, .int (nI pl)), (7, .int (sl_vs n C E (nI j) pp)), (8, .int (sl_la n C E (nI j) pp))]) hx hb dL_isFolded_235 hl (k := 10) rfl (nI_1 pp) (by decide) rfl (fun ls hl => ?_)
                      refine lv_goto (tgt := 12) hx hb dL_isFolded_238 (by decide) ?_
                      exact ih_12 (pp + 1) u_56 (sl_vs n C E (nI j) pp) (sl_la n C E (nI j) pp) (((cs + 1) + 1) + 1) (((ss + 6) + 6) + 6) (by omega) (by omega) (by omega) (by omega) hK56 hf56 (fun z => absurd z (by omega)) (fun z => absurd z (by omega)) _ _ hG _ (lv_sub hl [2, 3, 4, 5, 6, 7, 8, 9, 10, 1, 0] rfl)
                    · have n_88 : ¬ (sl_kn C ≤ pp) := fun z => c_88 ((nI_leI (a := sl_kn C) (b := pp) (by omega) (by omega)).mpr z)
                      have n_88 : pp < sl_kn C := Nat.lt_of_not_le n_88
                      refine lv_aload_n hx hb dL_isFolded_91 rfl (lv_at hl 1 rfl) ?_
                      refine lv_iconst (v := 0) hx hb dL_isFolded_92 (by decide) ?_
                      refine lv_iload hx hb dL_isFolded_93 (lv_at hl 10 rfl) ?_
                      refine sl_calli (sl_runV (As := [.int 0, .int (nI pp)]) (rest := []) hC hG (sl_nox (kX4_cellAt l hlt Γ u_56 α β n ep tl lo T C E hK56 0 (nI pp)) (fun E9 z => lp_ca (by decide) (by omega) z.2)) mi_X4_cellAt lk_RL_8 0 hK56.1 rfl rfl rfl ⟨Nat.le_of_ble_eq_true rfl, Nat.le_of_ble_eq_true rfl⟩ rfl hl.1 rfl (Nat.le_of_ble_eq_true rfl) dL_isFolded_95 ⟨(by show _ + _ ≤ 427; omega), (by show _ + _ ≤ 2562; omega)⟩) hG (fun r_95 u_95 H locs hr_95 hG => ?_)
                      refine sl_topi (y := C pp) (hr_95.2.trans (sl_cg0 C (by omega))) ?_
                      refine lv_istore (lv' := [(11, .int (C pp)), (9, .int 1), (0, .ref (α 0)), (1, .ref a1), (2, .ref a2), (3, .ref a6), (4, .int (nI j)), (5, .int (nI (sl_kn C))), (6, .int (nI pl)), (7, .int (sl_vs n C E (nI j) pp)), (8, .int (sl_la n C E (nI j) pp)), (10, .int (nI pp))]) hx hb dL_isFolded_98 hl (by decide) rfl (fun ls hl => ?_)
                      refine lv_iload hx hb dL_isFolded_100 (lv_at hl 0 rfl) ?_
                      refine lv_if_lt (tgt := 122) hx hb dL_isFolded_102 (by decide) (fun c_102 => ?_) (fun c_102 => ?_)
                      · have etok : sl_tok n (C pp) = none := sl_ce_neg hn9 (hw.2.2.1 pp (by omega)) c_102
                        have hhs : sl_hs n C E (nI j) pp = false := sl_hs_0 etok
                        refine lv_iconst (v := 0) hx hb dL_isFolded_122 (by decide) ?_
                        refine lv_istore (lv' := [(12, .int 0), (11, .int (C pp)), (9, .int 1), (0, .ref (α 0)), (1, .ref a1), (2, .ref a2), (3, .ref a6), (4, .int (nI j)), (5, .int (nI (sl_kn C))), (6, .int (nI pl)), (7, .int (sl_vs n C E (nI j) pp)), (8, .int (sl_la n C E (nI j) pp)), (10, .int (nI pp))]) hx hb dL_isFolded_123 hl (by decide) rfl (fun ls hl => ?_)
                        refine lv_iload hx hb dL_isFolded_125 (lv_at hl 10 rfl) ?_
                        refine lv_iload hx hb dL_isFolded_127 (lv_at hl 0 rfl) ?_
                        refine lv_if_eq (tgt := 146) hx hb dL_isFolded_129 (by decide) (fun c_129 => ?_) (fun c_129 => ?_)
                        · refine lv_iconst (v := 0) hx hb dL_isFolded_146 (by decide) ?_
                          refine lv_iadd hx hb dL_isFolded_147 ?_
                          refine lv_istore (lv' := [(7, .int ((sl_vs n C E (nI j) pp) + 0)), (12, .int 0), (11, .int (C pp)), (9, .int 1), (0, .ref (α 0)), (1, .ref a1), (2, .ref a2), (3, .ref a6), (4, .int (nI j)), (5, .int (nI (sl_kn C))), (6, .int (nI pl)), (8, .int (sl_la n C E (nI j) pp)), (10, .int (nI pp))]) hx hb dL_isFolded_148 hl (by decide) rfl (fun ls hl => ?_)
                          refine lv_iload hx hb dL_isFolded_150 (lv_at hl 1 rfl) ?_
                          refine lv_if_eq (tgt := 160) hx hb dL_isFolded_152 (by decide) (fun c_152 => ?_) (fun c_152 => ?_)
                          · refine lv_iload hx hb dL_isFolded_160 (lv_at hl 11 rfl) ?_
                            refine lv_istore (lv' := [(8, .int (sl_la n C E (nI j) pp)), (7, .int ((sl_vs n C E (nI j) pp) + 0)), (12, .int 0), (11, .int (C pp)), (9, .int 1), (0, .ref (α 0)), (1, .ref a1), (2, .ref a2), (3, .ref a6), (4, .int (nI j)), (5, .int (nI (sl_kn C))), (6, .int (nI pl)), (10, .int (nI pp))]) hx hb dL_isFolded_162 hl (by decide) rfl (fun ls hl => ?_)
                            refine lv_iload hx hb dL_isFolded_164 (lv_at hl 4 rfl) ?_
                            refine lv_if_eq (tgt := 232) hx hb dL_isFolded_166 (by decide) (fun c_166 => ?_) (fun c_166 => ?_)
                            · exact absurd c_166 (by decide)
                            · refine lv_iload hx hb dL_isFolded_169 (lv_at hl 3 rfl) ?_
                              refine lv_bipush (v := (-2)) hx hb dL_isFolded_171 (by decide) ?_
                              refine lv_icmp_eq (tgt := 232) hx hb dL_isFolded_173 (by decide) (fun c_173 => ?_) (fun c_173 => ?_)
                              · exact absurd c_173 (lp_kn_same hJ n_88).2.2
                              · refine lv_aload_n hx hb dL_isFolded_176 rfl (lv_at hl 5 rfl) ?_
                                refine lv_iconst (v := 1) hx hb dL_isFolded_177 (by decide) ?_
                                refine lv_iload hx hb dL_isFolded_178 (lv_at hl 12 rfl) ?_
                                refine sl_calli (sl_runV (As := [.int 1, .int (nI pp)]) (rest := []) hC hG (sl_nox (kX4_cellAt l hlt Γ u_56 α β n ep tl lo T C E hK56 1 (nI pp)) (fun E9 z => lp_ca (by decide) (by omega) z.2)) mi_X4_cellAt lk_RL_8 0 hK56.1 rfl rfl rfl ⟨Nat.le_of_ble_eq_true rfl, Nat.le_of_ble_eq_true rfl⟩ rfl hl.1 rfl (Nat.le_of_ble_eq_true rfl) dL_isFolded_180 ⟨(by show _ + _ ≤ 427; omega), (by show _ + _ ≤ 2562; omega)⟩) hG (fun r_180 u_180 H locs hr_180 hG => ?_)
                                refine sl_topi (y := C pp) (hr_180.2.trans ((lp_cg1 C (by omega)).trans (lp_kn_same hJ n_88).1)) ?_
                                refine lv_iload hx hb dL_isFolded_183 (lv_at hl 3 rfl) ?_
                                refine lv_icmp_ne (tgt := 232) hx hb dL_isFolded_185 (by decide) (fun c_185 => ?_) (fun c_185 => ?_)
                                · exact absurd rfl c_185
                                · refine lv_aload_n hx hb dL_isFolded_188 rfl (lv_at hl 5 rfl) ?_
                                  refine lv_iconst (v := 2) hx hb dL_isFolded_189 (by decide) ?_
                                  refine lv_iload hx hb dL_isFolded_190 (lv_at hl 12 rfl) ?_
                                  refine sl_calli (sl_runV (As := [.int 2, .int (nI pp)]) (rest := []) hC hG (sl_nox (kX4_cellAt l hlt Γ u_56 α β n ep tl lo T C E hK56 2 (nI pp)) (fun E9 z => lp_ca (by decide) (by omega) z.2)) mi_X4_cellAt lk_RL_8 0 hK56.1 rfl rfl rfl ⟨Nat.le_of_ble_eq_true rfl, Nat.le_of_ble_eq_true rfl⟩ rfl hl.1 rfl (Nat.le_of_ble_eq_true rfl) dL_isFolded_192 ⟨(by show _ + _ ≤ 427; omega), (by show _ + _ ≤ 2562; omega)⟩) hG (fun r_192 u_192 H locs hr_192 hG => ?_)
                                  refine sl_topi (y := C pp) (hr_192.2.trans ((lp_cg2 C (by omega)).trans (lp_kn_same hJ n_88).2.1)) ?_
                                  refine lv_iload hx hb dL_isFolded_195 (lv_at hl 3 rfl) ?_
                                  refine lv_icmp_ne (tgt := 232) hx hb dL_isFolded_197 (by decide) (fun c_197 => ?_) (fun c_197 => ?_)
                                  · exact absurd rfl c_197
                                  · refine lv_iload hx hb dL_isFolded_200 (lv_at hl 12 rfl) ?_
                                    refine lv_iload hx hb dL_isFolded_202 (lv_at hl 11 rfl) ?_
                                    refine lv_icmp_ne (tgt := 228) hx hb dL_isFolded_204 (by decide) (fun c_204 => ?_) (fun c_204 => ?_)
                                    · have n_204 : ¬ (pp = pl) := fun z => c_204 ((nI_eq (a := pp) (b := pl) (by omega) (by omega)).mpr z)
                                      refine lv_iconst (v := 1) hx hb dL_isFolded_228 (by decide) ?_
                                      refine lv_goto (tgt := 233) hx hb dL_isFolded_229 (by decide) ?_
                                      refine lv_istore (lv' := [(9, .int 1), (8, .int (sl_la n C E (nI j) pp)), (7, .int ((sl_vs n C E (nI j) pp) + 0)), (12, .int 0), (11, .int (C pp)), (0, .ref (α 0)), (1, .ref a1), (2, .ref a2), (3, .ref a6), (4, .int (nI j)), (5, .int (nI (sl_kn C))), (6, .int (nI pl)), (10, .int (nI pp))]) hx hb dL_isFolded_233 hl (by decide) rfl (fun ls hl => ?_)
                                      refine lv_iinc (v := nI (pp + 1)) (lv' := [(10, .int (nI (pp + 1))), (9, .int 1), (8, .int (sl_la n C E (nI j) pp)), (7, .int ((sl_vs n C E (nI j) pp) + 0)), (12, .int 0), (11, .int (C pp)), (0, .ref (α 0)), (1, .ref a1), (2, .ref a2), (3, .ref a6), (4, .int (nI j)), (5, .int (nI (sl_kn C))), (6, .int (nI pl))]) hx hb dL_isFolded_235 hl (k := 12) rfl (nI_1 pp) (by decide) rfl (fun ls hl => ?_)
                                      refine lv_goto (tgt := 12) hx hb dL_isFolded_238 (by decide) ?_
                                      exact ih_12 (pp + 1) u_56 ((sl_vs n C E (nI j) pp) + 0) (sl_la n C E (nI j) pp) ((((((cs + 1) + 1) + 1) + 1) + 1) + 1) ((((((ss + 6) + 6) + 6) + 6) + 6) + 6) (by omega) (by omega) (by omega) (by omega) hK56 hf56 (fun _ => lp_vs_n hhs) (fun _ => lp_la_n hhs) _ _ hG _ (lv_sub hl [6, 7, 8, 9, 10, 11, 12, 3, 2, 1, 0] rfl)
                                    · have n_204 : pp = pl := (nI_eq (a := pp) (b := pl) (by omega) (by omega)).mp c_204
                                      refine lv_aload_n hx hb dL_isFolded_207 rfl (lv_at hl 5 rfl) ?_
                                      refine lv_iload hx hb dL_isFolded_208 (lv_at hl 12 rfl) ?_
                                      refine sl_calli (sl_runV (As := [.int (nI pp)]) (rest := []) hC hG (sl_nox (kX4_takesEffect l hlt Γ u_56 α β n ep tl lo T C E hK56 (nI pp)) (fun E9 z => lp_tk n_88 hkn z.2)) mi_X4_takesEffect lk_RL_23 0 hK56.1 rfl rfl rfl ⟨Nat.le_of_ble_eq_true rfl, Nat.le_of_ble_eq_true rfl⟩ rfl hl.1 rfl (Nat.le_of_ble_eq_true rfl) dL_isFolded_210 ⟨(by show _ + _ ≤ 427; omega), (by show _ + _ ≤ 2562; omega)⟩) hG (fun r_210 u_210 H locs hr_210 hG => ?_)
                                      have hG : sl_I Γ u_210 s H locs := hG
                                      have hK210 := hr_210.2.1
                                      have hf210 := sl_fr.tr hf56 hr_210.2.2
                                      obtain ⟨⟨b9, y1, y2, y3⟩, -⟩ := hr_210
                                      have y7 : b9 = pp := (sl_nIne (by omega) (by omega) y1).symm
                                      refine sl_topi (y := sl_bi (sl_ev n C E pp)) (by rw [y3, y7]) ?_
                                      refine lv_aload_n hx hb dL_isFolded_213 rfl (lv_at hl 8 rfl) ?_
                                      refine lv_iload hx hb dL_isFolded_214 (lv_at hl 12 rfl) ?_
                                      refine sl_ialdN hC hG 46 ((hf210 46 (by decide) (by decide)).trans h46) (j := pp) rfl (by omega) (by omega) dL_isFolded_216 ?_
                                      refine sl_topi (y := lp_ef n C E pp) (hF pp n_88) ?_
                                      refine lv_if_le (tgt := 224) hx hb dL_isFolded_217 (by decide) (fun c_217 => ?_) (fun c_217 => ?_)
                                      · refine lv_iconst (v := 0) hx hb dL_isFolded_224 (by decide) ?_
                                        refine lv_icmp_ne (tgt := 232) hx hb dL_isFolded_225 (by decide) (fun c_225 => ?_) (fun c_225 => ?_)
                                        · exact absurd (lp_b0 (lp_ef_z hn9 c_217)) c_225
                                        · refine lv_iconst (v := 1) hx hb dL_isFolded_228 (by decide) ?_
                                          refine lv_goto (tgt := 233) hx hb dL_isFolded_229 (by decide) ?_
                                          refine lv_istore (lv' := [(9, .int 1), (8, .int (sl_la n C E (nI j) pp)), (7, .int ((sl_vs n C E (nI j) pp) + 0)), (12, .int 0), (11, .int (C pp)), (0, .ref (α 0)), (1, .ref a1), (2, .ref a2), (3, .ref a6), (4, .int (nI j)), (5, .int (nI (sl_kn C))), (6, .int (nI pl)), (10, .int (nI pp))]) hx hb dL_isFolded_233 hl (by decide) rfl (fun ls hl => ?_)
                                          refine lv_iinc (v := nI (pp + 1)) (lv' := [(10, .int (nI (pp + 1))), (9, .int 1), (8, .int (sl_la n C E (nI j) pp)), (7, .int ((sl_vs n C E (nI j) pp) + 0)), (12, .int 0), (11, .int (C pp)), (0, .ref (α 0)), (1, .ref a1), (2, .ref a2), (3, .ref a6), (4, .int (nI j)), (5, .int (nI (sl_kn C))), (6, .int (nI pl))]) hx hb dL_isFolded_235 hl (k := 12) rfl (nI_1 pp) (by decide) rfl (fun ls hl => ?_)
                                          refine lv_goto (tgt := 12) hx hb dL_isFolded_238 (by decide) ?_
                                          exact ih_12 (pp + 1) u_210 ((sl_vs n C E (nI j) pp) + 0) (sl_la n C E (nI j) pp) (((((((cs + 1) + 1) + 1) + 1) + 1) + 1) + 1) (((((((ss + 6) + 6) + 6) + 6) + 6) + 6) + 6) (by omega) (by omega) (by omega) (by omega) hK210 hf210 (fun _ => lp_vs_n hhs) (fun _ => lp_la_n hhs) _ _ hG _ (lv_sub hl [6, 7, 8, 9, 10, 11, 12, 3, 2, 1, 0] rfl)
                                      · refine lv_iconst (v := 1) hx hb dL_isFolded_220 (by decide) ?_
                                        refine lv_goto (tgt := 225) hx hb dL_isFolded_221 (by decide) ?_
                                        refine lv_icmp_ne (tgt := 232) hx hb dL_isFolded_225 (by decide) (fun c_225 => ?_) (fun c_225 => ?_)
                                        · exact absurd (lp_b1 (lp_ef_gt c_217)) c_225
                                        · refine lv_iconst (v := 1) hx hb dL_isFolded_228 (by decide) ?_
                                          refine lv_goto (tgt := 233) hx hb dL_isFolded_229 (by decide) ?_
                                          refine lv_istore (lv' := [(9, .int 1), (8, .int (sl_la n C E (nI j) pp)), (7, .int ((sl_vs n C E (nI j) pp) + 0)), (12, .int 0), (11, .int (C pp)), (0, .ref (α 0)), (1, .ref a1), (2, .ref a2), (3, .ref a6), (4, .int (nI j)), (5, .int (nI (sl_kn C))), (6, .int (nI pl)), (10, .int (nI pp))]) hx hb dL_isFolded_233 hl (by decide) rfl (fun ls hl => ?_)
                                          refine lv_iinc (v := nI (pp + 1)) (lv' := [(10, .int (nI (pp + 1))), (9, .int 1), (8, .int (sl_la n C E (nI j) pp)), (7, .int ((sl_vs n C E (nI j) pp) + 0)), (12, .int 0), (11, .int (C pp)), (0, .ref (α 0)), (1, .ref a1), (2, .ref a2), (3, .ref a6), (4, .int (nI j)), (5, .int (nI (sl_kn C))), (6, .int (nI pl))]) hx hb dL_isFolded_235 hl (k := 12) rfl (nI_1 pp) (by decide) rfl (fun ls hl => ?_)
                                          refine lv_goto (tgt := 12) hx hb dL_isFolded_238 (by decide) ?_
                                          exact ih_12 (pp + 1) u_210 ((sl_vs n C E (nI j) pp) + 0) (sl_la n C E (nI j) pp) (((((((cs + 1) + 1) + 1) + 1) + 1) + 1) + 1) (((((((ss + 6) + 6) + 6) + 6) + 6) + 6) + 6) (by omega) (by omega) (by omega) (by omega) hK210 hf210 (fun _ => lp_vs_n hhs) (fun _ => lp_la_n hhs) _ _ hG _ (lv_sub hl [6, 7, 8, 9, 10, 11, 12, 3, 2, 1, 0] rfl)
                          · exact absurd c_152 (by decide)
                        · exact absurd c_129 (by decide)
                      · obtain ⟨t, ht, et, etok⟩ := sl_ce_pos hn9 (hw.2.2.1 pp (by omega)) c_102
                        refine lv_aload_n hx hb dL_isFolded_105 rfl (lv_at hl 3 rfl) ?_
                        refine lv_iload hx hb dL_isFolded_106 (lv_at hl 0 rfl) ?_
                        refine sl_ialdN hC hG 41 ((hf56 41 (by decide) (by decide)).trans h41) (j := t) et (by omega) (by omega) dL_isFolded_108 ?_
                        refine sl_topi (y := (E t).2.2.1) (hS t ht) ?_
                        refine lv_iload hx hb dL_isFolded_109 (lv_at hl 6 rfl) ?_
                        refine lv_ishr hx hb dL_isFolded_111 ?_
                        refine lv_iconst (v := 1) hx hb dL_isFolded_112 (by decide) ?_
                        refine lv_iand hx hb dL_isFolded_113 ?_
                        refine lv_iconst (v := 1) hx hb dL_isFolded_114 (by decide) ?_
                        refine lv_icmp_ne (tgt := 122) hx hb dL_isFolded_115 (by decide) (fun c_115 => ?_) (fun c_115 => ?_)
                        · have hhs : sl_hs n C E (nI j) pp = false := lp_hs_n etok c_115
                          refine lv_iconst (v := 0) hx hb dL_isFolded_122 (by decide) ?_
                          refine lv_istore (lv' := [(12, .int 0), (11, .int (C pp)), (9, .int 1), (0, .ref (α 0)), (1, .ref a1), (2, .ref a2), (3, .ref a6), (4, .int (nI j)), (5, .int (nI (sl_kn C))), (6, .int (nI pl)), (7, .int (sl_vs n C E (nI j) pp)), (8, .int (sl_la n C E (nI j) pp)), (10, .int (nI pp))]) hx hb dL_isFolded_123 hl (by decide) rfl (fun ls hl => ?_)
                          refine lv_iload hx hb dL_isFolded_125 (lv_at hl 10 rfl) ?_
                          refine lv_iload hx hb dL_isFolded_127 (lv_at hl 0 rfl) ?_
                          refine lv_if_eq (tgt := 146) hx hb dL_isFolded_129 (by decide) (fun c_129 => ?_) (fun c_129 => ?_)
                          · refine lv_iconst (v := 0) hx hb dL_isFolded_146 (by decide) ?_
                            refine lv_iadd hx hb dL_isFolded_147 ?_
                            refine lv_istore (lv' := [(7, .int ((sl_vs n C E (nI j) pp) + 0)), (12, .int 0), (11, .int (C pp)), (9, .int 1), (0, .ref (α 0)), (1, .ref a1), (2, .ref a2), (3, .ref a6), (4, .int (nI j)), (5, .int (nI (sl_kn C))), (6, .int (nI pl)), (8, .int (sl_la n C E (nI j) pp)), (10, .int (nI pp))]) hx hb dL_isFolded_148 hl (by decide) rfl (fun ls hl => ?_)
                            refine lv_iload hx hb dL_isFolded_150 (lv_at hl 1 rfl) ?_
                            refine lv_if_eq (tgt := 160) hx hb dL_isFolded_152 (by decide) (fun c_152 => ?_) (fun c_152 => ?_)
                            · refine lv_iload hx hb dL_isFolded_160 (lv_at hl 11 rfl) ?_
                              refine lv_istore (lv' := [(8, .int (sl_la n C E (nI j) pp)), (7, .int ((sl_vs n C E (nI j) pp) + 0)), (12, .int 0), (11, .int (C pp)), (9, .int 1), (0, .ref (α 0)), (1, .ref a1), (2, .ref a2), (3, .ref a6), (4, .int (nI j)), (5, .int (nI (sl_kn C))), (6, .int (nI pl)), (10, .int (nI pp))]) hx hb dL_isFolded_162 hl (by decide) rfl (fun ls hl => ?_)
                              refine lv_iload hx hb dL_isFolded_164 (lv_at hl 4 rfl) ?_
                              refine lv_if_eq (tgt := 232) hx hb dL_isFolded_166 (by decide) (fun c_166 => ?_) (fun c_166 => ?_)
                              · exact absurd c_166 (by decide)
                              · refine lv_iload hx hb dL_isFolded_169 (lv_at hl 3 rfl) ?_
                                refine lv_bipush (v := (-2)) hx hb dL_isFolded_171 (by decide) ?_
                                refine lv_icmp_eq (tgt := 232) hx hb dL_isFolded_173 (by decide) (fun c_173 => ?_) (fun c_173 => ?_)
                                · exact absurd c_173 (lp_kn_same hJ n_88).2.2
                                · refine lv_aload_n hx hb dL_isFolded_176 rfl (lv_at hl 5 rfl) ?_
                                  refine lv_iconst (v := 1) hx hb dL_isFolded_177 (by decide) ?_
                                  refine lv_iload hx hb dL_isFolded_178 (lv_at hl 12 rfl) ?_
                                  refine sl_calli (sl_runV (As := [.int 1, .int (nI pp)]) (rest := []) hC hG (sl_nox (kX4_cellAt l hlt Γ u_56 α β n ep tl lo T C E hK56 1 (nI pp)) (fun E9 z => lp_ca (by decide) (by omega) z.2)) mi_X4_cellAt lk_RL_8 0 hK56.1 rfl rfl rfl ⟨Nat.le_of_ble_eq_true rfl, Nat.le_of_ble_eq_true rfl⟩ rfl hl.1 rfl (Nat.le_of_ble_eq_true rfl) dL_isFolded_180 ⟨(by show _ + _ ≤ 427; omega), (by show _ + _ ≤ 2562; omega)⟩) hG (fun r_180 u_180 H locs hr_180 hG => ?_)
                                  refine sl_topi (y := C pp) (hr_180.2.trans ((lp_cg1 C (by omega)).trans (lp_kn_same hJ n_88).1)) ?_
                                  refine lv_iload hx hb dL_isFolded_183 (lv_at hl 3 rfl) ?_
                                  refine lv_icmp_ne (tgt := 232) hx hb dL_isFolded_185 (by decide) (fun c_185 => ?_) (fun c_185 => ?_)
                                  · exact absurd rfl c_185
                                  · refine lv_aload_n hx hb dL_isFolded_188 rfl (lv_at hl 5 rfl) ?_
                                    refine lv_iconst (v := 2) hx hb dL_isFolded_189 (by decide) ?_
                                    refine lv_iload hx hb dL_isFolded_190 (lv_at hl 12 rfl) ?_
                                    refine sl_calli (sl_runV (As := [.int 2, .int (nI pp)]) (rest := []) hC hG (sl_nox (kX4_cellAt l hlt Γ u_56 α β n ep tl lo T C E hK56 2 (nI pp)) (fun E9 z => lp_ca (by decide) (by omega) z.2)) mi_X4_cellAt lk_RL_8 0 hK56.1 rfl rfl rfl ⟨Nat.le_of_ble_eq_true rfl, Nat.le_of_ble_eq_true rfl⟩ rfl hl.1 rfl (Nat.le_of_ble_eq_true rfl) dL_isFolded_192 ⟨(by show _ + _ ≤ 427; omega), (by show _ + _ ≤ 2562; omega)⟩) hG (fun r_192 u_192 H locs hr_192 hG => ?_)
                                    refine sl_topi (y := C pp) (hr_192.2.trans ((lp_cg2 C (by omega)).trans (lp_kn_same hJ n_88).2.1)) ?_
                                    refine lv_iload hx hb dL_isFolded_195 (lv_at hl 3 rfl) ?_
                                    refine lv_icmp_ne (tgt := 232) hx hb dL_isFolded_197 (by decide) (fun c_197 => ?_) (fun c_197 => ?_)
                                    · exact absurd rfl c_197
                                    · refine lv_iload hx hb dL_isFolded_200 (lv_at hl 12 rfl) ?_
                                      refine lv_iload hx hb dL_isFolded_202 (lv_at hl 11 rfl) ?_
                                      refine lv_icmp_ne (tgt := 228) hx hb dL_isFolded_204 (by decide) (fun c_204 => ?_) (fun c_204 => ?_)
                                      · have n_204 : ¬ (pp = pl) := fun z => c_204 ((nI_eq (a := pp) (b := pl) (by omega) (by omega)).mpr z)
                                        refine lv_iconst (v := 1) hx hb dL_isFolded_228 (by decide) ?_
                                        refine lv_goto (tgt := 233) hx hb dL_isFolded_229 (by decide) ?_
                                        refine lv_istore (lv' := [(9, .int 1), (8, .int (sl_la n C E (nI j) pp)), (7, .int ((sl_vs n C E (nI j) pp) + 0)), (12, .int 0), (11, .int (C pp)), (0, .ref (α 0)), (1, .ref a1), (2, .ref a2), (3, .ref a6), (4, .int (nI j)), (5, .int (nI (sl_kn C))), (6, .int (nI pl)), (10, .int (nI pp))]) hx hb dL_isFolded_233 hl (by decide) rfl (fun ls hl => ?_)
                                        refine lv_iinc (v := nI (pp + 1)) (lv' := [(10, .int (nI (pp + 1))), (9, .int 1), (8, .int (sl_la n C E (nI j) pp)), (7, .int ((sl_vs n C E (nI j) pp) + 0)), (12, .int 0), (11, .int (C pp)), (0, .ref (α 0)), (1, .ref a1), (2, .ref a2), (3, .ref a6), (4, .int (nI j)), (5, .int (nI (sl_kn C))), (6, .int (nI pl))]) hx hb dL_isFolded_235 hl (k := 12) rfl (nI_1 pp) (by decide) rfl (fun ls hl => ?_)
                                        refine lv_goto (tgt := 12) hx hb dL_isFolded_238 (by decide) ?_
                                        exact ih_12 (pp + 1) u_56 ((sl_vs n C E (nI j) pp) + 0) (sl_la n C E (nI j) pp) ((((((cs + 1) + 1) + 1) + 1) + 1) + 1) ((((((ss + 6) + 6) + 6) + 6) + 6) + 6) (by omega) (by omega) (by omega) (by omega) hK56 hf56 (fun _ => lp_vs_n hhs) (fun _ => lp_la_n hhs) _ _ hG _ (lv_sub hl [6, 7, 8, 9, 10, 11, 12, 3, 2, 1, 0] rfl)
                                      · have n_204 : pp = pl := (nI_eq (a := pp) (b := pl) (by omega) (by omega)).mp c_204
                                        refine lv_aload_n hx hb dL_isFolded_207 rfl (lv_at hl 5 rfl) ?_
                                        refine lv_iload hx hb dL_isFolded_208 (lv_at hl 12 rfl) ?_
                                        refine sl_calli (sl_runV (As := [.int (nI pp)]) (rest := []) hC hG (sl_nox (kX4_takesEffect l hlt Γ u_56 α β n ep tl lo T C E hK56 (nI pp)) (fun E9 z => lp_tk n_88 hkn z.2)) mi_X4_takesEffect lk_RL_23 0 hK56.1 rfl rfl rfl ⟨Nat.le_of_ble_eq_true rfl, Nat.le_of_ble_eq_true rfl⟩ rfl hl.1 rfl (Nat.le_of_ble_eq_true rfl) dL_isFolded_210 ⟨(by show _ + _ ≤ 427; omega), (by show _ + _ ≤ 2562; omega)⟩) hG (fun r_210 u_210 H locs hr_210 hG => ?_)
                                        have hG : sl_I Γ u_210 s H locs := hG
                                        have hK210 := hr_210.2.1
                                        have hf210 := sl_fr.tr hf56 hr_210.2.2
                                        obtain ⟨⟨b9, y1, y2, y3⟩, -⟩ := hr_210
                                        have y7 : b9 = pp := (sl_nIne (by omega) (by omega) y1).symm
                                        refine sl_topi (y := sl_bi (sl_ev n C E pp)) (by rw [y3, y7]) ?_
                                        refine lv_aload_n hx hb dL_isFolded_213 rfl (lv_at hl 8 rfl) ?_
                                        refine lv_iload hx hb dL_isFolded_214 (lv_at hl 12 rfl) ?_
                                        refine sl_ialdN hC hG 46 ((hf210 46 (by decide) (by decide)).trans h46) (j := pp) rfl (by omega) (by omega) dL_isFolded_216 ?_
                                        refine sl_topi (y := lp_ef n C E pp) (hF pp n_88) ?_
                                        refine lv_if_le (tgt := 224) hx hb dL_isFolded_217 (by decide) (fun c_217 => ?_) (fun c_217 => ?_)
                                        · refine lv_iconst (v := 0) hx hb dL_isFolded_224 (by decide) ?_
                                          refine lv_icmp_ne (tgt := 232) hx hb dL_isFolded_225 (by decide) (fun c_225 => ?_) (fun c_225 => ?_)
                                          · exact absurd (lp_b0 (lp_ef_z hn9 c_217)) c_225
                                          · refine lv_iconst (v := 1) hx hb dL_isFolded_228 (by decide) ?_
                                            refine lv_goto (tgt := 233) hx hb dL_isFolded_229 (by decide) ?_
                                            refine lv_istore (lv' := [(9, .int 1), (8, .int (sl_la n C E (nI j) pp)), (7, .int ((sl_vs n C E (nI j) pp) + 0)), (12, .int 0), (11, .int (C pp)), (0, .ref (α 0)), (1, .ref a1), (2, .ref a2), (3, .ref a6), (4, .int (nI j)), (5, .int (nI (sl_kn C))), (6, .int (nI pl)), (10, .int (nI pp))]) hx hb dL_isFolded_233 hl (by decide) rfl (fun ls hl => ?_)
                                            refine lv_iinc (v := nI (pp + 1)) (lv' := [(10, .int (nI (pp + 1))), (9, .int 1), (8, .int (sl_la n C E (nI j) pp)), (7, .int ((sl_vs n C E (nI j) pp) + 0)), (12, .int 0), (11, .int (C pp)), (0, .ref (α 0)), (1, .ref a1), (2, .ref a2), (3, .ref a6), (4, .int (nI j)), (5, .int (nI (sl_kn C))), (6, .int (nI pl))]) hx hb dL_isFolded_235 hl (k := 12) rfl (nI_1 pp) (by decide) rfl (fun ls hl => ?_)
                                            refine lv_goto (tgt := 12) hx hb dL_isFolded_238 (by decide) ?_
                                            exact ih_12 (pp + 1) u_210 ((sl_vs n C E (nI j) pp) + 0) (sl_la n C E (nI j) pp) (((((((cs + 1) + 1) + 1) + 1) + 1) + 1) + 1) (((((((ss + 6) + 6) + 6) + 6) + 6) + 6) + 6) (by omega) (by omega) (by omega) (by omega) hK210 hf210 (fun _ => lp_vs_n hhs) (fun _ => lp_la_n hhs) _ _ hG _ (lv_sub hl [6, 7, 8, 9, 10, 11, 12, 3, 2, 1, 0] rfl)
                                        · refine lv_iconst (v := 1) hx hb dL_isFolded_220 (by decide) ?_
                                          refine lv_goto (tgt := 225) hx hb dL_isFolded_221 (by decide) ?_
                                          refine lv_icmp_ne (tgt := 232) hx hb dL_isFolded_225 (by decide) (fun c_225 => ?_) (fun c_225 => ?_)
                                          · exact absurd (lp_b1 (lp_ef_gt c_217)) c_225
                                          · refine lv_iconst (v := 1) hx hb dL_isFolded_228 (by decide) ?_
                                            refine lv_goto (tgt := 233) hx hb dL_isFolded_229 (by decide) ?_
                                            refine lv_istore (lv' := [(9, .int 1), (8, .int (sl_la n C E (nI j) pp)), (7, .int ((sl_vs n C E (nI j) pp) + 0)), (12, .int 0), (11, .int (C pp)), (0, .ref (α 0)), (1, .ref a1), (2, .ref a2), (3, .ref a6), (4, .int (nI j)), (5, .int (nI (sl_kn C))), (6, .int (nI pl)), (10, .int (nI pp))]) hx hb dL_isFolded_233 hl (by decide) rfl (fun ls hl => ?_)
                                            refine lv_iinc (v := nI (pp + 1)) (lv' := [(10, .int (nI (pp + 1))), (9, .int 1), (8, .int (sl_la n C E (nI j) pp)), (7, .int ((sl_vs n C E (nI j) pp) + 0)), (12, .int 0), (11, .int (C pp)), (0, .ref (α 0)), (1, .ref a1), (2, .ref a2), (3, .ref a6), (4, .int (nI j)), (5, .int (nI (sl_kn C))), (6, .int (nI pl))]) hx hb dL_isFolded_235 hl (k := 12) rfl (nI_1 pp) (by decide) rfl (fun ls hl => ?_)
                                            refine lv_goto (tgt := 12) hx hb dL_isFolded_238 (by decide) ?_
                                            exact ih_12 (pp + 1) u_210 ((sl_vs n C E (nI j) pp) + 0) (sl_la n C E (nI j) pp) (((((((cs + 1) + 1) + 1) + 1) + 1) + 1) + 1) (((((((ss + 6) + 6) + 6) + 6) + 6) + 6) + 6) (by omega) (by omega) (by omega) (by omega) hK210 hf210 (fun _ => lp_vs_n hhs) (fun _ => lp_la_n hhs) _ _ hG _ (lv_sub hl [6, 7, 8, 9, 10, 11, 12, 3, 2, 1, 0] rfl)
                            · exact absurd c_152 (by decide)
                          · exact absurd c_129 (by decide)
                        · have hhs : sl_hs n C E (nI j) pp = true := lp_hs_y etok c_115
                          refine lv_iconst (v := 1) hx hb dL_isFolded_118 (by decide) ?_
                          refine lv_goto (tgt := 123) hx hb dL_isFolded_119 (by decide) ?_
                          refine lv_istore (lv' := [(12, .int 1), (11, .int (C pp)), (9, .int 1), (0, .ref (α 0)), (1, .ref a1), (2, .ref a2), (3, .ref a6), (4, .int (nI j)), (5, .int (nI (sl_kn C))), (6, .int (nI pl)), (7, .int (sl_vs n C E (nI j) pp)), (8, .int (sl_la n C E (nI j) pp)), (10, .int (nI pp))]) hx hb dL_isFolded_123 hl (by decide) rfl (fun ls hl => ?_)
                          refine lv_iload hx hb dL_isFolded_125 (lv_at hl 10 rfl) ?_
                          refine lv_iload hx hb dL_isFolded_127 (lv_at hl 0 rfl) ?_
                          refine lv_if_eq (tgt := 146) hx hb dL_isFolded_129 (by decide) (fun c_129 => ?_) (fun c_129 => ?_)
                          · exact absurd c_129 (by decide)
                          · refine lv_aload_n hx hb dL_isFolded_132 rfl (lv_at hl 6 rfl) ?_
                            refine lv_iload hx hb dL_isFolded_133 (lv_at hl 12 rfl) ?_
                            refine sl_ialdN hC hG 46 ((hf56 46 (by decide) (by decide)).trans h46) (j := pp) rfl (by omega) (by omega) dL_isFolded_135 ?_
                            refine sl_topi (y := lp_ef n C E pp) (hF pp n_88) ?_
                            refine lv_if_le (tgt := 146) hx hb dL_isFolded_136 (by decide) (fun c_136 => ?_) (fun c_136 => ?_)
                            · refine lv_iconst (v := 0) hx hb dL_isFolded_146 (by decide) ?_
                              refine lv_iadd hx hb dL_isFolded_147 ?_
                              refine lv_istore (lv' := [(7, .int ((sl_vs n C E (nI j) pp) + 0)), (12, .int 1), (11, .int (C pp)), (9, .int 1), (0, .ref (α 0)), (1, .ref a1), (2, .ref a2), (3, .ref a6), (4, .int (nI j)), (5, .int (nI (sl_kn C))), (6, .int (nI pl)), (8, .int (sl_la n C E (nI j) pp)), (10, .int (nI pp))]) hx hb dL_isFolded_148 hl (by decide) rfl (fun ls hl => ?_)
                              refine lv_iload hx hb dL_isFolded_150 (lv_at hl 1 rfl) ?_
                              refine lv_if_eq (tgt := 160) hx hb dL_isFolded_152 (by decide) (fun c_152 => ?_) (fun c_152 => ?_)
                              · exact absurd c_152 (by decide)
                              · refine lv_iload hx hb dL_isFolded_155 (lv_at hl 12 rfl) ?_
                                refine lv_goto (tgt := 162) hx hb dL_isFolded_157 (by decide) ?_
                                refine lv_istore (lv' := [(8, .int (nI pp)), (7, .int ((sl_vs n C E (nI j) pp) + 0)), (12, .int 1), (11, .int (C pp)), (9, .int 1), (0, .ref (α 0)), (1, .ref a1), (2, .ref a2), (3, .ref a6), (4, .int (nI j)), (5, .int (nI (sl_kn C))), (6, .int (nI pl)), (10, .int (nI pp))]) hx hb dL_isFolded_162 hl (by decide) rfl (fun ls hl => ?_)
                                refine lv_iload hx hb dL_isFolded_164 (lv_at hl 4 rfl) ?_
                                refine lv_if_eq (tgt := 232) hx hb dL_isFolded_166 (by decide) (fun c_166 => ?_) (fun c_166 => ?_)
                                · exact absurd c_166 (by decide)
                                · refine lv_iload hx hb dL_isFolded_169 (lv_at hl 3 rfl) ?_
                                  refine lv_bipush (v := (-2)) hx hb dL_isFolded_171 (by decide) ?_
                                  refine lv_icmp_eq (tgt := 232) hx hb dL_isFolded_173 (by decide) (fun c_173 => ?_) (fun c_173 => ?_)
                                  · exact absurd c_173 (lp_kn_same hJ n_88).2.2
                                  · refine lv_aload_n hx hb dL_isFolded_176 rfl (lv_at hl 5 rfl) ?_
                                    refine lv_iconst (v := 1) hx hb dL_isFolded_177 (by decide) ?_
                                    refine lv_iload hx hb dL_isFolded_178 (lv_at hl 12 rfl) ?_
                                    refine sl_calli (sl_runV (As := [.int 1, .int (nI pp)]) (rest := []) hC hG (sl_nox (kX4_cellAt l hlt Γ u_56 α β n ep tl lo T C E hK56 1 (nI pp)) (fun E9 z => lp_ca (by decide) (by omega) z.2)) mi_X4_cellAt lk_RL_8 0 hK56.1 rfl rfl rfl ⟨Nat.le_of_ble_eq_true rfl, Nat.le_of_ble_eq_true rfl⟩ rfl hl.1 rfl (Nat.le_of_ble_eq_true rfl) dL_isFolded_180 ⟨(by show _ + _ ≤ 427; omega), (by show _ + _ ≤ 2562; omega)⟩) hG (fun r_180 u_180 H locs hr_180 hG => ?_)
                                    refine sl_topi (y := C pp) (hr_180.2.trans ((lp_cg1 C (by omega)).trans (lp_kn_same hJ n_88).1)) ?_
                                    refine lv_iload hx hb dL_isFolded_183 (lv_at hl 3 rfl) ?_
                                    refine lv_icmp_ne (tgt := 232) hx hb dL_isFolded_185 (by decide) (fun c_185 => ?_) (fun c_185 => ?_)
                                    · exact absurd rfl c_185
                                    · refine lv_aload_n hx hb dL_isFolded_188 rfl (lv_at hl 5 rfl) ?_
                                      refine lv_iconst (v := 2) hx hb dL_isFolded_189 (by decide) ?_
                                      refine lv_iload hx hb dL_isFolded_190 (lv_at hl 12 rfl) ?_
                                      refine sl_calli (sl_runV (As := [.int 2, .int (nI pp)]) (rest := []) hC hG (sl_nox (kX4_cellAt l hlt Γ u_56 α β n ep tl lo T C E hK56 2 (nI pp)) (fun E9 z => lp_ca (by decide) (by omega) z.2)) mi_X4_cellAt lk_RL_8 0 hK56.1 rfl rfl rfl ⟨Nat.le_of_ble_eq_true rfl, Nat.le_of_ble_eq_true rfl⟩ rfl hl.1 rfl (Nat.le_of_ble_eq_true rfl) dL_isFolded_192 ⟨(by show _ + _ ≤ 427; omega), (by show _ + _ ≤ 2562; omega)⟩) hG (fun r_192 u_192 H locs hr_192 hG => ?_)
                                      refine sl_topi (y := C pp) (hr_192.2.trans ((lp_cg2 C (by omega)).trans (lp_kn_same hJ n_88).2.1)) ?_
                                      refine lv_iload hx hb dL_isFolded_195 (lv_at hl 3 rfl) ?_
                                      refine lv_icmp_ne (tgt := 232) hx hb dL_isFolded_197 (by decide) (fun c_197 => ?_) (fun c_197 => ?_)
                                      · exact absurd rfl c_197
                                      · refine lv_iload hx hb dL_isFolded_200 (lv_at hl 12 rfl) ?_
                                        refine lv_iload hx hb dL_isFolded_202 (lv_at hl 11 rfl) ?_
                                        refine lv_icmp_ne (tgt := 228) hx hb dL_isFolded_204 (by decide) (fun c_204 => ?_) (fun c_204 => ?_)
                                        · have n_204 : ¬ (pp = pl) := fun z => c_204 ((nI_eq (a := pp) (b := pl) (by omega) (by omega)).mpr z)
                                          refine lv_iconst (v := 1) hx hb dL_isFolded_228 (by decide) ?_
                                          refine lv_goto (tgt := 233) hx hb dL_isFolded_229 (by decide) ?_
                                          refine lv_istore (lv' := [(9, .int 1), (8, .int (nI pp)), (7, .int ((sl_vs n C E (nI j) pp) + 0)), (12, .int 1), (11, .int (C pp)), (0, .ref (α 0)), (1, .ref a1), (2, .ref a2), (3, .ref a6), (4, .int (nI j)), (5, .int (nI (sl_kn C))), (6, .int (nI pl)), (10, .int (nI pp))]) hx hb dL_isFolded_233 hl (by decide) rfl (fun ls hl => ?_)
                                          refine lv_iinc (v := nI (pp + 1)) (lv' := [(10, .int (nI (pp + 1))), (9, .int 1), (8, .int (nI pp)), (7, .int ((sl_vs n C E (nI j) pp) + 0)), (12, .int 1), (11, .int (C pp)), (0, .ref (α 0)), (1, .ref a1), (2, .ref a2), (3, .ref a6), (4, .int (nI j)), (5, .int (nI (sl_kn C))), (6, .int (nI pl))]) hx hb dL_isFolded_235 hl (k := 12) rfl (nI_1 pp) (by decide) rfl (fun ls hl => ?_)
                                          refine lv_goto (tgt := 12) hx hb dL_isFolded_238 (by decide) ?_
                                          exact ih_12 (pp + 1) u_56 ((sl_vs n C E (nI j) pp) + 0) (nI pp) ((((((cs + 1) + 1) + 1) + 1) + 1) + 1) ((((((ss + 6) + 6) + 6) + 6) + 6) + 6) (by omega) (by omega) (by omega) (by omega) hK56 hf56 (fun _ => sl_vs_0 (lp_ef_z hn9 c_136)) (fun _ => lp_la_y hhs) _ _ hG _ (lv_sub hl [6, 7, 8, 9, 10, 11, 12, 3, 2, 1, 0] rfl)
                                        · have n_204 : pp = pl := (nI_eq (a := pp) (b := pl) (by omega) (by omega)).mp c_204
                                          refine lv_aload_n hx hb dL_isFolded_207 rfl (lv_at hl 5 rfl) ?_
                                          refine lv_iload hx hb dL_isFolded_208 (lv_at hl 12 rfl) ?_
                                          refine sl_calli (sl_runV (As := [.int (nI pp)]) (rest := []) hC hG (sl_nox (kX4_takesEffect l hlt Γ u_56 α β n ep tl lo T C E hK56 (nI pp)) (fun E9 z => lp_tk n_88 hkn z.2)) mi_X4_takesEffect lk_RL_23 0 hK56.1 rfl rfl rfl ⟨Nat.le_of_ble_eq_true rfl, Nat.le_of_ble_eq_true rfl⟩ rfl hl.1 rfl (Nat.le_of_ble_eq_true rfl) dL_isFolded_210 ⟨(by show _ + _ ≤ 427; omega), (by show _ + _ ≤ 2562; omega)⟩) hG (fun r_210 u_210 H locs hr_210 hG => ?_)
                                          have hG : sl_I Γ u_210 s H locs := hG
                                          have hK210 := hr_210.2.1
                                          have hf210 := sl_fr.tr hf56 hr_210.2.2
                                          obtain ⟨⟨b9, y1, y2, y3⟩, -⟩ := hr_210
                                          have y7 : b9 = pp := (sl_nIne (by omega) (by omega) y1).symm
                                          refine sl_topi (y := sl_bi (sl_ev n C E pp)) (by rw [y3, y7]) ?_
                                          refine lv_aload_n hx hb dL_isFolded_213 rfl (lv_at hl 8 rfl) ?_
                                          refine lv_iload hx hb dL_isFolded_214 (lv_at hl 12 rfl) ?_
                                          refine sl_ialdN hC hG 46 ((hf210 46 (by decide) (by decide)).trans h46) (j := pp) rfl (by omega) (by omega) dL_isFolded_216 ?_
                                          refine sl_topi (y := lp_ef n C E pp) (hF pp n_88) ?_
                                          refine lv_if_le (tgt := 224) hx hb dL_isFolded_217 (by decide) (fun c_217 => ?_) (fun c_217 => ?_)
                                          · refine lv_iconst (v := 0) hx hb dL_isFolded_224 (by decide) ?_
                                            refine lv_icmp_ne (tgt := 232) hx hb dL_isFolded_225 (by decide) (fun c_225 => ?_) (fun c_225 => ?_)
                                            · exact absurd (lp_b0 (lp_ef_z hn9 c_217)) c_225
                                            · refine lv_iconst (v := 1) hx hb dL_isFolded_228 (by decide) ?_
                                              refine lv_goto (tgt := 233) hx hb dL_isFolded_229 (by decide) ?_
                                              refine lv_istore (lv' := [(9, .int 1), (8, .int (nI pp)), (7, .int ((sl_vs n C E (nI j) pp) + 0)), (12, .int 1), (11, .int (C pp)), (0, .ref (α 0)), (1, .ref a1), (2, .ref a2), (3, .ref a6), (4, .int (nI j)), (5, .int (nI (sl_kn C))), (6, .int (nI pl)), (10, .int (nI pp))]) hx hb dL_isFolded_233 hl (by decide) rfl (fun ls hl => ?_)
                                              refine lv_iinc (v := nI (pp + 1)) (lv' := [(10, .int (nI (pp + 1))), (9, .int 1), (8, .int (nI pp)), (7, .int ((sl_vs n C E (nI j) pp) + 0)), (12, .int 1), (11, .int (C pp)), (0, .ref (α 0)), (1, .ref a1), (2, .ref a2), (3, .ref a6), (4, .int (nI j)), (5, .int (nI (sl_kn C))), (6, .int (nI pl))]) hx hb dL_isFolded_235 hl (k := 12) rfl (nI_1 pp) (by decide) rfl (fun ls hl => ?_)
                                              refine lv_goto (tgt := 12) hx hb dL_isFolded_238 (by decide) ?_
                                              exact ih_12 (pp + 1) u_210 ((sl_vs n C E (nI j) pp) + 0) (nI pp) (((((((cs + 1) + 1) + 1) + 1) + 1) + 1) + 1) (((((((ss + 6) + 6) + 6) + 6) + 6) + 6) + 6) (by omega) (by omega) (by omega) (by omega) hK210 hf210 (fun _ => sl_vs_0 (lp_ef_z hn9 c_136)) (fun _ => lp_la_y hhs) _ _ hG _ (lv_sub hl [6, 7, 8, 9, 10, 11, 12, 3, 2, 1, 0] rfl)
                                          · refine lv_iconst (v := 1) hx hb dL_isFolded_220 (by decide) ?_
                                            refine lv_goto (tgt := 225) hx hb dL_isFolded_221 (by decide) ?_
                                            refine lv_icmp_ne (tgt := 232) hx hb dL_isFolded_225 (by decide) (fun c_225 => ?_) (fun c_225 => ?_)
                                            · exact absurd (lp_b1 (lp_ef_gt c_217)) c_225
                                            · refine lv_iconst (v := 1) hx hb dL_isFolded_228 (by decide) ?_
                                              refine lv_goto (tgt := 233) hx hb dL_isFolded_229 (by decide) ?_
                                              refine lv_istore (lv' := [(9, .int 1), (8, .int (nI pp)), (7, .int ((sl_vs n C E (nI j) pp) + 0)), (12, .int 1), (11, .int (C pp)), (0, .ref (α 0)), (1, .ref a1), (2, .ref a2), (3, .ref a6), (4, .int (nI j)), (5, .int (nI (sl_kn C))), (6, .int (nI pl)), (10, .int (nI pp))]) hx hb dL_isFolded_233 hl (by decide) rfl (fun ls hl => ?_)
                                              refine lv_iinc (v := nI (pp + 1)) (lv' := [(10, .int (nI (pp + 1))), (9, .int 1), (8, .int (nI pp)), (7, .int ((sl_vs n C E (nI j) pp) + 0)), (12, .int 1), (11, .int (C pp)), (0, .ref (α 0)), (1, .ref a1), (2, .ref a2), (3, .ref a6), (4, .int (nI j)), (5, .int (nI (sl_kn C))), (6, .int (nI pl))]) hx hb dL_isFolded_235 hl (k := 12) rfl (nI_1 pp) (by decide) rfl (fun ls hl => ?_)
                                              refine lv_goto (tgt := 12) hx hb dL_isFolded_238 (by decide) ?_
                                              exact ih_12 (pp + 1) u_210 ((sl_vs n C E (nI j) pp) + 0) (nI pp) (((((((cs + 1) + 1) + 1) + 1) + 1) + 1) + 1) (((((((ss + 6) + 6) + 6) + 6) + 6) + 6) + 6) (by omega) (by omega) (by omega) (by omega) hK210 hf210 (fun _ => sl_vs_0 (lp_ef_z hn9 c_136)) (fun _ => lp_la_y hhs) _ _ hG _ (lv_sub hl [6, 7, 8, 9, 10, 11, 12, 3, 2, 1, 0] rfl)
                            · refine lv_aload_n hx hb dL_isFolded_139 rfl (lv_at hl 5 rfl) ?_
                              refine lv_iload hx hb dL_isFolded_140 (lv_at hl 1 rfl) ?_
                              refine sl_ialdN hC hG 42 ((hf56 42 (by decide) (by decide)).trans h42) (j := t) et (by omega) (by omega) dL_isFolded_142 ?_
                              refine sl_topi (y := (E t).2.2.2.1) (hA t ht) ?_
                              refine lv_goto (tgt := 147) hx hb dL_isFolded_143 (by decide) ?_
                              refine lv_iadd hx hb dL_isFolded_147 ?_
                              refine lv_istore (lv' := [(7, .int ((sl_vs n C E (nI j) pp) + ((E t).2.2.2.1))), (12, .int 1), (11, .int (C pp)), (9, .int 1), (0, .ref (α 0)), (1, .ref a1), (2, .ref a2), (3, .ref a6), (4, .int (nI j)), (5, .int (nI (sl_kn C))), (6, .int (nI pl)), (8, .int (sl_la n C E (nI j) pp)), (10, .int (nI pp))]) hx hb dL_isFolded_148 hl (by decide) rfl (fun ls hl => ?_)
                              refine lv_iload hx hb dL_isFolded_150 (lv_at hl 1 rfl) ?_
                              refine lv_if_eq (tgt := 160) hx hb dL_isFolded_152 (by decide) (fun c_152 => ?_) (fun c_152 => ?_)
                              · exact absurd c_152 (by decide)
                              · refine lv_iload hx hb dL_isFolded_155 (lv_at hl 12 rfl) ?_
                                refine lv_goto (tgt := 162) hx hb dL_isFolded_157 (by decide) ?_
                                refine lv_istore (lv' := [(8, .int (nI pp)), (7, .int ((sl_vs n C E (nI j) pp) + ((E t).2.2.2.1))), (12, .int 1), (11, .int (C pp)), (9, .int 1), (0, .ref (α 0)), (1, .ref a1), (2, .ref a2), (3, .ref a6), (4, .int (nI j)), (5, .int (nI (sl_kn C))), (6, .int (nI pl)), (10, .int (nI pp))]) hx hb dL_isFolded_162 hl (by decide) rfl (fun ls hl => ?_)
                                refine lv_iload hx hb dL_isFolded_164 (lv_at hl 4 rfl) ?_
                                refine lv_if_eq (tgt := 232) hx hb dL_isFolded_166 (by decide) (fun c_166 => ?_) (fun c_166 => ?_)
                                · exact absurd c_166 (by decide)
                                · refine lv_iload hx hb dL_isFolded_169 (lv_at hl 3 rfl) ?_
                                  refine lv_bipush (v := (-2)) hx hb dL_isFolded_171 (by decide) ?_
                                  refine lv_icmp_eq (tgt := 232) hx hb dL_isFolded_173 (by decide) (fun c_173 => ?_) (fun c_173 => ?_)
                                  · exact absurd c_173 (lp_kn_same hJ n_88).2.2
                                  · refine lv_aload_n hx hb dL_isFolded_176 rfl (lv_at hl 5 rfl) ?_
                                    refine lv_iconst (v := 1) hx hb dL_isFolded_177 (by decide) ?_
                                    refine lv_iload hx hb dL_isFolded_178 (lv_at hl 12 rfl) ?_
                                    refine sl_calli (sl_runV (As := [.int 1, .int (nI pp)]) (rest := []) hC hG (sl_nox (kX4_cellAt l hlt Γ u_56 α β n ep tl lo T C E hK56 1 (nI pp)) (fun E9 z => lp_ca (by decide) (by omega) z.2)) mi_X4_cellAt lk_RL_8 0 hK56.1 rfl rfl rfl ⟨Nat.le_of_ble_eq_true rfl, Nat.le_of_ble_eq_true rfl⟩ rfl hl.1 rfl (Nat.le_of_ble_eq_true rfl) dL_isFolded_180 ⟨(by show _ + _ ≤ 427; omega), (by show _ + _ ≤ 2562; omega)⟩) hG (fun r_180 u_180 H locs hr_180 hG => ?_)
                                    refine sl_topi (y := C pp) (hr_180.2.trans ((lp_cg1 C (by omega)).trans (lp_kn_same hJ n_88).1)) ?_
                                    refine lv_iload hx hb dL_isFolded_183 (lv_at hl 3 rfl) ?_
                                    refine lv_icmp_ne (tgt := 232) hx hb dL_isFolded_185 (by decide) (fun c_185 => ?_) (fun c_185 => ?_)
                                    · exact absurd rfl c_185
                                    · refine lv_aload_n hx hb dL_isFolded_188 rfl (lv_at hl 5 rfl) ?_
                                      refine lv_iconst (v := 2) hx hb dL_isFolded_189 (by decide) ?_
                                      refine lv_iload hx hb dL_isFolded_190 (lv_at hl 12 rfl) ?_
                                      refine sl_calli (sl_runV (As := [.int 2, .int (nI pp)]) (rest := []) hC hG (sl_nox (kX4_cellAt l hlt Γ u_56 α β n ep tl lo T C E hK56 2 (nI pp)) (fun E9 z => lp_ca (by decide) (by omega) z.2)) mi_X4_cellAt lk_RL_8 0 hK56.1 rfl rfl rfl ⟨Nat.le_of_ble_eq_true rfl, Nat.le_of_ble_eq_true rfl⟩ rfl hl.1 rfl (Nat.le_of_ble_eq_true rfl) dL_isFolded_192 ⟨(by show _ + _ ≤ 427; omega), (by show _ + _ ≤ 2562; omega)⟩) hG (fun r_192 u_192 H locs hr_192 hG => ?_)
                                      refine sl_topi (y := C pp) (hr_192.2.trans ((lp_cg2 C (by omega)).trans (lp_kn_same hJ n_88).2.1)) ?_
                                      refine lv_iload hx hb dL_isFolded_195 (lv_at hl 3 rfl) ?_
                                      refine lv_icmp_ne (tgt := 232) hx hb dL_isFolded_197 (by decide) (fun c_197 => ?_) (fun c_197 => ?_)
                                      · exact absurd rfl c_197
                                      · refine lv_iload hx hb dL_isFolded_200 (lv_at hl 12 rfl) ?_
                                        refine lv_iload hx hb dL_isFolded_202 (lv_at hl 11 rfl) ?_
                                        refine lv_icmp_ne (tgt := 228) hx hb dL_isFolded_204 (by decide) (fun c_204 => ?_) (fun c_204 => ?_)
                                        · have n_204 : ¬ (pp = pl) := fun z => c_204 ((nI_eq (a := pp) (b := pl) (by omega) (by omega)).mpr z)
                                          refine lv_iconst (v := 1) hx hb dL_isFolded_228 (by decide) ?_
                                          refine lv_goto (tgt := 233) hx hb dL_isFolded_229 (by decide) ?_
                                          refine lv_istore (lv' := [(9, .int 1), (8, .int (nI pp)), (7, .int ((sl_vs n C E (nI j) pp) + ((E t).2.2.2.1))), (12, .int 1), (11, .int (C pp)), (0, .ref (α 0)), (1, .ref a1), (2, .ref a2), (3, .ref a6), (4, .int (nI j)), (5, .int (nI (sl_kn C))), (6, .int (nI pl)), (10, .int (nI pp))]) hx hb dL_isFolded_233 hl (by decide) rfl (fun ls hl => ?_)
                                          refine lv_iinc (v := nI (pp + 1)) (lv' := [(10, .int (nI (pp + 1))), (9, .int 1), (8, .int (nI pp)), (7, .int ((sl_vs n C E (nI j) pp) + ((E t).2.2.2.1))), (12, .int 1), (11, .int (C pp)), (0, .ref (α 0)), (1, .ref a1), (2, .ref a2), (3, .ref a6), (4, .int (nI j)), (5, .int (nI (sl_kn C))), (6, .int (nI pl))]) hx hb dL_isFolded_235 hl (k := 12) rfl (nI_1 pp) (by decide) rfl (fun ls hl => ?_)
                                          refine lv_goto (tgt := 12) hx hb dL_isFolded_238 (by decide) ?_
                                          exact ih_12 (pp + 1) u_56 ((sl_vs n C E (nI j) pp) + ((E t).2.2.2.1)) (nI pp) ((((((cs + 1) + 1) + 1) + 1) + 1) + 1) ((((((ss + 6) + 6) + 6) + 6) + 6) + 6) (by omega) (by omega) (by omega) (by omega) hK56 hf56 (fun _ => lp_vs_y etok (lp_ef_gt c_136) hhs) (fun _ => lp_la_y hhs) _ _ hG _ (lv_sub hl [6, 7, 8, 9, 10, 11, 12, 3, 2, 1, 0] rfl)
                                        · have n_204 : pp = pl := (nI_eq (a := pp) (b := pl) (by omega) (by omega)).mp c_204
                                          refine lv_aload_n hx hb dL_isFolded_207 rfl (lv_at hl 5 rfl) ?_
                                          refine lv_iload hx hb dL_isFolded_208 (lv_at hl 12 rfl) ?_
                                          refine sl_calli (sl_runV (As := [.int (nI pp)]) (rest := []) hC hG (sl_nox (kX4_takesEffect l hlt Γ u_56 α β n ep tl lo T C E hK56 (nI pp)) (fun E9 z => lp_tk n_88 hkn z.2)) mi_X4_takesEffect lk_RL_23 0 hK56.1 rfl rfl rfl ⟨Nat.le_of_ble_eq_true rfl, Nat.le_of_ble_eq_true rfl⟩ rfl hl.1 rfl (Nat.le_of_ble_eq_true rfl) dL_isFolded_210 ⟨(by show _ + _ ≤ 427; omega), (by show _ + _ ≤ 2562; omega)⟩) hG (fun r_210 u_210 H locs hr_210 hG => ?_)
                                          have hG : sl_I Γ u_210 s H locs := hG
                                          have hK210 := hr_210.2.1
                                          have hf210 := sl_fr.tr hf56 hr_210.2.2
                                          obtain ⟨⟨b9, y1, y2, y3⟩, -⟩ := hr_210
                                          have y7 : b9 = pp := (sl_nIne (by omega) (by omega) y1).symm
                                          refine sl_topi (y := sl_bi (sl_ev n C E pp)) (by rw [y3, y7]) ?_
                                          refine lv_aload_n hx hb dL_isFolded_213 rfl (lv_at hl 8 rfl) ?_
                                          refine lv_iload hx hb dL_isFolded_214 (lv_at hl 12 rfl) ?_
                                          refine sl_ialdN hC hG 46 ((hf210 46 (by decide) (by decide)).trans h46) (j := pp) rfl (by omega) (by omega) dL_isFolded_216 ?_
                                          refine sl_topi (y := lp_ef n C E pp) (hF pp n_88) ?_
                                          refine lv_if_le (tgt := 224) hx hb dL_isFolded_217 (by decide) (fun c_217 => ?_) (fun c_217 => ?_)
                                          · refine lv_iconst (v := 0) hx hb dL_isFolded_224 (by decide) ?_
                                            refine lv_icmp_ne (tgt := 232) hx hb dL_isFolded_225 (by decide) (fun c_225 => ?_) (fun c_225 => ?_)
                                            · exact absurd (lp_b0 (lp_ef_z hn9 c_217)) c_225
                                            · refine lv_iconst (v := 1) hx hb dL_isFolded_228 (by decide) ?_
                                              refine lv_goto (tgt := 233) hx hb dL_isFolded_229 (by decide) ?_
                                              refine lv_istore (lv' := [(9, .int 1), (8, .int (nI pp)), (7, .int ((sl_vs n C E (nI j) pp) + ((E t).2.2.2.1))), (12, .int 1), (11, .int (C pp)), (0, .ref (α 0)), (1, .ref a1), (2, .ref a2), (3, .ref a6), (4, .int (nI j)), (5, .int (nI (sl_kn C))), (6, .int (nI pl)), (10, .int (nI pp))]) hx hb dL_isFolded_233 hl (by decide) rfl (fun ls hl => ?_)
                                              refine lv_iinc (v := nI (pp + 1)) (lv' := [(10, .int (nI (pp + 1))), (9, .int 1), (8, .int (nI pp)), (7, .int ((sl_vs n C E (nI j) pp) + ((E t).2.2.2.1))), (12, .int 1), (11, .int (C pp)), (0, .ref (α 0)), (1, .ref a1), (2, .ref a2), (3, .ref a6), (4, .int (nI j)), (5, .int (nI (sl_kn C))), (6, .int (nI pl))]) hx hb dL_isFolded_235 hl (k := 12) rfl (nI_1 pp) (by decide) rfl (fun ls hl => ?_)
                                              refine lv_goto (tgt := 12) hx hb dL_isFolded_238 (by decide) ?_
                                              exact ih_12 (pp + 1) u_210 ((sl_vs n C E (nI j) pp) + ((E t).2.2.2.1)) (nI pp) (((((((cs + 1) + 1) + 1) + 1) + 1) + 1) + 1) (((((((ss + 6) + 6) + 6) + 6) + 6) + 6) + 6) (by omega) (by omega) (by omega) (by omega) hK210 hf210 (fun _ => lp_vs_y etok (lp_ef_gt c_136) hhs) (fun _ => lp_la_y hhs) _ _ hG _ (lv_sub hl [6, 7, 8, 9, 10, 11, 12, 3, 2, 1, 0] rfl)
                                          · refine lv_iconst (v := 1) hx hb dL_isFolded_220 (by decide) ?_
                                            refine lv_goto (tgt := 225) hx hb dL_isFolded_221 (by decide) ?_
                                            refine lv_icmp_ne (tgt := 232) hx hb dL_isFolded_225 (by decide) (fun c_225 => ?_) (fun c_225 => ?_)
                                            · exact absurd (lp_b1 (lp_ef_gt c_217)) c_225
                                            · refine lv_iconst (v := 1) hx hb dL_isFolded_228 (by decide) ?_
                                              refine lv_goto (tgt := 233) hx hb dL_isFolded_229 (by decide) ?_
                                              refine lv_istore (lv' := [(9, .int 1), (8, .int (nI pp)), (7, .int ((sl_vs n C E (nI j) pp) + ((E t).2.2.2.1))), (12, .int 1), (11, .int (C pp)), (0, .ref (α 0)), (1, .ref a1), (2, .ref a2), (3, .ref a6), (4, .int (nI j)), (5, .int (nI (sl_kn C))), (6, .int (nI pl)), (10, .int (nI pp))]) hx hb dL_isFolded_233 hl (by decide) rfl (fun ls hl => ?_)
                                              refine lv_iinc (v := nI (pp + 1)) (lv' := [(10, .int (nI (pp + 1))), (9, .int 1), (8, .int (nI pp)), (7, .int ((sl_vs n C E (nI j) pp) + ((E t).2.2.2.1))), (12, .int 1), (11, .int (C pp)), (0, .ref (α 0)), (1, .ref a1), (2, .ref a2), (3, .ref a6), (4, .int (nI j)), (5, .int (nI (sl_kn C))), (6, .int (nI pl))]) hx hb dL_isFolded_235 hl (k := 12) rfl (nI_1 pp) (by decide) rfl (fun ls hl => ?_)
                                              refine lv_goto (tgt := 12) hx hb dL_isFolded_238 (by decide) ?_
                                              exact ih_12 (pp + 1) u_210 ((sl_vs n C E (nI j) pp) + ((E t).2.2.2.1)) (nI pp) (((((((cs + 1) + 1) + 1) + 1) + 1) + 1) + 1) (((((((ss + 6) + 6) + 6) + 6) + 6) + 6) + 6) (by omega) (by omega) (by omega) (by omega) hK210 hf210 (fun _ => lp_vs_y etok (lp_ef_gt c_136) hhs) (fun _ => lp_la_y hhs) _ _ hG _ (lv_sub hl [6, 7, 8, 9, 10, 11, 12, 3, 2, 1, 0] rfl)
  exact loop_12 (sl_kn C + 1 + 1) 0 g 0 (-1) 0 0 (by omega) (by omega) (by omega) (by omega) hK (sl_fr.rf g) (fun _ => rfl) (fun _ => rfl) _ _ hG _ (lv_sub hl [4, 5, 6, 7, 8, 9, 10, 3, 2, 1, 0] rfl)
