/-! pointers, the fold of the log -/
theorem sl_pq_0 {n : Nat} {C : Nat → Int32} {E : Nat → sl_Ent} {k q : Nat} (h : sl_tok n (C q) = none) : sl_pq n C E k q = -1 := by rw [sl_pq, h]
theorem sl_pq_1 {n t : Nat} {C : Nat → Int32} {E : Nat → sl_Ent} {k q : Nat} (h : sl_tok n (C q) = some t) : sl_pq n C E k q = sl_pb n C E k t := by rw [sl_pq, h]
theorem sl_isS {o : Option Nat} {t : Nat} (h : o = some t) : o.isSome = true := by rw [h]; rfl
theorem sl_isN {o : Option Nat} (h : o = none) : ¬ o.isSome = true := by rw [h]; decide
theorem sl_pt_q {x : Int32} (h : sl_pt x) (hn : ¬ x = -1) : ∃ q : Nat, q < 120 ∧ x = nI q := h.elim (fun e => absurd e hn) id
theorem sl_up_comm (g : sl_W) {a b : Nat} (x y : Nat × va_E) (h : a ≠ b) : sl_up (sl_up g a x) b y = sl_up (sl_up g b y) a x := by
  funext j
  by_cases h1 : j = a
  · subst h1
    rw [sl_up_n _ _ h, sl_up_s, sl_up_s]
  · by_cases h2 : j = b
    · subst h2
      rw [sl_up_s, sl_up_n _ _ h1, sl_up_s]
    · rw [sl_up_n _ _ h2, sl_up_n _ _ h1, sl_up_n _ _ h1, sl_up_n _ _ h2]
theorem sl_up_678 (g : sl_W) (a b c a' b' c' : Nat × va_E) : sl_up (sl_up (sl_up (sl_up (sl_up (sl_up g 7 a) 8 b) 6 c) 7 a') 8 b') 6 c' = sl_up (sl_up (sl_up g 7 a') 8 b') 6 c' := by
  funext j
  by_cases e6 : j = 6 <;> by_cases e7 : j = 7 <;> by_cases e8 : j = 8 <;> simp [sl_up, e6, e7, e8]
theorem sl_fF {n k : Nat} {C : Nat → Int32} {E : Nat → sl_Ent} {F : Nat → Int32} (h : ∀ q, q < k → F q = sl_bi (sl_ev n C E q)) : ∀ q, q < k + 1 → upd F k (sl_bi (sl_ev n C E k)) q = sl_bi (sl_ev n C E q) := by
  intro q hq
  by_cases e : q = k
  · rw [e, pk_us]
  · rw [pk_un e]; exact h q (by omega)
theorem sl_bi_ne {b : Bool} (h : decide (sl_bi b = 0) = false) : b = true := by cases b; exact absurd h (by decide); rfl
theorem sl_bi_eq {b : Bool} (h : decide (sl_bi b = 0) = true) : b = false := by cases b; rfl; exact absurd h (by decide)
/-- what a fold leaves -/
def sl_FW (Γ : sl_G) (α : Nat → Nat) (d : Nat) (n : Nat) (C : Nat → Int32) (E : Nat → sl_Ent) (g g' : sl_W) : Prop :=
  g' 6 = some (α 6, .inr (2, [.ref (α 7), .ref (α 8), .int (nI d)])) ∧ (∃ F : Nat → Int32, g' 7 = some (α 7, .inl (Γ.2.1 1, 120, .inl F)) ∧ ∀ q, q < d → F q = sl_bi (sl_ev n C E q)) ∧ (∃ X : Nat → Int32, g' 8 = some (α 8, .inl (Γ.2.1 0, 4, .inl X))) ∧ ∀ k, k ≠ 6 → k ≠ 7 → k ≠ 8 → g' k = g k
set_option maxHeartbeats 4000000 in
set_option maxRecDepth 100000 in
theorem kX4_previousByPointers (l : Launch) (Γ : sl_G) (g : sl_W) (α : Nat → Nat) (β : Nat → Nat × Nat × Nat) (n : Nat) (C : Nat → Int32) (E : Nat → sl_Ent) (hS : sl_Ro Γ α β n C E g) (hP : ∀ t, t < n → ∀ j, j < 16 → sl_pt ((E t).2.2.2.2.2.2.1 j)) (k b : Nat) (hk9 : k < 4) (hb9 : b < 120) : Met l yX4_previousByPointers [Cond.code yX4_previousByPointers cX4_previousByPointers 7 (some .int)] ({ frames := 5, cells := 0, slots := 0, locals := 109 } : Room) (va_Pc [.ref (α 0), .int (nI k), .int (nI b)] (sl_B Γ g)) (sl_Qi Γ (fun r (_ : Unit) => r = sl_pq n C E k b) (fun _ => g)) 0 0 (sl_A Γ) := by
  refine sl_ent (by decide) (Nat.le_of_ble_eq_true rfl) ?_
  intro p e s m below meth c ls hC hr hin hG hl
  have hx := hC.1
  have hb := hC.2.1
  have hl : lv_has ls 7 [(0, .ref (α 0)), (1, .int (nI k)), (2, .int (nI b))] := hl
  obtain ⟨⟨z4, z5, z6, z7, h0⟩, h1, h2, h3, hE, hn9⟩ := id hS
  refine lv_aload_n hx hb dX4_previousByPointers_0 rfl (lv_at hl 0 rfl) ?_
  refine lv_iload_n hx hb dX4_previousByPointers_1 rfl (lv_at hl 2 rfl) ?_
  refine sl_callq (sl_runV (As := [.int (nI b)]) (rest := []) hC hG (kX4_entryIn l Γ g α β n C E hS (nI b)) mi_X4_entryIn lk_RX4_84 0 h0 rfl rfl rfl ⟨Nat.le_of_ble_eq_true rfl, Nat.le_of_ble_eq_true rfl⟩ rfl hl.1 rfl (Nat.le_of_ble_eq_true rfl) dX4_previousByPointers_2 ⟨Nat.le_of_ble_eq_true rfl, Nat.le_of_ble_eq_true rfl⟩) hG (fun r_2 u_2 H locs hr_2 hG => ?_)
  subst hr_2
  rw [show sl_ta n C (nI b) = sl_tok n (C b) from congrArg (sl_tok n) (sl_cg0 C (by omega))]
  rcases sl_opt (sl_tok n (C b)) with hq_2 | ⟨t_2, hq_2⟩
  · refine sl_top (w := .null) (by rw [hq_2]; rfl) ?_
    refine lv_astore_nN (lv' := [(3, .null), (0, .ref (α 0)), (1, .int (nI k)), (2, .int (nI b))]) hx hb dX4_previousByPointers_5 rfl hl (by decide) rfl (fun ls hl => ?_)
    refine lv_aload_nN hx hb dX4_previousByPointers_6 rfl (lv_at hl 0 rfl) ?_
    refine lv_ifnonnullN hx hb dX4_previousByPointers_7 ?_
    refine lv_iconst (v := (-1)) hx hb dX4_previousByPointers_10 (by decide) ?_
    exact sl_ri (v := (-1)) hC hr hG () (sl_pq_0 hq_2).symm rfl (Nat.le_of_ble_eq_true rfl) (Nat.le_of_ble_eq_true rfl) dX4_previousByPointers_11
  · refine sl_top (w := .ref ((β t_2).1)) (by rw [hq_2]; rfl) ?_
    have ht_t_2 := sl_tok_lt hq_2
    refine lv_astore_n (lv' := [(3, .ref ((β t_2).1)), (0, .ref (α 0)), (1, .int (nI k)), (2, .int (nI b))]) hx hb dX4_previousByPointers_5 rfl hl (by decide) rfl (fun ls hl => ?_)
    refine lv_aload_n hx hb dX4_previousByPointers_6 rfl (lv_at hl 0 rfl) ?_
    refine lv_ifnonnull (tgt := 12) hx hb dX4_previousByPointers_7 (by decide) ?_
    refine lv_iconst (v := (-1)) hx hb dX4_previousByPointers_12 (by decide) ?_
    refine lv_istore (lv' := [(4, .int (-1)), (3, .ref ((β t_2).1)), (0, .ref (α 0)), (1, .int (nI k)), (2, .int (nI b))]) hx hb dX4_previousByPointers_13 hl (by decide) rfl (fun ls hl => ?_)
    refine lv_iconst (v := 0) hx hb dX4_previousByPointers_15 (by decide) ?_
    refine lv_istore (lv' := [(5, .int 0), (4, .int (-1)), (3, .ref ((β t_2).1)), (0, .ref (α 0)), (1, .int (nI k)), (2, .int (nI b))]) hx hb dX4_previousByPointers_16 hl (by decide) rfl (fun ls hl => ?_)
    refine lv_iload hx hb dX4_previousByPointers_18 (lv_at hl 0 rfl) ?_
    refine lv_iconst (v := 4) hx hb dX4_previousByPointers_20 (by decide) ?_
    refine lv_icmp_ge (tgt := 66) hx hb dX4_previousByPointers_21 (by decide) (fun c_21_0 => ?_) (fun c_21_0 => ?_)
    · exact absurd c_21_0 (by decide)
    · refine lv_aload_n hx hb dX4_previousByPointers_24 rfl (lv_at hl 2 rfl) ?_
      refine sl_getN (C := RX1) (T := TX1) (N := 8) hC hG (100 + 3 * t_2) (hE t_2 ht_t_2).1 rfl la_1 6 (by decide) lk_RX4_138 rfl rfl dX4_previousByPointers_25 ?_
      refine lv_iload_n hx hb dX4_previousByPointers_28 rfl (lv_at hl 4 rfl) ?_
      refine lv_iload hx hb dX4_previousByPointers_29 (lv_at hl 0 rfl) ?_
      refine sl_calli (sl_runVN (As := [.int (nI k), .int 0]) (rest := []) hC hG (kX3_get l Γ g (101 + 3 * t_2) (102 + 3 * t_2) (β t_2).2.1 (β t_2).2.2 ((E t_2).2.2.2.2.2.2.1) (hE t_2 ht_t_2).2.1 (hE t_2 ht_t_2).2.2 (nI k) 0) mi_X3_get lk_RX4_141 (101 + 3 * t_2) (hE t_2 ht_t_2).2.1 rfl rfl rfl ⟨Nat.le_of_ble_eq_true rfl, Nat.le_of_ble_eq_true rfl⟩ rfl hl.1 rfl (Nat.le_of_ble_eq_true rfl) dX4_previousByPointers_31 ⟨Nat.le_of_ble_eq_true rfl, Nat.le_of_ble_eq_true rfl⟩) hG (fun r_31_0 u_31_0 H locs hr_31_0 hG => ?_)
      subst hr_31_0
      refine sl_topi (y := ((E t_2).2.2.2.2.2.2.1) (4 * k + 0)) (sl_tgN ((E t_2).2.2.2.2.2.2.1) (a := k) (b := 0) (by omega) (by omega)) ?_
      refine lv_istore (lv' := [(6, .int (((E t_2).2.2.2.2.2.2.1) (4 * k + 0))), (5, .int 0), (4, .int (-1)), (3, .ref ((β t_2).1)), (0, .ref (α 0)), (1, .int (nI k)), (2, .int (nI b))]) hx hb dX4_previousByPointers_34 hl (by decide) rfl (fun ls hl => ?_)
      refine lv_iload hx hb dX4_previousByPointers_36 (lv_at hl 0 rfl) ?_
      refine lv_iconst (v := (-1)) hx hb dX4_previousByPointers_38 (by decide) ?_
      refine lv_icmp_ne (tgt := 44) hx hb dX4_previousByPointers_39 (by decide) (fun c_39_0 => ?_) (fun c_39_0 => ?_)
      · refine lv_aload_n hx hb dX4_previousByPointers_44 rfl (lv_at hl 4 rfl) ?_
        refine lv_iload hx hb dX4_previousByPointers_45 (lv_at hl 0 rfl) ?_
        refine sl_callq (sl_runV (As := [.int (((E t_2).2.2.2.2.2.2.1) (4 * k + 0))]) (rest := []) hC hG (kX4_entryIn l Γ g α β n C E hS (((E t_2).2.2.2.2.2.2.1) (4 * k + 0))) mi_X4_entryIn lk_RX4_84 0 h0 rfl rfl rfl ⟨Nat.le_of_ble_eq_true rfl, Nat.le_of_ble_eq_true rfl⟩ rfl hl.1 rfl (Nat.le_of_ble_eq_true rfl) dX4_previousByPointers_47 ⟨Nat.le_of_ble_eq_true rfl, Nat.le_of_ble_eq_true rfl⟩) hG (fun r_47_0 u_47_0 H locs hr_47_0 hG => ?_)
        subst hr_47_0
        rcases sl_opt (sl_ta n C (((E t_2).2.2.2.2.2.2.1) (4 * k + 0))) with hq_47_0 | ⟨t_47_0, hq_47_0⟩
        · refine sl_top (w := .null) (by rw [hq_47_0]; rfl) ?_
          refine lv_ifnullN (tgt := 56) hx hb dX4_previousByPointers_50 (by decide) ?_
          refine lv_iload hx hb dX4_previousByPointers_56 (lv_at hl 0 rfl) ?_
          refine lv_istore (lv' := [(4, .int (((E t_2).2.2.2.2.2.2.1) (4 * k + 0))), (6, .int (((E t_2).2.2.2.2.2.2.1) (4 * k + 0))), (5, .int 0), (3, .ref ((β t_2).1)), (0, .ref (α 0)), (1, .int (nI k)), (2, .int (nI b))]) hx hb dX4_previousByPointers_58 hl (by decide) rfl (fun ls hl => ?_)
          refine lv_iinc (v := 1) (lv' := [(5, .int 1), (4, .int (((E t_2).2.2.2.2.2.2.1) (4 * k + 0))), (6, .int (((E t_2).2.2.2.2.2.2.1) (4 * k + 0))), (3, .ref ((β t_2).1)), (0, .ref (α 0)), (1, .int (nI k)), (2, .int (nI b))]) hx hb dX4_previousByPointers_60 hl (k := 2) rfl (by decide) (by decide) rfl (fun ls hl => ?_)
          refine lv_goto (tgt := 18) hx hb dX4_previousByPointers_63 (by decide) ?_
          refine lv_iload hx hb dX4_previousByPointers_18 (lv_at hl 0 rfl) ?_
          refine lv_iconst (v := 4) hx hb dX4_previousByPointers_20 (by decide) ?_
          refine lv_icmp_ge (tgt := 66) hx hb dX4_previousByPointers_21 (by decide) (fun c_21_1 => ?_) (fun c_21_1 => ?_)
          · exact absurd c_21_1 (by decide)
          · refine lv_aload_n hx hb dX4_previousByPointers_24 rfl (lv_at hl 3 rfl) ?_
            refine sl_getN (C := RX1) (T := TX1) (N := 8) hC hG (100 + 3 * t_2) (hE t_2 ht_t_2).1 rfl la_1 6 (by decide) lk_RX4_138 rfl rfl dX4_previousByPointers_25 ?_
            refine lv_iload_n hx hb dX4_previousByPointers_28 rfl (lv_at hl 5 rfl) ?_
            refine lv_iload hx hb dX4_previousByPointers_29 (lv_at hl 0 rfl) ?_
            refine sl_calli (sl_runVN (As := [.int (nI k), .int 1]) (rest := []) hC hG (kX3_get l Γ g (101 + 3 * t_2) (102 + 3 * t_2) (β t_2).2.1 (β t_2).2.2 ((E t_2).2.2.2.2.2.2.1) (hE t_2 ht_t_2).2.1 (hE t_2 ht_t_2).2.2 (nI k) 1) mi_X3_get lk_RX4_141 (101 + 3 * t_2) (hE t_2 ht_t_2).2.1 rfl rfl rfl ⟨Nat.le_of_ble_eq_true rfl, Nat.le_of_ble_eq_true rfl⟩ rfl hl.1 rfl (Nat.le_of_ble_eq_true rfl) dX4_previousByPointers_31 ⟨Nat.le_of_ble_eq_true rfl, Nat.le_of_ble_eq_true rfl⟩) hG (fun r_31_1 u_31_1 H locs hr_31_1 hG => ?_)
            subst hr_31_1
            refine sl_topi (y := ((E t_2).2.2.2.2.2.2.1) (4 * k + 1)) (sl_tgN ((E t_2).2.2.2.2.2.2.1) (a := k) (b := 1) (by omega) (by omega)) ?_
            refine lv_istore (lv' := [(6, .int (((E t_2).2.2.2.2.2.2.1) (4 * k + 1))), (5, .int 1), (4, .int (((E t_2).2.2.2.2.2.2.1) (4 * k + 0))), (3, .ref ((β t_2).1)), (0, .ref (α 0)), (1, .int (nI k)), (2, .int (nI b))]) hx hb dX4_previousByPointers_34 hl (by decide) rfl (fun ls hl => ?_)
            refine lv_iload hx hb dX4_previousByPointers_36 (lv_at hl 0 rfl) ?_
            refine lv_iconst (v := (-1)) hx hb dX4_previousByPointers_38 (by decide) ?_
            refine lv_icmp_ne (tgt := 44) hx hb dX4_previousByPointers_39 (by decide) (fun c_39_1 => ?_) (fun c_39_1 => ?_)
            · refine lv_aload_n hx hb dX4_previousByPointers_44 rfl (lv_at hl 4 rfl) ?_
              refine lv_iload hx hb dX4_previousByPointers_45 (lv_at hl 0 rfl) ?_
              refine sl_callq (sl_runV (As := [.int (((E t_2).2.2.2.2.2.2.1) (4 * k + 1))]) (rest := []) hC hG (kX4_entryIn l Γ g α β n C E hS (((E t_2).2.2.2.2.2.2.1) (4 * k + 1))) mi_X4_entryIn lk_RX4_84 0 h0 rfl rfl rfl ⟨Nat.le_of_ble_eq_true rfl, Nat.le_of_ble_eq_true rfl⟩ rfl hl.1 rfl (Nat.le_of_ble_eq_true rfl) dX4_previousByPointers_47 ⟨Nat.le_of_ble_eq_true rfl, Nat.le_of_ble_eq_true rfl⟩) hG (fun r_47_1 u_47_1 H locs hr_47_1 hG => ?_)
              subst hr_47_1
              rcases sl_opt (sl_ta n C (((E t_2).2.2.2.2.2.2.1) (4 * k + 1))) with hq_47_1 | ⟨t_47_1, hq_47_1⟩
              · refine sl_top (w := .null) (by rw [hq_47_1]; rfl) ?_
                refine lv_ifnullN (tgt := 56) hx hb dX4_previousByPointers_50 (by decide) ?_
                refine lv_iload hx hb dX4_previousByPointers_56 (lv_at hl 0 rfl) ?_
                refine lv_istore (lv' := [(4, .int (((E t_2).2.2.2.2.2.2.1) (4 * k + 1))), (6, .int (((E t_2).2.2.2.2.2.2.1) (4 * k + 1))), (5, .int 1), (3, .ref ((β t_2).1)), (0, .ref (α 0)), (1, .int (nI k)), (2, .int (nI b))]) hx hb dX4_previousByPointers_58 hl (by decide) rfl (fun ls hl => ?_)
                refine lv_iinc (v := 2) (lv' := [(5, .int 2), (4, .int (((E t_2).2.2.2.2.2.2.1) (4 * k + 1))), (6, .int (((E t_2).2.2.2.2.2.2.1) (4 * k + 1))), (3, .ref ((β t_2).1)), (0, .ref (α 0)), (1, .int (nI k)), (2, .int (nI b))]) hx hb dX4_previousByPointers_60 hl (k := 2) rfl (by decide) (by decide) rfl (fun ls hl => ?_)
                refine lv_goto (tgt := 18) hx hb dX4_previousByPointers_63 (by decide) ?_
                refine lv_iload hx hb dX4_previousByPointers_18 (lv_at hl 0 rfl) ?_
                refine lv_iconst (v := 4) hx hb dX4_previousByPointers_20 (by decide) ?_
                refine lv_icmp_ge (tgt := 66) hx hb dX4_previousByPointers_21 (by decide) (fun c_21_2 => ?_) (fun c_21_2 => ?_)
                · exact absurd c_21_2 (by decide)
                · refine lv_aload_n hx hb dX4_previousByPointers_24 rfl (lv_at hl 3 rfl) ?_
                  refine sl_getN (C := RX1) (T := TX1) (N := 8) hC hG (100 + 3 * t_2) (hE t_2 ht_t_2).1 rfl la_1 6 (by decide) lk_RX4_138 rfl rfl dX4_previousByPointers_25 ?_
                  refine lv_iload_n hx hb dX4_previousByPointers_28 rfl (lv_at hl 5 rfl) ?_
                  refine lv_iload hx hb dX4_previousByPointers_29 (lv_at hl 0 rfl) ?_
                  refine sl_calli (sl_runVN (As := [.int (nI k), .int 2]) (rest := []) hC hG (kX3_get l Γ g (101 + 3 * t_2) (102 + 3 * t_2) (β t_2).2.1 (β t_2).2.2 ((E t_2).2.2.2.2.2.2.1) (hE t_2 ht_t_2).2.1 (hE t_2 ht_t_2).2.2 (nI k) 2) mi_X3_get lk_RX4_141 (101 + 3 * t_2) (hE t_2 ht_t_2).2.1 rfl rfl rfl ⟨Nat.le_of_ble_eq_true rfl, Nat.le_of_ble_eq_true rfl⟩ rfl hl.1 rfl (Nat.le_of_ble_eq_true rfl) dX4_previousByPointers_31 ⟨Nat.le_of_ble_eq_true rfl, Nat.le_of_ble_eq_true rfl⟩) hG (fun r_31_2 u_31_2 H locs hr_31_2 hG => ?_)
                  subst hr_31_2
                  refine sl_topi (y := ((E t_2).2.2.2.2.2.2.1) (4 * k + 2)) (sl_tgN ((E t_2).2.2.2.2.2.2.1) (a := k) (b := 2) (by omega) (by omega)) ?_
                  refine lv_istore (lv' := [(6, .int (((E t_2).2.2.2.2.2.2.1) (4 * k + 2))), (5, .int 2), (4, .int (((E t_2).2.2.2.2.2.2.1) (4 * k + 1))), (3, .ref ((β t_2).1)), (0, .ref (α 0)), (1, .int (nI k)), (2, .int (nI b))]) hx hb dX4_previousByPointers_34 hl (by decide) rfl (fun ls hl => ?_)
                  refine lv_iload hx hb dX4_previousByPointers_36 (lv_at hl 0 rfl) ?_
                  refine lv_iconst (v := (-1)) hx hb dX4_previousByPointers_38 (by decide) ?_
                  refine lv_icmp_ne (tgt := 44) hx hb dX4_previousByPointers_39 (by decide) (fun c_39_2 => ?_) (fun c_39_2 => ?_)
                  · refine lv_aload_n hx hb dX4_previousByPointers_44 rfl (lv_at hl 4 rfl) ?_
                    refine lv_iload hx hb dX4_previousByPointers_45 (lv_at hl 0 rfl) ?_
                    refine sl_callq (sl_runV (As := [.int (((E t_2).2.2.2.2.2.2.1) (4 * k + 2))]) (rest := []) hC hG (kX4_entryIn l Γ g α β n C E hS (((E t_2).2.2.2.2.2.2.1) (4 * k + 2))) mi_X4_entryIn lk_RX4_84 0 h0 rfl rfl rfl ⟨Nat.le_of_ble_eq_true rfl, Nat.le_of_ble_eq_true rfl⟩ rfl hl.1 rfl (Nat.le_of_ble_eq_true rfl) dX4_previousByPointers_47 ⟨Nat.le_of_ble_eq_true rfl, Nat.le_of_ble_eq_true rfl⟩) hG (fun r_47_2 u_47_2 H locs hr_47_2 hG => ?_)
                    subst hr_47_2
                    rcases sl_opt (sl_ta n C (((E t_2).2.2.2.2.2.2.1) (4 * k + 2))) with hq_47_2 | ⟨t_47_2, hq_47_2⟩
                    · refine sl_top (w := .null) (by rw [hq_47_2]; rfl) ?_
                      refine lv_ifnullN (tgt := 56) hx hb dX4_previousByPointers_50 (by decide) ?_
                      refine lv_iload hx hb dX4_previousByPointers_56 (lv_at hl 0 rfl) ?_
                      refine lv_istore (lv' := [(4, .int (((E t_2).2.2.2.2.2.2.1) (4 * k + 2))), (6, .int (((E t_2).2.2.2.2.2.2.1) (4 * k + 2))), (5, .int 2), (3, .ref ((β t_2).1)), (0, .ref (α 0)), (1, .int (nI k)), (2, .int (nI b))]) hx hb dX4_previousByPointers_58 hl (by decide) rfl (fun ls hl => ?_)
                      refine lv_iinc (v := 3) (lv' := [(5, .int 3), (4, .int (((E t_2).2.2.2.2.2.2.1) (4 * k + 2))), (6, .int (((E t_2).2.2.2.2.2.2.1) (4 * k + 2))), (3, .ref ((β t_2).1)), (0, .ref (α 0)), (1, .int (nI k)), (2, .int (nI b))]) hx hb dX4_previousByPointers_60 hl (k := 2) rfl (by decide) (by decide) rfl (fun ls hl => ?_)
                      refine lv_goto (tgt := 18) hx hb dX4_previousByPointers_63 (by decide) ?_
                      refine lv_iload hx hb dX4_previousByPointers_18 (lv_at hl 0 rfl) ?_
                      refine lv_iconst (v := 4) hx hb dX4_previousByPointers_20 (by decide) ?_
                      refine lv_icmp_ge (tgt := 66) hx hb dX4_previousByPointers_21 (by decide) (fun c_21_3 => ?_) (fun c_21_3 => ?_)
                      · exact absurd c_21_3 (by decide)
                      · refine lv_aload_n hx hb dX4_previousByPointers_24 rfl (lv_at hl 3 rfl) ?_
                        refine sl_getN (C := RX1) (T := TX1) (N := 8) hC hG (100 + 3 * t_2) (hE t_2 ht_t_2).1 rfl la_1 6 (by decide) lk_RX4_138 rfl rfl dX4_previousByPointers_25 ?_
                        refine lv_iload_n hx hb dX4_previousByPointers_28 rfl (lv_at hl 5 rfl) ?_
                        refine lv_iload hx hb dX4_previousByPointers_29 (lv_at hl 0 rfl) ?_
                        refine sl_calli (sl_runVN (As := [.int (nI k), .int 3]) (rest := []) hC hG (kX3_get l Γ g (101 + 3 * t_2) (102 + 3 * t_2) (β t_2).2.1 (β t_2).2.2 ((E t_2).2.2.2.2.2.2.1) (hE t_2 ht_t_2).2.1 (hE t_2 ht_t_2).2.2 (nI k) 3) mi_X3_get lk_RX4_141 (101 + 3 * t_2) (hE t_2 ht_t_2).2.1 rfl rfl rfl ⟨Nat.le_of_ble_eq_true rfl, Nat.le_of_ble_eq_true rfl⟩ rfl hl.1 rfl (Nat.le_of_ble_eq_true rfl) dX4_previousByPointers_31 ⟨Nat.le_of_ble_eq_true rfl, Nat.le_of_ble_eq_true rfl⟩) hG (fun r_31_3 u_31_3 H locs hr_31_3 hG => ?_)
                        subst hr_31_3
                        refine sl_topi (y := ((E t_2).2.2.2.2.2.2.1) (4 * k + 3)) (sl_tgN ((E t_2).2.2.2.2.2.2.1) (a := k) (b := 3) (by omega) (by omega)) ?_
                        refine lv_istore (lv' := [(6, .int (((E t_2).2.2.2.2.2.2.1) (4 * k + 3))), (5, .int 3), (4, .int (((E t_2).2.2.2.2.2.2.1) (4 * k + 2))), (3, .ref ((β t_2).1)), (0, .ref (α 0)), (1, .int (nI k)), (2, .int (nI b))]) hx hb dX4_previousByPointers_34 hl (by decide) rfl (fun ls hl => ?_)
                        refine lv_iload hx hb dX4_previousByPointers_36 (lv_at hl 0 rfl) ?_
                        refine lv_iconst (v := (-1)) hx hb dX4_previousByPointers_38 (by decide) ?_
                        refine lv_icmp_ne (tgt := 44) hx hb dX4_previousByPointers_39 (by decide) (fun c_39_3 => ?_) (fun c_39_3 => ?_)
                        · refine lv_aload_n hx hb dX4_previousByPointers_44 rfl (lv_at hl 4 rfl) ?_
                          refine lv_iload hx hb dX4_previousByPointers_45 (lv_at hl 0 rfl) ?_
                          refine sl_callq (sl_runV (As := [.int (((E t_2).2.2.2.2.2.2.1) (4 * k + 3))]) (rest := []) hC hG (kX4_entryIn l Γ g α β n C E hS (((E t_2).2.2.2.2.2.2.1) (4 * k + 3))) mi_X4_entryIn lk_RX4_84 0 h0 rfl rfl rfl ⟨Nat.le_of_ble_eq_true rfl, Nat.le_of_ble_eq_true rfl⟩ rfl hl.1 rfl (Nat.le_of_ble_eq_true rfl) dX4_previousByPointers_47 ⟨Nat.le_of_ble_eq_true rfl, Nat.le_of_ble_eq_true rfl⟩) hG (fun r_47_3 u_47_3 H locs hr_47_3 hG => ?_)
                          subst hr_47_3
                          rcases sl_opt (sl_ta n C (((E t_2).2.2.2.2.2.2.1) (4 * k + 3))) with hq_47_3 | ⟨t_47_3, hq_47_3⟩
                          · refine sl_top (w := .null) (by rw [hq_47_3]; rfl) ?_
                            refine lv_ifnullN (tgt := 56) hx hb dX4_previousByPointers_50 (by decide) ?_
                            refine lv_iload hx hb dX4_previousByPointers_56 (lv_at hl 0 rfl) ?_
                            refine lv_istore (lv' := [(4, .int (((E t_2).2.2.2.2.2.2.1) (4 * k + 3))), (6, .int (((E t_2).2.2.2.2.2.2.1) (4 * k + 3))), (5, .int 3), (3, .ref ((β t_2).1)), (0, .ref (α 0)), (1, .int (nI k)), (2, .int (nI b))]) hx hb dX4_previousByPointers_58 hl (by decide) rfl (fun ls hl => ?_)
                            refine lv_iinc (v := 4) (lv' := [(5, .int 4), (4, .int (((E t_2).2.2.2.2.2.2.1) (4 * k + 3))), (6, .int (((E t_2).2.2.2.2.2.2.1) (4 * k + 3))), (3, .ref ((β t_2).1)), (0, .ref (α 0)), (1, .int (nI k)), (2, .int (nI b))]) hx hb dX4_previousByPointers_60 hl (k := 2) rfl (by decide) (by decide) rfl (fun ls hl => ?_)
                            refine lv_goto (tgt := 18) hx hb dX4_previousByPointers_63 (by decide) ?_
                            refine lv_iload hx hb dX4_previousByPointers_18 (lv_at hl 0 rfl) ?_
                            refine lv_iconst (v := 4) hx hb dX4_previousByPointers_20 (by decide) ?_
                            refine lv_icmp_ge (tgt := 66) hx hb dX4_previousByPointers_21 (by decide) (fun c_21_4 => ?_) (fun c_21_4 => ?_)
                            · obtain ⟨q3, hq3, e3⟩ := sl_pt_q (hP t_2 ht_t_2 (4 * k + 3) (by omega)) c_39_3
                              rw [e3] at hl
                              refine lv_aload_n hx hb dX4_previousByPointers_66 rfl (lv_at hl 4 rfl) ?_
                              refine lv_iload_n hx hb dX4_previousByPointers_67 rfl (lv_at hl 5 rfl) ?_
                              refine lv_iload hx hb dX4_previousByPointers_68 (lv_at hl 1 rfl) ?_
                              refine sl_calli (sl_runV (As := [.int (nI k), .int (nI q3)]) (rest := []) hC hG (kX4_latestAhead l Γ g α β n C E hS q3 (by omega) (nI k)) mi_X4_latestAhead lk_RX4_172 0 h0 rfl rfl rfl ⟨Nat.le_of_ble_eq_true rfl, Nat.le_of_ble_eq_true rfl⟩ rfl hl.1 rfl (Nat.le_of_ble_eq_true rfl) dX4_previousByPointers_70 ⟨Nat.le_of_ble_eq_true rfl, Nat.le_of_ble_eq_true rfl⟩) hG (fun r_70_4 u_70_4 H locs hr_70_4 hG => ?_)
                              subst hr_70_4
                              exact sl_ri (v := sl_la n C E (nI k) q3) hC hr hG () (by show _ = sl_pq n C E k b; rw [sl_pq_1 hq_2, sl_pb, if_neg c_39_0, if_neg (sl_isN hq_47_0), if_neg c_39_1, if_neg (sl_isN hq_47_1), if_neg c_39_2, if_neg (sl_isN hq_47_2), if_neg c_39_3, if_neg (sl_isN hq_47_3), e3, nI_clamp (by omega)]) rfl (Nat.le_of_ble_eq_true rfl) (Nat.le_of_ble_eq_true rfl) dX4_previousByPointers_73
                            · exact absurd c_21_4 (by decide)
                          · refine sl_top (w := .ref ((β t_47_3).1)) (by rw [hq_47_3]; rfl) ?_
                            have ht_t_47_3 := sl_tok_lt hq_47_3
                            refine lv_ifnull hx hb dX4_previousByPointers_50 ?_
                            refine lv_iload hx hb dX4_previousByPointers_53 (lv_at hl 0 rfl) ?_
                            exact sl_ri (v := ((E t_2).2.2.2.2.2.2.1) (4 * k + 3)) hC hr hG () (by show _ = sl_pq n C E k b; rw [sl_pq_1 hq_2, sl_pb, if_neg c_39_0, if_neg (sl_isN hq_47_0), if_neg c_39_1, if_neg (sl_isN hq_47_1), if_neg c_39_2, if_neg (sl_isN hq_47_2), if_neg c_39_3, if_pos (sl_isS hq_47_3)]) rfl (Nat.le_of_ble_eq_true rfl) (Nat.le_of_ble_eq_true rfl) dX4_previousByPointers_55
                        · refine lv_iconst (v := (-1)) hx hb dX4_previousByPointers_42 (by decide) ?_
                          exact sl_ri (v := (-1)) hC hr hG () (by show _ = sl_pq n C E k b; rw [sl_pq_1 hq_2, sl_pb, if_neg c_39_0, if_neg (sl_isN hq_47_0), if_neg c_39_1, if_neg (sl_isN hq_47_1), if_neg c_39_2, if_neg (sl_isN hq_47_2), if_pos c_39_3]) rfl (Nat.le_of_ble_eq_true rfl) (Nat.le_of_ble_eq_true rfl) dX4_previousByPointers_43
                    · refine sl_top (w := .ref ((β t_47_2).1)) (by rw [hq_47_2]; rfl) ?_
                      have ht_t_47_2 := sl_tok_lt hq_47_2
                      refine lv_ifnull hx hb dX4_previousByPointers_50 ?_
                      refine lv_iload hx hb dX4_previousByPointers_53 (lv_at hl 0 rfl) ?_
                      exact sl_ri (v := ((E t_2).2.2.2.2.2.2.1) (4 * k + 2)) hC hr hG () (by show _ = sl_pq n C E k b; rw [sl_pq_1 hq_2, sl_pb, if_neg c_39_0, if_neg (sl_isN hq_47_0), if_neg c_39_1, if_neg (sl_isN hq_47_1), if_neg c_39_2, if_pos (sl_isS hq_47_2)]) rfl (Nat.le_of_ble_eq_true rfl) (Nat.le_of_ble_eq_true rfl) dX4_previousByPointers_55
                  · refine lv_iconst (v := (-1)) hx hb dX4_previousByPointers_42 (by decide) ?_
                    exact sl_ri (v := (-1)) hC hr hG () (by show _ = sl_pq n C E k b; rw [sl_pq_1 hq_2, sl_pb, if_neg c_39_0, if_neg (sl_isN hq_47_0), if_neg c_39_1, if_neg (sl_isN hq_47_1), if_pos c_39_2]) rfl (Nat.le_of_ble_eq_true rfl) (Nat.le_of_ble_eq_true rfl) dX4_previousByPointers_43
              · refine sl_top (w := .ref ((β t_47_1).1)) (by rw [hq_47_1]; rfl) ?_
                have ht_t_47_1 := sl_tok_lt hq_47_1
                refine lv_ifnull hx hb dX4_previousByPointers_50 ?_
                refine lv_iload hx hb dX4_previousByPointers_53 (lv_at hl 0 rfl) ?_
                exact sl_ri (v := ((E t_2).2.2.2.2.2.2.1) (4 * k + 1)) hC hr hG () (by show _ = sl_pq n C E k b; rw [sl_pq_1 hq_2, sl_pb, if_neg c_39_0, if_neg (sl_isN hq_47_0), if_neg c_39_1, if_pos (sl_isS hq_47_1)]) rfl (Nat.le_of_ble_eq_true rfl) (Nat.le_of_ble_eq_true rfl) dX4_previousByPointers_55
            · refine lv_iconst (v := (-1)) hx hb dX4_previousByPointers_42 (by decide) ?_
              exact sl_ri (v := (-1)) hC hr hG () (by show _ = sl_pq n C E k b; rw [sl_pq_1 hq_2, sl_pb, if_neg c_39_0, if_neg (sl_isN hq_47_0), if_pos c_39_1]) rfl (Nat.le_of_ble_eq_true rfl) (Nat.le_of_ble_eq_true rfl) dX4_previousByPointers_43
        · refine sl_top (w := .ref ((β t_47_0).1)) (by rw [hq_47_0]; rfl) ?_
          have ht_t_47_0 := sl_tok_lt hq_47_0
          refine lv_ifnull hx hb dX4_previousByPointers_50 ?_
          refine lv_iload hx hb dX4_previousByPointers_53 (lv_at hl 0 rfl) ?_
          exact sl_ri (v := ((E t_2).2.2.2.2.2.2.1) (4 * k + 0)) hC hr hG () (by show _ = sl_pq n C E k b; rw [sl_pq_1 hq_2, sl_pb, if_neg c_39_0, if_pos (sl_isS hq_47_0)]) rfl (Nat.le_of_ble_eq_true rfl) (Nat.le_of_ble_eq_true rfl) dX4_previousByPointers_55
      · refine lv_iconst (v := (-1)) hx hb dX4_previousByPointers_42 (by decide) ?_
        exact sl_ri (v := (-1)) hC hr hG () (by show _ = sl_pq n C E k b; rw [sl_pq_1 hq_2, sl_pb, if_pos c_39_0]) rfl (Nat.le_of_ble_eq_true rfl) (Nat.le_of_ble_eq_true rfl) dX4_previousByPointers_43
set_option maxHeartbeats 4000000 in
set_option maxRecDepth 100000 in
theorem kX4_foldUpTo (l : Launch) (Γ : sl_G) (g : sl_W) (α : Nat → Nat) (β : Nat → Nat × Nat × Nat) (n : Nat) (C : Nat → Int32) (E : Nat → sl_Ent) (hS : sl_Ro Γ α β n C E g) (F X : Nat → Int32) (fd : Int32) (h6 : g 6 = some ((α 6), .inr (2, [.ref (α 7), .ref (α 8), .int fd]))) (h7 : g 7 = some ((α 7), .inl (Γ.2.1 1, 120, .inl F))) (h8 : g 8 = some ((α 8), .inl (Γ.2.1 0, 4, .inl X))) (b : Nat) (hb9 : b ≤ 120) : Met l yX4_foldUpTo [Cond.code yX4_foldUpTo cX4_foldUpTo 3 none] ({ frames := 3, cells := 0, slots := 0, locals := 66 } : Room) (va_Pc [.ref (α 0), .int (nI b)] (sl_B Γ g)) (sl_Qv Γ (fun g' => sl_FW Γ α b n C E g g') (fun g' => g')) 0 0 (sl_A Γ) := by
  refine sl_ent (by decide) (Nat.le_of_ble_eq_true rfl) ?_
  intro p e s m below meth c ls hC hr hin hG hl
  have hx := hC.1
  have hb := hC.2.1
  have hl : lv_has ls 3 [(0, .ref (α 0)), (1, .int (nI b))] := hl
  obtain ⟨⟨z4, z5, z6, z7, h0⟩, h1, h2, h3, hE, hn9⟩ := id hS
  refine lv_aload_n hx hb dX4_foldUpTo_0 rfl (lv_at hl 0 rfl) ?_
  refine sl_get (C := RX4) (T := TX4) (N := 8) hC hG 0 h0 rfl la_4 3 (by decide) lk_RX4_32 rfl rfl dX4_foldUpTo_1 ?_
  refine sl_callv (sl_runVN (As := []) (rest := []) hC hG (kX2_restart l Γ g (α 6) (α 7) (α 8) F X fd h6 h7 h8) mi_X2_restart lk_RX4_190 6 h6 rfl rfl rfl ⟨Nat.le_of_ble_eq_true rfl, Nat.le_of_ble_eq_true rfl⟩ rfl hl.1 rfl (Nat.le_of_ble_eq_true rfl) dX4_foldUpTo_4 ⟨Nat.le_of_ble_eq_true rfl, Nat.le_of_ble_eq_true rfl⟩) hG (fun u_4 H locs hr_4 hG => ?_)
  have hG : sl_I Γ (sl_up (sl_up g 6 ((α 6), .inr (2, [.ref (α 7), .ref (α 8), .int 0]))) 8 ((α 8), .inl (Γ.2.1 0, 4, .inl (fun _ => (-1))))) s H _ := hG
  refine lv_iconst (v := 0) hx hb dX4_foldUpTo_7 (by decide) ?_
  refine lv_istore_n (lv' := [(2, .int 0), (0, .ref (α 0)), (1, .int (nI b))]) hx hb dX4_foldUpTo_8 rfl hl (by decide) rfl (fun ls hl => ?_)
  have loop_9 : ∀ (fuel k : Nat) (F : Nat → Int32), k ≤ b → b + 1 ≤ k + fuel → (∀ q, q < k → F q = sl_bi (sl_ev n C E q)) → ∀ (H : Heap) (locs : List Loc), sl_I Γ (sl_up (sl_up (sl_up g 7 ((α 7), .inl (Γ.2.1 1, 120, .inl F))) 8 ((α 8), .inl (Γ.2.1 0, 4, .inl (sl_fX n C E k)))) 6 ((α 6), .inr (2, [.ref (α 7), .ref (α 8), .int (nI k)]))) s H locs → ∀ (ls : Array Slot), lv_has ls 3 [(0, .ref (α 0)), (1, .int (nI b)), (2, .int (nI k))] → W p l e ({ frames := 3, cells := 0, slots := 0, locals := 66 } : Room) s m ([.ref (α 0), .int (nI b)] : List Value).toArray below meth c H locs 0 0 (MQ below (sl_Qv Γ (fun g' => sl_FW Γ α b n C E g g') (fun g' => g')) ([.ref (α 0), .int (nI b)] : List Value).toArray s 0 0 (sl_A Γ)) (F0 m 9 ls []) := by
    intro fuel
    induction fuel with
    | zero =>
      intro k F h1 h2
      exact absurd h2 (by omega)
    | succ fuel ih_9 =>
      intro k F hk_9 hn_9 hF H locs hG ls hl
      refine lv_iload_n hx hb dX4_foldUpTo_9 rfl (lv_at hl 2 rfl) ?_
      refine lv_iload_n hx hb dX4_foldUpTo_10 rfl (lv_at hl 1 rfl) ?_
      refine lv_icmp_ge (tgt := 32) hx hb dX4_foldUpTo_11 (by decide) (fun c_11 => ?_) (fun c_11 => ?_)
      · have n_11 : b ≤ k := (nI_leI (a := b) (b := k) (by omega) (by omega)).mp c_11
        have hk9 : k = b := by omega
        subst hk9
        exact sl_rv hC hr hG (sl_up (sl_up (sl_up g 7 ((α 7), .inl (Γ.2.1 1, 120, .inl F))) 8 ((α 8), .inl (Γ.2.1 0, 4, .inl (sl_fX n C E k)))) 6 ((α 6), .inr (2, [.ref (α 7), .ref (α 8), .int (nI k)]))) ⟨sl_up_s _ _ _, ⟨F, sl_up_to (by decide) (sl_up_to (by decide) (sl_up_s _ _ _)), hF⟩, ⟨_, sl_up_to (by decide) (sl_up_s _ _ _)⟩, fun j h6 h7 h8 => (sl_up_n _ _ h6).trans ((sl_up_n _ _ h8).trans (sl_up_n _ _ h7))⟩ rfl (Nat.le_of_ble_eq_true rfl) (Nat.le_of_ble_eq_true rfl) dX4_foldUpTo_32
      · have n_11 : ¬ (b ≤ k) := fun z => c_11 ((nI_leI (a := b) (b := k) (by omega) (by omega)).mpr z)
        refine lv_aload_n hx hb dX4_foldUpTo_14 rfl (lv_at hl 0 rfl) ?_
        refine sl_get (C := RX4) (T := TX4) (N := 8) hC hG 0 (sl_up_to (by decide) (sl_up_to (by decide) (sl_up_to (by decide) h0))) rfl la_4 3 (by decide) lk_RX4_32 rfl rfl dX4_foldUpTo_15 ?_
        refine lv_aload_n hx hb dX4_foldUpTo_18 rfl (lv_at hl 0 rfl) ?_
        refine lv_iload_n hx hb dX4_foldUpTo_19 rfl (lv_at hl 2 rfl) ?_
        refine sl_callq (sl_runV (As := [.int (nI k)]) (rest := [.ref (α 6)]) hC hG (kX4_entryIn l Γ (sl_up (sl_up (sl_up g 7 ((α 7), .inl (Γ.2.1 1, 120, .inl F))) 8 ((α 8), .inl (Γ.2.1 0, 4, .inl (sl_fX n C E k)))) 6 ((α 6), .inr (2, [.ref (α 7), .ref (α 8), .int (nI k)]))) α β n C E (sl_Ro_up (by decide) (sl_Ro_up (by decide) (sl_Ro_up (by decide) hS))) (nI k)) mi_X4_entryIn lk_RX4_84 0 (sl_up_to (by decide) (sl_up_to (by decide) (sl_up_to (by decide) h0))) rfl rfl rfl ⟨Nat.le_of_ble_eq_true rfl, Nat.le_of_ble_eq_true rfl⟩ rfl hl.1 rfl (Nat.le_of_ble_eq_true rfl) dX4_foldUpTo_20 ⟨Nat.le_of_ble_eq_true rfl, Nat.le_of_ble_eq_true rfl⟩) hG (fun r_20 u_20 H locs hr_20 hG => ?_)
        subst hr_20
        rw [show sl_ta n C (nI k) = sl_tok n (C k) from congrArg (sl_tok n) (sl_cg0 C (by omega))]
        rcases sl_opt (sl_tok n (C k)) with hq_20 | ⟨t_20, hq_20⟩
        · refine sl_top (w := .null) (by rw [hq_20]; rfl) ?_
          refine sl_callv (sl_runVN (As := [.null]) (rest := []) hC hG (kX2_addN l Γ (sl_up (sl_up (sl_up g 7 ((α 7), .inl (Γ.2.1 1, 120, .inl F))) 8 ((α 8), .inl (Γ.2.1 0, 4, .inl (sl_fX n C E k)))) 6 ((α 6), .inr (2, [.ref (α 7), .ref (α 8), .int (nI k)]))) (α 6) (α 7) (α 8) F (sl_fX n C E k) k (sl_up_s _ _ _) (sl_up_to (by decide) (sl_up_to (by decide) (sl_up_s _ _ _))) (sl_up_to (by decide) (sl_up_s _ _ _)) (by omega)) mi_X2_add lk_RX4_193 6 (sl_up_s _ _ _) rfl rfl rfl ⟨Nat.le_of_ble_eq_true rfl, Nat.le_of_ble_eq_true rfl⟩ rfl hl.1 rfl (Nat.le_of_ble_eq_true rfl) dX4_foldUpTo_23 ⟨Nat.le_of_ble_eq_true rfl, Nat.le_of_ble_eq_true rfl⟩) hG (fun u_23 H locs hr_23 hG => ?_)
          have hG : sl_I Γ (sl_up (sl_up (sl_up (sl_up (sl_up (sl_up g 7 ((α 7), .inl (Γ.2.1 1, 120, .inl F))) 8 ((α 8), .inl (Γ.2.1 0, 4, .inl (sl_fX n C E k)))) 6 ((α 6), .inr (2, [.ref (α 7), .ref (α 8), .int (nI k)]))) 7 ((α 7), .inl (Γ.2.1 1, 120, .inl (upd F k (sl_bi false))))) 8 ((α 8), .inl (Γ.2.1 0, 4, .inl (sl_fX n C E k)))) 6 ((α 6), .inr (2, [.ref (α 7), .ref (α 8), .int (nI (k + 1))]))) s H _ := hG
          refine lv_iinc (v := nI (k + 1)) (lv' := [(2, .int (nI (k + 1))), (0, .ref (α 0)), (1, .int (nI b))]) hx hb dX4_foldUpTo_26 hl (k := 2) rfl (nI_1 k) (by decide) rfl (fun ls hl => ?_)
          refine lv_goto (tgt := 9) hx hb dX4_foldUpTo_29 (by decide) ?_
          rw [sl_up_678, ← sl_fX_0 hq_20, show sl_bi false = sl_bi (sl_ev n C E k) from (by rw [sl_ev_0 hq_20])] at hG
          exact ih_9 (k + 1) (upd F k (sl_bi (sl_ev n C E k))) (by omega) (by omega) (sl_fF hF) _ _ hG _ (lv_sub hl [1, 2, 0] rfl)
        · refine sl_top (w := .ref ((β t_20).1)) (by rw [hq_20]; rfl) ?_
          have ht_t_20 := sl_tok_lt hq_20
          refine sl_callv (sl_runVN (As := [.ref ((β t_20).1)]) (rest := []) hC hG (kX2_addE l Γ (sl_up (sl_up (sl_up g 7 ((α 7), .inl (Γ.2.1 1, 120, .inl F))) 8 ((α 8), .inl (Γ.2.1 0, 4, .inl (sl_fX n C E k)))) 6 ((α 6), .inr (2, [.ref (α 7), .ref (α 8), .int (nI k)]))) (α 6) (α 7) (α 8) F (sl_fX n C E k) k (sl_up_s _ _ _) (sl_up_to (by decide) (sl_up_to (by decide) (sl_up_s _ _ _))) (sl_up_to (by decide) (sl_up_s _ _ _)) (by omega) (100 + 3 * t_20) (β t_20).1 (β t_20).2.1 ((E t_20).1) ((E t_20).2.1) ((E t_20).2.2.1) ((E t_20).2.2.2.1) ((E t_20).2.2.2.2.1) ((E t_20).2.2.2.2.2.1) ((E t_20).2.2.2.2.2.2.2) ((sl_Es.mono hE (fun j hj => (sl_up_n _ _ (by omega)).trans ((sl_up_n _ _ (by omega)).trans (sl_up_n _ _ (by omega))))) t_20 ht_t_20).1 (by omega)) mi_X2_add lk_RX4_193 6 (sl_up_s _ _ _) rfl rfl rfl ⟨Nat.le_of_ble_eq_true rfl, Nat.le_of_ble_eq_true rfl⟩ rfl hl.1 rfl (Nat.le_of_ble_eq_true rfl) dX4_foldUpTo_23 ⟨Nat.le_of_ble_eq_true rfl, Nat.le_of_ble_eq_true rfl⟩) hG (fun u_23 H locs hr_23 hG => ?_)
          have hG : sl_I Γ (sl_up (sl_up (sl_up (sl_up (sl_up (sl_up g 7 ((α 7), .inl (Γ.2.1 1, 120, .inl F))) 8 ((α 8), .inl (Γ.2.1 0, 4, .inl (sl_fX n C E k)))) 6 ((α 6), .inr (2, [.ref (α 7), .ref (α 8), .int (nI k)]))) 7 ((α 7), .inl (Γ.2.1 1, 120, .inl (upd F k (sl_bi (sl_un (sl_fX n C E k) ((E t_20).2.2.2.2.1) ((E t_20).2.2.2.2.2.1) 4)))))) 8 ((α 8), .inl (Γ.2.1 0, 4, .inl (if sl_un (sl_fX n C E k) ((E t_20).2.2.2.2.1) ((E t_20).2.2.2.2.2.1) 4 = true then sl_nc (sl_fX n C E k) ((E t_20).2.2.1) (nI k) 4 else sl_fX n C E k)))) 6 ((α 6), .inr (2, [.ref (α 7), .ref (α 8), .int (nI (k + 1))]))) s H _ := hG
          refine lv_iinc (v := nI (k + 1)) (lv' := [(2, .int (nI (k + 1))), (0, .ref (α 0)), (1, .int (nI b))]) hx hb dX4_foldUpTo_26 hl (k := 2) rfl (nI_1 k) (by decide) rfl (fun ls hl => ?_)
          refine lv_goto (tgt := 9) hx hb dX4_foldUpTo_29 (by decide) ?_
          rw [sl_up_678, ← sl_fX_1 hq_20, ← sl_ev_1 hq_20] at hG
          exact ih_9 (k + 1) (upd F k (sl_bi (sl_ev n C E k))) (by omega) (by omega) (sl_fF hF) _ _ hG _ (lv_sub hl [1, 2, 0] rfl)
  rw [sl_up_comm _ _ _ (by decide)] at hG
  rw [← sl_up_same h7] at hG
  exact loop_9 (b + 1) 0 F (by omega) (by omega) (fun q hq => absurd hq (Nat.not_lt_zero q)) _ _ hG _ (lv_sub hl [1, 2, 0] rfl)
set_option maxHeartbeats 4000000 in
set_option maxRecDepth 100000 in
theorem kX4_effectOf (l : Launch) (Γ : sl_G) (g : sl_W) (α : Nat → Nat) (β : Nat → Nat × Nat × Nat) (n : Nat) (C : Nat → Int32) (E : Nat → sl_Ent) (hS : sl_Ro Γ α β n C E g) (F X : Nat → Int32) (d : Nat) (h6 : g 6 = some ((α 6), .inr (2, [.ref (α 7), .ref (α 8), .int (nI d)]))) (h7 : g 7 = some ((α 7), .inl (Γ.2.1 1, 120, .inl F))) (h8 : g 8 = some ((α 8), .inl (Γ.2.1 0, 4, .inl X))) (hF : ∀ q, q < d → F q = sl_bi (sl_ev n C E q)) (hd9 : d ≤ 120) (b : Nat) (hbd : b < d) : Met l yX4_effectOf [Cond.code yX4_effectOf cX4_effectOf 3 (some .int)] ({ frames := 3, cells := 0, slots := 0, locals := 63 } : Room) (va_Pc [.ref (α 0), .int (nI b)] (sl_B Γ g)) (sl_Qi Γ (fun r (_ : Unit) => r = sl_am n C E b) (fun _ => g)) 0 0 (sl_A Γ) := by
  refine sl_ent (by decide) (Nat.le_of_ble_eq_true rfl) ?_
  intro p e s m below meth c ls hC hr hin hG hl
  have hx := hC.1
  have hb := hC.2.1
  have hl : lv_has ls 3 [(0, .ref (α 0)), (1, .int (nI b))] := hl
  obtain ⟨⟨z4, z5, z6, z7, h0⟩, h1, h2, h3, hE, hn9⟩ := id hS
  refine lv_aload_n hx hb dX4_effectOf_0 rfl (lv_at hl 0 rfl) ?_
  refine lv_iload_n hx hb dX4_effectOf_1 rfl (lv_at hl 1 rfl) ?_
  refine sl_callq (sl_runV (As := [.int (nI b)]) (rest := []) hC hG (kX4_entryIn l Γ g α β n C E hS (nI b)) mi_X4_entryIn lk_RX4_84 0 h0 rfl rfl rfl ⟨Nat.le_of_ble_eq_true rfl, Nat.le_of_ble_eq_true rfl⟩ rfl hl.1 rfl (Nat.le_of_ble_eq_true rfl) dX4_effectOf_2 ⟨Nat.le_of_ble_eq_true rfl, Nat.le_of_ble_eq_true rfl⟩) hG (fun r_2 u_2 H locs hr_2 hG => ?_)
  subst hr_2
  rw [show sl_ta n C (nI b) = sl_tok n (C b) from congrArg (sl_tok n) (sl_cg0 C (by omega))]
  rcases sl_opt (sl_tok n (C b)) with hq_2 | ⟨t_2, hq_2⟩
  · refine sl_top (w := .null) (by rw [hq_2]; rfl) ?_
    refine lv_astore_nN (lv' := [(2, .null), (0, .ref (α 0)), (1, .int (nI b))]) hx hb dX4_effectOf_5 rfl hl (by decide) rfl (fun ls hl => ?_)
    refine lv_aload_nN hx hb dX4_effectOf_6 rfl (lv_at hl 0 rfl) ?_
    refine lv_ifnullN (tgt := 28) hx hb dX4_effectOf_7 (by decide) ?_
    refine lv_iconst (v := 0) hx hb dX4_effectOf_28 (by decide) ?_
    exact sl_ri (v := 0) hC hr hG () (sl_am_0 hq_2).symm rfl (Nat.le_of_ble_eq_true rfl) (Nat.le_of_ble_eq_true rfl) dX4_effectOf_29
  · refine sl_top (w := .ref ((β t_2).1)) (by rw [hq_2]; rfl) ?_
    have ht_t_2 := sl_tok_lt hq_2
    refine lv_astore_n (lv' := [(2, .ref ((β t_2).1)), (0, .ref (α 0)), (1, .int (nI b))]) hx hb dX4_effectOf_5 rfl hl (by decide) rfl (fun ls hl => ?_)
    refine lv_aload_n hx hb dX4_effectOf_6 rfl (lv_at hl 0 rfl) ?_
    refine lv_ifnull hx hb dX4_effectOf_7 ?_
    refine lv_aload_n hx hb dX4_effectOf_10 rfl (lv_at hl 1 rfl) ?_
    refine sl_get (C := RX4) (T := TX4) (N := 8) hC hG 0 h0 rfl la_4 3 (by decide) lk_RX4_32 rfl rfl dX4_effectOf_11 ?_
    refine lv_iload_n hx hb dX4_effectOf_14 rfl (lv_at hl 2 rfl) ?_
    refine sl_calli (sl_runVN (As := [.int (nI b)]) (rest := []) hC hG (kX2_hasEffect l Γ g (α 6) (α 7) (α 8) F X d h6 h7 h8 (by omega) b (by omega)) mi_X2_hasEffect lk_RX4_156 6 h6 rfl rfl rfl ⟨Nat.le_of_ble_eq_true rfl, Nat.le_of_ble_eq_true rfl⟩ rfl hl.1 rfl (Nat.le_of_ble_eq_true rfl) dX4_effectOf_15 ⟨Nat.le_of_ble_eq_true rfl, Nat.le_of_ble_eq_true rfl⟩) hG (fun r_15 u_15 H locs hr_15 hG => ?_)
    subst hr_15
    refine lv_if_eq (tgt := 28) hx hb dX4_effectOf_18 (by decide) (fun c_18 => ?_) (fun c_18 => ?_)
    · have c_18 := sl_bF c_18
      refine lv_iconst (v := 0) hx hb dX4_effectOf_28 (by decide) ?_
      rw [decide_eq_true hbd, Bool.true_and, Bool.not_eq_false', hF b hbd] at c_18
      exact sl_ri (v := 0) hC hr hG () (by show _ = sl_am n C E b; rw [sl_am_1 hq_2, if_neg (by rw [sl_bi_eq c_18]; decide)]) rfl (Nat.le_of_ble_eq_true rfl) (Nat.le_of_ble_eq_true rfl) dX4_effectOf_29
    · have c_18 := sl_bT c_18
      refine lv_aload_n hx hb dX4_effectOf_21 rfl (lv_at hl 0 rfl) ?_
      refine sl_getN (C := RX1) (T := TX1) (N := 8) hC hG (100 + 3 * t_2) (hE t_2 ht_t_2).1 rfl la_1 3 (by decide) lk_RX4_197 rfl rfl dX4_effectOf_22 ?_
      refine lv_goto (tgt := 29) hx hb dX4_effectOf_25 (by decide) ?_
      rw [decide_eq_true hbd, Bool.true_and, Bool.not_eq_true', hF b hbd] at c_18
      exact sl_ri (v := (E t_2).2.2.2.1) hC hr hG () (by show _ = sl_am n C E b; rw [sl_am_1 hq_2, if_pos (sl_bi_ne c_18)]) rfl (Nat.le_of_ble_eq_true rfl) (Nat.le_of_ble_eq_true rfl) dX4_effectOf_29

