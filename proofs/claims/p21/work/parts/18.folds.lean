/-! the class's folding calls -/
theorem sl_he {n d : Nat} {C : Nat → Int32} {E : Nat → sl_Ent} {F : Nat → Int32} (hF : ∀ q, q < d → F q = sl_bi (sl_ev n C E q)) {b : Nat} (hb : b < d) : (decide (b < d) && !decide (F b = 0)) = sl_ev n C E b := by
  rw [decide_eq_true hb, Bool.true_and, hF b hb]
  cases sl_ev n C E b <;> rfl
def sl_vs (n : Nat) (C : Nat → Int32) (E : Nat → sl_Ent) (x : Int32) : Nat → Int32
  | 0 => 0
  | q + 1 => if sl_hs n C E x q = true then sl_vs n C E x q + sl_am n C E q else sl_vs n C E x q
def sl_vp (n : Nat) (C : Nat → Int32) (E : Nat → sl_Ent) (j : Nat) : Nat → Int32 → Int32 → Int32
  | 0, _, sum => sum
  | f + 1, at', sum => if at' = -1 then sum else sl_vp n C E j f (sl_pq n C E j at'.toNatClampNeg) (sum + sl_am n C E at'.toNatClampNeg)
/-- an entry's pointers are ahead of it -/
def sl_PP (n : Nat) (C : Nat → Int32) (E : Nat → sl_Ent) : Prop := ∀ q t, q < 120 → sl_tok n (C q) = some t → ∀ j, j < 16 → (E t).2.2.2.2.2.2.1 j = -1 ∨ ∃ q', q' < q ∧ (E t).2.2.2.2.2.2.1 j = nI q'
theorem sl_pq_lt {n : Nat} {C : Nat → Int32} {E : Nat → sl_Ent} (hP : sl_PP n C E) {q j : Nat} (hq : q < 120) (hj : j < 4) : sl_pq n C E j q = -1 ∨ ∃ q', q' < q ∧ sl_pq n C E j q = nI q' := by
  rcases sl_opt (sl_tok n (C q)) with h | ⟨t, h⟩
  · exact Or.inl (sl_pq_0 h)
  · rw [sl_pq_1 h, sl_pb]
    have h0 := hP q t hq h (4 * j + 0) (by omega)
    have h1 := hP q t hq h (4 * j + 1) (by omega)
    have h2 := hP q t hq h (4 * j + 2) (by omega)
    have h3 := hP q t hq h (4 * j + 3) (by omega)
    split
    · exact Or.inl rfl
    · split
      · exact h0
      · split
        · exact Or.inl rfl
        · split
          · exact h1
          · split
            · exact Or.inl rfl
            · split
              · exact h2
              · split
                · exact Or.inl rfl
                · rename_i hn
                  split
                  · exact h3
                  · rcases h3 with e | ⟨q', h5, h6⟩
                    · exact absurd e hn
                    · rw [h6, nI_clamp (by omega)]
                      rcases sl_la_in n C E (nI j) q' with e | ⟨q2, h7, h8, -⟩
                      · exact Or.inl e
                      · exact Or.inr ⟨q2, by omega, h8⟩
theorem sl_and_t {a b : Bool} (h1 : a = true) (h2 : b = true) : (a && b) = true := by rw [h1, h2]; rfl
set_option maxHeartbeats 4000000 in
set_option maxRecDepth 100000 in
theorem kX4_takesEffect (l : Launch) (hlt : l.stackTraces = false) (Γ : sl_G) (g : sl_W) (α : Nat → Nat) (β : Nat → Nat × Nat × Nat) (n : Nat) (ep : Int32) (tl : Nat) (lo : Bool) (T C : Nat → Int32) (E : Nat → sl_Ent) (hK : sl_Cls Γ α β n ep tl lo T C E g) (x : Int32) : vx_Met l yX4_takesEffect [Cond.code yX4_takesEffect cX4_takesEffect 2 (some .boolean)] ({ frames := 6, cells := 1, slots := 6, locals := 107 } : Room) (va_Pc [.ref (α 0), .int x] (sl_B Γ g)) (sl_Qi Γ (fun r g' => (∃ b, x = nI b ∧ b < sl_kn C ∧ r = sl_bi (sl_ev n C E b)) ∧ sl_Cls Γ α β n ep tl lo T C E g' ∧ sl_fr g g') (fun g' => g')) (sl_X Γ g (fun E0 => E0 = "java/lang/IndexOutOfBoundsException" ∧ ¬ (0 ≤ x.toInt ∧ x.toInt < sl_kn C))) 1 6 (sl_A Γ) := by
  refine sl_entx (by decide) (Nat.le_of_ble_eq_true rfl) ?_
  intro p e s m below meth c ls hC hr hno hG hl
  have hx := hC.1
  have hb := hC.2.1
  have hl : lv_has ls 2 [(0, .ref (α 0)), (1, .int x)] := hl
  have hS := hK.ro
  obtain ⟨h0, h1, h2, h3, h4, h5, ⟨F, X, fd, h6, h7, h8⟩, hE, hN, hn9, ht9⟩ := id hK
  refine lv_iload_n hx hb dX4_takesEffect_0 rfl (lv_at hl 1 rfl) ?_
  refine lv_if_lt (tgt := 15) hx hb dX4_takesEffect_1 (by decide) (fun c_1 => ?_) (fun c_1 => ?_)
  · exact sl_thr (text := "not a known position") (rest := []) hlt hC hG ⟨rfl, fun z => by rw [sl_ltI, sl_i0] at c_1; omega⟩ (by decide) lk_RX4_98 ini_IndexOutOfBoundsException (by decide +kernel) sl_hatO sl_otO hl.1 dX4_takesEffect_15 dX4_takesEffect_18 dX4_takesEffect_19 dX4_takesEffect_21 dX4_takesEffect_24 hno (Nat.le_of_ble_eq_true rfl) (Nat.le_of_ble_eq_true rfl) (Nat.le_of_ble_eq_true rfl) (Nat.le_of_ble_eq_true rfl) (Nat.le_of_ble_eq_true rfl) (Nat.le_of_ble_eq_true rfl)
  · refine lv_iload_n hx hb dX4_takesEffect_4 rfl (lv_at hl 1 rfl) ?_
    refine lv_aload_n hx hb dX4_takesEffect_5 rfl (lv_at hl 0 rfl) ?_
    refine sl_get (C := RX4) (T := TX4) (N := 8) hC hG 0 h0 rfl la_4 1 (by decide) lk_RX4_18 rfl rfl dX4_takesEffect_6 ?_
    refine sl_calli (sl_runVN (As := []) (rest := [.int x]) hC hG (kX0_completeFromStart l Γ g (α 2) (α 3) C h2 h3) mi_X0_completeFromStart lk_RX4_147 2 h2 rfl rfl rfl ⟨Nat.le_of_ble_eq_true rfl, Nat.le_of_ble_eq_true rfl⟩ rfl hl.1 rfl (Nat.le_of_ble_eq_true rfl) dX4_takesEffect_9 ⟨Nat.le_of_ble_eq_true rfl, Nat.le_of_ble_eq_true rfl⟩) hG (fun r_9 u_9 H locs hr_9 hG => ?_)
    subst hr_9
    refine lv_icmp_lt (tgt := 25) hx hb dX4_takesEffect_12 (by decide) (fun c_12 => ?_) (fun c_12 => ?_)
    · have hx1 : 0 ≤ x.toInt := by rw [sl_ltI, sl_i0] at c_1; omega
      have hx2 : x.toInt < sl_kn C := by rw [sl_ltI, nI_toInt (by have := sl_kn_le C; omega)] at c_12; exact c_12
      have hkn := sl_kn_le C
      obtain ⟨b, hb9, rfl⟩ := sl_nat (v := x) (n := 119) hx1 (by omega) (by omega)
      rw [nI_toInt (by omega)] at hx2
      refine lv_aload_n hx hb dX4_takesEffect_25 rfl (lv_at hl 0 rfl) ?_
      refine lv_iload_n hx hb dX4_takesEffect_26 rfl (lv_at hl 1 rfl) ?_
      refine lv_iconst (v := 1) hx hb dX4_takesEffect_27 (by decide) ?_
      refine lv_iadd hx hb dX4_takesEffect_28 ?_
      refine sl_topi (y := nI (b + 1)) (nI_add b 1) ?_
      refine sl_callv (sl_runV (As := [.int (nI (b + 1))]) (rest := []) hC hG (kX4_foldUpTo l Γ g α β n C E hS F X fd h6 h7 h8 (b + 1) (by omega)) mi_X4_foldUpTo lk_RX4_152 0 h0 rfl rfl rfl ⟨Nat.le_of_ble_eq_true rfl, Nat.le_of_ble_eq_true rfl⟩ rfl hl.1 rfl (Nat.le_of_ble_eq_true rfl) dX4_takesEffect_29 ⟨Nat.le_of_ble_eq_true rfl, Nat.le_of_ble_eq_true rfl⟩) hG (fun u_29 H locs hr_29 hG => ?_)
      obtain ⟨w6, ⟨F9, w7, hF⟩, ⟨X9, w8⟩, hw⟩ := id hr_29
      refine lv_aload_n hx hb dX4_takesEffect_32 rfl (lv_at hl 0 rfl) ?_
      refine sl_get (C := RX4) (T := TX4) (N := 8) hC hG 0 ((hw 0 (by decide) (by decide) (by decide)).trans h0) rfl la_4 3 (by decide) lk_RX4_32 rfl rfl dX4_takesEffect_33 ?_
      refine lv_iload_n hx hb dX4_takesEffect_36 rfl (lv_at hl 1 rfl) ?_
      refine sl_calli (sl_runVN (As := [.int (nI b)]) (rest := []) hC hG (kX2_hasEffect l Γ u_29 (α 6) (α 7) (α 8) F9 X9 (b + 1) w6 w7 w8 (by omega) b (by omega)) mi_X2_hasEffect lk_RX4_156 6 w6 rfl rfl rfl ⟨Nat.le_of_ble_eq_true rfl, Nat.le_of_ble_eq_true rfl⟩ rfl hl.1 rfl (Nat.le_of_ble_eq_true rfl) dX4_takesEffect_37 ⟨Nat.le_of_ble_eq_true rfl, Nat.le_of_ble_eq_true rfl⟩) hG (fun r_37 u_37 H locs hr_37 hG => ?_)
      subst hr_37
      exact vx_ret (sl_rz (v := sl_bi (decide (b < b + 1) && !decide (F9 b = 0))) hC hr (sl_nb _) hG u_29 ⟨⟨b, rfl, by omega, congrArg sl_bi (sl_he hF (by omega))⟩, sl_Cls_w hK hr_29⟩ rfl (Nat.le_of_ble_eq_true rfl) (Nat.le_of_ble_eq_true rfl) dX4_takesEffect_40)
    · exact sl_thr (text := "not a known position") (rest := []) hlt hC hG ⟨rfl, fun z => by rw [sl_ltI, nI_toInt (by have := sl_kn_le C; omega)] at c_12; omega⟩ (by decide) lk_RX4_98 ini_IndexOutOfBoundsException (by decide +kernel) sl_hatO sl_otO hl.1 dX4_takesEffect_15 dX4_takesEffect_18 dX4_takesEffect_19 dX4_takesEffect_21 dX4_takesEffect_24 hno (Nat.le_of_ble_eq_true rfl) (Nat.le_of_ble_eq_true rfl) (Nat.le_of_ble_eq_true rfl) (Nat.le_of_ble_eq_true rfl) (Nat.le_of_ble_eq_true rfl) (Nat.le_of_ble_eq_true rfl)
set_option maxHeartbeats 4000000 in
set_option maxRecDepth 100000 in
theorem kX4_latest (l : Launch) (hlt : l.stackTraces = false) (Γ : sl_G) (g : sl_W) (α : Nat → Nat) (β : Nat → Nat × Nat × Nat) (n : Nat) (ep : Int32) (tl : Nat) (lo : Bool) (T C : Nat → Int32) (E : Nat → sl_Ent) (hK : sl_Cls Γ α β n ep tl lo T C E g) (x y : Int32) : vx_Met l yX4_latest [Cond.code yX4_latest cX4_latest 3 (some .int)] ({ frames := 6, cells := 1, slots := 6, locals := 128 } : Room) (va_Pc [.ref (α 0), .int x, .int y] (sl_B Γ g)) (sl_Qi Γ (fun r (_ : Unit) => (sl_in x 0 3 && sl_in y 0 (nI (sl_kn C))) = true ∧ r = sl_la n C E x y.toNatClampNeg) (fun _ => g)) (sl_X Γ g (fun E0 => E0 = "java/lang/IndexOutOfBoundsException" ∧ (sl_in x 0 3 && sl_in y 0 (nI (sl_kn C))) = false)) 1 6 (sl_A Γ) := by
  refine sl_entx (by decide) (Nat.le_of_ble_eq_true rfl) ?_
  intro p e s m below meth c ls hC hr hno hG hl
  have hx := hC.1
  have hb := hC.2.1
  have hl : lv_has ls 3 [(0, .ref (α 0)), (1, .int x), (2, .int y)] := hl
  have hS := hK.ro
  obtain ⟨h0, h1, h2, h3, h4, h5, ⟨F, X, fd, h6, h7, h8⟩, hE, hN, hn9, ht9⟩ := id hK
  refine lv_iload_n hx hb dX4_latest_0 rfl (lv_at hl 1 rfl) ?_
  refine sl_calli (sl_runS (As := [.int x]) (rest := []) hC hG (kX4_isStream l Γ g x) mi_X4_isStream lk_RX4_130 rfl rfl ⟨Nat.le_of_ble_eq_true rfl, Nat.le_of_ble_eq_true rfl⟩ rfl hl.1 rfl (Nat.le_of_ble_eq_true rfl) dX4_latest_1 ⟨Nat.le_of_ble_eq_true rfl, Nat.le_of_ble_eq_true rfl⟩) hG (fun r_1 u_1 H locs hr_1 hG => ?_)
  subst hr_1
  refine lv_if_eq (tgt := 15) hx hb dX4_latest_4 (by decide) (fun c_4 => ?_) (fun c_4 => ?_)
  · have c_4 := sl_bF c_4
    exact sl_thr (text := "no such stream or known position") (rest := []) hlt hC hG ⟨rfl, by rw [c_4]; rfl⟩ (by decide) lk_RX4_98 ini_IndexOutOfBoundsException (by decide +kernel) sl_hatO sl_otO hl.1 dX4_latest_15 dX4_latest_18 dX4_latest_19 dX4_latest_21 dX4_latest_24 hno (Nat.le_of_ble_eq_true rfl) (Nat.le_of_ble_eq_true rfl) (Nat.le_of_ble_eq_true rfl) (Nat.le_of_ble_eq_true rfl) (Nat.le_of_ble_eq_true rfl) (Nat.le_of_ble_eq_true rfl)
  · have c_4 := sl_bT c_4
    refine lv_aload_n hx hb dX4_latest_7 rfl (lv_at hl 0 rfl) ?_
    refine lv_iload_n hx hb dX4_latest_8 rfl (lv_at hl 2 rfl) ?_
    refine sl_calli (sl_runV (As := [.int y]) (rest := []) hC hG (kX4_isEndOfKnown l Γ g α β n C E hS y) mi_X4_isEndOfKnown lk_RX4_159 0 h0 rfl rfl rfl ⟨Nat.le_of_ble_eq_true rfl, Nat.le_of_ble_eq_true rfl⟩ rfl hl.1 rfl (Nat.le_of_ble_eq_true rfl) dX4_latest_9 ⟨Nat.le_of_ble_eq_true rfl, Nat.le_of_ble_eq_true rfl⟩) hG (fun r_9 u_9 H locs hr_9 hG => ?_)
    subst hr_9
    refine lv_if_ne (tgt := 25) hx hb dX4_latest_12 (by decide) (fun c_12 => ?_) (fun c_12 => ?_)
    · have c_12 := sl_bT c_12
      have hkn := sl_kn_le C
      obtain ⟨b, hb9, rfl⟩ := sl_inN (n := sl_kn C) c_12 (nI_toInt (by omega)) (by omega)
      refine lv_aload_n hx hb dX4_latest_25 rfl (lv_at hl 0 rfl) ?_
      refine lv_iload_n hx hb dX4_latest_26 rfl (lv_at hl 1 rfl) ?_
      refine lv_iload_n hx hb dX4_latest_27 rfl (lv_at hl 2 rfl) ?_
      refine sl_calli (sl_runV (As := [.int x, .int (nI b)]) (rest := []) hC hG (kX4_latestAhead l Γ g α β n C E hS b (by omega) x) mi_X4_latestAhead lk_RX4_172 0 h0 rfl rfl rfl ⟨Nat.le_of_ble_eq_true rfl, Nat.le_of_ble_eq_true rfl⟩ rfl hl.1 rfl (Nat.le_of_ble_eq_true rfl) dX4_latest_28 ⟨Nat.le_of_ble_eq_true rfl, Nat.le_of_ble_eq_true rfl⟩) hG (fun r_28 u_28 H locs hr_28 hG => ?_)
      subst hr_28
      exact vx_ret (sl_ri (v := sl_la n C E x b) hC hr hG () ⟨sl_and_t c_4 c_12, by rw [nI_clamp (by omega)]⟩ rfl (Nat.le_of_ble_eq_true rfl) (Nat.le_of_ble_eq_true rfl) dX4_latest_31)
    · have c_12 := sl_bF c_12
      exact sl_thr (text := "no such stream or known position") (rest := []) hlt hC hG ⟨rfl, by rw [c_12]; exact Bool.and_false _⟩ (by decide) lk_RX4_98 ini_IndexOutOfBoundsException (by decide +kernel) sl_hatO sl_otO hl.1 dX4_latest_15 dX4_latest_18 dX4_latest_19 dX4_latest_21 dX4_latest_24 hno (Nat.le_of_ble_eq_true rfl) (Nat.le_of_ble_eq_true rfl) (Nat.le_of_ble_eq_true rfl) (Nat.le_of_ble_eq_true rfl) (Nat.le_of_ble_eq_true rfl) (Nat.le_of_ble_eq_true rfl)
set_option maxHeartbeats 4000000 in
set_option maxRecDepth 100000 in
theorem kX4_value (l : Launch) (hlt : l.stackTraces = false) (Γ : sl_G) (g : sl_W) (α : Nat → Nat) (β : Nat → Nat × Nat × Nat) (n : Nat) (ep : Int32) (tl : Nat) (lo : Bool) (T C : Nat → Int32) (E : Nat → sl_Ent) (hK : sl_Cls Γ α β n ep tl lo T C E g) (x y : Int32) : vx_Met l yX4_value [Cond.code yX4_value cX4_value 5 (some .int)] ({ frames := 6, cells := 1, slots := 6, locals := 128 } : Room) (va_Pc [.ref (α 0), .int x, .int y] (sl_B Γ g)) (sl_Qi Γ (fun r g' => ((sl_in x 0 3 && sl_in y 0 (nI (sl_kn C))) = true ∧ r = sl_vs n C E x y.toNatClampNeg) ∧ sl_Cls Γ α β n ep tl lo T C E g' ∧ sl_fr g g') (fun g' => g')) (sl_X Γ g (fun E0 => E0 = "java/lang/IndexOutOfBoundsException" ∧ (sl_in x 0 3 && sl_in y 0 (nI (sl_kn C))) = false)) 1 6 (sl_A Γ) := by
  refine sl_entx (by decide) (Nat.le_of_ble_eq_true rfl) ?_
  intro p e s m below meth c ls hC hr hno hG hl
  have hx := hC.1
  have hb := hC.2.1
  have hl : lv_has ls 5 [(0, .ref (α 0)), (1, .int x), (2, .int y)] := hl
  have hS := hK.ro
  obtain ⟨h0, h1, h2, h3, h4, h5, ⟨F, X, fd, h6, h7, h8⟩, hE, hN, hn9, ht9⟩ := id hK
  refine lv_iload_n hx hb dX4_value_0 rfl (lv_at hl 1 rfl) ?_
  refine sl_calli (sl_runS (As := [.int x]) (rest := []) hC hG (kX4_isStream l Γ g x) mi_X4_isStream lk_RX4_130 rfl rfl ⟨Nat.le_of_ble_eq_true rfl, Nat.le_of_ble_eq_true rfl⟩ rfl hl.1 rfl (Nat.le_of_ble_eq_true rfl) dX4_value_1 ⟨Nat.le_of_ble_eq_true rfl, Nat.le_of_ble_eq_true rfl⟩) hG (fun r_1 u_1 H locs hr_1 hG => ?_)
  subst hr_1
  refine lv_if_eq (tgt := 15) hx hb dX4_value_4 (by decide) (fun c_4 => ?_) (fun c_4 => ?_)
  · have c_4 := sl_bF c_4
    exact sl_thr (text := "no such stream or known position") (rest := []) hlt hC hG ⟨rfl, by rw [c_4]; rfl⟩ (by decide) lk_RX4_98 ini_IndexOutOfBoundsException (by decide +kernel) sl_hatO sl_otO hl.1 dX4_value_15 dX4_value_18 dX4_value_19 dX4_value_21 dX4_value_24 hno (Nat.le_of_ble_eq_true rfl) (Nat.le_of_ble_eq_true rfl) (Nat.le_of_ble_eq_true rfl) (Nat.le_of_ble_eq_true rfl) (Nat.le_of_ble_eq_true rfl) (Nat.le_of_ble_eq_true rfl)
  · have c_4 := sl_bT c_4
    refine lv_aload_n hx hb dX4_value_7 rfl (lv_at hl 0 rfl) ?_
    refine lv_iload_n hx hb dX4_value_8 rfl (lv_at hl 2 rfl) ?_
    refine sl_calli (sl_runV (As := [.int y]) (rest := []) hC hG (kX4_isEndOfKnown l Γ g α β n C E hS y) mi_X4_isEndOfKnown lk_RX4_159 0 h0 rfl rfl rfl ⟨Nat.le_of_ble_eq_true rfl, Nat.le_of_ble_eq_true rfl⟩ rfl hl.1 rfl (Nat.le_of_ble_eq_true rfl) dX4_value_9 ⟨Nat.le_of_ble_eq_true rfl, Nat.le_of_ble_eq_true rfl⟩) hG (fun r_9 u_9 H locs hr_9 hG => ?_)
    subst hr_9
    refine lv_if_ne (tgt := 25) hx hb dX4_value_12 (by decide) (fun c_12 => ?_) (fun c_12 => ?_)
    · have c_12 := sl_bT c_12
      have hkn := sl_kn_le C
      obtain ⟨b, hb9, rfl⟩ := sl_inN (n := sl_kn C) c_12 (nI_toInt (by omega)) (by omega)
      refine lv_aload_n hx hb dX4_value_25 rfl (lv_at hl 0 rfl) ?_
      refine lv_iload_n hx hb dX4_value_26 rfl (lv_at hl 2 rfl) ?_
      refine sl_callv (sl_runV (As := [.int (nI b)]) (rest := []) hC hG (kX4_foldUpTo l Γ g α β n C E hS F X fd h6 h7 h8 b (by omega)) mi_X4_foldUpTo lk_RX4_152 0 h0 rfl rfl rfl ⟨Nat.le_of_ble_eq_true rfl, Nat.le_of_ble_eq_true rfl⟩ rfl hl.1 rfl (Nat.le_of_ble_eq_true rfl) dX4_value_27 ⟨Nat.le_of_ble_eq_true rfl, Nat.le_of_ble_eq_true rfl⟩) hG (fun u_27 H locs hr_27 hG => ?_)
      obtain ⟨w6, ⟨F9, w7, hF⟩, ⟨X9, w8⟩, hw⟩ := id hr_27
      refine lv_iconst (v := 0) hx hb dX4_value_30 (by decide) ?_
      refine lv_istore_n (lv' := [(3, .int 0), (0, .ref (α 0)), (1, .int x), (2, .int (nI b))]) hx hb dX4_value_31 rfl hl (by decide) rfl (fun ls hl => ?_)
      refine lv_iconst (v := 0) hx hb dX4_value_32 (by decide) ?_
      refine lv_istore (lv' := [(4, .int 0), (3, .int 0), (0, .ref (α 0)), (1, .int x), (2, .int (nI b))]) hx hb dX4_value_33 hl (by decide) rfl (fun ls hl => ?_)
      have loop_35 : ∀ (fuel k : Nat), k ≤ b → b + 1 ≤ k + fuel → ∀ (H : Heap) (locs : List Loc), sl_I Γ u_27 s H locs → ∀ (ls : Array Slot), lv_has ls 5 [(0, .ref (α 0)), (1, .int x), (2, .int (nI b)), (3, .int (sl_vs n C E x k)), (4, .int (nI k))] → W p l e ({ frames := 6, cells := 1, slots := 6, locals := 128 } : Room) s m ([.ref (α 0), .int x, .int (nI b)] : List Value).toArray below meth c H locs 0 0 (vx_MQ below (sl_Qi Γ (fun r g' => ((sl_in x 0 3 && sl_in (nI b) 0 (nI (sl_kn C))) = true ∧ r = sl_vs n C E x (nI b).toNatClampNeg) ∧ sl_Cls Γ α β n ep tl lo T C E g' ∧ sl_fr g g') (fun g' => g')) (sl_X Γ g (fun E0 => E0 = "java/lang/IndexOutOfBoundsException" ∧ (sl_in x 0 3 && sl_in (nI b) 0 (nI (sl_kn C))) = false)) ([.ref (α 0), .int x, .int (nI b)] : List Value).toArray s 1 6 (sl_A Γ)) (F0 m 35 ls []) := by
        intro fuel
        induction fuel with
        | zero =>
          intro k  h1 h2
          exact absurd h2 (by omega)
        | succ fuel ih_35 =>
          intro k  hk_35 hn_35  H locs hG ls hl
          refine lv_iload hx hb dX4_value_35 (lv_at hl 4 rfl) ?_
          refine lv_iload_n hx hb dX4_value_37 rfl (lv_at hl 2 rfl) ?_
          refine lv_icmp_ge (tgt := 66) hx hb dX4_value_38 (by decide) (fun c_38 => ?_) (fun c_38 => ?_)
          · have n_38 : b ≤ k := (nI_leI (a := b) (b := k) (by omega) (by omega)).mp c_38
            refine lv_iload_n hx hb dX4_value_66 rfl (lv_at hl 3 rfl) ?_
            have hk9 : k = b := by omega
            subst hk9
            exact vx_ret (sl_ri (v := sl_vs n C E x k) hC hr hG u_27 ⟨⟨sl_and_t c_4 c_12, by rw [nI_clamp (by omega)]⟩, sl_Cls_w hK hr_27⟩ rfl (Nat.le_of_ble_eq_true rfl) (Nat.le_of_ble_eq_true rfl) dX4_value_67)
          · have n_38 : ¬ (b ≤ k) := fun z => c_38 ((nI_leI (a := b) (b := k) (by omega) (by omega)).mpr z)
            refine lv_aload_n hx hb dX4_value_41 rfl (lv_at hl 0 rfl) ?_
            refine lv_iload hx hb dX4_value_42 (lv_at hl 4 rfl) ?_
            refine lv_iload_n hx hb dX4_value_44 rfl (lv_at hl 1 rfl) ?_
            refine sl_calli (sl_runV (As := [.int (nI k), .int x]) (rest := []) hC hG (kX4_holdsStream l Γ u_27 α β n C E (sl_Ro_w hS hw) k (by omega) x) mi_X4_holdsStream lk_RX4_164 0 ((hw 0 (by decide) (by decide) (by decide)).trans h0) rfl rfl rfl ⟨Nat.le_of_ble_eq_true rfl, Nat.le_of_ble_eq_true rfl⟩ rfl hl.1 rfl (Nat.le_of_ble_eq_true rfl) dX4_value_45 ⟨Nat.le_of_ble_eq_true rfl, Nat.le_of_ble_eq_true rfl⟩) hG (fun r_45 u_45 H locs hr_45 hG => ?_)
            subst hr_45
            refine lv_if_eq (tgt := 60) hx hb dX4_value_48 (by decide) (fun c_48 => ?_) (fun c_48 => ?_)
            · have c_48 := sl_bF c_48
              have hl : lv_has ls 5 [(0, .ref (α 0)), (1, .int x), (2, .int (nI b)), (3, .int (sl_vs n C E x (k + 1))), (4, .int (nI k))] := by rw [show sl_vs n C E x (k + 1) = sl_vs n C E x k from (by rw [sl_vs, if_neg (by rw [c_48]; decide)])]; exact hl
              refine lv_iinc (v := nI (k + 1)) (lv' := [(4, .int (nI (k + 1))), (0, .ref (α 0)), (1, .int x), (2, .int (nI b)), (3, .int (sl_vs n C E x (k + 1)))]) hx hb dX4_value_60 hl (k := 4) rfl (nI_1 k) (by decide) rfl (fun ls hl => ?_)
              refine lv_goto (tgt := 35) hx hb dX4_value_63 (by decide) ?_
              exact ih_35 (k + 1) (by omega) (by omega) _ _ hG _ (lv_sub hl [1, 2, 3, 4, 0] rfl)
            · have c_48 := sl_bT c_48
              refine lv_iload_n hx hb dX4_value_51 rfl (lv_at hl 3 rfl) ?_
              refine lv_aload_n hx hb dX4_value_52 rfl (lv_at hl 0 rfl) ?_
              refine lv_iload hx hb dX4_value_53 (lv_at hl 4 rfl) ?_
              refine sl_calli (sl_runV (As := [.int (nI k)]) (rest := [.int (sl_vs n C E x k)]) hC hG (kX4_effectOf l Γ u_27 α β n C E (sl_Ro_w hS hw) F9 X9 b w6 w7 w8 hF (by omega) k (by omega)) mi_X4_effectOf lk_RX4_168 0 ((hw 0 (by decide) (by decide) (by decide)).trans h0) rfl rfl rfl ⟨Nat.le_of_ble_eq_true rfl, Nat.le_of_ble_eq_true rfl⟩ rfl hl.1 rfl (Nat.le_of_ble_eq_true rfl) dX4_value_55 ⟨Nat.le_of_ble_eq_true rfl, Nat.le_of_ble_eq_true rfl⟩) hG (fun r_55 u_55 H locs hr_55 hG => ?_)
              subst hr_55
              refine lv_iadd hx hb dX4_value_58 ?_
              refine lv_istore_n (lv' := [(3, .int ((sl_vs n C E x k) + (sl_am n C E k))), (0, .ref (α 0)), (1, .int x), (2, .int (nI b)), (4, .int (nI k))]) hx hb dX4_value_59 rfl hl (by decide) rfl (fun ls hl => ?_)
              have hl : lv_has ls 5 [(3, .int (sl_vs n C E x (k + 1))), (0, .ref (α 0)), (1, .int x), (2, .int (nI b)), (4, .int (nI k))] := by rw [show sl_vs n C E x (k + 1) = (sl_vs n C E x k) + (sl_am n C E k) from (by rw [sl_vs, if_pos c_48])]; exact hl
              refine lv_iinc (v := nI (k + 1)) (lv' := [(4, .int (nI (k + 1))), (3, .int (sl_vs n C E x (k + 1))), (0, .ref (α 0)), (1, .int x), (2, .int (nI b))]) hx hb dX4_value_60 hl (k := 4) rfl (nI_1 k) (by decide) rfl (fun ls hl => ?_)
              refine lv_goto (tgt := 35) hx hb dX4_value_63 (by decide) ?_
              exact ih_35 (k + 1) (by omega) (by omega) _ _ hG _ (lv_sub hl [2, 3, 4, 1, 0] rfl)
      exact loop_35 (b + 1) 0 (by omega) (by omega) _ _ hG _ (lv_sub hl [2, 3, 4, 1, 0] rfl)
    · have c_12 := sl_bF c_12
      exact sl_thr (text := "no such stream or known position") (rest := []) hlt hC hG ⟨rfl, by rw [c_12]; exact Bool.and_false _⟩ (by decide) lk_RX4_98 ini_IndexOutOfBoundsException (by decide +kernel) sl_hatO sl_otO hl.1 dX4_value_15 dX4_value_18 dX4_value_19 dX4_value_21 dX4_value_24 hno (Nat.le_of_ble_eq_true rfl) (Nat.le_of_ble_eq_true rfl) (Nat.le_of_ble_eq_true rfl) (Nat.le_of_ble_eq_true rfl) (Nat.le_of_ble_eq_true rfl) (Nat.le_of_ble_eq_true rfl)
theorem sl_la_lt (n : Nat) (C : Nat → Int32) (E : Nat → sl_Ent) (x : Int32) (b : Nat) : sl_la n C E x b = -1 ∨ ∃ q, q < b ∧ sl_la n C E x b = nI q := (sl_la_in n C E x b).imp id fun ⟨q, h1, h2, _⟩ => ⟨q, h1, h2⟩
theorem sl_or_lt {z : Int32} {q b : Nat} (h : z = -1 ∨ ∃ q', q' < q ∧ z = nI q') (hb : q ≤ b) : z = -1 ∨ ∃ q', q' < b ∧ z = nI q' := h.imp id fun ⟨q', h1, h2⟩ => ⟨q', by omega, h2⟩
set_option maxHeartbeats 4000000 in
set_option maxRecDepth 100000 in
theorem kX4_valueByPointers (l : Launch) (hlt : l.stackTraces = false) (Γ : sl_G) (g : sl_W) (α : Nat → Nat) (β : Nat → Nat × Nat × Nat) (n : Nat) (ep : Int32) (tl : Nat) (lo : Bool) (T C : Nat → Int32) (E : Nat → sl_Ent) (hK : sl_Cls Γ α β n ep tl lo T C E g) (hP : ∀ t, t < n → ∀ j, j < 16 → sl_pt ((E t).2.2.2.2.2.2.1 j)) (hPP : sl_PP n C E) (x y : Int32) : vx_Met l yX4_valueByPointers [Cond.code yX4_valueByPointers cX4_valueByPointers 6 (some .int)] ({ frames := 6, cells := 1, slots := 6, locals := 135 } : Room) (va_Pc [.ref (α 0), .int x, .int y] (sl_B Γ g)) (sl_Qi Γ (fun r g' => (∃ j0, x = nI j0 ∧ j0 < 4 ∧ (sl_in x 0 3 && sl_in y 0 (nI (sl_kn C))) = true ∧ r = sl_vp n C E j0 120 (sl_la n C E x y.toNatClampNeg) 0) ∧ sl_Cls Γ α β n ep tl lo T C E g' ∧ sl_fr g g') (fun g' => g')) (sl_X Γ g (fun E0 => E0 = "java/lang/IndexOutOfBoundsException" ∧ (sl_in x 0 3 && sl_in y 0 (nI (sl_kn C))) = false)) 1 6 (sl_A Γ) := by
  refine sl_entx (by decide) (Nat.le_of_ble_eq_true rfl) ?_
  intro p e s m below meth c ls hC hr hno hG hl
  have hx := hC.1
  have hb := hC.2.1
  have hl : lv_has ls 6 [(0, .ref (α 0)), (1, .int x), (2, .int y)] := hl
  have hS := hK.ro
  obtain ⟨h0, h1, h2, h3, h4, h5, ⟨F, X, fd, h6, h7, h8⟩, hE, hN, hn9, ht9⟩ := id hK
  refine lv_iload_n hx hb dX4_valueByPointers_0 rfl (lv_at hl 1 rfl) ?_
  refine sl_calli (sl_runS (As := [.int x]) (rest := []) hC hG (kX4_isStream l Γ g x) mi_X4_isStream lk_RX4_130 rfl rfl ⟨Nat.le_of_ble_eq_true rfl, Nat.le_of_ble_eq_true rfl⟩ rfl hl.1 rfl (Nat.le_of_ble_eq_true rfl) dX4_valueByPointers_1 ⟨Nat.le_of_ble_eq_true rfl, Nat.le_of_ble_eq_true rfl⟩) hG (fun r_1 u_1 H locs hr_1 hG => ?_)
  subst hr_1
  refine lv_if_eq (tgt := 15) hx hb dX4_valueByPointers_4 (by decide) (fun c_4 => ?_) (fun c_4 => ?_)
  · have c_4 := sl_bF c_4
    exact sl_thr (text := "no such stream or known position") (rest := []) hlt hC hG ⟨rfl, by rw [c_4]; rfl⟩ (by decide) lk_RX4_98 ini_IndexOutOfBoundsException (by decide +kernel) sl_hatO sl_otO hl.1 dX4_valueByPointers_15 dX4_valueByPointers_18 dX4_valueByPointers_19 dX4_valueByPointers_21 dX4_valueByPointers_24 hno (Nat.le_of_ble_eq_true rfl) (Nat.le_of_ble_eq_true rfl) (Nat.le_of_ble_eq_true rfl) (Nat.le_of_ble_eq_true rfl) (Nat.le_of_ble_eq_true rfl) (Nat.le_of_ble_eq_true rfl)
  · have c_4 := sl_bT c_4
    refine lv_aload_n hx hb dX4_valueByPointers_7 rfl (lv_at hl 0 rfl) ?_
    refine lv_iload_n hx hb dX4_valueByPointers_8 rfl (lv_at hl 2 rfl) ?_
    refine sl_calli (sl_runV (As := [.int y]) (rest := []) hC hG (kX4_isEndOfKnown l Γ g α β n C E hS y) mi_X4_isEndOfKnown lk_RX4_159 0 h0 rfl rfl rfl ⟨Nat.le_of_ble_eq_true rfl, Nat.le_of_ble_eq_true rfl⟩ rfl hl.1 rfl (Nat.le_of_ble_eq_true rfl) dX4_valueByPointers_9 ⟨Nat.le_of_ble_eq_true rfl, Nat.le_of_ble_eq_true rfl⟩) hG (fun r_9 u_9 H locs hr_9 hG => ?_)
    subst hr_9
    refine lv_if_ne (tgt := 25) hx hb dX4_valueByPointers_12 (by decide) (fun c_12 => ?_) (fun c_12 => ?_)
    · have c_12 := sl_bT c_12
      have hkn := sl_kn_le C
      obtain ⟨b, hb9, rfl⟩ := sl_inN (n := sl_kn C) c_12 (nI_toInt (by omega)) (by omega)
      obtain ⟨j, hj9, rfl⟩ := sl_c3 c_4
      refine lv_aload_n hx hb dX4_valueByPointers_25 rfl (lv_at hl 0 rfl) ?_
      refine lv_iload_n hx hb dX4_valueByPointers_26 rfl (lv_at hl 2 rfl) ?_
      refine sl_callv (sl_runV (As := [.int (nI b)]) (rest := []) hC hG (kX4_foldUpTo l Γ g α β n C E hS F X fd h6 h7 h8 b (by omega)) mi_X4_foldUpTo lk_RX4_152 0 h0 rfl rfl rfl ⟨Nat.le_of_ble_eq_true rfl, Nat.le_of_ble_eq_true rfl⟩ rfl hl.1 rfl (Nat.le_of_ble_eq_true rfl) dX4_valueByPointers_27 ⟨Nat.le_of_ble_eq_true rfl, Nat.le_of_ble_eq_true rfl⟩) hG (fun u_27 H locs hr_27 hG => ?_)
      obtain ⟨w6, ⟨F9, w7, hF⟩, ⟨X9, w8⟩, hw⟩ := id hr_27
      refine lv_iconst (v := 0) hx hb dX4_valueByPointers_30 (by decide) ?_
      refine lv_istore_n (lv' := [(3, .int 0), (0, .ref (α 0)), (1, .int (nI j)), (2, .int (nI b))]) hx hb dX4_valueByPointers_31 rfl hl (by decide) rfl (fun ls hl => ?_)
      refine lv_aload_n hx hb dX4_valueByPointers_32 rfl (lv_at hl 1 rfl) ?_
      refine lv_iload_n hx hb dX4_valueByPointers_33 rfl (lv_at hl 2 rfl) ?_
      refine lv_iload_n hx hb dX4_valueByPointers_34 rfl (lv_at hl 3 rfl) ?_
      refine sl_calli (sl_runV (As := [.int (nI j), .int (nI b)]) (rest := []) hC hG (kX4_latestAhead l Γ u_27 α β n C E (sl_Ro_w hS hw) b (by omega) (nI j)) mi_X4_latestAhead lk_RX4_172 0 ((hw 0 (by decide) (by decide) (by decide)).trans h0) rfl rfl rfl ⟨Nat.le_of_ble_eq_true rfl, Nat.le_of_ble_eq_true rfl⟩ rfl hl.1 rfl (Nat.le_of_ble_eq_true rfl) dX4_valueByPointers_35 ⟨Nat.le_of_ble_eq_true rfl, Nat.le_of_ble_eq_true rfl⟩) hG (fun r_35 u_35 H locs hr_35 hG => ?_)
      subst hr_35
      refine lv_istore (lv' := [(4, .int (sl_la n C E (nI j) b)), (3, .int 0), (0, .ref (α 0)), (1, .int (nI j)), (2, .int (nI b))]) hx hb dX4_valueByPointers_38 hl (by decide) rfl (fun ls hl => ?_)
      refine lv_iconst (v := 0) hx hb dX4_valueByPointers_40 (by decide) ?_
      refine lv_istore (lv' := [(5, .int 0), (4, .int (sl_la n C E (nI j) b)), (3, .int 0), (0, .ref (α 0)), (1, .int (nI j)), (2, .int (nI b))]) hx hb dX4_valueByPointers_41 hl (by decide) rfl (fun ls hl => ?_)
      have loop_43 : ∀ (fuel k : Nat) (sum : Int32) (z : Int32), k ≤ 120 → 120 + 1 ≤ k + fuel → (z = -1 ∨ ∃ q, q < b ∧ z = nI q) → (sl_vp n C E j (120 - k) z sum = sl_vp n C E j 120 (sl_la n C E (nI j) b) 0) → ∀ (H : Heap) (locs : List Loc), sl_I Γ u_27 s H locs → ∀ (ls : Array Slot), lv_has ls 6 [(0, .ref (α 0)), (1, .int (nI j)), (2, .int (nI b)), (3, .int sum), (4, .int z), (5, .int (nI k))] → W p l e ({ frames := 6, cells := 1, slots := 6, locals := 135 } : Room) s m ([.ref (α 0), .int (nI j), .int (nI b)] : List Value).toArray below meth c H locs 0 0 (vx_MQ below (sl_Qi Γ (fun r g' => (∃ j0, (nI j) = nI j0 ∧ j0 < 4 ∧ (sl_in (nI j) 0 3 && sl_in (nI b) 0 (nI (sl_kn C))) = true ∧ r = sl_vp n C E j0 120 (sl_la n C E (nI j) (nI b).toNatClampNeg) 0) ∧ sl_Cls Γ α β n ep tl lo T C E g' ∧ sl_fr g g') (fun g' => g')) (sl_X Γ g (fun E0 => E0 = "java/lang/IndexOutOfBoundsException" ∧ (sl_in (nI j) 0 3 && sl_in (nI b) 0 (nI (sl_kn C))) = false)) ([.ref (α 0), .int (nI j), .int (nI b)] : List Value).toArray s 1 6 (sl_A Γ)) (F0 m 43 ls []) := by
        intro fuel
        induction fuel with
        | zero =>
          intro k sum z h1 h2
          exact absurd h2 (by omega)
        | succ fuel ih_43 =>
          intro k sum z hk_43 hn_43 hz hi H locs hG ls hl
          refine lv_iload hx hb dX4_valueByPointers_43 (lv_at hl 5 rfl) ?_
          refine lv_bipush (v := 120) hx hb dX4_valueByPointers_45 (by decide) ?_
          refine lv_icmp_ge (tgt := 80) hx hb dX4_valueByPointers_47 (by decide) (fun c_47 => ?_) (fun c_47 => ?_)
          · have n_47 : 120 ≤ k := (nI_leI (a := 120) (b := k) (by omega) (by omega)).mp c_47
            refine lv_iload_n hx hb dX4_valueByPointers_80 rfl (lv_at hl 3 rfl) ?_
            have hv9 : sum = sl_vp n C E j 120 (sl_la n C E (nI j) b) 0 := by rw [← hi, show 120 - k = 0 by omega, sl_vp]
            exact vx_ret (sl_ri (v := sum) hC hr hG u_27 ⟨⟨j, rfl, by omega, sl_and_t c_4 c_12, by rw [nI_clamp (by omega)]; exact hv9⟩, sl_Cls_w hK hr_27⟩ rfl (Nat.le_of_ble_eq_true rfl) (Nat.le_of_ble_eq_true rfl) dX4_valueByPointers_81)
          · have n_47 : ¬ (120 ≤ k) := fun z => c_47 ((nI_leI (a := 120) (b := k) (by omega) (by omega)).mpr z)
            refine lv_iload hx hb dX4_valueByPointers_50 (lv_at hl 4 rfl) ?_
            refine lv_iconst (v := (-1)) hx hb dX4_valueByPointers_52 (by decide) ?_
            refine lv_icmp_eq (tgt := 80) hx hb dX4_valueByPointers_53 (by decide) (fun c_53 => ?_) (fun c_53 => ?_)
            · refine lv_iload_n hx hb dX4_valueByPointers_80 rfl (lv_at hl 3 rfl) ?_
              have hv9 : sum = sl_vp n C E j 120 (sl_la n C E (nI j) b) 0 := by rw [← hi, show 120 - k = (120 - (k + 1)) + 1 by omega, sl_vp, if_pos c_53]
              exact vx_ret (sl_ri (v := sum) hC hr hG u_27 ⟨⟨j, rfl, by omega, sl_and_t c_4 c_12, by rw [nI_clamp (by omega)]; exact hv9⟩, sl_Cls_w hK hr_27⟩ rfl (Nat.le_of_ble_eq_true rfl) (Nat.le_of_ble_eq_true rfl) dX4_valueByPointers_81)
            · obtain ⟨q, hq9, rfl⟩ := hz.elim (fun e9 => absurd e9 c_53) id
              refine lv_iload_n hx hb dX4_valueByPointers_56 rfl (lv_at hl 3 rfl) ?_
              refine lv_aload_n hx hb dX4_valueByPointers_57 rfl (lv_at hl 0 rfl) ?_
              refine lv_iload hx hb dX4_valueByPointers_58 (lv_at hl 4 rfl) ?_
              refine sl_calli (sl_runV (As := [.int (nI q)]) (rest := [.int sum]) hC hG (kX4_effectOf l Γ u_27 α β n C E (sl_Ro_w hS hw) F9 X9 b w6 w7 w8 hF (by omega) q (by omega)) mi_X4_effectOf lk_RX4_168 0 ((hw 0 (by decide) (by decide) (by decide)).trans h0) rfl rfl rfl ⟨Nat.le_of_ble_eq_true rfl, Nat.le_of_ble_eq_true rfl⟩ rfl hl.1 rfl (Nat.le_of_ble_eq_true rfl) dX4_valueByPointers_60 ⟨Nat.le_of_ble_eq_true rfl, Nat.le_of_ble_eq_true rfl⟩) hG (fun r_60 u_60 H locs hr_60 hG => ?_)
              subst hr_60
              refine lv_iadd hx hb dX4_valueByPointers_63 ?_
              refine lv_istore_n (lv' := [(3, .int (sum + (sl_am n C E q))), (0, .ref (α 0)), (1, .int (nI j)), (2, .int (nI b)), (4, .int (nI q)), (5, .int (nI k))]) hx hb dX4_valueByPointers_64 rfl hl (by decide) rfl (fun ls hl => ?_)
              refine lv_aload_n hx hb dX4_valueByPointers_65 rfl (lv_at hl 1 rfl) ?_
              refine lv_iload_n hx hb dX4_valueByPointers_66 rfl (lv_at hl 2 rfl) ?_
              refine lv_iload hx hb dX4_valueByPointers_67 (lv_at hl 4 rfl) ?_
              refine sl_calli (sl_runV (As := [.int (nI j), .int (nI q)]) (rest := []) hC hG (kX4_previousByPointers l Γ u_27 α β n C E (sl_Ro_w hS hw) hP j q (by omega) (by omega)) mi_X4_previousByPointers lk_RX4_175 0 ((hw 0 (by decide) (by decide) (by decide)).trans h0) rfl rfl rfl ⟨Nat.le_of_ble_eq_true rfl, Nat.le_of_ble_eq_true rfl⟩ rfl hl.1 rfl (Nat.le_of_ble_eq_true rfl) dX4_valueByPointers_69 ⟨Nat.le_of_ble_eq_true rfl, Nat.le_of_ble_eq_true rfl⟩) hG (fun r_69 u_69 H locs hr_69 hG => ?_)
              subst hr_69
              refine lv_istore (lv' := [(4, .int (sl_pq n C E j q)), (3, .int (sum + (sl_am n C E q))), (0, .ref (α 0)), (1, .int (nI j)), (2, .int (nI b)), (5, .int (nI k))]) hx hb dX4_valueByPointers_72 hl (by decide) rfl (fun ls hl => ?_)
              refine lv_iinc (v := nI (k + 1)) (lv' := [(5, .int (nI (k + 1))), (4, .int (sl_pq n C E j q)), (3, .int (sum + (sl_am n C E q))), (0, .ref (α 0)), (1, .int (nI j)), (2, .int (nI b))]) hx hb dX4_valueByPointers_74 hl (k := 5) rfl (nI_1 k) (by decide) rfl (fun ls hl => ?_)
              refine lv_goto (tgt := 43) hx hb dX4_valueByPointers_77 (by decide) ?_
              exact ih_43 (k + 1) (sum + sl_am n C E q) (sl_pq n C E j q) (by omega) (by omega) (sl_or_lt (sl_pq_lt hPP (by omega) (by omega)) (by omega)) (by rw [← hi, show 120 - k = (120 - (k + 1)) + 1 by omega, sl_vp, if_neg c_53, nI_clamp (by omega)]) _ _ hG _ (lv_sub hl [3, 4, 5, 2, 1, 0] rfl)
      exact loop_43 (120 + 1) 0 0 (sl_la n C E (nI j) b) (by omega) (by omega) (sl_la_lt n C E (nI j) b) rfl _ _ hG _ (lv_sub hl [3, 4, 5, 2, 1, 0] rfl)
    · have c_12 := sl_bF c_12
      exact sl_thr (text := "no such stream or known position") (rest := []) hlt hC hG ⟨rfl, by rw [c_12]; exact Bool.and_false _⟩ (by decide) lk_RX4_98 ini_IndexOutOfBoundsException (by decide +kernel) sl_hatO sl_otO hl.1 dX4_valueByPointers_15 dX4_valueByPointers_18 dX4_valueByPointers_19 dX4_valueByPointers_21 dX4_valueByPointers_24 hno (Nat.le_of_ble_eq_true rfl) (Nat.le_of_ble_eq_true rfl) (Nat.le_of_ble_eq_true rfl) (Nat.le_of_ble_eq_true rfl) (Nat.le_of_ble_eq_true rfl) (Nat.le_of_ble_eq_true rfl)

