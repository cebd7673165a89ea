/-! the fold -/
set_option maxHeartbeats 4000000 in
set_option maxRecDepth 100000 in
theorem kX2_restart (l : Launch) (Γ : sl_G) (g : sl_W) (a6 a7 a8 : Nat) (F X : Nat → Int32) (fd : Int32) (h6 : g 6 = some (a6, .inr (2, [.ref a7, .ref a8, .int fd]))) (h7 : g 7 = some (a7, .inl (Γ.2.1 1, 120, .inl F))) (h8 : g 8 = some (a8, .inl (Γ.2.1 0, 4, .inl X))) : Met l yX2_restart [Cond.code yX2_restart cX2_restart 1 none] ({ frames := 1, cells := 0, slots := 0, locals := 23 } : Room) (va_Pc [.ref a6] (sl_B Γ g)) (sl_Qv Γ (fun (_ : Unit) => True) (fun _ => sl_up (sl_up g 6 (a6, .inr (2, [.ref a7, .ref a8, .int 0]))) 8 (a8, .inl (Γ.2.1 0, 4, .inl (fun _ => (-1)))))) 0 0 (sl_A Γ) := by
  refine sl_ent (by decide) (Nat.le_of_ble_eq_true rfl) ?_
  intro p e s m below meth c ls hC hr hin hG hl
  have hx := hC.1
  have hb := hC.2.1
  have hl : lv_has ls 1 [(0, .ref a6)] := hl
  refine lv_aload_n hx hb dX2_restart_0 rfl (lv_at hl 0 rfl) ?_
  refine lv_iconst (v := 0) hx hb dX2_restart_1 (by decide) ?_
  refine sl_put (C := RX2) (T := TX2) (N := 3) (ty := .int) (v := .int 0) hC hG 6 h6 rfl la_2 tyX2 tyX2_ok nmX2 2 (by decide) lk_RX2_19 rfl rfl (by decide +kernel) rfl rfl (Nat.le_of_ble_eq_true rfl) dX2_restart_2 (fun H locs hG => ?_)
  have hG : sl_I Γ (sl_up g 6 (a6, .inr (2, [.ref a7, .ref a8, .int 0]))) s H _ := hG
  refine lv_aload_n hx hb dX2_restart_5 rfl (lv_at hl 0 rfl) ?_
  refine sl_get (C := RX2) (T := TX2) (N := 3) hC hG 6 (sl_up_s _ _ _) rfl la_2 1 (by decide) lk_RX2_15 rfl rfl dX2_restart_6 ?_
  refine lv_iconst (v := (-1)) hx hb dX2_restart_9 (by decide) ?_
  refine sl_callv (sl_runS (As := [.ref a8, .int (-1)]) (rest := []) hC hG (kJ7_fill_53178 l Γ (sl_up g 6 (a6, .inr (2, [.ref a7, .ref a8, .int 0]))) 8 a8 4 X (sl_up_to (by decide) h8) (by omega) (-1)) mi_J7_fill_53178 lk_RX2_23 rfl rfl ⟨Nat.le_of_ble_eq_true rfl, Nat.le_of_ble_eq_true rfl⟩ rfl hl.1 rfl (Nat.le_of_ble_eq_true rfl) dX2_restart_10 ⟨Nat.le_of_ble_eq_true rfl, Nat.le_of_ble_eq_true rfl⟩) hG (fun u_10 H locs hr_10 hG => ?_)
  have hG : sl_I Γ (sl_up (sl_up g 6 (a6, .inr (2, [.ref a7, .ref a8, .int 0]))) 8 (a8, .inl (Γ.2.1 0, 4, .inl (fun _ => (-1))))) s H _ := hG
  exact sl_rv hC hr hG () trivial rfl (Nat.le_of_ble_eq_true rfl) (Nat.le_of_ble_eq_true rfl) dX2_restart_13
set_option maxHeartbeats 4000000 in
set_option maxRecDepth 100000 in
theorem kX2_isUnchanged (l : Launch) (Γ : sl_G) (g : sl_W) (a6 a7 a8 : Nat) (F X : Nat → Int32) (fd : Int32) (h6 : g 6 = some (a6, .inr (2, [.ref a7, .ref a8, .int fd]))) (h7 : g 7 = some (a7, .inl (Γ.2.1 1, 120, .inl F))) (h8 : g 8 = some (a8, .inl (Γ.2.1 0, 4, .inl X))) (ss ver : Int32) : Met l yX2_isUnchanged [Cond.code yX2_isUnchanged cX2_isUnchanged 4 (some .boolean)] ({ frames := 1, cells := 0, slots := 0, locals := 21 } : Room) (va_Pc [.ref a6, .int ss, .int ver] (sl_B Γ g)) (sl_Qi Γ (fun r (_ : Unit) => r = sl_bi (sl_un X ss ver 4)) (fun _ => g)) 0 0 (sl_A Γ) := by
  refine sl_ent (by decide) (Nat.le_of_ble_eq_true rfl) ?_
  intro p e s m below meth c ls hC hr hin hG hl
  have hx := hC.1
  have hb := hC.2.1
  have hl : lv_has ls 4 [(0, .ref a6), (1, .int ss), (2, .int ver)] := hl
  refine lv_iconst (v := 0) hx hb dX2_isUnchanged_0 (by decide) ?_
  refine lv_istore_n (lv' := [(3, .int 0), (0, .ref a6), (1, .int ss), (2, .int ver)]) hx hb dX2_isUnchanged_1 rfl hl (by decide) rfl (fun ls hl => ?_)
  have loop_2 : ∀ (n k : Nat), k ≤ 4 → 4 + 1 ≤ k + n → (sl_un X ss ver k = true) → ∀ (H : Heap) (locs : List Loc), sl_I Γ g s H locs → ∀ (ls : Array Slot), lv_has ls 4 [(0, .ref a6), (1, .int ss), (2, .int ver), (3, .int (nI k))] → W p l e ({ frames := 1, cells := 0, slots := 0, locals := 21 } : Room) s m ([.ref a6, .int ss, .int ver] : List Value).toArray below meth c H locs 0 0 (MQ below (sl_Qi Γ (fun r (_ : Unit) => r = sl_bi (sl_un X ss ver 4)) (fun _ => g)) ([.ref a6, .int ss, .int ver] : List Value).toArray s 0 0 (sl_A Γ)) (F0 m 2 ls []) := by
    intro n
    induction n with
    | zero =>
      intro k  h1 h2
      exact absurd h2 (by omega)
    | succ n ih_2 =>
      intro k  hk_2 hn_2 hi H locs hG ls hl
      refine lv_iload_n hx hb dX2_isUnchanged_2 rfl (lv_at hl 3 rfl) ?_
      refine lv_aload_n hx hb dX2_isUnchanged_3 rfl (lv_at hl 0 rfl) ?_
      refine sl_get (C := RX2) (T := TX2) (N := 3) hC hG 6 h6 rfl la_2 1 (by decide) lk_RX2_15 rfl rfl dX2_isUnchanged_4 ?_
      refine sl_alen (v := 4) hC hG 8 0 h8 rfl rfl dX2_isUnchanged_7 ?_
      refine lv_icmp_ge (tgt := 37) hx hb dX2_isUnchanged_8 (by decide) (fun c_8 => ?_) (fun c_8 => ?_)
      · have n_8 : 4 ≤ k := (nI_leI (a := 4) (b := k) (by omega) (by omega)).mp c_8
        refine lv_iconst (v := 1) hx hb dX2_isUnchanged_37 (by decide) ?_
        have hk9 : k = 4 := by omega
        subst hk9
        exact sl_rz (v := 1) hC hr rfl hG () (by show _ = sl_bi (sl_un X ss ver 4); rw [hi]; rfl) rfl (Nat.le_of_ble_eq_true rfl) (Nat.le_of_ble_eq_true rfl) dX2_isUnchanged_38
      · have n_8 : ¬ (4 ≤ k) := fun z => c_8 ((nI_leI (a := 4) (b := k) (by omega) (by omega)).mpr z)
        refine lv_iload_n hx hb dX2_isUnchanged_11 rfl (lv_at hl 3 rfl) ?_
        refine lv_iload_n hx hb dX2_isUnchanged_12 rfl (lv_at hl 1 rfl) ?_
        refine sl_calli (sl_runSN (As := [.int (nI k), .int ss]) (rest := []) hC hG (kX4_isIn l Γ g (nI k) ss) mi_X4_isIn lk_RX2_48 rfl rfl ⟨Nat.le_of_ble_eq_true rfl, Nat.le_of_ble_eq_true rfl⟩ rfl hl.1 rfl (Nat.le_of_ble_eq_true rfl) dX2_isUnchanged_13 ⟨Nat.le_of_ble_eq_true rfl, Nat.le_of_ble_eq_true rfl⟩) hG (fun r_13 u_13 H locs hr_13 hG => ?_)
        subst hr_13
        refine lv_if_eq (tgt := 31) hx hb dX2_isUnchanged_16 (by decide) (fun c_16 => ?_) (fun c_16 => ?_)
        · have c_16 := sl_bF c_16
          refine lv_iinc (v := nI (k + 1)) (lv' := [(3, .int (nI (k + 1))), (0, .ref a6), (1, .int ss), (2, .int ver)]) hx hb dX2_isUnchanged_31 hl (k := 3) rfl (nI_1 k) (by decide) rfl (fun ls hl => ?_)
          refine lv_goto (tgt := 2) hx hb dX2_isUnchanged_34 (by decide) ?_
          exact ih_2 (k + 1) (by omega) (by omega) (by rw [sl_un, hi, c_16]; rfl) _ _ hG _ (lv_sub hl [1, 2, 3, 0] rfl)
        · have c_16 := sl_bT c_16
          refine lv_aload_n hx hb dX2_isUnchanged_19 rfl (lv_at hl 0 rfl) ?_
          refine sl_get (C := RX2) (T := TX2) (N := 3) hC hG 6 h6 rfl la_2 1 (by decide) lk_RX2_15 rfl rfl dX2_isUnchanged_20 ?_
          refine lv_iload_n hx hb dX2_isUnchanged_23 rfl (lv_at hl 3 rfl) ?_
          refine sl_ialdN hC hG 8 h8 (j := k) rfl (by omega) (by omega) dX2_isUnchanged_24 ?_
          refine lv_iload_n hx hb dX2_isUnchanged_25 rfl (lv_at hl 2 rfl) ?_
          refine lv_icmp_lt (tgt := 31) hx hb dX2_isUnchanged_26 (by decide) (fun c_26 => ?_) (fun c_26 => ?_)
          · refine lv_iinc (v := nI (k + 1)) (lv' := [(3, .int (nI (k + 1))), (0, .ref a6), (1, .int ss), (2, .int ver)]) hx hb dX2_isUnchanged_31 hl (k := 3) rfl (nI_1 k) (by decide) rfl (fun ls hl => ?_)
            refine lv_goto (tgt := 2) hx hb dX2_isUnchanged_34 (by decide) ?_
            exact ih_2 (k + 1) (by omega) (by omega) (by rw [sl_un, hi, c_16, decide_eq_true c_26]; rfl) _ _ hG _ (lv_sub hl [1, 2, 3, 0] rfl)
          · refine lv_iconst (v := 0) hx hb dX2_isUnchanged_29 (by decide) ?_
            exact sl_rz (v := 0) hC hr rfl hG () (by show _ = sl_bi (sl_un X ss ver 4); rw [sl_un_f (k := k + 1) (by rw [sl_un, hi, c_16, decide_eq_false c_26]; rfl) 4 (by omega)]; rfl) rfl (Nat.le_of_ble_eq_true rfl) (Nat.le_of_ble_eq_true rfl) dX2_isUnchanged_30
  exact loop_2 (4 + 1) 0 (by omega) (by omega) rfl _ _ hG _ (lv_sub hl [1, 2, 3, 0] rfl)
theorem sl_nc_z (X : Nat → Int32) (ss z : Int32) : X = sl_nc X ss z 0 := by
  funext j
  rw [sl_nc, if_neg (fun w => absurd w.1 (Nat.not_lt_zero j))]
set_option maxHeartbeats 4000000 in
set_option maxRecDepth 100000 in
theorem kX2_noteChange (l : Launch) (Γ : sl_G) (g : sl_W) (a6 a7 a8 : Nat) (F X : Nat → Int32) (fd : Int32) (h6 : g 6 = some (a6, .inr (2, [.ref a7, .ref a8, .int fd]))) (h7 : g 7 = some (a7, .inl (Γ.2.1 1, 120, .inl F))) (h8 : g 8 = some (a8, .inl (Γ.2.1 0, 4, .inl X))) (ss : Int32) : Met l yX2_noteChange [Cond.code yX2_noteChange cX2_noteChange 3 none] ({ frames := 1, cells := 0, slots := 0, locals := 21 } : Room) (va_Pc [.ref a6, .int ss] (sl_B Γ g)) (sl_Qv Γ (fun (_ : Unit) => True) (fun _ => sl_up g 8 (a8, .inl (Γ.2.1 0, 4, .inl (sl_nc X ss fd 4))))) 0 0 (sl_A Γ) := by
  refine sl_ent (by decide) (Nat.le_of_ble_eq_true rfl) ?_
  intro p e s m below meth c ls hC hr hin hG hl
  have hx := hC.1
  have hb := hC.2.1
  have hl : lv_has ls 3 [(0, .ref a6), (1, .int ss)] := hl
  refine lv_iconst (v := 0) hx hb dX2_noteChange_0 (by decide) ?_
  refine lv_istore_n (lv' := [(2, .int 0), (0, .ref a6), (1, .int ss)]) hx hb dX2_noteChange_1 rfl hl (by decide) rfl (fun ls hl => ?_)
  have loop_2 : ∀ (n k : Nat), k ≤ 4 → 4 + 1 ≤ k + n → ∀ (H : Heap) (locs : List Loc), sl_I Γ (sl_up g 8 (a8, .inl (Γ.2.1 0, 4, .inl (sl_nc X ss fd k)))) s H locs → ∀ (ls : Array Slot), lv_has ls 3 [(0, .ref a6), (1, .int ss), (2, .int (nI k))] → W p l e ({ frames := 1, cells := 0, slots := 0, locals := 21 } : Room) s m ([.ref a6, .int ss] : List Value).toArray below meth c H locs 0 0 (MQ below (sl_Qv Γ (fun (_ : Unit) => True) (fun _ => sl_up g 8 (a8, .inl (Γ.2.1 0, 4, .inl (sl_nc X ss fd 4))))) ([.ref a6, .int ss] : List Value).toArray s 0 0 (sl_A Γ)) (F0 m 2 ls []) := by
    intro n
    induction n with
    | zero =>
      intro k  h1 h2
      exact absurd h2 (by omega)
    | succ n ih_2 =>
      intro k  hk_2 hn_2  H locs hG ls hl
      refine lv_iload_n hx hb dX2_noteChange_2 rfl (lv_at hl 2 rfl) ?_
      refine lv_aload_n hx hb dX2_noteChange_3 rfl (lv_at hl 0 rfl) ?_
      refine sl_get (C := RX2) (T := TX2) (N := 3) hC hG 6 (sl_up_to (by decide) h6) rfl la_2 1 (by decide) lk_RX2_15 rfl rfl dX2_noteChange_4 ?_
      refine sl_alen (v := 4) hC hG 8 0 (sl_up_s _ _ _) rfl rfl dX2_noteChange_7 ?_
      refine lv_icmp_ge (tgt := 35) hx hb dX2_noteChange_8 (by decide) (fun c_8 => ?_) (fun c_8 => ?_)
      · have n_8 : 4 ≤ k := (nI_leI (a := 4) (b := k) (by omega) (by omega)).mp c_8
        have hk9 : k = 4 := by omega
        subst hk9
        exact sl_rv hC hr hG () trivial rfl (Nat.le_of_ble_eq_true rfl) (Nat.le_of_ble_eq_true rfl) dX2_noteChange_35
      · have n_8 : ¬ (4 ≤ k) := fun z => c_8 ((nI_leI (a := 4) (b := k) (by omega) (by omega)).mpr z)
        refine lv_iload_n hx hb dX2_noteChange_11 rfl (lv_at hl 2 rfl) ?_
        refine lv_iload_n hx hb dX2_noteChange_12 rfl (lv_at hl 1 rfl) ?_
        refine sl_calli (sl_runSN (As := [.int (nI k), .int ss]) (rest := []) hC hG (kX4_isIn l Γ (sl_up g 8 (a8, .inl (Γ.2.1 0, 4, .inl (sl_nc X ss fd k)))) (nI k) ss) mi_X4_isIn lk_RX2_48 rfl rfl ⟨Nat.le_of_ble_eq_true rfl, Nat.le_of_ble_eq_true rfl⟩ rfl hl.1 rfl (Nat.le_of_ble_eq_true rfl) dX2_noteChange_13 ⟨Nat.le_of_ble_eq_true rfl, Nat.le_of_ble_eq_true rfl⟩) hG (fun r_13 u_13 H locs hr_13 hG => ?_)
        subst hr_13
        refine lv_if_eq (tgt := 29) hx hb dX2_noteChange_16 (by decide) (fun c_16 => ?_) (fun c_16 => ?_)
        · have c_16 := sl_bF c_16
          refine lv_iinc (v := nI (k + 1)) (lv' := [(2, .int (nI (k + 1))), (0, .ref a6), (1, .int ss)]) hx hb dX2_noteChange_29 hl (k := 2) rfl (nI_1 k) (by decide) rfl (fun ls hl => ?_)
          refine lv_goto (tgt := 2) hx hb dX2_noteChange_32 (by decide) ?_
          rw [sl_nc_0 (X := X) (z := fd) c_16] at hG
          exact ih_2 (k + 1) (by omega) (by omega) _ _ hG _ (lv_sub hl [1, 2, 0] rfl)
        · have c_16 := sl_bT c_16
          refine lv_aload_n hx hb dX2_noteChange_19 rfl (lv_at hl 0 rfl) ?_
          refine sl_get (C := RX2) (T := TX2) (N := 3) hC hG 6 (sl_up_to (by decide) h6) rfl la_2 1 (by decide) lk_RX2_15 rfl rfl dX2_noteChange_20 ?_
          refine lv_iload_n hx hb dX2_noteChange_23 rfl (lv_at hl 2 rfl) ?_
          refine lv_aload_n hx hb dX2_noteChange_24 rfl (lv_at hl 0 rfl) ?_
          refine sl_get (C := RX2) (T := TX2) (N := 3) hC hG 6 (sl_up_to (by decide) h6) rfl la_2 2 (by decide) lk_RX2_19 rfl rfl dX2_noteChange_25 ?_
          refine sl_iastN hC hG 8 (sl_up_s _ _ _) (j := k) rfl (by omega) (by omega) dX2_noteChange_28 (fun H locs hG => ?_)
          have hG : sl_I Γ (sl_up (sl_up g 8 (a8, .inl (Γ.2.1 0, 4, .inl (sl_nc X ss fd k)))) 8 (a8, .inl (Γ.2.1 0, 4, .inl (upd (sl_nc X ss fd k) k fd)))) s H _ := hG
          refine lv_iinc (v := nI (k + 1)) (lv' := [(2, .int (nI (k + 1))), (0, .ref a6), (1, .int ss)]) hx hb dX2_noteChange_29 hl (k := 2) rfl (nI_1 k) (by decide) rfl (fun ls hl => ?_)
          refine lv_goto (tgt := 2) hx hb dX2_noteChange_32 (by decide) ?_
          rw [sl_up_up, sl_nc_1 c_16] at hG
          exact ih_2 (k + 1) (by omega) (by omega) _ _ hG _ (lv_sub hl [1, 2, 0] rfl)
  rw [← sl_up_same h8, sl_nc_z X ss fd] at hG
  exact loop_2 (4 + 1) 0 (by omega) (by omega) _ _ hG _ (lv_sub hl [1, 2, 0] rfl)
set_option maxHeartbeats 4000000 in
set_option maxRecDepth 100000 in
theorem kX2_hasEffect (l : Launch) (Γ : sl_G) (g : sl_W) (a6 a7 a8 : Nat) (F X : Nat → Int32) (d : Nat) (h6 : g 6 = some (a6, .inr (2, [.ref a7, .ref a8, .int (nI d)]))) (h7 : g 7 = some (a7, .inl (Γ.2.1 1, 120, .inl F))) (h8 : g 8 = some (a8, .inl (Γ.2.1 0, 4, .inl X))) (hd9 : d ≤ 120) (q : Nat) (hq9 : q < 120) : Met l yX2_hasEffect [Cond.code yX2_hasEffect cX2_hasEffect 2 (some .boolean)] ({ frames := 0, cells := 0, slots := 0, locals := 0 } : Room) (va_Pc [.ref a6, .int (nI q)] (sl_B Γ g)) (sl_Qi Γ (fun r (_ : Unit) => r = sl_bi (decide (q < d) && !decide (F q = 0))) (fun _ => g)) 0 0 (sl_A Γ) := by
  refine sl_ent (by decide) (Nat.le_of_ble_eq_true rfl) ?_
  intro p e s m below meth c ls hC hr hin hG hl
  have hx := hC.1
  have hb := hC.2.1
  have hl : lv_has ls 2 [(0, .ref a6), (1, .int (nI q))] := hl
  refine lv_iload_n hx hb dX2_hasEffect_0 rfl (lv_at hl 1 rfl) ?_
  refine lv_if_lt (tgt := 34) hx hb dX2_hasEffect_1 (by decide) (fun c_1 => ?_) (fun c_1 => ?_)
  · exact absurd ((nI_ltI (a := q) (b := 0) (by omega) (by omega)).mp c_1) (by omega)
  · have n_1 : ¬ (q < 0) := fun z => c_1 ((nI_ltI (a := q) (b := 0) (by omega) (by omega)).mpr z)
    refine lv_iload_n hx hb dX2_hasEffect_4 rfl (lv_at hl 1 rfl) ?_
    refine lv_aload_n hx hb dX2_hasEffect_5 rfl (lv_at hl 0 rfl) ?_
    refine sl_get (C := RX2) (T := TX2) (N := 3) hC hG 6 h6 rfl la_2 2 (by decide) lk_RX2_19 rfl rfl dX2_hasEffect_6 ?_
    refine lv_icmp_ge (tgt := 34) hx hb dX2_hasEffect_9 (by decide) (fun c_9 => ?_) (fun c_9 => ?_)
    · have n_9 : d ≤ q := (nI_leI (a := d) (b := q) (by omega) (by omega)).mp c_9
      refine lv_iconst (v := 0) hx hb dX2_hasEffect_34 (by decide) ?_
      exact sl_rz (v := 0) hC hr rfl hG () (by show _ = sl_bi (decide (q < d) && !decide (F q = 0)); rw [decide_eq_false (by omega : ¬ q < d)]; rfl) rfl (Nat.le_of_ble_eq_true rfl) (Nat.le_of_ble_eq_true rfl) dX2_hasEffect_35
    · have n_9 : ¬ (d ≤ q) := fun z => c_9 ((nI_leI (a := d) (b := q) (by omega) (by omega)).mpr z)
      refine lv_iload_n hx hb dX2_hasEffect_12 rfl (lv_at hl 1 rfl) ?_
      refine lv_aload_n hx hb dX2_hasEffect_13 rfl (lv_at hl 0 rfl) ?_
      refine sl_get (C := RX2) (T := TX2) (N := 3) hC hG 6 h6 rfl la_2 0 (by decide) lk_RX2_9 rfl rfl dX2_hasEffect_14 ?_
      refine sl_alen (v := 120) hC hG 7 1 h7 rfl rfl dX2_hasEffect_17 ?_
      refine lv_icmp_ge (tgt := 34) hx hb dX2_hasEffect_18 (by decide) (fun c_18 => ?_) (fun c_18 => ?_)
      · exact absurd ((nI_leI (a := 120) (b := q) (by omega) (by omega)).mp c_18) (by omega)
      · have n_18 : ¬ (120 ≤ q) := fun z => c_18 ((nI_leI (a := 120) (b := q) (by omega) (by omega)).mpr z)
        refine lv_aload_n hx hb dX2_hasEffect_21 rfl (lv_at hl 0 rfl) ?_
        refine sl_get (C := RX2) (T := TX2) (N := 3) hC hG 6 h6 rfl la_2 0 (by decide) lk_RX2_9 rfl rfl dX2_hasEffect_22 ?_
        refine lv_iload_n hx hb dX2_hasEffect_25 rfl (lv_at hl 1 rfl) ?_
        refine sl_zaldN hC hG 7 h7 (j := q) rfl (by omega) (by omega) dX2_hasEffect_26 ?_
        refine lv_if_eq (tgt := 34) hx hb dX2_hasEffect_27 (by decide) (fun c_27 => ?_) (fun c_27 => ?_)
        · refine lv_iconst (v := 0) hx hb dX2_hasEffect_34 (by decide) ?_
          exact sl_rz (v := 0) hC hr rfl hG () (by show _ = sl_bi (decide (q < d) && !decide (F q = 0)); rw [decide_eq_true (by omega : q < d), decide_eq_true c_27]; rfl) rfl (Nat.le_of_ble_eq_true rfl) (Nat.le_of_ble_eq_true rfl) dX2_hasEffect_35
        · refine lv_iconst (v := 1) hx hb dX2_hasEffect_30 (by decide) ?_
          refine lv_goto (tgt := 35) hx hb dX2_hasEffect_31 (by decide) ?_
          exact sl_rz (v := 1) hC hr rfl hG () (by show _ = sl_bi (decide (q < d) && !decide (F q = 0)); rw [decide_eq_true (by omega : q < d), decide_eq_false c_27]; rfl) rfl (Nat.le_of_ble_eq_true rfl) (Nat.le_of_ble_eq_true rfl) dX2_hasEffect_35
set_option maxHeartbeats 4000000 in
set_option maxRecDepth 100000 in
theorem kX2_addN (l : Launch) (Γ : sl_G) (g : sl_W) (a6 a7 a8 : Nat) (F X : Nat → Int32) (d : Nat) (h6 : g 6 = some (a6, .inr (2, [.ref a7, .ref a8, .int (nI d)]))) (h7 : g 7 = some (a7, .inl (Γ.2.1 1, 120, .inl F))) (h8 : g 8 = some (a8, .inl (Γ.2.1 0, 4, .inl X))) (hd9 : d < 120) : Met l yX2_add [Cond.code yX2_add cX2_add 3 none] ({ frames := 2, cells := 0, slots := 0, locals := 44 } : Room) (va_Pc [.ref a6, .null] (sl_B Γ g)) (sl_Qv Γ (fun (_ : Unit) => True) (fun _ => sl_up (sl_up (sl_up g 7 (a7, .inl (Γ.2.1 1, 120, .inl (upd F d (sl_bi false))))) 8 (a8, .inl (Γ.2.1 0, 4, .inl X))) 6 (a6, .inr (2, [.ref a7, .ref a8, .int (nI (d + 1))])))) 0 0 (sl_A Γ) := by
  refine sl_ent (by decide) (Nat.le_of_ble_eq_true rfl) ?_
  intro p e s m below meth c ls hC hr hin hG hl
  have hx := hC.1
  have hb := hC.2.1
  have hl : lv_has ls 3 [(0, .ref a6), (1, .null)] := hl
  refine lv_aload_n hx hb dX2_add_0 rfl (lv_at hl 0 rfl) ?_
  refine sl_get (C := RX2) (T := TX2) (N := 3) hC hG 6 h6 rfl la_2 2 (by decide) lk_RX2_19 rfl rfl dX2_add_1 ?_
  refine lv_if_lt (tgt := 19) hx hb dX2_add_4 (by decide) (fun c_4 => ?_) (fun c_4 => ?_)
  · exact absurd ((nI_ltI (a := d) (b := 0) (by omega) (by omega)).mp c_4) (by omega)
  · have n_4 : ¬ (d < 0) := fun z => c_4 ((nI_ltI (a := d) (b := 0) (by omega) (by omega)).mpr z)
    refine lv_aload_n hx hb dX2_add_7 rfl (lv_at hl 0 rfl) ?_
    refine sl_get (C := RX2) (T := TX2) (N := 3) hC hG 6 h6 rfl la_2 2 (by decide) lk_RX2_19 rfl rfl dX2_add_8 ?_
    refine lv_aload_n hx hb dX2_add_11 rfl (lv_at hl 0 rfl) ?_
    refine sl_get (C := RX2) (T := TX2) (N := 3) hC hG 6 h6 rfl la_2 0 (by decide) lk_RX2_9 rfl rfl dX2_add_12 ?_
    refine sl_alen (v := 120) hC hG 7 1 h7 rfl rfl dX2_add_15 ?_
    refine lv_icmp_lt (tgt := 20) hx hb dX2_add_16 (by decide) (fun c_16 => ?_) (fun c_16 => ?_)
    · have n_16 : d < 120 := (nI_ltI (a := d) (b := 120) (by omega) (by omega)).mp c_16
      refine lv_aload_nN hx hb dX2_add_20 rfl (lv_at hl 1 rfl) ?_
      refine lv_ifnullN (tgt := 43) hx hb dX2_add_21 (by decide) ?_
      refine lv_iconst (v := 0) hx hb dX2_add_43 (by decide) ?_
      refine lv_istore_n (lv' := [(2, .int 0), (0, .ref a6), (1, .null)]) hx hb dX2_add_44 rfl hl (by decide) rfl (fun ls hl => ?_)
      refine lv_aload_n hx hb dX2_add_45 rfl (lv_at hl 1 rfl) ?_
      refine sl_get (C := RX2) (T := TX2) (N := 3) hC hG 6 h6 rfl la_2 0 (by decide) lk_RX2_9 rfl rfl dX2_add_46 ?_
      refine lv_aload_n hx hb dX2_add_49 rfl (lv_at hl 1 rfl) ?_
      refine sl_get (C := RX2) (T := TX2) (N := 3) hC hG 6 h6 rfl la_2 2 (by decide) lk_RX2_19 rfl rfl dX2_add_50 ?_
      refine lv_iload_n hx hb dX2_add_53 rfl (lv_at hl 0 rfl) ?_
      refine sl_zastN hC hG 7 h7 (j := d) rfl rfl (by omega) (by omega) dX2_add_54 (fun H locs hG => ?_)
      have hG : sl_I Γ (sl_up g 7 (a7, .inl (Γ.2.1 1, 120, .inl (upd F d 0)))) s H _ := hG
      refine lv_iload_n hx hb dX2_add_55 rfl (lv_at hl 0 rfl) ?_
      refine lv_if_eq (tgt := 67) hx hb dX2_add_56 (by decide) (fun c_56 => ?_) (fun c_56 => ?_)
      · refine lv_aload_n hx hb dX2_add_67 rfl (lv_at hl 1 rfl) ?_
        refine lv_dup hx hb dX2_add_68 rfl ?_
        refine sl_get (C := RX2) (T := TX2) (N := 3) hC hG 6 (sl_up_to (by decide) h6) rfl la_2 2 (by decide) lk_RX2_19 rfl rfl dX2_add_69 ?_
        refine lv_iconst (v := 1) hx hb dX2_add_72 (by decide) ?_
        refine lv_iadd hx hb dX2_add_73 ?_
        refine sl_topi (nI_add d 1) ?_
        refine sl_put (C := RX2) (T := TX2) (N := 3) (ty := .int) (v := .int (nI (d + 1))) hC hG 6 (sl_up_to (by decide) h6) rfl la_2 tyX2 tyX2_ok nmX2 2 (by decide) lk_RX2_19 rfl rfl (by decide +kernel) rfl rfl (Nat.le_of_ble_eq_true rfl) dX2_add_74 (fun H locs hG => ?_)
        have hG : sl_I Γ (sl_up (sl_up g 7 (a7, .inl (Γ.2.1 1, 120, .inl (upd F d 0)))) 6 (a6, .inr (2, [.ref a7, .ref a8, .int (nI (d + 1))]))) s H _ := hG
        exact sl_rv hC hr hG () trivial (by show sl_up (sl_up _ 8 _) 6 _ = _; rw [sl_up_same (sl_up_to (by decide) h8)]; rfl) (Nat.le_of_ble_eq_true rfl) (Nat.le_of_ble_eq_true rfl) dX2_add_77
      · exact absurd c_56 (by decide)
    · exact absurd ((nI_ltI (a := d) (b := 120) (by omega) (by omega)).mpr (by omega)) c_16
set_option maxHeartbeats 4000000 in
set_option maxRecDepth 100000 in
theorem kX2_addE (l : Launch) (Γ : sl_G) (g : sl_W) (a6 a7 a8 : Nat) (F X : Nat → Int32) (d : Nat) (h6 : g 6 = some (a6, .inr (2, [.ref a7, .ref a8, .int (nI d)]))) (h7 : g 7 = some (a7, .inl (Γ.2.1 1, 120, .inl F))) (h8 : g 8 = some (a8, .inl (Γ.2.1 0, 4, .inl X))) (hd9 : d < 120) (ke a b : Nat) (x1 x2 x3 x4 x5 x6 x8 : Int32) (he : g ke = some (a, .inr (1, [.int x1, .int x2, .int x3, .int x4, .int x5, .int x6, .ref b, .int x8]))) (hke : 8 < ke) : Met l yX2_add [Cond.code yX2_add cX2_add 3 none] ({ frames := 2, cells := 0, slots := 0, locals := 44 } : Room) (va_Pc [.ref a6, .ref a] (sl_B Γ g)) (sl_Qv Γ (fun (_ : Unit) => True) (fun _ => sl_up (sl_up (sl_up g 7 (a7, .inl (Γ.2.1 1, 120, .inl (upd F d (sl_bi (sl_un X x5 x6 4)))))) 8 (a8, .inl (Γ.2.1 0, 4, .inl (if (sl_un X x5 x6 4) = true then sl_nc X x3 (nI d) 4 else X)))) 6 (a6, .inr (2, [.ref a7, .ref a8, .int (nI (d + 1))])))) 0 0 (sl_A Γ) := by
  refine sl_ent (by decide) (Nat.le_of_ble_eq_true rfl) ?_
  intro p e s m below meth c ls hC hr hin hG hl
  have hx := hC.1
  have hb := hC.2.1
  have hl : lv_has ls 3 [(0, .ref a6), (1, .ref a)] := hl
  refine lv_aload_n hx hb dX2_add_0 rfl (lv_at hl 0 rfl) ?_
  refine sl_get (C := RX2) (T := TX2) (N := 3) hC hG 6 h6 rfl la_2 2 (by decide) lk_RX2_19 rfl rfl dX2_add_1 ?_
  refine lv_if_lt (tgt := 19) hx hb dX2_add_4 (by decide) (fun c_4 => ?_) (fun c_4 => ?_)
  · exact absurd ((nI_ltI (a := d) (b := 0) (by omega) (by omega)).mp c_4) (by omega)
  · have n_4 : ¬ (d < 0) := fun z => c_4 ((nI_ltI (a := d) (b := 0) (by omega) (by omega)).mpr z)
    refine lv_aload_n hx hb dX2_add_7 rfl (lv_at hl 0 rfl) ?_
    refine sl_get (C := RX2) (T := TX2) (N := 3) hC hG 6 h6 rfl la_2 2 (by decide) lk_RX2_19 rfl rfl dX2_add_8 ?_
    refine lv_aload_n hx hb dX2_add_11 rfl (lv_at hl 0 rfl) ?_
    refine sl_get (C := RX2) (T := TX2) (N := 3) hC hG 6 h6 rfl la_2 0 (by decide) lk_RX2_9 rfl rfl dX2_add_12 ?_
    refine sl_alen (v := 120) hC hG 7 1 h7 rfl rfl dX2_add_15 ?_
    refine lv_icmp_lt (tgt := 20) hx hb dX2_add_16 (by decide) (fun c_16 => ?_) (fun c_16 => ?_)
    · have n_16 : d < 120 := (nI_ltI (a := d) (b := 120) (by omega) (by omega)).mp c_16
      refine lv_aload_n hx hb dX2_add_20 rfl (lv_at hl 1 rfl) ?_
      refine lv_ifnull hx hb dX2_add_21 ?_
      refine lv_aload_n hx hb dX2_add_24 rfl (lv_at hl 0 rfl) ?_
      refine lv_aload_n hx hb dX2_add_25 rfl (lv_at hl 1 rfl) ?_
      refine sl_getN (C := RX1) (T := TX1) (N := 8) hC hG ke he rfl la_1 4 (by decide) lk_RX2_29 rfl rfl dX2_add_26 ?_
      refine lv_aload_n hx hb dX2_add_29 rfl (lv_at hl 1 rfl) ?_
      refine sl_getN (C := RX1) (T := TX1) (N := 8) hC hG ke he rfl la_1 5 (by decide) lk_RX2_34 rfl rfl dX2_add_30 ?_
      refine sl_calli (sl_runV (As := [.int x5, .int x6]) (rest := []) hC hG (kX2_isUnchanged l Γ g a6 a7 a8 F X (nI d) h6 h7 h8 x5 x6) mi_X2_isUnchanged lk_RX2_37 6 h6 rfl rfl rfl ⟨Nat.le_of_ble_eq_true rfl, Nat.le_of_ble_eq_true rfl⟩ rfl hl.1 rfl (Nat.le_of_ble_eq_true rfl) dX2_add_33 ⟨Nat.le_of_ble_eq_true rfl, Nat.le_of_ble_eq_true rfl⟩) hG (fun r_33 u_33 H locs hr_33 hG => ?_)
      subst hr_33
      refine lv_if_eq (tgt := 43) hx hb dX2_add_36 (by decide) (fun c_36 => ?_) (fun c_36 => ?_)
      · have c_36 := sl_bF c_36
        refine lv_iconst (v := 0) hx hb dX2_add_43 (by decide) ?_
        refine lv_istore_n (lv' := [(2, .int 0), (0, .ref a6), (1, .ref a)]) hx hb dX2_add_44 rfl hl (by decide) rfl (fun ls hl => ?_)
        refine lv_aload_n hx hb dX2_add_45 rfl (lv_at hl 1 rfl) ?_
        refine sl_get (C := RX2) (T := TX2) (N := 3) hC hG 6 h6 rfl la_2 0 (by decide) lk_RX2_9 rfl rfl dX2_add_46 ?_
        refine lv_aload_n hx hb dX2_add_49 rfl (lv_at hl 1 rfl) ?_
        refine sl_get (C := RX2) (T := TX2) (N := 3) hC hG 6 h6 rfl la_2 2 (by decide) lk_RX2_19 rfl rfl dX2_add_50 ?_
        refine lv_iload_n hx hb dX2_add_53 rfl (lv_at hl 0 rfl) ?_
        refine sl_zastN hC hG 7 h7 (j := d) rfl rfl (by omega) (by omega) dX2_add_54 (fun H locs hG => ?_)
        have hG : sl_I Γ (sl_up g 7 (a7, .inl (Γ.2.1 1, 120, .inl (upd F d 0)))) s H _ := hG
        refine lv_iload_n hx hb dX2_add_55 rfl (lv_at hl 0 rfl) ?_
        refine lv_if_eq (tgt := 67) hx hb dX2_add_56 (by decide) (fun c_56 => ?_) (fun c_56 => ?_)
        · refine lv_aload_n hx hb dX2_add_67 rfl (lv_at hl 1 rfl) ?_
          refine lv_dup hx hb dX2_add_68 rfl ?_
          refine sl_get (C := RX2) (T := TX2) (N := 3) hC hG 6 (sl_up_to (by decide) h6) rfl la_2 2 (by decide) lk_RX2_19 rfl rfl dX2_add_69 ?_
          refine lv_iconst (v := 1) hx hb dX2_add_72 (by decide) ?_
          refine lv_iadd hx hb dX2_add_73 ?_
          refine sl_topi (nI_add d 1) ?_
          refine sl_put (C := RX2) (T := TX2) (N := 3) (ty := .int) (v := .int (nI (d + 1))) hC hG 6 (sl_up_to (by decide) h6) rfl la_2 tyX2 tyX2_ok nmX2 2 (by decide) lk_RX2_19 rfl rfl (by decide +kernel) rfl rfl (Nat.le_of_ble_eq_true rfl) dX2_add_74 (fun H locs hG => ?_)
          have hG : sl_I Γ (sl_up (sl_up g 7 (a7, .inl (Γ.2.1 1, 120, .inl (upd F d 0)))) 6 (a6, .inr (2, [.ref a7, .ref a8, .int (nI (d + 1))]))) s H _ := hG
          exact sl_rv hC hr hG () trivial (by show sl_up (sl_up (sl_up g 7 (a7, .inl (Γ.2.1 1, 120, .inl (upd F d (sl_bi (sl_un X x5 x6 4)))))) 8 (a8, .inl (Γ.2.1 0, 4, .inl (if (sl_un X x5 x6 4) = true then sl_nc X x3 (nI d) 4 else X)))) 6 _ = _; rw [c_36]; rw [if_neg (by decide), sl_up_same (sl_up_to (by decide) h8)]; rfl) (Nat.le_of_ble_eq_true rfl) (Nat.le_of_ble_eq_true rfl) dX2_add_77
        · exact absurd c_56 (by decide)
      · have c_36 := sl_bT c_36
        refine lv_iconst (v := 1) hx hb dX2_add_39 (by decide) ?_
        refine lv_goto (tgt := 44) hx hb dX2_add_40 (by decide) ?_
        refine lv_istore_n (lv' := [(2, .int 1), (0, .ref a6), (1, .ref a)]) hx hb dX2_add_44 rfl hl (by decide) rfl (fun ls hl => ?_)
        refine lv_aload_n hx hb dX2_add_45 rfl (lv_at hl 1 rfl) ?_
        refine sl_get (C := RX2) (T := TX2) (N := 3) hC hG 6 h6 rfl la_2 0 (by decide) lk_RX2_9 rfl rfl dX2_add_46 ?_
        refine lv_aload_n hx hb dX2_add_49 rfl (lv_at hl 1 rfl) ?_
        refine sl_get (C := RX2) (T := TX2) (N := 3) hC hG 6 h6 rfl la_2 2 (by decide) lk_RX2_19 rfl rfl dX2_add_50 ?_
        refine lv_iload_n hx hb dX2_add_53 rfl (lv_at hl 0 rfl) ?_
        refine sl_zastN hC hG 7 h7 (j := d) rfl rfl (by omega) (by omega) dX2_add_54 (fun H locs hG => ?_)
        have hG : sl_I Γ (sl_up g 7 (a7, .inl (Γ.2.1 1, 120, .inl (upd F d 1)))) s H _ := hG
        refine lv_iload_n hx hb dX2_add_55 rfl (lv_at hl 0 rfl) ?_
        refine lv_if_eq (tgt := 67) hx hb dX2_add_56 (by decide) (fun c_56 => ?_) (fun c_56 => ?_)
        · exact absurd c_56 (by decide)
        · refine lv_aload_n hx hb dX2_add_59 rfl (lv_at hl 1 rfl) ?_
          refine lv_aload_n hx hb dX2_add_60 rfl (lv_at hl 2 rfl) ?_
          refine sl_getN (C := RX1) (T := TX1) (N := 8) hC hG ke (sl_up_to (by omega) he) rfl la_1 2 (by decide) lk_RX2_41 rfl rfl dX2_add_61 ?_
          refine sl_callv (sl_runV (As := [.int x3]) (rest := []) hC hG (kX2_noteChange l Γ (sl_up g 7 (a7, .inl (Γ.2.1 1, 120, .inl (upd F d 1)))) a6 a7 a8 (upd F d 1) X (nI d) (sl_up_to (by decide) h6) (sl_up_s _ _ _) (sl_up_to (by decide) h8) x3) mi_X2_noteChange lk_RX2_44 6 (sl_up_to (by decide) h6) rfl rfl rfl ⟨Nat.le_of_ble_eq_true rfl, Nat.le_of_ble_eq_true rfl⟩ rfl hl.1 rfl (Nat.le_of_ble_eq_true rfl) dX2_add_64 ⟨Nat.le_of_ble_eq_true rfl, Nat.le_of_ble_eq_true rfl⟩) hG (fun u_64 H locs hr_64 hG => ?_)
          have hG : sl_I Γ (sl_up (sl_up g 7 (a7, .inl (Γ.2.1 1, 120, .inl (upd F d 1)))) 8 (a8, .inl (Γ.2.1 0, 4, .inl (sl_nc X x3 (nI d) 4)))) s H _ := hG
          refine lv_aload_n hx hb dX2_add_67 rfl (lv_at hl 1 rfl) ?_
          refine lv_dup hx hb dX2_add_68 rfl ?_
          refine sl_get (C := RX2) (T := TX2) (N := 3) hC hG 6 (sl_up_to (by decide) (sl_up_to (by decide) h6)) rfl la_2 2 (by decide) lk_RX2_19 rfl rfl dX2_add_69 ?_
          refine lv_iconst (v := 1) hx hb dX2_add_72 (by decide) ?_
          refine lv_iadd hx hb dX2_add_73 ?_
          refine sl_topi (nI_add d 1) ?_
          refine sl_put (C := RX2) (T := TX2) (N := 3) (ty := .int) (v := .int (nI (d + 1))) hC hG 6 (sl_up_to (by decide) (sl_up_to (by decide) h6)) rfl la_2 tyX2 tyX2_ok nmX2 2 (by decide) lk_RX2_19 rfl rfl (by decide +kernel) rfl rfl (Nat.le_of_ble_eq_true rfl) dX2_add_74 (fun H locs hG => ?_)
          have hG : sl_I Γ (sl_up (sl_up (sl_up g 7 (a7, .inl (Γ.2.1 1, 120, .inl (upd F d 1)))) 8 (a8, .inl (Γ.2.1 0, 4, .inl (sl_nc X x3 (nI d) 4)))) 6 (a6, .inr (2, [.ref a7, .ref a8, .int (nI (d + 1))]))) s H _ := hG
          exact sl_rv hC hr hG () trivial (by show sl_up (sl_up (sl_up g 7 (a7, .inl (Γ.2.1 1, 120, .inl (upd F d (sl_bi (sl_un X x5 x6 4)))))) 8 (a8, .inl (Γ.2.1 0, 4, .inl (if (sl_un X x5 x6 4) = true then sl_nc X x3 (nI d) 4 else X)))) 6 _ = _; rw [c_36]; rfl) (Nat.le_of_ble_eq_true rfl) (Nat.le_of_ble_eq_true rfl) dX2_add_77
    · exact absurd ((nI_ltI (a := d) (b := 120) (by omega) (by omega)).mpr (by omega)) c_16

