/-! p21: the start: the classes' numbers, the words, the first objects -/
theorem sl_ar_int {s : State} {args : Array Value} (h : (Cond.arrayClass .int).before args s = true) : ∃ cA : ClassId, ArrOfT s cA .int ∧ va_RA s cA .int := by
  obtain ⟨cA, kA, comp, h1, h2, h3⟩ := Cond.arrayClass_spec h
  exact ⟨cA, fun n z => ⟨fun k h => (by cases h), kA, h2, comp, h3⟩, h1⟩
theorem sl_ar_boolean {s : State} {args : Array Value} (h : (Cond.arrayClass .boolean).before args s = true) : ∃ cA : ClassId, ArrOfT s cA .boolean ∧ va_RA s cA .boolean := by
  obtain ⟨cA, kA, comp, h1, h2, h3⟩ := Cond.arrayClass_spec h
  exact ⟨cA, fun n z => ⟨fun k h => (by cases h), kA, h2, comp, h3⟩, h1⟩
theorem sl_ar_q {s : State} {args : Array Value} (h : (Cond.arrayOver (.object "SharedLog$Entry")).before args s = true) : ∃ cA : ClassId, ArrOfT s cA (.object "SharedLog$Entry") ∧ va_RA s cA (.object "SharedLog$Entry") := by
  obtain ⟨comp, c, k, h1, h2, h3, h4, h5⟩ := Cond.arrayOver_spec h
  exact ⟨c, fun n z => ⟨fun k h => (by cases h), k, h3, comp, h4⟩, k, comp, h3, h4, h1, h5⟩
theorem sl_str {s : State} {args : Array Value} {own tx : String} {k : Nat} (h1 : (Cond.stringRef own k tx).before args s = true) (h2 : (Cond.exactly (.string own k) "java/lang/String").before args s = true) : ∃ a : Nat, vk_R own k tx a s := by
  obtain ⟨a, c, cell, kk, h3, -⟩ := Cond.exactly_spec h2
  exact ⟨a, vk_R.of h1 h3⟩
theorem sl_Gam {s : State} {args : Array Value} (hts : ∀ w ∈ lw_tbl, w.before args s = true) (hgv : (Jvm.Cond.and given_1 narrow_1).before args s = true) : ∃ Γ : sl_G, Γ.2.2 = s.heap.size ∧ sl_V Γ s ∧ sl_Z Γ s s.heap := by
  have hs := flat_of_before _ hgv
  obtain ⟨c0, i0, k0⟩ := u_known (C := RX0) (T := TX0) (N := 1) (n := 1) hts (fun w hw => (la_0 w hw).1) (hts _ in_RX0)
  obtain ⟨c1, i1, k1⟩ := u_known (C := RX1) (T := TX1) (N := 8) (n := 8) hts (fun w hw => (la_1 w hw).1) (hts _ in_RX1)
  obtain ⟨c2, i2, k2⟩ := u_known (C := RX2) (T := TX2) (N := 3) (n := 3) hts (fun w hw => (la_2 w hw).1) (hts _ in_RX2)
  obtain ⟨c3, i3, k3⟩ := u_known (C := RX3) (T := TX3) (N := 1) (n := 1) hts (fun w hw => (la_3 w hw).1) (hts _ in_RX3)
  obtain ⟨c4, i4, k4⟩ := u_known (C := RX4) (T := TX4) (N := 8) (n := 8) hts (fun w hw => (la_4 w hw).1) (hts _ in_RX4)
  obtain ⟨a0, r0⟩ := sl_ar_int (hts _ ac_int)
  obtain ⟨a1, r1⟩ := sl_ar_boolean (hts _ ac_boolean)
  obtain ⟨a2, r2⟩ := sl_ar_q (hts (Cond.arrayOver (.object "SharedLog$Entry")) (by decide +kernel))
  refine ⟨((fun k => if k = 0 then c0 else if k = 1 then c1 else if k = 2 then c2 else if k = 3 then c3 else c4, fun k => if k = 0 then i0 else if k = 1 then i1 else if k = 2 then i2 else if k = 3 then i3 else i4), fun k => if k = 0 then a0 else if k = 1 then a1 else a2, s.heap.size), rfl, ⟨⟨?_, ?_⟩, fun w hw ho => sl_ok_of ho (hts w hw), ?_, va_AO.of (hts (Cond.arrayOver (.object "SharedLog$Entry")) (by decide +kernel)), ?_⟩, ?_, ?_⟩
  · intro k q hq
    match k, hq with
    | 0, hq => cases hq; exact k0
    | 1, hq => cases hq; exact k1
    | 2, hq => cases hq; exact k2
    | 3, hq => cases hq; exact k3
    | 4, hq => cases hq; exact k4
    | k + 5, hq => simp [vwCl] at hq
  · intro k q hq
    match k, hq with
    | 0, hq => cases hq; exact r0
    | 1, hq => cases hq; exact r1
    | 2, hq => cases hq; exact r2
    | k + 3, hq => simp [sl_tys] at hq
  · exact List.forall_mem_cons.mpr ⟨sl_str (hts _ (by decide +kernel)) (hs _ (by decide +kernel)), List.forall_mem_cons.mpr ⟨sl_str (hts _ (by decide +kernel)) (hs _ (by decide +kernel)), List.forall_mem_cons.mpr ⟨sl_str (hts _ (by decide +kernel)) (hs _ (by decide +kernel)), List.forall_mem_cons.mpr ⟨sl_str (hts _ (by decide +kernel)) (hs _ (by decide +kernel)), List.forall_mem_cons.mpr ⟨sl_str (hts _ (by decide +kernel)) (hs _ (by decide +kernel)), List.forall_mem_cons.mpr ⟨sl_str (hts _ (by decide +kernel)) (hs _ (by decide +kernel)), List.forall_mem_cons.mpr ⟨sl_str (hts _ (by decide +kernel)) (hs _ (by decide +kernel)), List.forall_mem_cons.mpr ⟨sl_str (hts _ (by decide +kernel)) (hs _ (by decide +kernel)), List.forall_mem_cons.mpr ⟨sl_str (hts _ (by decide +kernel)) (hs _ (by decide +kernel)), List.forall_mem_cons.mpr ⟨sl_str (hts _ (by decide +kernel)) (hs _ (by decide +kernel)), List.forall_mem_cons.mpr ⟨sl_str (hts _ (by decide +kernel)) (hs _ (by decide +kernel)), List.forall_mem_cons.mpr ⟨sl_str (hts _ (by decide +kernel)) (hs _ (by decide +kernel)), fun _ h => absurd h List.not_mem_nil⟩⟩⟩⟩⟩⟩⟩⟩⟩⟩⟩⟩
  · exact fun _ h => absurd h List.not_mem_nil
  · exact vx_Zqof (hts _ (by decide +kernel)) (hts _ (by decide +kernel)) (hs _ (by decide +kernel)) (fun a ha => Nat.not_le.mpr ha)
  · exact vx_Zqof (hts _ (by decide +kernel)) (hts _ (by decide +kernel)) (hs _ (by decide +kernel)) (fun a ha => Nat.not_le.mpr ha)
theorem lp_wf_0 : sl_wf 0 0 (fun _ => -2) sl_E0 := ⟨by omega, by omega, fun i _ => Or.inr (Or.inl rfl), fun t h => absurd h (Nat.not_lt_zero t), fun i _ => rfl⟩
set_option maxHeartbeats 4000000 in
set_option maxRecDepth 100000 in
theorem lp_startw {p : Program} {l : Launch} {e : Env} {s : State} {m : MethodId} {below : List Frame} {meth : Method} {c : Code} {Q : State → Prop} {Γ : sl_G} {bb L : Nat} {xs : Nat → Int32} {ls : Array Slot} (hlt : l.stackTraces = false) (hC : sl_C Γ p s m meth c cL_law 17 RL) (hz : ¬ sl_A Γ bb) (hX : va_X bb L xs s s.heap) (hbl : bb < s.heap.size) (hL : L ≤ 260)
    (kend : ∀ (g : sl_W) (H : Heap) (locs : List Loc) (ls : Array Slot) (k1 n1 : Nat), sl_I Γ g s H locs → k1 ≤ 600104 → n1 ≤ 7301314 → W p l e room_1 s m #[.ref bb] below meth c H locs k1 n1 Q (F0 m 656 ls [])) (hl : lv_has ls 17 [(0, .ref bb)]) : W p l e room_1 s m #[.ref bb] below meth c s.heap [] 0 0 Q (F0 m 0 ls []) := by
  have hx := hC.1
  have hb := hC.2.1
  have hG : sl_I Γ (fun _ => none : sl_W) s s.heap [] := ⟨⟨fun k q h => (by cases h), fun i j p q h => (by cases h), fun k q h => (by cases h)⟩, va_S.rf⟩
  refine sl_new (ci := 4) hC hG 0 rfl (C := RX4) (T := TX4) (N := 8) (fs := [.null, .null, .null, .null, .int 0, .int 0, .int 0, .int 0]) rfl la_4 tyX4 tyX4_ok (sl_f4) lk_RL_9 in_RX4 ini_RX4 (Nat.le_of_ble_eq_true rfl) (Nat.le_of_ble_eq_true rfl) dL_law_0 (fun q_0 H hG => ?_)
  have hG : sl_I Γ (sl_up (fun _ => none : sl_W) 0 (q_0, .inr (4, [.null, .null, .null, .null, .int 0, .int 0, .int 0, .int 0]))) s H _ := hG
  refine lv_dup hx hb dL_law_3 rfl ?_
  refine sl_callv (sl_runI (As := []) (rest := [.ref q_0]) hC hG (kX4_init l Γ (sl_up (fun _ => none : sl_W) 0 (q_0, .inr (4, [.null, .null, .null, .null, .int 0, .int 0, .int 0, .int 0]))) q_0 (sl_up_s _ _ _) (fun k h1 h2 => sl_up_to h1 rfl)) mi_X4_init lk_RL_31 rfl rfl ⟨Nat.le_of_ble_eq_true rfl, Nat.le_of_ble_eq_true rfl⟩ rfl hl.1 rfl (Nat.le_of_ble_eq_true rfl) dL_law_4 ⟨Nat.le_of_ble_eq_true rfl, Nat.le_of_ble_eq_true rfl⟩) hG (fun u_4 H locs hr_4 hG => ?_)
  obtain ⟨α, w1⟩ := u_4
  obtain ⟨hK, hfr4, ha4⟩ := hr_4
  have ha4 : α 0 = q_0 := ha4
  rw [← ha4]
  have hG : sl_I Γ w1 s H locs := hG
  refine lv_astore_n (lv' := [(1, .ref (α 0)), (0, .ref bb)]) hx hb dL_law_7 rfl hl (by decide) rfl (fun ls hl => ?_)
  refine lv_bipush (v := 60) hx hb dL_law_8 (by decide) ?_
  refine sl_newa (atype := .int) (ty := .int) (a0 := (60, .inl (fun _ => 0))) hC hG 41 0 ((hfr4 41 (by omega) (by omega)).trans (sl_up_to (by decide) rfl)) ac_int rfl rfl (fun _ => rfl) (by decide) (by decide) (Nat.le_of_ble_eq_true rfl) (Nat.le_of_ble_eq_true rfl) (Nat.le_of_ble_eq_true rfl) dL_law_10 (fun q_10 H hG => ?_)
  have hG : sl_I Γ (sl_up w1 41 (q_10, .inl (Γ.2.1 0, 60, .inl (fun _ => 0)))) s H _ := hG
  refine lv_astore_n (lv' := [(2, .ref q_10), (1, .ref (α 0)), (0, .ref bb)]) hx hb dL_law_12 rfl hl (by decide) rfl (fun ls hl => ?_)
  refine lv_bipush (v := 60) hx hb dL_law_13 (by decide) ?_
  refine sl_newa (atype := .int) (ty := .int) (a0 := (60, .inl (fun _ => 0))) hC hG 42 0 (sl_up_to (by decide) ((hfr4 42 (by omega) (by omega)).trans (sl_up_to (by decide) rfl))) ac_int rfl rfl (fun _ => rfl) (by decide) (by decide) (Nat.le_of_ble_eq_true rfl) (Nat.le_of_ble_eq_true rfl) (Nat.le_of_ble_eq_true rfl) dL_law_15 (fun q_15 H hG => ?_)
  have hG : sl_I Γ (sl_up (sl_up w1 41 (q_10, .inl (Γ.2.1 0, 60, .inl (fun _ => 0)))) 42 (q_15, .inl (Γ.2.1 0, 60, .inl (fun _ => 0)))) s H _ := hG
  refine lv_astore_n (lv' := [(3, .ref q_15), (2, .ref q_10), (1, .ref (α 0)), (0, .ref bb)]) hx hb dL_law_17 rfl hl (by decide) rfl (fun ls hl => ?_)
  refine lv_bipush (v := 60) hx hb dL_law_18 (by decide) ?_
  refine sl_newa (atype := .int) (ty := .int) (a0 := (60, .inl (fun _ => 0))) hC hG 43 0 (sl_up_to (by decide) (sl_up_to (by decide) ((hfr4 43 (by omega) (by omega)).trans (sl_up_to (by decide) rfl)))) ac_int rfl rfl (fun _ => rfl) (by decide) (by decide) (Nat.le_of_ble_eq_true rfl) (Nat.le_of_ble_eq_true rfl) (Nat.le_of_ble_eq_true rfl) dL_law_20 (fun q_20 H hG => ?_)
  have hG : sl_I Γ (sl_up (sl_up (sl_up w1 41 (q_10, .inl (Γ.2.1 0, 60, .inl (fun _ => 0)))) 42 (q_15, .inl (Γ.2.1 0, 60, .inl (fun _ => 0)))) 43 (q_20, .inl (Γ.2.1 0, 60, .inl (fun _ => 0)))) s H _ := hG
  refine lv_astore (lv' := [(4, .ref q_20), (3, .ref q_15), (2, .ref q_10), (1, .ref (α 0)), (0, .ref bb)]) hx hb dL_law_22 hl (by decide) rfl (fun ls hl => ?_)
  refine lv_bipush (v := 60) hx hb dL_law_24 (by decide) ?_
  refine sl_newa (atype := .int) (ty := .int) (a0 := (60, .inl (fun _ => 0))) hC hG 44 0 (sl_up_to (by decide) (sl_up_to (by decide) (sl_up_to (by decide) ((hfr4 44 (by omega) (by omega)).trans (sl_up_to (by decide) rfl))))) ac_int rfl rfl (fun _ => rfl) (by decide) (by decide) (Nat.le_of_ble_eq_true rfl) (Nat.le_of_ble_eq_true rfl) (Nat.le_of_ble_eq_true rfl) dL_law_26 (fun q_26 H hG => ?_)
  have hG : sl_I Γ (sl_up (sl_up (sl_up (sl_up w1 41 (q_10, .inl (Γ.2.1 0, 60, .inl (fun _ => 0)))) 42 (q_15, .inl (Γ.2.1 0, 60, .inl (fun _ => 0)))) 43 (q_20, .inl (Γ.2.1 0, 60, .inl (fun _ => 0)))) 44 (q_26, .inl (Γ.2.1 0, 60, .inl (fun _ => 0)))) s H _ := hG
  refine lv_astore (lv' := [(5, .ref q_26), (4, .ref q_20), (3, .ref q_15), (2, .ref q_10), (1, .ref (α 0)), (0, .ref bb)]) hx hb dL_law_28 hl (by decide) rfl (fun ls hl => ?_)
  refine lv_bipush (v := 60) hx hb dL_law_30 (by decide) ?_
  refine sl_newa (atype := .int) (ty := .int) (a0 := (60, .inl (fun _ => 0))) hC hG 45 0 (sl_up_to (by decide) (sl_up_to (by decide) (sl_up_to (by decide) (sl_up_to (by decide) ((hfr4 45 (by omega) (by omega)).trans (sl_up_to (by decide) rfl)))))) ac_int rfl rfl (fun _ => rfl) (by decide) (by decide) (Nat.le_of_ble_eq_true rfl) (Nat.le_of_ble_eq_true rfl) (Nat.le_of_ble_eq_true rfl) dL_law_32 (fun q_32 H hG => ?_)
  have hG : sl_I Γ (sl_up (sl_up (sl_up (sl_up (sl_up w1 41 (q_10, .inl (Γ.2.1 0, 60, .inl (fun _ => 0)))) 42 (q_15, .inl (Γ.2.1 0, 60, .inl (fun _ => 0)))) 43 (q_20, .inl (Γ.2.1 0, 60, .inl (fun _ => 0)))) 44 (q_26, .inl (Γ.2.1 0, 60, .inl (fun _ => 0)))) 45 (q_32, .inl (Γ.2.1 0, 60, .inl (fun _ => 0)))) s H _ := hG
  refine lv_astore (lv' := [(6, .ref q_32), (5, .ref q_26), (4, .ref q_20), (3, .ref q_15), (2, .ref q_10), (1, .ref (α 0)), (0, .ref bb)]) hx hb dL_law_34 hl (by decide) rfl (fun ls hl => ?_)
  refine lv_bipush (v := 60) hx hb dL_law_36 (by decide) ?_
  refine sl_newa (atype := .int) (ty := .int) (a0 := (60, .inl (fun _ => 0))) hC hG 46 0 (sl_up_to (by decide) (sl_up_to (by decide) (sl_up_to (by decide) (sl_up_to (by decide) (sl_up_to (by decide) ((hfr4 46 (by omega) (by omega)).trans (sl_up_to (by decide) rfl))))))) ac_int rfl rfl (fun _ => rfl) (by decide) (by decide) (Nat.le_of_ble_eq_true rfl) (Nat.le_of_ble_eq_true rfl) (Nat.le_of_ble_eq_true rfl) dL_law_38 (fun q_38 H hG => ?_)
  have hG : sl_I Γ (sl_up (sl_up (sl_up (sl_up (sl_up (sl_up w1 41 (q_10, .inl (Γ.2.1 0, 60, .inl (fun _ => 0)))) 42 (q_15, .inl (Γ.2.1 0, 60, .inl (fun _ => 0)))) 43 (q_20, .inl (Γ.2.1 0, 60, .inl (fun _ => 0)))) 44 (q_26, .inl (Γ.2.1 0, 60, .inl (fun _ => 0)))) 45 (q_32, .inl (Γ.2.1 0, 60, .inl (fun _ => 0)))) 46 (q_38, .inl (Γ.2.1 0, 60, .inl (fun _ => 0)))) s H _ := hG
  refine lv_astore (lv' := [(7, .ref q_38), (6, .ref q_32), (5, .ref q_26), (4, .ref q_20), (3, .ref q_15), (2, .ref q_10), (1, .ref (α 0)), (0, .ref bb)]) hx hb dL_law_40 hl (by decide) rfl (fun ls hl => ?_)
  refine lv_iconst (v := 0) hx hb dL_law_42 (by decide) ?_
  refine lv_istore (lv' := [(8, .int 0), (7, .ref q_38), (6, .ref q_32), (5, .ref q_26), (4, .ref q_20), (3, .ref q_15), (2, .ref q_10), (1, .ref (α 0)), (0, .ref bb)]) hx hb dL_law_43 hl (by decide) rfl (fun ls hl => ?_)
  refine lv_iconst (v := 0) hx hb dL_law_45 (by decide) ?_
  refine lv_istore (lv' := [(9, .int 0), (8, .int 0), (7, .ref q_38), (6, .ref q_32), (5, .ref q_26), (4, .ref q_20), (3, .ref q_15), (2, .ref q_10), (1, .ref (α 0)), (0, .ref bb)]) hx hb dL_law_46 hl (by decide) rfl (fun ls hl => ?_)
  have hI : lp_LT Γ α (sl_al [q_10, q_15, q_20, q_26, q_32, q_38]) 0 0 (sl_up (sl_up (sl_up (sl_up (sl_up (sl_up w1 41 (q_10, .inl (Γ.2.1 0, 60, .inl (fun _ => 0)))) 42 (q_15, .inl (Γ.2.1 0, 60, .inl (fun _ => 0)))) 43 (q_20, .inl (Γ.2.1 0, 60, .inl (fun _ => 0)))) 44 (q_26, .inl (Γ.2.1 0, 60, .inl (fun _ => 0)))) 45 (q_32, .inl (Γ.2.1 0, 60, .inl (fun _ => 0)))) 46 (q_38, .inl (Γ.2.1 0, 60, .inl (fun _ => 0)))) := ⟨sl_b0, 0, 0, false, fun _ => -1, fun _ => -2, sl_E0, fun _ => 0, fun _ => 0, fun _ => 0, fun _ => 0, fun _ => 0, fun _ => 0, hK.cg (fun k hk => (sl_up_n _ _ (by omega)).trans ((sl_up_n _ _ (by omega)).trans ((sl_up_n _ _ (by omega)).trans ((sl_up_n _ _ (by omega)).trans ((sl_up_n _ _ (by omega)).trans (sl_up_n _ _ (by omega))))))), sl_J_0, lp_wf_0, by omega, by omega, (sl_up_to (by decide) (sl_up_to (by decide) (sl_up_to (by decide) (sl_up_to (by decide) (sl_up_to (by decide) (sl_up_s _ _ _)))))), (sl_up_to (by decide) (sl_up_to (by decide) (sl_up_to (by decide) (sl_up_to (by decide) (sl_up_s _ _ _))))), (sl_up_to (by decide) (sl_up_to (by decide) (sl_up_to (by decide) (sl_up_s _ _ _)))), (sl_up_to (by decide) (sl_up_to (by decide) (sl_up_s _ _ _))), (sl_up_to (by decide) (sl_up_s _ _ _)), (sl_up_s _ _ _), fun t h => absurd h (Nat.not_lt_zero t)⟩
  exact lp_loop (ρ := (sl_al [q_10, q_15, q_20, q_26, q_32, q_38])) hlt hC hz hX hbl hL kend 81 0 0 0 _ H _ _ _ _ (by omega) (by omega) (by omega) (Nat.le_of_ble_eq_true rfl) (Nat.le_of_ble_eq_true rfl) hI hG (lv_sub hl [0, 1, 2, 3, 4, 5, 6, 7, 8, 9] rfl)
