/-! the law's calls of the class, with what they catch -/
theorem sl_Cls.cg {Γ : sl_G} {α : Nat → Nat} {β : Nat → Nat × Nat × Nat} {n : Nat} {ep : Int32} {tl : Nat} {lo : Bool} {T C : Nat → Int32} {E : Nat → sl_Ent} {g g' : sl_W} (h : sl_Cls Γ α β n ep tl lo T C E g) (hg : ∀ k, (k < 9 ∨ 100 ≤ k) → g' k = g k) : sl_Cls Γ α β n ep tl lo T C E g' := by
  obtain ⟨h0, h1, h2, h3, h4, h5, ⟨F, X, fd, h6, h7, h8⟩, hE, hN, hn, ht⟩ := h
  exact ⟨(hg 0 (by omega)).trans h0, (hg 1 (by omega)).trans h1, (hg 2 (by omega)).trans h2, (hg 3 (by omega)).trans h3, (hg 4 (by omega)).trans h4, (hg 5 (by omega)).trans h5, ⟨F, X, fd, (hg 6 (by omega)).trans h6, (hg 7 (by omega)).trans h7, (hg 8 (by omega)).trans h8⟩, hE.mono (fun k hk => hg k (Or.inr hk)), fun k hk => (hg k (by omega)).trans (hN k hk), hn, ht⟩
theorem sl_Mdl.cg {Γ : sl_G} {μ : Nat → Nat} {n : Nat} {ep : Int32} {tl : Nat} {lo : Bool} {T C : Nat → Int32} {E : Nat → sl_Ent} {th : Int32} {g : sl_W} (h : sl_Mdl Γ μ n ep tl lo T C E th g) {g' : sl_W} (hg : ∀ k, 20 ≤ k → k < 32 → g' k = g k) : sl_Mdl Γ μ n ep tl lo T C E th g' := by
  obtain ⟨h20, h21, h22, h23, h24, h25, h26, h27, h28, h29, h30, ⟨F, h31⟩, hw⟩ := h
  exact ⟨(hg 20 (by omega) (by omega)).trans h20, (hg 21 (by omega) (by omega)).trans h21, (hg 22 (by omega) (by omega)).trans h22, (hg 23 (by omega) (by omega)).trans h23, (hg 24 (by omega) (by omega)).trans h24, (hg 25 (by omega) (by omega)).trans h25, (hg 26 (by omega) (by omega)).trans h26, (hg 27 (by omega) (by omega)).trans h27, (hg 28 (by omega) (by omega)).trans h28, (hg 29 (by omega) (by omega)).trans h29, (hg 30 (by omega) (by omega)).trans h30, ⟨F, (hg 31 (by omega) (by omega)).trans h31⟩, hw⟩
/-- how a call of the class answers the law: 0 and a number, or what it threw -/
def sl_Wr (Γ : sl_G) (g : sl_W) (ao : Nat) (P : Int32 → sl_W → Prop) (A1 A2 : Prop) (r : Int32) (w : sl_W) : Prop :=
  (r = 0 ∧ ∃ (v : Int32) (f : Nat → Int64) (u : sl_W), P v u ∧ sl_fr g u ∧ w = sl_up u 40 (ao, .inl (Γ.2.1 3, 1, .inr (.inl f))) ∧ f 0 = v.toInt64) ∨ (r = 1 ∧ A1 ∧ w = g) ∨ (r = 2 ∧ A2 ∧ w = g)
theorem sl_updL0 (f : Nat → Int64) (v : Int64) : vp_updL f 0 v 0 = v := if_pos rfl
theorem sl_r0 {r : Int32} (h : r = 0) : (0 : Int64) = r.toInt64 := by rw [h]; rfl
theorem sl_r1 {r : Int32} {b : Bool} (h : r = sl_bi b) (h2 : ¬ r = 0) : (1 : Int64) = r.toInt64 := by
  cases b
  · exact absurd h h2
  · rw [h]; rfl
set_option maxHeartbeats 4000000 in
set_option maxRecDepth 100000 in
theorem kL_take (l : Launch) (hlt : l.stackTraces = false) (Γ : sl_G) (g : sl_W) (α : Nat → Nat) (β : Nat → Nat × Nat × Nat) (n : Nat) (ep : Int32) (tl : Nat) (lo : Bool) (T C : Nat → Int32) (E : Nat → sl_Ent) (hK : sl_Cls Γ α β n ep tl lo T C E g) (ao : Nat) (fo : Nat → Int64) (h40 : g 40 = some (ao, .inl (Γ.2.1 3, 1, .inr (.inl fo)))) (ss am : Int32) : Met l yL_take [Cond.codeWith yL_take cL_take 5 (some .int) [(0, 10, 13, 13), (0, 10, 17, 15)]] ({ frames := 8, cells := 3, slots := 25, locals := 148 } : Room) (va_Pc [.ref (α 0), .int ss, .int am, .ref ao] (sl_B Γ g)) (sl_Qi Γ (fun r w => sl_Wr Γ g ao (fun v w => ∃ β9, sl_k2 ss am = true ∧ sl_ch lo tl n = false ∧ v = nI n ∧ sl_Cls Γ α β9 (n + 1) ep (tl + 1) lo (sl_tp T ss (nI tl) 4) C (sl_eu E n (nI tl, ep, ss, am, 0, 0, sl_tc T ss 4, 0)) w) (sl_k2 ss am = false) (sl_k2 ss am = true ∧ sl_ch lo tl n = true) r w) (fun w => w)) 3 25 (sl_A Γ) := by
  refine sl_entw (by decide) (Nat.le_of_ble_eq_true rfl) ?_
  intro p e s m below meth c ls hC hr ht hG hl
  have hx := hC.1
  have hb := hC.2.1
  have hl : lv_has ls 5 [(0, .ref (α 0)), (1, .int ss), (2, .int am), (3, .ref ao)] := hl
  have hS := hK.ro
  obtain ⟨h0, h1, h2, h3, h4, h5, ⟨F, X, fd, h6, h7, h8⟩, hE, hN, hn9, ht9⟩ := id hK
  refine lv_aload_n hx hb dL_take_0 rfl (lv_at hl 3 rfl) ?_
  refine lv_iconst (v := 0) hx hb dL_take_1 (by decide) ?_
  refine lv_aload_n hx hb dL_take_2 rfl (lv_at hl 0 rfl) ?_
  refine lv_iload_n hx hb dL_take_3 rfl (lv_at hl 1 rfl) ?_
  refine lv_iload_n hx hb dL_take_4 rfl (lv_at hl 2 rfl) ?_
  refine sl_callxi (sl_runX (As := [.int ss, .int am]) (rest := [.int 0, .ref ao]) hC hG (kX4_take l hlt Γ g α β n ep tl lo T C E hK ss am) mi_X4_take lk_RL_7 0 h0 rfl rfl rfl ⟨Nat.le_of_ble_eq_true rfl, Nat.le_of_ble_eq_true rfl⟩ rfl hl.1 rfl (Nat.le_of_ble_eq_true rfl) dL_take_5 ⟨Nat.le_of_ble_eq_true rfl, Nat.le_of_ble_eq_true rfl⟩) hG (fun E ce q9 H locs hxE hG hce hcv hcl => ?_) (fun r_5 u_5 H locs hr_5 hG => ?_)
  · rcases hxE with ⟨rfl, hx9⟩ | ⟨rfl, hx9⟩
    · refine sl_catch1 hC ht (by decide) (by decide) lk_RL_13 sl_cw0 hce hcv hcl ?_
      refine W.eq (g2 := F0 m 13 ls [.ref q9]) rfl ?_
      refine lv_astore (lv' := [(4, .ref q9), (0, .ref (α 0)), (1, .int ss), (2, .int am), (3, .ref ao)]) hx hb dL_take_13 hl (by decide) rfl (fun ls hl => ?_)
      refine lv_iconst (v := 1) hx hb dL_take_15 (by decide) ?_
      exact sl_ri (v := 1) hC hr hG g (Or.inr (Or.inl ⟨rfl, hx9, rfl⟩)) rfl (Nat.le_of_ble_eq_true rfl) (Nat.le_of_ble_eq_true rfl) dL_take_16
    · refine sl_catch2 hC ht (by decide) lk_RL_13 (by decide +kernel) (by decide) (by decide) lk_RL_15 sl_cw1 hce hcv hcl ?_
      refine W.eq (g2 := F0 m 17 ls [.ref q9]) rfl ?_
      refine lv_astore (lv' := [(4, .ref q9), (0, .ref (α 0)), (1, .int ss), (2, .int am), (3, .ref ao)]) hx hb dL_take_17 hl (by decide) rfl (fun ls hl => ?_)
      refine lv_iconst (v := 2) hx hb dL_take_19 (by decide) ?_
      exact sl_ri (v := 2) hC hr hG g (Or.inr (Or.inr ⟨rfl, hx9, rfl⟩)) rfl (Nat.le_of_ble_eq_true rfl) (Nat.le_of_ble_eq_true rfl) dL_take_20
  · have hG : sl_I Γ u_5.2 s H locs := hG
    obtain ⟨p1, p2, p3, p4, p5⟩ := hr_5
    refine lv_i2l hx hb dL_take_8 rfl ?_
    refine sl_lastN hC hG 40 ((p5 40 (by omega) (by omega)).trans h40) (j := 0) rfl (by omega) (by omega) dL_take_9 (fun H locs hG => ?_)
    have hG : sl_I Γ (sl_up u_5.2 40 (ao, .inl (Γ.2.1 3, 1, .inr (.inl (vp_updL fo 0 r_5.toInt64))))) s H _ := hG
    refine lv_goto (tgt := 21) hx hb dL_take_10 (by decide) ?_
    refine lv_iconst (v := 0) hx hb dL_take_21 (by decide) ?_
    exact sl_ri (v := 0) hC hr hG (sl_up u_5.2 40 (ao, .inl (Γ.2.1 3, 1, .inr (.inl (vp_updL fo 0 r_5.toInt64))))) (Or.inl ⟨rfl, r_5, _, u_5.2, ⟨u_5.1, p1, p2, p3, p4⟩, p5, rfl, sl_updL0 _ _⟩) rfl (Nat.le_of_ble_eq_true rfl) (Nat.le_of_ble_eq_true rfl) dL_take_22
set_option maxHeartbeats 4000000 in
set_option maxRecDepth 100000 in
theorem kL_takeIf (l : Launch) (hlt : l.stackTraces = false) (Γ : sl_G) (g : sl_W) (α : Nat → Nat) (β : Nat → Nat × Nat × Nat) (n : Nat) (ep : Int32) (tl : Nat) (lo : Bool) (T C : Nat → Int32) (E : Nat → sl_Ent) (hK : sl_Cls Γ α β n ep tl lo T C E g) (ao : Nat) (fo : Nat → Int64) (h40 : g 40 = some (ao, .inl (Γ.2.1 3, 1, .inr (.inl fo)))) (ss am rd ver : Int32) : Met l yL_takeIf [Cond.codeWith yL_takeIf cL_takeIf 7 (some .int) [(0, 14, 17, 13), (0, 14, 21, 15)]] ({ frames := 8, cells := 3, slots := 25, locals := 150 } : Room) (va_Pc [.ref (α 0), .int ss, .int am, .int rd, .int ver, .ref ao] (sl_B Γ g)) (sl_Qi Γ (fun r w => sl_Wr Γ g ao (fun v w => ∃ β9, sl_k4 lo tl ss am rd ver = true ∧ sl_ch lo tl n = false ∧ v = nI n ∧ sl_Cls Γ α β9 (n + 1) ep (tl + 1) lo (sl_tp T ss (nI tl) 4) C (sl_eu E n (nI tl, ep, ss, am, rd, ver, sl_tc T ss 4, 0)) w) (sl_k4 lo tl ss am rd ver = false) (sl_k4 lo tl ss am rd ver = true ∧ sl_ch lo tl n = true) r w) (fun w => w)) 3 25 (sl_A Γ) := by
  refine sl_entw (by decide) (Nat.le_of_ble_eq_true rfl) ?_
  intro p e s m below meth c ls hC hr ht hG hl
  have hx := hC.1
  have hb := hC.2.1
  have hl : lv_has ls 7 [(0, .ref (α 0)), (1, .int ss), (2, .int am), (3, .int rd), (4, .int ver), (5, .ref ao)] := hl
  have hS := hK.ro
  obtain ⟨h0, h1, h2, h3, h4, h5, ⟨F, X, fd, h6, h7, h8⟩, hE, hN, hn9, ht9⟩ := id hK
  refine lv_aload hx hb dL_takeIf_0 (lv_at hl 5 rfl) ?_
  refine lv_iconst (v := 0) hx hb dL_takeIf_2 (by decide) ?_
  refine lv_aload_n hx hb dL_takeIf_3 rfl (lv_at hl 0 rfl) ?_
  refine lv_iload_n hx hb dL_takeIf_4 rfl (lv_at hl 1 rfl) ?_
  refine lv_iload_n hx hb dL_takeIf_5 rfl (lv_at hl 2 rfl) ?_
  refine lv_iload_n hx hb dL_takeIf_6 rfl (lv_at hl 3 rfl) ?_
  refine lv_iload hx hb dL_takeIf_7 (lv_at hl 4 rfl) ?_
  refine sl_callxi (sl_runX (As := [.int ss, .int am, .int rd, .int ver]) (rest := [.int 0, .ref ao]) hC hG (kX4_takeIf l hlt Γ g α β n ep tl lo T C E hK ss am rd ver) mi_X4_takeIf lk_RL_17 0 h0 rfl rfl rfl ⟨Nat.le_of_ble_eq_true rfl, Nat.le_of_ble_eq_true rfl⟩ rfl hl.1 rfl (Nat.le_of_ble_eq_true rfl) dL_takeIf_9 ⟨Nat.le_of_ble_eq_true rfl, Nat.le_of_ble_eq_true rfl⟩) hG (fun E ce q9 H locs hxE hG hce hcv hcl => ?_) (fun r_9 u_9 H locs hr_9 hG => ?_)
  · rcases hxE with ⟨rfl, hx9⟩ | ⟨rfl, hx9⟩
    · refine sl_catch1 hC ht (by decide) (by decide) lk_RL_13 sl_cw0 hce hcv hcl ?_
      refine W.eq (g2 := F0 m 17 ls [.ref q9]) rfl ?_
      refine lv_astore (lv' := [(6, .ref q9), (0, .ref (α 0)), (1, .int ss), (2, .int am), (3, .int rd), (4, .int ver), (5, .ref ao)]) hx hb dL_takeIf_17 hl (by decide) rfl (fun ls hl => ?_)
      refine lv_iconst (v := 1) hx hb dL_takeIf_19 (by decide) ?_
      exact sl_ri (v := 1) hC hr hG g (Or.inr (Or.inl ⟨rfl, hx9, rfl⟩)) rfl (Nat.le_of_ble_eq_true rfl) (Nat.le_of_ble_eq_true rfl) dL_takeIf_20
    · refine sl_catch2 hC ht (by decide) lk_RL_13 (by decide +kernel) (by decide) (by decide) lk_RL_15 sl_cw1 hce hcv hcl ?_
      refine W.eq (g2 := F0 m 21 ls [.ref q9]) rfl ?_
      refine lv_astore (lv' := [(6, .ref q9), (0, .ref (α 0)), (1, .int ss), (2, .int am), (3, .int rd), (4, .int ver), (5, .ref ao)]) hx hb dL_takeIf_21 hl (by decide) rfl (fun ls hl => ?_)
      refine lv_iconst (v := 2) hx hb dL_takeIf_23 (by decide) ?_
      exact sl_ri (v := 2) hC hr hG g (Or.inr (Or.inr ⟨rfl, hx9, rfl⟩)) rfl (Nat.le_of_ble_eq_true rfl) (Nat.le_of_ble_eq_true rfl) dL_takeIf_24
  · have hG : sl_I Γ u_9.2 s H locs := hG
    obtain ⟨p1, p2, p3, p4, p5⟩ := hr_9
    refine lv_i2l hx hb dL_takeIf_12 rfl ?_
    refine sl_lastN hC hG 40 ((p5 40 (by omega) (by omega)).trans h40) (j := 0) rfl (by omega) (by omega) dL_takeIf_13 (fun H locs hG => ?_)
    have hG : sl_I Γ (sl_up u_9.2 40 (ao, .inl (Γ.2.1 3, 1, .inr (.inl (vp_updL fo 0 r_9.toInt64))))) s H _ := hG
    refine lv_goto (tgt := 25) hx hb dL_takeIf_14 (by decide) ?_
    refine lv_iconst (v := 0) hx hb dL_takeIf_25 (by decide) ?_
    exact sl_ri (v := 0) hC hr hG (sl_up u_9.2 40 (ao, .inl (Γ.2.1 3, 1, .inr (.inl (vp_updL fo 0 r_9.toInt64))))) (Or.inl ⟨rfl, r_9, _, u_9.2, ⟨u_9.1, p1, p2, p3, p4⟩, p5, rfl, sl_updL0 _ _⟩) rfl (Nat.le_of_ble_eq_true rfl) (Nat.le_of_ble_eq_true rfl) dL_takeIf_26
set_option maxHeartbeats 4000000 in
set_option maxRecDepth 100000 in
theorem kL_lose (l : Launch) (hlt : l.stackTraces = false) (Γ : sl_G) (g : sl_W) (α : Nat → Nat) (β : Nat → Nat × Nat × Nat) (n : Nat) (ep : Int32) (tl : Nat) (lo : Bool) (T C : Nat → Int32) (E : Nat → sl_Ent) (hK : sl_Cls Γ α β n ep tl lo T C E g) (ao : Nat) (fo : Nat → Int64) (h40 : g 40 = some (ao, .inl (Γ.2.1 3, 1, .inr (.inl fo)))) : Met l yL_lose [Cond.codeWith yL_lose cL_lose 3 (some .int) [(0, 8, 11, 15)]] ({ frames := 7, cells := 1, slots := 6, locals := 120 } : Room) (va_Pc [.ref (α 0), .ref ao] (sl_B Γ g)) (sl_Qi Γ (fun r w => sl_Wr Γ g ao (fun v w => lo = false ∧ v = nI tl ∧ sl_Cls Γ α β n ep tl true T C E w) (lo = true) (False) r w) (fun w => w)) 1 6 (sl_A Γ) := by
  refine sl_entw (by decide) (Nat.le_of_ble_eq_true rfl) ?_
  intro p e s m below meth c ls hC hr ht hG hl
  have hx := hC.1
  have hb := hC.2.1
  have hl : lv_has ls 3 [(0, .ref (α 0)), (1, .ref ao)] := hl
  have hS := hK.ro
  obtain ⟨h0, h1, h2, h3, h4, h5, ⟨F, X, fd, h6, h7, h8⟩, hE, hN, hn9, ht9⟩ := id hK
  refine lv_aload_n hx hb dL_lose_0 rfl (lv_at hl 1 rfl) ?_
  refine lv_iconst (v := 0) hx hb dL_lose_1 (by decide) ?_
  refine lv_aload_n hx hb dL_lose_2 rfl (lv_at hl 0 rfl) ?_
  refine sl_callxi (sl_runX (As := []) (rest := [.int 0, .ref ao]) hC hG (kX4_lose l hlt Γ g α β n ep tl lo T C E hK) mi_X4_lose lk_RL_21 0 h0 rfl rfl rfl ⟨Nat.le_of_ble_eq_true rfl, Nat.le_of_ble_eq_true rfl⟩ rfl hl.1 rfl (Nat.le_of_ble_eq_true rfl) dL_lose_3 ⟨Nat.le_of_ble_eq_true rfl, Nat.le_of_ble_eq_true rfl⟩) hG (fun E ce q9 H locs hxE hG hce hcv hcl => ?_) (fun r_3 u_3 H locs hr_3 hG => ?_)
  · obtain ⟨rfl, hx9⟩ := hxE
    refine sl_catch1 hC ht (by decide) (by decide) lk_RL_15 sl_cw1 hce hcv hcl ?_
    refine W.eq (g2 := F0 m 11 ls [.ref q9]) rfl ?_
    refine lv_astore_n (lv' := [(2, .ref q9), (0, .ref (α 0)), (1, .ref ao)]) hx hb dL_lose_11 rfl hl (by decide) rfl (fun ls hl => ?_)
    refine lv_iconst (v := 1) hx hb dL_lose_12 (by decide) ?_
    exact sl_ri (v := 1) hC hr hG g (Or.inr (Or.inl ⟨rfl, hx9, rfl⟩)) rfl (Nat.le_of_ble_eq_true rfl) (Nat.le_of_ble_eq_true rfl) dL_lose_13
  · have hG : sl_I Γ u_3 s H locs := hG
    obtain ⟨p1, p2, p3, p4⟩ := hr_3
    refine lv_i2l hx hb dL_lose_6 rfl ?_
    refine sl_lastN hC hG 40 ((p4 40 (by omega) (by omega)).trans h40) (j := 0) rfl (by omega) (by omega) dL_lose_7 (fun H locs hG => ?_)
    have hG : sl_I Γ (sl_up u_3 40 (ao, .inl (Γ.2.1 3, 1, .inr (.inl (vp_updL fo 0 r_3.toInt64))))) s H _ := hG
    refine lv_goto (tgt := 14) hx hb dL_lose_8 (by decide) ?_
    refine lv_iconst (v := 0) hx hb dL_lose_14 (by decide) ?_
    exact sl_ri (v := 0) hC hr hG (sl_up u_3 40 (ao, .inl (Γ.2.1 3, 1, .inr (.inl (vp_updL fo 0 r_3.toInt64))))) (Or.inl ⟨rfl, r_3, _, u_3, ⟨p1, p2, p3⟩, p4, rfl, sl_updL0 _ _⟩) rfl (Nat.le_of_ble_eq_true rfl) (Nat.le_of_ble_eq_true rfl) dL_lose_15
set_option maxHeartbeats 4000000 in
set_option maxRecDepth 100000 in
theorem kL_write (l : Launch) (hlt : l.stackTraces = false) (Γ : sl_G) (g : sl_W) (α : Nat → Nat) (β : Nat → Nat × Nat × Nat) (n : Nat) (ep : Int32) (tl : Nat) (lo : Bool) (T C : Nat → Int32) (E : Nat → sl_Ent) (hK : sl_Cls Γ α β n ep tl lo T C E g) (ao : Nat) (fo : Nat → Int64) (h40 : g 40 = some (ao, .inl (Γ.2.1 3, 1, .inr (.inl fo)))) (x : Int32) : Met l yL_write [Cond.codeWith yL_write cL_write 4 (some .int) [(0, 9, 12, 29), (0, 9, 15, 15)]] ({ frames := 7, cells := 1, slots := 6, locals := 122 } : Room) (va_Pc [.ref (α 0), .int x, .ref ao] (sl_B Γ g)) (sl_Qi Γ (fun r w => sl_Wr Γ g ao (fun v w => ∃ t, sl_tok n x = some t ∧ ¬ ((E t).2.2.2.2.2.2.2 = -1 ∨ (E t).2.2.2.2.2.2.2 = 3 ∨ ¬ (E t).2.1 = ep) ∧ v = (if sl_cg C (E t).2.2.2.2.2.2.2 (E t).1 = -1 then -1 else (E t).2.2.2.2.2.2.2 + 1) ∧ sl_Cls Γ α β n ep tl lo T (if sl_cg C (E t).2.2.2.2.2.2.2 (E t).1 = -1 then C else sl_cp C (E t).2.2.2.2.2.2.2 (E t).1 x) (sl_es E t (if sl_cg C (E t).2.2.2.2.2.2.2 (E t).1 = -1 then -1 else (E t).2.2.2.2.2.2.2 + 1)) w) (sl_tok n x = none) (∃ t, sl_tok n x = some t ∧ ((E t).2.2.2.2.2.2.2 = -1 ∨ (E t).2.2.2.2.2.2.2 = 3 ∨ ¬ (E t).2.1 = ep)) r w) (fun w => w)) 1 6 (sl_A Γ) := by
  refine sl_entw (by decide) (Nat.le_of_ble_eq_true rfl) ?_
  intro p e s m below meth c ls hC hr ht hG hl
  have hx := hC.1
  have hb := hC.2.1
  have hl : lv_has ls 4 [(0, .ref (α 0)), (1, .int x), (2, .ref ao)] := hl
  have hS := hK.ro
  obtain ⟨h0, h1, h2, h3, h4, h5, ⟨F, X, fd, h6, h7, h8⟩, hE, hN, hn9, ht9⟩ := id hK
  refine lv_aload_n hx hb dL_write_0 rfl (lv_at hl 2 rfl) ?_
  refine lv_iconst (v := 0) hx hb dL_write_1 (by decide) ?_
  refine lv_aload_n hx hb dL_write_2 rfl (lv_at hl 0 rfl) ?_
  refine lv_iload_n hx hb dL_write_3 rfl (lv_at hl 1 rfl) ?_
  refine sl_callxi (sl_runX (As := [.int x]) (rest := [.int 0, .ref ao]) hC hG (kX4_write l hlt Γ g α β n ep tl lo T C E hK x) mi_X4_write lk_RL_25 0 h0 rfl rfl rfl ⟨Nat.le_of_ble_eq_true rfl, Nat.le_of_ble_eq_true rfl⟩ rfl hl.1 rfl (Nat.le_of_ble_eq_true rfl) dL_write_4 ⟨Nat.le_of_ble_eq_true rfl, Nat.le_of_ble_eq_true rfl⟩) hG (fun E ce q9 H locs hxE hG hce hcv hcl => ?_) (fun r_4 u_4 H locs hr_4 hG => ?_)
  · rcases hxE with ⟨rfl, hx9⟩ | ⟨rfl, hx9⟩
    · refine sl_catch1 hC ht (by decide) (by decide) lk_RL_29 sl_cw2 hce hcv hcl ?_
      refine W.eq (g2 := F0 m 12 ls [.ref q9]) rfl ?_
      refine lv_astore_n (lv' := [(3, .ref q9), (0, .ref (α 0)), (1, .int x), (2, .ref ao)]) hx hb dL_write_12 rfl hl (by decide) rfl (fun ls hl => ?_)
      refine lv_iconst (v := 1) hx hb dL_write_13 (by decide) ?_
      exact sl_ri (v := 1) hC hr hG g (Or.inr (Or.inl ⟨rfl, hx9, rfl⟩)) rfl (Nat.le_of_ble_eq_true rfl) (Nat.le_of_ble_eq_true rfl) dL_write_14
    · refine sl_catch2 hC ht (by decide) lk_RL_29 (by decide +kernel) (by decide) (by decide) lk_RL_15 sl_cw1 hce hcv hcl ?_
      refine W.eq (g2 := F0 m 15 ls [.ref q9]) rfl ?_
      refine lv_astore_n (lv' := [(3, .ref q9), (0, .ref (α 0)), (1, .int x), (2, .ref ao)]) hx hb dL_write_15 rfl hl (by decide) rfl (fun ls hl => ?_)
      refine lv_iconst (v := 2) hx hb dL_write_16 (by decide) ?_
      exact sl_ri (v := 2) hC hr hG g (Or.inr (Or.inr ⟨rfl, hx9, rfl⟩)) rfl (Nat.le_of_ble_eq_true rfl) (Nat.le_of_ble_eq_true rfl) dL_write_17
  · have hG : sl_I Γ u_4 s H locs := hG
    obtain ⟨t, p1, p2, p3, p4, p5⟩ := hr_4
    refine lv_i2l hx hb dL_write_7 rfl ?_
    refine sl_lastN hC hG 40 ((p5 40 (by omega) (by omega)).trans h40) (j := 0) rfl (by omega) (by omega) dL_write_8 (fun H locs hG => ?_)
    have hG : sl_I Γ (sl_up u_4 40 (ao, .inl (Γ.2.1 3, 1, .inr (.inl (vp_updL fo 0 r_4.toInt64))))) s H _ := hG
    refine lv_goto (tgt := 18) hx hb dL_write_9 (by decide) ?_
    refine lv_iconst (v := 0) hx hb dL_write_18 (by decide) ?_
    exact sl_ri (v := 0) hC hr hG (sl_up u_4 40 (ao, .inl (Γ.2.1 3, 1, .inr (.inl (vp_updL fo 0 r_4.toInt64))))) (Or.inl ⟨rfl, r_4, _, u_4, ⟨t, p1, p2, p3, p4⟩, p5, rfl, sl_updL0 _ _⟩) rfl (Nat.le_of_ble_eq_true rfl) (Nat.le_of_ble_eq_true rfl) dL_write_19
set_option maxHeartbeats 4000000 in
set_option maxRecDepth 100000 in
theorem kL_fill (l : Launch) (hlt : l.stackTraces = false) (Γ : sl_G) (g : sl_W) (α : Nat → Nat) (β : Nat → Nat × Nat × Nat) (n : Nat) (ep : Int32) (tl : Nat) (lo : Bool) (T C : Nat → Int32) (E : Nat → sl_Ent) (hK : sl_Cls Γ α β n ep tl lo T C E g) (ao : Nat) (fo : Nat → Int64) (h40 : g 40 = some (ao, .inl (Γ.2.1 3, 1, .inr (.inl fo)))) (x : Int32) : Met l yL_fill [Cond.codeWith yL_fill cL_fill 4 (some .int) [(0, 16, 19, 29), (0, 16, 22, 15)]] ({ frames := 7, cells := 1, slots := 6, locals := 124 } : Room) (va_Pc [.ref (α 0), .int x, .ref ao] (sl_B Γ g)) (sl_Qi Γ (fun r w => sl_Wr Γ g ao (fun v w => ∃ b, x = nI b ∧ b < 120 ∧ lo = false ∧ b < tl ∧ sl_wh C b = false ∧ v = sl_bi (sl_tok n (C b)).isSome ∧ sl_Cls Γ α β n ep tl lo T (sl_cf C b (if (sl_tok n (C b)).isSome = true then C b else -1)) E w) (sl_in x 0 119 = false) (∃ b, x = nI b ∧ b < 120 ∧ (lo = true ∨ tl ≤ b ∨ sl_wh C b = true)) r w) (fun w => w)) 1 6 (sl_A Γ) := by
  refine sl_entw (by decide) (Nat.le_of_ble_eq_true rfl) ?_
  intro p e s m below meth c ls hC hr ht hG hl
  have hx := hC.1
  have hb := hC.2.1
  have hl : lv_has ls 4 [(0, .ref (α 0)), (1, .int x), (2, .ref ao)] := hl
  have hS := hK.ro
  obtain ⟨h0, h1, h2, h3, h4, h5, ⟨F, X, fd, h6, h7, h8⟩, hE, hN, hn9, ht9⟩ := id hK
  refine lv_aload_n hx hb dL_fill_0 rfl (lv_at hl 2 rfl) ?_
  refine lv_iconst (v := 0) hx hb dL_fill_1 (by decide) ?_
  refine lv_aload_n hx hb dL_fill_2 rfl (lv_at hl 0 rfl) ?_
  refine lv_iload_n hx hb dL_fill_3 rfl (lv_at hl 1 rfl) ?_
  refine sl_callxi (sl_runX (As := [.int x]) (rest := [.int 0, .ref ao]) hC hG (kX4_fill l hlt Γ g α β n ep tl lo T C E hK x) mi_X4_fill lk_RL_31 0 h0 rfl rfl rfl ⟨Nat.le_of_ble_eq_true rfl, Nat.le_of_ble_eq_true rfl⟩ rfl hl.1 rfl (Nat.le_of_ble_eq_true rfl) dL_fill_4 ⟨Nat.le_of_ble_eq_true rfl, Nat.le_of_ble_eq_true rfl⟩) hG (fun E ce q9 H locs hxE hG hce hcv hcl => ?_) (fun r_4 u_4 H locs hr_4 hG => ?_)
  · rcases hxE with ⟨rfl, hx9⟩ | ⟨rfl, hx9⟩
    · refine sl_catch1 hC ht (by decide) (by decide) lk_RL_29 sl_cw2 hce hcv hcl ?_
      refine W.eq (g2 := F0 m 19 ls [.ref q9]) rfl ?_
      refine lv_astore_n (lv' := [(3, .ref q9), (0, .ref (α 0)), (1, .int x), (2, .ref ao)]) hx hb dL_fill_19 rfl hl (by decide) rfl (fun ls hl => ?_)
      refine lv_iconst (v := 1) hx hb dL_fill_20 (by decide) ?_
      exact sl_ri (v := 1) hC hr hG g (Or.inr (Or.inl ⟨rfl, hx9, rfl⟩)) rfl (Nat.le_of_ble_eq_true rfl) (Nat.le_of_ble_eq_true rfl) dL_fill_21
    · refine sl_catch2 hC ht (by decide) lk_RL_29 (by decide +kernel) (by decide) (by decide) lk_RL_15 sl_cw1 hce hcv hcl ?_
      refine W.eq (g2 := F0 m 22 ls [.ref q9]) rfl ?_
      refine lv_astore_n (lv' := [(3, .ref q9), (0, .ref (α 0)), (1, .int x), (2, .ref ao)]) hx hb dL_fill_22 rfl hl (by decide) rfl (fun ls hl => ?_)
      refine lv_iconst (v := 2) hx hb dL_fill_23 (by decide) ?_
      exact sl_ri (v := 2) hC hr hG g (Or.inr (Or.inr ⟨rfl, hx9, rfl⟩)) rfl (Nat.le_of_ble_eq_true rfl) (Nat.le_of_ble_eq_true rfl) dL_fill_24
  · have hG : sl_I Γ u_4 s H locs := hG
    obtain ⟨b, p1, p2, p3, p4, p5, p6, p7, p8⟩ := hr_4
    refine lv_if_eq (tgt := 14) hx hb dL_fill_7 (by decide) (fun c_7 => ?_) (fun c_7 => ?_)
    · refine lv_lconst (v := 0) hx hb dL_fill_14 (by decide) ?_
      refine sl_lastN hC hG 40 ((p8 40 (by omega) (by omega)).trans h40) (j := 0) rfl (by omega) (by omega) dL_fill_15 (fun H locs hG => ?_)
      have hG : sl_I Γ (sl_up u_4 40 (ao, .inl (Γ.2.1 3, 1, .inr (.inl (vp_updL fo 0 0))))) s H _ := hG
      refine lv_goto (tgt := 25) hx hb dL_fill_16 (by decide) ?_
      refine lv_iconst (v := 0) hx hb dL_fill_25 (by decide) ?_
      exact sl_ri (v := 0) hC hr hG (sl_up u_4 40 (ao, .inl (Γ.2.1 3, 1, .inr (.inl (vp_updL fo 0 0))))) (Or.inl ⟨rfl, r_4, _, u_4, ⟨b, p1, p2, p3, p4, p5, p6, p7⟩, p8, rfl, (sl_updL0 _ _).trans (sl_r0 c_7)⟩) rfl (Nat.le_of_ble_eq_true rfl) (Nat.le_of_ble_eq_true rfl) dL_fill_26
    · refine lv_lconst (v := 1) hx hb dL_fill_10 (by decide) ?_
      refine lv_goto (tgt := 15) hx hb dL_fill_11 (by decide) ?_
      refine sl_lastN hC hG 40 ((p8 40 (by omega) (by omega)).trans h40) (j := 0) rfl (by omega) (by omega) dL_fill_15 (fun H locs hG => ?_)
      have hG : sl_I Γ (sl_up u_4 40 (ao, .inl (Γ.2.1 3, 1, .inr (.inl (vp_updL fo 0 1))))) s H _ := hG
      refine lv_goto (tgt := 25) hx hb dL_fill_16 (by decide) ?_
      refine lv_iconst (v := 0) hx hb dL_fill_25 (by decide) ?_
      exact sl_ri (v := 0) hC hr hG (sl_up u_4 40 (ao, .inl (Γ.2.1 3, 1, .inr (.inl (vp_updL fo 0 1))))) (Or.inl ⟨rfl, r_4, _, u_4, ⟨b, p1, p2, p3, p4, p5, p6, p7⟩, p8, rfl, (sl_updL0 _ _).trans (sl_r1 p6 c_7)⟩) rfl (Nat.le_of_ble_eq_true rfl) (Nat.le_of_ble_eq_true rfl) dL_fill_26
set_option maxHeartbeats 4000000 in
set_option maxRecDepth 100000 in
theorem kL_positionOf (l : Launch) (hlt : l.stackTraces = false) (Γ : sl_G) (g : sl_W) (α : Nat → Nat) (β : Nat → Nat × Nat × Nat) (n : Nat) (ep : Int32) (tl : Nat) (lo : Bool) (T C : Nat → Int32) (E : Nat → sl_Ent) (hK : sl_Cls Γ α β n ep tl lo T C E g) (ao : Nat) (fo : Nat → Int64) (h40 : g 40 = some (ao, .inl (Γ.2.1 3, 1, .inr (.inl fo)))) (x : Int32) : Met l yL_positionOf [Cond.codeWith yL_positionOf cL_positionOf 4 (some .int) [(0, 9, 12, 29)]] ({ frames := 7, cells := 1, slots := 6, locals := 122 } : Room) (va_Pc [.ref (α 0), .int x, .ref ao] (sl_B Γ g)) (sl_Qi Γ (fun r w => sl_Wr Γ g ao (fun v w => (∃ t, sl_tok n x = some t ∧ v = (E t).1) ∧ sl_Cls Γ α β n ep tl lo T C E w) (sl_tok n x = none) (False) r w) (fun w => w)) 1 6 (sl_A Γ) := by
  refine sl_entw (by decide) (Nat.le_of_ble_eq_true rfl) ?_
  intro p e s m below meth c ls hC hr ht hG hl
  have hx := hC.1
  have hb := hC.2.1
  have hl : lv_has ls 4 [(0, .ref (α 0)), (1, .int x), (2, .ref ao)] := hl
  have hS := hK.ro
  obtain ⟨h0, h1, h2, h3, h4, h5, ⟨F, X, fd, h6, h7, h8⟩, hE, hN, hn9, ht9⟩ := id hK
  refine lv_aload_n hx hb dL_positionOf_0 rfl (lv_at hl 2 rfl) ?_
  refine lv_iconst (v := 0) hx hb dL_positionOf_1 (by decide) ?_
  refine lv_aload_n hx hb dL_positionOf_2 rfl (lv_at hl 0 rfl) ?_
  refine lv_iload_n hx hb dL_positionOf_3 rfl (lv_at hl 1 rfl) ?_
  refine sl_callxi (sl_runX (As := [.int x]) (rest := [.int 0, .ref ao]) hC hG (kX4_positionOf l hlt Γ g α β n ep tl lo T C E hK x) mi_X4_positionOf lk_RL_35 0 h0 rfl rfl rfl ⟨Nat.le_of_ble_eq_true rfl, Nat.le_of_ble_eq_true rfl⟩ rfl hl.1 rfl (Nat.le_of_ble_eq_true rfl) dL_positionOf_4 ⟨Nat.le_of_ble_eq_true rfl, Nat.le_of_ble_eq_true rfl⟩) hG (fun E ce q9 H locs hxE hG hce hcv hcl => ?_) (fun r_4 u_4 H locs hr_4 hG => ?_)
  · obtain ⟨rfl, hx9⟩ := hxE
    refine sl_catch1 hC ht (by decide) (by decide) lk_RL_29 sl_cw2 hce hcv hcl ?_
    refine W.eq (g2 := F0 m 12 ls [.ref q9]) rfl ?_
    refine lv_astore_n (lv' := [(3, .ref q9), (0, .ref (α 0)), (1, .int x), (2, .ref ao)]) hx hb dL_positionOf_12 rfl hl (by decide) rfl (fun ls hl => ?_)
    refine lv_iconst (v := 1) hx hb dL_positionOf_13 (by decide) ?_
    exact sl_ri (v := 1) hC hr hG g (Or.inr (Or.inl ⟨rfl, hx9, rfl⟩)) rfl (Nat.le_of_ble_eq_true rfl) (Nat.le_of_ble_eq_true rfl) dL_positionOf_14
  · have hG : sl_I Γ g s H locs := hG
    have p1 := hr_4
    refine lv_i2l hx hb dL_positionOf_7 rfl ?_
    refine sl_lastN hC hG 40 h40 (j := 0) rfl (by omega) (by omega) dL_positionOf_8 (fun H locs hG => ?_)
    have hG : sl_I Γ (sl_up g 40 (ao, .inl (Γ.2.1 3, 1, .inr (.inl (vp_updL fo 0 r_4.toInt64))))) s H _ := hG
    refine lv_goto (tgt := 15) hx hb dL_positionOf_9 (by decide) ?_
    refine lv_iconst (v := 0) hx hb dL_positionOf_15 (by decide) ?_
    exact sl_ri (v := 0) hC hr hG (sl_up g 40 (ao, .inl (Γ.2.1 3, 1, .inr (.inl (vp_updL fo 0 r_4.toInt64))))) (Or.inl ⟨rfl, r_4, _, g, ⟨p1, hK⟩, (sl_fr.rf g), rfl, sl_updL0 _ _⟩) rfl (Nat.le_of_ble_eq_true rfl) (Nat.le_of_ble_eq_true rfl) dL_positionOf_16
set_option maxHeartbeats 4000000 in
set_option maxRecDepth 100000 in
theorem kL_stateOf (l : Launch) (hlt : l.stackTraces = false) (Γ : sl_G) (g : sl_W) (α : Nat → Nat) (β : Nat → Nat × Nat × Nat) (n : Nat) (ep : Int32) (tl : Nat) (lo : Bool) (T C : Nat → Int32) (E : Nat → sl_Ent) (hK : sl_Cls Γ α β n ep tl lo T C E g) (ao : Nat) (fo : Nat → Int64) (h40 : g 40 = some (ao, .inl (Γ.2.1 3, 1, .inr (.inl fo)))) (x : Int32) : Met l yL_stateOf [Cond.codeWith yL_stateOf cL_stateOf 4 (some .int) [(0, 9, 12, 29)]] ({ frames := 7, cells := 1, slots := 6, locals := 122 } : Room) (va_Pc [.ref (α 0), .int x, .ref ao] (sl_B Γ g)) (sl_Qi Γ (fun r w => sl_Wr Γ g ao (fun v w => (∃ t, sl_tok n x = some t ∧ v = (E t).2.2.2.2.2.2.2) ∧ sl_Cls Γ α β n ep tl lo T C E w) (sl_tok n x = none) (False) r w) (fun w => w)) 1 6 (sl_A Γ) := by
  refine sl_entw (by decide) (Nat.le_of_ble_eq_true rfl) ?_
  intro p e s m below meth c ls hC hr ht hG hl
  have hx := hC.1
  have hb := hC.2.1
  have hl : lv_has ls 4 [(0, .ref (α 0)), (1, .int x), (2, .ref ao)] := hl
  have hS := hK.ro
  obtain ⟨h0, h1, h2, h3, h4, h5, ⟨F, X, fd, h6, h7, h8⟩, hE, hN, hn9, ht9⟩ := id hK
  refine lv_aload_n hx hb dL_stateOf_0 rfl (lv_at hl 2 rfl) ?_
  refine lv_iconst (v := 0) hx hb dL_stateOf_1 (by decide) ?_
  refine lv_aload_n hx hb dL_stateOf_2 rfl (lv_at hl 0 rfl) ?_
  refine lv_iload_n hx hb dL_stateOf_3 rfl (lv_at hl 1 rfl) ?_
  refine sl_callxi (sl_runX (As := [.int x]) (rest := [.int 0, .ref ao]) hC hG (kX4_stateOf l hlt Γ g α β n ep tl lo T C E hK x) mi_X4_stateOf lk_RL_38 0 h0 rfl rfl rfl ⟨Nat.le_of_ble_eq_true rfl, Nat.le_of_ble_eq_true rfl⟩ rfl hl.1 rfl (Nat.le_of_ble_eq_true rfl) dL_stateOf_4 ⟨Nat.le_of_ble_eq_true rfl, Nat.le_of_ble_eq_true rfl⟩) hG (fun E ce q9 H locs hxE hG hce hcv hcl => ?_) (fun r_4 u_4 H locs hr_4 hG => ?_)
  · obtain ⟨rfl, hx9⟩ := hxE
    refine sl_catch1 hC ht (by decide) (by decide) lk_RL_29 sl_cw2 hce hcv hcl ?_
    refine W.eq (g2 := F0 m 12 ls [.ref q9]) rfl ?_
    refine lv_astore_n (lv' := [(3, .ref q9), (0, .ref (α 0)), (1, .int x), (2, .ref ao)]) hx hb dL_stateOf_12 rfl hl (by decide) rfl (fun ls hl => ?_)
    refine lv_iconst (v := 1) hx hb dL_stateOf_13 (by decide) ?_
    exact sl_ri (v := 1) hC hr hG g (Or.inr (Or.inl ⟨rfl, hx9, rfl⟩)) rfl (Nat.le_of_ble_eq_true rfl) (Nat.le_of_ble_eq_true rfl) dL_stateOf_14
  · have hG : sl_I Γ g s H locs := hG
    have p1 := hr_4
    refine lv_i2l hx hb dL_stateOf_7 rfl ?_
    refine sl_lastN hC hG 40 h40 (j := 0) rfl (by omega) (by omega) dL_stateOf_8 (fun H locs hG => ?_)
    have hG : sl_I Γ (sl_up g 40 (ao, .inl (Γ.2.1 3, 1, .inr (.inl (vp_updL fo 0 r_4.toInt64))))) s H _ := hG
    refine lv_goto (tgt := 15) hx hb dL_stateOf_9 (by decide) ?_
    refine lv_iconst (v := 0) hx hb dL_stateOf_15 (by decide) ?_
    exact sl_ri (v := 0) hC hr hG (sl_up g 40 (ao, .inl (Γ.2.1 3, 1, .inr (.inl (vp_updL fo 0 r_4.toInt64))))) (Or.inl ⟨rfl, r_4, _, g, ⟨p1, hK⟩, (sl_fr.rf g), rfl, sl_updL0 _ _⟩) rfl (Nat.le_of_ble_eq_true rfl) (Nat.le_of_ble_eq_true rfl) dL_stateOf_16
set_option maxHeartbeats 4000000 in
set_option maxRecDepth 100000 in
theorem kL_pointer (l : Launch) (hlt : l.stackTraces = false) (Γ : sl_G) (g : sl_W) (α : Nat → Nat) (β : Nat → Nat × Nat × Nat) (n : Nat) (ep : Int32) (tl : Nat) (lo : Bool) (T C : Nat → Int32) (E : Nat → sl_Ent) (hK : sl_Cls Γ α β n ep tl lo T C E g) (ao : Nat) (fo : Nat → Int64) (h40 : g 40 = some (ao, .inl (Γ.2.1 3, 1, .inr (.inl fo)))) (x y z : Int32) : Met l yL_pointer [Cond.codeWith yL_pointer cL_pointer 6 (some .int) [(0, 12, 15, 29)]] ({ frames := 7, cells := 1, slots := 6, locals := 124 } : Room) (va_Pc [.ref (α 0), .int x, .int y, .int z, .ref ao] (sl_B Γ g)) (sl_Qi Γ (fun r w => sl_Wr Γ g ao (fun v w => (∃ t, sl_tok n x = some t ∧ (sl_in y 0 3 && sl_in z 0 3) = true ∧ v = sl_tg (E t).2.2.2.2.2.2.1 y z) ∧ sl_Cls Γ α β n ep tl lo T C E w) ((sl_tok n x = none ∨ (sl_in y 0 3 && sl_in z 0 3) = false)) (False) r w) (fun w => w)) 1 6 (sl_A Γ) := by
  refine sl_entw (by decide) (Nat.le_of_ble_eq_true rfl) ?_
  intro p e s m below meth c ls hC hr ht hG hl
  have hx := hC.1
  have hb := hC.2.1
  have hl : lv_has ls 6 [(0, .ref (α 0)), (1, .int x), (2, .int y), (3, .int z), (4, .ref ao)] := hl
  have hS := hK.ro
  obtain ⟨h0, h1, h2, h3, h4, h5, ⟨F, X, fd, h6, h7, h8⟩, hE, hN, hn9, ht9⟩ := id hK
  refine lv_aload hx hb dL_pointer_0 (lv_at hl 4 rfl) ?_
  refine lv_iconst (v := 0) hx hb dL_pointer_2 (by decide) ?_
  refine lv_aload_n hx hb dL_pointer_3 rfl (lv_at hl 0 rfl) ?_
  refine lv_iload_n hx hb dL_pointer_4 rfl (lv_at hl 1 rfl) ?_
  refine lv_iload_n hx hb dL_pointer_5 rfl (lv_at hl 2 rfl) ?_
  refine lv_iload_n hx hb dL_pointer_6 rfl (lv_at hl 3 rfl) ?_
  refine sl_callxi (sl_runX (As := [.int x, .int y, .int z]) (rest := [.int 0, .ref ao]) hC hG (kX4_pointer l hlt Γ g α β n ep tl lo T C E hK x y z) mi_X4_pointer lk_RL_41 0 h0 rfl rfl rfl ⟨Nat.le_of_ble_eq_true rfl, Nat.le_of_ble_eq_true rfl⟩ rfl hl.1 rfl (Nat.le_of_ble_eq_true rfl) dL_pointer_7 ⟨Nat.le_of_ble_eq_true rfl, Nat.le_of_ble_eq_true rfl⟩) hG (fun E ce q9 H locs hxE hG hce hcv hcl => ?_) (fun r_7 u_7 H locs hr_7 hG => ?_)
  · obtain ⟨rfl, hx9⟩ := hxE
    refine sl_catch1 hC ht (by decide) (by decide) lk_RL_29 sl_cw2 hce hcv hcl ?_
    refine W.eq (g2 := F0 m 15 ls [.ref q9]) rfl ?_
    refine lv_astore (lv' := [(5, .ref q9), (0, .ref (α 0)), (1, .int x), (2, .int y), (3, .int z), (4, .ref ao)]) hx hb dL_pointer_15 hl (by decide) rfl (fun ls hl => ?_)
    refine lv_iconst (v := 1) hx hb dL_pointer_17 (by decide) ?_
    exact sl_ri (v := 1) hC hr hG g (Or.inr (Or.inl ⟨rfl, hx9, rfl⟩)) rfl (Nat.le_of_ble_eq_true rfl) (Nat.le_of_ble_eq_true rfl) dL_pointer_18
  · have hG : sl_I Γ g s H locs := hG
    have p1 := hr_7
    refine lv_i2l hx hb dL_pointer_10 rfl ?_
    refine sl_lastN hC hG 40 h40 (j := 0) rfl (by omega) (by omega) dL_pointer_11 (fun H locs hG => ?_)
    have hG : sl_I Γ (sl_up g 40 (ao, .inl (Γ.2.1 3, 1, .inr (.inl (vp_updL fo 0 r_7.toInt64))))) s H _ := hG
    refine lv_goto (tgt := 19) hx hb dL_pointer_12 (by decide) ?_
    refine lv_iconst (v := 0) hx hb dL_pointer_19 (by decide) ?_
    exact sl_ri (v := 0) hC hr hG (sl_up g 40 (ao, .inl (Γ.2.1 3, 1, .inr (.inl (vp_updL fo 0 r_7.toInt64))))) (Or.inl ⟨rfl, r_7, _, g, ⟨p1, hK⟩, (sl_fr.rf g), rfl, sl_updL0 _ _⟩) rfl (Nat.le_of_ble_eq_true rfl) (Nat.le_of_ble_eq_true rfl) dL_pointer_20
set_option maxHeartbeats 4000000 in
set_option maxRecDepth 100000 in
theorem kL_cellAt (l : Launch) (hlt : l.stackTraces = false) (Γ : sl_G) (g : sl_W) (α : Nat → Nat) (β : Nat → Nat × Nat × Nat) (n : Nat) (ep : Int32) (tl : Nat) (lo : Bool) (T C : Nat → Int32) (E : Nat → sl_Ent) (hK : sl_Cls Γ α β n ep tl lo T C E g) (ao : Nat) (fo : Nat → Int64) (h40 : g 40 = some (ao, .inl (Γ.2.1 3, 1, .inr (.inl fo)))) (x y : Int32) : Met l yL_cellAt [Cond.codeWith yL_cellAt cL_cellAt 5 (some .int) [(0, 10, 13, 29)]] ({ frames := 7, cells := 1, slots := 6, locals := 122 } : Room) (va_Pc [.ref (α 0), .int x, .int y, .ref ao] (sl_B Γ g)) (sl_Qi Γ (fun r w => sl_Wr Γ g ao (fun v w => ((sl_in x 0 2 && sl_in y 0 119) = true ∧ v = sl_cg C x y) ∧ sl_Cls Γ α β n ep tl lo T C E w) ((sl_in x 0 2 && sl_in y 0 119) = false) (False) r w) (fun w => w)) 1 6 (sl_A Γ) := by
  refine sl_entw (by decide) (Nat.le_of_ble_eq_true rfl) ?_
  intro p e s m below meth c ls hC hr ht hG hl
  have hx := hC.1
  have hb := hC.2.1
  have hl : lv_has ls 5 [(0, .ref (α 0)), (1, .int x), (2, .int y), (3, .ref ao)] := hl
  have hS := hK.ro
  obtain ⟨h0, h1, h2, h3, h4, h5, ⟨F, X, fd, h6, h7, h8⟩, hE, hN, hn9, ht9⟩ := id hK
  refine lv_aload_n hx hb dL_cellAt_0 rfl (lv_at hl 3 rfl) ?_
  refine lv_iconst (v := 0) hx hb dL_cellAt_1 (by decide) ?_
  refine lv_aload_n hx hb dL_cellAt_2 rfl (lv_at hl 0 rfl) ?_
  refine lv_iload_n hx hb dL_cellAt_3 rfl (lv_at hl 1 rfl) ?_
  refine lv_iload_n hx hb dL_cellAt_4 rfl (lv_at hl 2 rfl) ?_
  refine sl_callxi (sl_runX (As := [.int x, .int y]) (rest := [.int 0, .ref ao]) hC hG (kX4_cellAt l hlt Γ g α β n ep tl lo T C E hK x y) mi_X4_cellAt lk_RL_45 0 h0 rfl rfl rfl ⟨Nat.le_of_ble_eq_true rfl, Nat.le_of_ble_eq_true rfl⟩ rfl hl.1 rfl (Nat.le_of_ble_eq_true rfl) dL_cellAt_5 ⟨Nat.le_of_ble_eq_true rfl, Nat.le_of_ble_eq_true rfl⟩) hG (fun E ce q9 H locs hxE hG hce hcv hcl => ?_) (fun r_5 u_5 H locs hr_5 hG => ?_)
  · obtain ⟨rfl, hx9⟩ := hxE
    refine sl_catch1 hC ht (by decide) (by decide) lk_RL_29 sl_cw2 hce hcv hcl ?_
    refine W.eq (g2 := F0 m 13 ls [.ref q9]) rfl ?_
    refine lv_astore (lv' := [(4, .ref q9), (0, .ref (α 0)), (1, .int x), (2, .int y), (3, .ref ao)]) hx hb dL_cellAt_13 hl (by decide) rfl (fun ls hl => ?_)
    refine lv_iconst (v := 1) hx hb dL_cellAt_15 (by decide) ?_
    exact sl_ri (v := 1) hC hr hG g (Or.inr (Or.inl ⟨rfl, hx9, rfl⟩)) rfl (Nat.le_of_ble_eq_true rfl) (Nat.le_of_ble_eq_true rfl) dL_cellAt_16
  · have hG : sl_I Γ g s H locs := hG
    have p1 := hr_5
    refine lv_i2l hx hb dL_cellAt_8 rfl ?_
    refine sl_lastN hC hG 40 h40 (j := 0) rfl (by omega) (by omega) dL_cellAt_9 (fun H locs hG => ?_)
    have hG : sl_I Γ (sl_up g 40 (ao, .inl (Γ.2.1 3, 1, .inr (.inl (vp_updL fo 0 r_5.toInt64))))) s H _ := hG
    refine lv_goto (tgt := 17) hx hb dL_cellAt_10 (by decide) ?_
    refine lv_iconst (v := 0) hx hb dL_cellAt_17 (by decide) ?_
    exact sl_ri (v := 0) hC hr hG (sl_up g 40 (ao, .inl (Γ.2.1 3, 1, .inr (.inl (vp_updL fo 0 r_5.toInt64))))) (Or.inl ⟨rfl, r_5, _, g, ⟨p1, hK⟩, (sl_fr.rf g), rfl, sl_updL0 _ _⟩) rfl (Nat.le_of_ble_eq_true rfl) (Nat.le_of_ble_eq_true rfl) dL_cellAt_18
set_option maxHeartbeats 4000000 in
set_option maxRecDepth 100000 in
theorem kL_takesEffect (l : Launch) (hlt : l.stackTraces = false) (Γ : sl_G) (g : sl_W) (α : Nat → Nat) (β : Nat → Nat × Nat × Nat) (n : Nat) (ep : Int32) (tl : Nat) (lo : Bool) (T C : Nat → Int32) (E : Nat → sl_Ent) (hK : sl_Cls Γ α β n ep tl lo T C E g) (ao : Nat) (fo : Nat → Int64) (h40 : g 40 = some (ao, .inl (Γ.2.1 3, 1, .inr (.inl fo)))) (x : Int32) : Met l yL_takesEffect [Cond.codeWith yL_takesEffect cL_takesEffect 4 (some .int) [(0, 16, 19, 29)]] ({ frames := 7, cells := 1, slots := 6, locals := 128 } : Room) (va_Pc [.ref (α 0), .int x, .ref ao] (sl_B Γ g)) (sl_Qi Γ (fun r w => sl_Wr Γ g ao (fun v w => (∃ b, x = nI b ∧ b < sl_kn C ∧ v = sl_bi (sl_ev n C E b)) ∧ sl_Cls Γ α β n ep tl lo T C E w) (¬ (0 ≤ x.toInt ∧ x.toInt < sl_kn C)) (False) r w) (fun w => w)) 1 6 (sl_A Γ) := by
  refine sl_entw (by decide) (Nat.le_of_ble_eq_true rfl) ?_
  intro p e s m below meth c ls hC hr ht hG hl
  have hx := hC.1
  have hb := hC.2.1
  have hl : lv_has ls 4 [(0, .ref (α 0)), (1, .int x), (2, .ref ao)] := hl
  have hS := hK.ro
  obtain ⟨h0, h1, h2, h3, h4, h5, ⟨F, X, fd, h6, h7, h8⟩, hE, hN, hn9, ht9⟩ := id hK
  refine lv_aload_n hx hb dL_takesEffect_0 rfl (lv_at hl 2 rfl) ?_
  refine lv_iconst (v := 0) hx hb dL_takesEffect_1 (by decide) ?_
  refine lv_aload_n hx hb dL_takesEffect_2 rfl (lv_at hl 0 rfl) ?_
  refine lv_iload_n hx hb dL_takesEffect_3 rfl (lv_at hl 1 rfl) ?_
  refine sl_callxi (sl_runX (As := [.int x]) (rest := [.int 0, .ref ao]) hC hG (kX4_takesEffect l hlt Γ g α β n ep tl lo T C E hK x) mi_X4_takesEffect lk_RL_48 0 h0 rfl rfl rfl ⟨Nat.le_of_ble_eq_true rfl, Nat.le_of_ble_eq_true rfl⟩ rfl hl.1 rfl (Nat.le_of_ble_eq_true rfl) dL_takesEffect_4 ⟨Nat.le_of_ble_eq_true rfl, Nat.le_of_ble_eq_true rfl⟩) hG (fun E ce q9 H locs hxE hG hce hcv hcl => ?_) (fun r_4 u_4 H locs hr_4 hG => ?_)
  · obtain ⟨rfl, hx9⟩ := hxE
    refine sl_catch1 hC ht (by decide) (by decide) lk_RL_29 sl_cw2 hce hcv hcl ?_
    refine W.eq (g2 := F0 m 19 ls [.ref q9]) rfl ?_
    refine lv_astore_n (lv' := [(3, .ref q9), (0, .ref (α 0)), (1, .int x), (2, .ref ao)]) hx hb dL_takesEffect_19 rfl hl (by decide) rfl (fun ls hl => ?_)
    refine lv_iconst (v := 1) hx hb dL_takesEffect_20 (by decide) ?_
    exact sl_ri (v := 1) hC hr hG g (Or.inr (Or.inl ⟨rfl, hx9, rfl⟩)) rfl (Nat.le_of_ble_eq_true rfl) (Nat.le_of_ble_eq_true rfl) dL_takesEffect_21
  · have hG : sl_I Γ u_4 s H locs := hG
    obtain ⟨⟨b, p1, p2, p6⟩, p3, p4⟩ := hr_4
    refine lv_if_eq (tgt := 14) hx hb dL_takesEffect_7 (by decide) (fun c_7 => ?_) (fun c_7 => ?_)
    · refine lv_lconst (v := 0) hx hb dL_takesEffect_14 (by decide) ?_
      refine sl_lastN hC hG 40 ((p4 40 (by omega) (by omega)).trans h40) (j := 0) rfl (by omega) (by omega) dL_takesEffect_15 (fun H locs hG => ?_)
      have hG : sl_I Γ (sl_up u_4 40 (ao, .inl (Γ.2.1 3, 1, .inr (.inl (vp_updL fo 0 0))))) s H _ := hG
      refine lv_goto (tgt := 22) hx hb dL_takesEffect_16 (by decide) ?_
      refine lv_iconst (v := 0) hx hb dL_takesEffect_22 (by decide) ?_
      exact sl_ri (v := 0) hC hr hG (sl_up u_4 40 (ao, .inl (Γ.2.1 3, 1, .inr (.inl (vp_updL fo 0 0))))) (Or.inl ⟨rfl, r_4, _, u_4, ⟨⟨b, p1, p2, p6⟩, p3⟩, p4, rfl, (sl_updL0 _ _).trans (sl_r0 c_7)⟩) rfl (Nat.le_of_ble_eq_true rfl) (Nat.le_of_ble_eq_true rfl) dL_takesEffect_23
    · refine lv_lconst (v := 1) hx hb dL_takesEffect_10 (by decide) ?_
      refine lv_goto (tgt := 15) hx hb dL_takesEffect_11 (by decide) ?_
      refine sl_lastN hC hG 40 ((p4 40 (by omega) (by omega)).trans h40) (j := 0) rfl (by omega) (by omega) dL_takesEffect_15 (fun H locs hG => ?_)
      have hG : sl_I Γ (sl_up u_4 40 (ao, .inl (Γ.2.1 3, 1, .inr (.inl (vp_updL fo 0 1))))) s H _ := hG
      refine lv_goto (tgt := 22) hx hb dL_takesEffect_16 (by decide) ?_
      refine lv_iconst (v := 0) hx hb dL_takesEffect_22 (by decide) ?_
      exact sl_ri (v := 0) hC hr hG (sl_up u_4 40 (ao, .inl (Γ.2.1 3, 1, .inr (.inl (vp_updL fo 0 1))))) (Or.inl ⟨rfl, r_4, _, u_4, ⟨⟨b, p1, p2, p6⟩, p3⟩, p4, rfl, (sl_updL0 _ _).trans (sl_r1 p6 c_7)⟩) rfl (Nat.le_of_ble_eq_true rfl) (Nat.le_of_ble_eq_true rfl) dL_takesEffect_23
set_option maxHeartbeats 4000000 in
set_option maxRecDepth 100000 in
theorem kL_value (l : Launch) (hlt : l.stackTraces = false) (Γ : sl_G) (g : sl_W) (α : Nat → Nat) (β : Nat → Nat × Nat × Nat) (n : Nat) (ep : Int32) (tl : Nat) (lo : Bool) (T C : Nat → Int32) (E : Nat → sl_Ent) (hK : sl_Cls Γ α β n ep tl lo T C E g) (ao : Nat) (fo : Nat → Int64) (h40 : g 40 = some (ao, .inl (Γ.2.1 3, 1, .inr (.inl fo)))) (x y : Int32) : Met l yL_value [Cond.codeWith yL_value cL_value 5 (some .int) [(0, 10, 13, 29)]] ({ frames := 7, cells := 1, slots := 6, locals := 152 } : Room) (va_Pc [.ref (α 0), .int x, .int y, .ref ao] (sl_B Γ g)) (sl_Qi Γ (fun r w => sl_Wr Γ g ao (fun v w => ((sl_in x 0 3 && sl_in y 0 (nI (sl_kn C))) = true ∧ v = sl_vs n C E x y.toNatClampNeg) ∧ sl_Cls Γ α β n ep tl lo T C E w) ((sl_in x 0 3 && sl_in y 0 (nI (sl_kn C))) = false) (False) r w) (fun w => w)) 1 6 (sl_A Γ) := by
  refine sl_entw (by decide) (Nat.le_of_ble_eq_true rfl) ?_
  intro p e s m below meth c ls hC hr ht hG hl
  have hx := hC.1
  have hb := hC.2.1
  have hl : lv_has ls 5 [(0, .ref (α 0)), (1, .int x), (2, .int y), (3, .ref ao)] := hl
  have hS := hK.ro
  obtain ⟨h0, h1, h2, h3, h4, h5, ⟨F, X, fd, h6, h7, h8⟩, hE, hN, hn9, ht9⟩ := id hK
  refine lv_aload_n hx hb dL_value_0 rfl (lv_at hl 3 rfl) ?_
  refine lv_iconst (v := 0) hx hb dL_value_1 (by decide) ?_
  refine lv_aload_n hx hb dL_value_2 rfl (lv_at hl 0 rfl) ?_
  refine lv_iload_n hx hb dL_value_3 rfl (lv_at hl 1 rfl) ?_
  refine lv_iload_n hx hb dL_value_4 rfl (lv_at hl 2 rfl) ?_
  refine sl_callxi (sl_runX (As := [.int x, .int y]) (rest := [.int 0, .ref ao]) hC hG (kX4_value l hlt Γ g α β n ep tl lo T C E hK x y) mi_X4_value lk_RL_51 0 h0 rfl rfl rfl ⟨Nat.le_of_ble_eq_true rfl, Nat.le_of_ble_eq_true rfl⟩ rfl hl.1 rfl (Nat.le_of_ble_eq_true rfl) dL_value_5 ⟨Nat.le_of_ble_eq_true rfl, Nat.le_of_ble_eq_true rfl⟩) hG (fun E ce q9 H locs hxE hG hce hcv hcl => ?_) (fun r_5 u_5 H locs hr_5 hG => ?_)
  · obtain ⟨rfl, hx9⟩ := hxE
    refine sl_catch1 hC ht (by decide) (by decide) lk_RL_29 sl_cw2 hce hcv hcl ?_
    refine W.eq (g2 := F0 m 13 ls [.ref q9]) rfl ?_
    refine lv_astore (lv' := [(4, .ref q9), (0, .ref (α 0)), (1, .int x), (2, .int y), (3, .ref ao)]) hx hb dL_value_13 hl (by decide) rfl (fun ls hl => ?_)
    refine lv_iconst (v := 1) hx hb dL_value_15 (by decide) ?_
    exact sl_ri (v := 1) hC hr hG g (Or.inr (Or.inl ⟨rfl, hx9, rfl⟩)) rfl (Nat.le_of_ble_eq_true rfl) (Nat.le_of_ble_eq_true rfl) dL_value_16
  · have hG : sl_I Γ u_5 s H locs := hG
    obtain ⟨p1, p2, p3⟩ := hr_5
    refine lv_i2l hx hb dL_value_8 rfl ?_
    refine sl_lastN hC hG 40 ((p3 40 (by omega) (by omega)).trans h40) (j := 0) rfl (by omega) (by omega) dL_value_9 (fun H locs hG => ?_)
    have hG : sl_I Γ (sl_up u_5 40 (ao, .inl (Γ.2.1 3, 1, .inr (.inl (vp_updL fo 0 r_5.toInt64))))) s H _ := hG
    refine lv_goto (tgt := 17) hx hb dL_value_10 (by decide) ?_
    refine lv_iconst (v := 0) hx hb dL_value_17 (by decide) ?_
    exact sl_ri (v := 0) hC hr hG (sl_up u_5 40 (ao, .inl (Γ.2.1 3, 1, .inr (.inl (vp_updL fo 0 r_5.toInt64))))) (Or.inl ⟨rfl, r_5, _, u_5, ⟨p1, p2⟩, p3, rfl, sl_updL0 _ _⟩) rfl (Nat.le_of_ble_eq_true rfl) (Nat.le_of_ble_eq_true rfl) dL_value_18
set_option maxHeartbeats 4000000 in
set_option maxRecDepth 100000 in
theorem kL_valueByPointers (l : Launch) (hlt : l.stackTraces = false) (Γ : sl_G) (g : sl_W) (α : Nat → Nat) (β : Nat → Nat × Nat × Nat) (n : Nat) (ep : Int32) (tl : Nat) (lo : Bool) (T C : Nat → Int32) (E : Nat → sl_Ent) (hK : sl_Cls Γ α β n ep tl lo T C E g) (hP : ∀ t, t < n → ∀ j, j < 16 → sl_pt ((E t).2.2.2.2.2.2.1 j)) (hPP : sl_PP n C E) (ao : Nat) (fo : Nat → Int64) (h40 : g 40 = some (ao, .inl (Γ.2.1 3, 1, .inr (.inl fo)))) (x y : Int32) : Met l yL_valueByPointers [Cond.codeWith yL_valueByPointers cL_valueByPointers 5 (some .int) [(0, 10, 13, 29)]] ({ frames := 7, cells := 1, slots := 6, locals := 160 } : Room) (va_Pc [.ref (α 0), .int x, .int y, .ref ao] (sl_B Γ g)) (sl_Qi Γ (fun r w => sl_Wr Γ g ao (fun v w => (∃ j0, x = nI j0 ∧ j0 < 4 ∧ (sl_in x 0 3 && sl_in y 0 (nI (sl_kn C))) = true ∧ v = sl_vp n C E j0 120 (sl_la n C E x y.toNatClampNeg) 0) ∧ sl_Cls Γ α β n ep tl lo T C E w) ((sl_in x 0 3 && sl_in y 0 (nI (sl_kn C))) = false) (False) r w) (fun w => w)) 1 6 (sl_A Γ) := by
  refine sl_entw (by decide) (Nat.le_of_ble_eq_true rfl) ?_
  intro p e s m below meth c ls hC hr ht hG hl
  have hx := hC.1
  have hb := hC.2.1
  have hl : lv_has ls 5 [(0, .ref (α 0)), (1, .int x), (2, .int y), (3, .ref ao)] := hl
  have hS := hK.ro
  obtain ⟨h0, h1, h2, h3, h4, h5, ⟨F, X, fd, h6, h7, h8⟩, hE, hN, hn9, ht9⟩ := id hK
  refine lv_aload_n hx hb dL_valueByPointers_0 rfl (lv_at hl 3 rfl) ?_
  refine lv_iconst (v := 0) hx hb dL_valueByPointers_1 (by decide) ?_
  refine lv_aload_n hx hb dL_valueByPointers_2 rfl (lv_at hl 0 rfl) ?_
  refine lv_iload_n hx hb dL_valueByPointers_3 rfl (lv_at hl 1 rfl) ?_
  refine lv_iload_n hx hb dL_valueByPointers_4 rfl (lv_at hl 2 rfl) ?_
  refine sl_callxi (sl_runX (As := [.int x, .int y]) (rest := [.int 0, .ref ao]) hC hG (kX4_valueByPointers l hlt Γ g α β n ep tl lo T C E hK hP hPP x y) mi_X4_valueByPointers lk_RL_54 0 h0 rfl rfl rfl ⟨Nat.le_of_ble_eq_true rfl, Nat.le_of_ble_eq_true rfl⟩ rfl hl.1 rfl (Nat.le_of_ble_eq_true rfl) dL_valueByPointers_5 ⟨Nat.le_of_ble_eq_true rfl, Nat.le_of_ble_eq_true rfl⟩) hG (fun E ce q9 H locs hxE hG hce hcv hcl => ?_) (fun r_5 u_5 H locs hr_5 hG => ?_)
  · obtain ⟨rfl, hx9⟩ := hxE
    refine sl_catch1 hC ht (by decide) (by decide) lk_RL_29 sl_cw2 hce hcv hcl ?_
    refine W.eq (g2 := F0 m 13 ls [.ref q9]) rfl ?_
    refine lv_astore (lv' := [(4, .ref q9), (0, .ref (α 0)), (1, .int x), (2, .int y), (3, .ref ao)]) hx hb dL_valueByPointers_13 hl (by decide) rfl (fun ls hl => ?_)
    refine lv_iconst (v := 1) hx hb dL_valueByPointers_15 (by decide) ?_
    exact sl_ri (v := 1) hC hr hG g (Or.inr (Or.inl ⟨rfl, hx9, rfl⟩)) rfl (Nat.le_of_ble_eq_true rfl) (Nat.le_of_ble_eq_true rfl) dL_valueByPointers_16
  · have hG : sl_I Γ u_5 s H locs := hG
    obtain ⟨p1, p2, p3⟩ := hr_5
    refine lv_i2l hx hb dL_valueByPointers_8 rfl ?_
    refine sl_lastN hC hG 40 ((p3 40 (by omega) (by omega)).trans h40) (j := 0) rfl (by omega) (by omega) dL_valueByPointers_9 (fun H locs hG => ?_)
    have hG : sl_I Γ (sl_up u_5 40 (ao, .inl (Γ.2.1 3, 1, .inr (.inl (vp_updL fo 0 r_5.toInt64))))) s H _ := hG
    refine lv_goto (tgt := 17) hx hb dL_valueByPointers_10 (by decide) ?_
    refine lv_iconst (v := 0) hx hb dL_valueByPointers_17 (by decide) ?_
    exact sl_ri (v := 0) hC hr hG (sl_up u_5 40 (ao, .inl (Γ.2.1 3, 1, .inr (.inl (vp_updL fo 0 r_5.toInt64))))) (Or.inl ⟨rfl, r_5, _, u_5, ⟨p1, p2⟩, p3, rfl, sl_updL0 _ _⟩) rfl (Nat.le_of_ble_eq_true rfl) (Nat.le_of_ble_eq_true rfl) dL_valueByPointers_18
set_option maxHeartbeats 4000000 in
set_option maxRecDepth 100000 in
theorem kL_latest (l : Launch) (hlt : l.stackTraces = false) (Γ : sl_G) (g : sl_W) (α : Nat → Nat) (β : Nat → Nat × Nat × Nat) (n : Nat) (ep : Int32) (tl : Nat) (lo : Bool) (T C : Nat → Int32) (E : Nat → sl_Ent) (hK : sl_Cls Γ α β n ep tl lo T C E g) (ao : Nat) (fo : Nat → Int64) (h40 : g 40 = some (ao, .inl (Γ.2.1 3, 1, .inr (.inl fo)))) (x y : Int32) : Met l yL_latest [Cond.codeWith yL_latest cL_latest 5 (some .int) [(0, 10, 13, 29)]] ({ frames := 7, cells := 1, slots := 6, locals := 150 } : Room) (va_Pc [.ref (α 0), .int x, .int y, .ref ao] (sl_B Γ g)) (sl_Qi Γ (fun r w => sl_Wr Γ g ao (fun v w => ((sl_in x 0 3 && sl_in y 0 (nI (sl_kn C))) = true ∧ v = sl_la n C E x y.toNatClampNeg) ∧ sl_Cls Γ α β n ep tl lo T C E w) ((sl_in x 0 3 && sl_in y 0 (nI (sl_kn C))) = false) (False) r w) (fun w => w)) 1 6 (sl_A Γ) := by
  refine sl_entw (by decide) (Nat.le_of_ble_eq_true rfl) ?_
  intro p e s m below meth c ls hC hr ht hG hl
  have hx := hC.1
  have hb := hC.2.1
  have hl : lv_has ls 5 [(0, .ref (α 0)), (1, .int x), (2, .int y), (3, .ref ao)] := hl
  have hS := hK.ro
  obtain ⟨h0, h1, h2, h3, h4, h5, ⟨F, X, fd, h6, h7, h8⟩, hE, hN, hn9, ht9⟩ := id hK
  refine lv_aload_n hx hb dL_latest_0 rfl (lv_at hl 3 rfl) ?_
  refine lv_iconst (v := 0) hx hb dL_latest_1 (by decide) ?_
  refine lv_aload_n hx hb dL_latest_2 rfl (lv_at hl 0 rfl) ?_
  refine lv_iload_n hx hb dL_latest_3 rfl (lv_at hl 1 rfl) ?_
  refine lv_iload_n hx hb dL_latest_4 rfl (lv_at hl 2 rfl) ?_
  refine sl_callxi (sl_runX (As := [.int x, .int y]) (rest := [.int 0, .ref ao]) hC hG (kX4_latest l hlt Γ g α β n ep tl lo T C E hK x y) mi_X4_latest lk_RL_57 0 h0 rfl rfl rfl ⟨Nat.le_of_ble_eq_true rfl, Nat.le_of_ble_eq_true rfl⟩ rfl hl.1 rfl (Nat.le_of_ble_eq_true rfl) dL_latest_5 ⟨Nat.le_of_ble_eq_true rfl, Nat.le_of_ble_eq_true rfl⟩) hG (fun E ce q9 H locs hxE hG hce hcv hcl => ?_) (fun r_5 u_5 H locs hr_5 hG => ?_)
  · obtain ⟨rfl, hx9⟩ := hxE
    refine sl_catch1 hC ht (by decide) (by decide) lk_RL_29 sl_cw2 hce hcv hcl ?_
    refine W.eq (g2 := F0 m 13 ls [.ref q9]) rfl ?_
    refine lv_astore (lv' := [(4, .ref q9), (0, .ref (α 0)), (1, .int x), (2, .int y), (3, .ref ao)]) hx hb dL_latest_13 hl (by decide) rfl (fun ls hl => ?_)
    refine lv_iconst (v := 1) hx hb dL_latest_15 (by decide) ?_
    exact sl_ri (v := 1) hC hr hG g (Or.inr (Or.inl ⟨rfl, hx9, rfl⟩)) rfl (Nat.le_of_ble_eq_true rfl) (Nat.le_of_ble_eq_true rfl) dL_latest_16
  · have hG : sl_I Γ g s H locs := hG
    have p1 := hr_5
    refine lv_i2l hx hb dL_latest_8 rfl ?_
    refine sl_lastN hC hG 40 h40 (j := 0) rfl (by omega) (by omega) dL_latest_9 (fun H locs hG => ?_)
    have hG : sl_I Γ (sl_up g 40 (ao, .inl (Γ.2.1 3, 1, .inr (.inl (vp_updL fo 0 r_5.toInt64))))) s H _ := hG
    refine lv_goto (tgt := 17) hx hb dL_latest_10 (by decide) ?_
    refine lv_iconst (v := 0) hx hb dL_latest_17 (by decide) ?_
    exact sl_ri (v := 0) hC hr hG (sl_up g 40 (ao, .inl (Γ.2.1 3, 1, .inr (.inl (vp_updL fo 0 r_5.toInt64))))) (Or.inl ⟨rfl, r_5, _, g, ⟨p1, hK⟩, (sl_fr.rf g), rfl, sl_updL0 _ _⟩) rfl (Nat.le_of_ble_eq_true rfl) (Nat.le_of_ble_eq_true rfl) dL_latest_18
