/-! the law, case by case -/
theorem sl_cmp0 (x : Int64) : lg_cmp x x = 0 := by
  rw [lg_cmp, if_neg (fun h => Int64.lt_irrefl h), if_pos rfl]
theorem sl_LT_same {Γ : sl_G} {α μ : Nat → Nat} {β : Nat → Nat × Nat × Nat} {n e : Nat} {ep : Int32} {tl : Nat} {lo : Bool} {T C : Nat → Int32} {E : Nat → sl_Ent} {g : sl_W} (hK : sl_Cls Γ α β n ep tl lo T C E g) (hJ : sl_J n e ep tl T C E) {ao : Nat} {fo : Nat → Int64} (h40 : g 40 = some (ao, .inl (Γ.2.1 3, 1, .inr (.inl fo)))) {th2 : Int32} {w2 : sl_W} (hM : sl_Mdl Γ μ n ep tl lo T C E th2 w2) (hfm : sl_fm g w2) : sl_LT Γ α μ ao e th2 fo w2 :=
  ⟨β, n, ep, tl, lo, T, C, E, hK.cg (fun k hk => hfm k (by omega)), hM, hJ, (hfm 40 (by omega)).trans h40⟩
theorem sl_ad_epoch {Γ : sl_G} {α μ : Nat → Nat} {β : Nat → Nat × Nat × Nat} {n e : Nat} {ep : Int32} {tl : Nat} {lo : Bool} {T C : Nat → Int32} {E : Nat → sl_Ent} {g : sl_W} (hK : sl_Cls Γ α β n ep tl lo T C E g) (hJ : sl_J n e ep tl T C E) {ao : Nat} {fo : Nat → Int64} (h40 : g 40 = some (ao, .inl (Γ.2.1 3, 1, .inr (.inl fo)))) {r' : Int32} {w2 : sl_W} (hm : (fun r g' => r = (ep) ∧ sl_Mdl Γ μ n ep tl lo T C E 0 g' ∧ sl_fm g g') r' w2) : sl_LT Γ α μ ao e 0 fo w2 := sl_LT_same hK hJ h40 hm.2.1 hm.2.2
theorem sl_ad_tail {Γ : sl_G} {α μ : Nat → Nat} {β : Nat → Nat × Nat × Nat} {n e : Nat} {ep : Int32} {tl : Nat} {lo : Bool} {T C : Nat → Int32} {E : Nat → sl_Ent} {g : sl_W} (hK : sl_Cls Γ α β n ep tl lo T C E g) (hJ : sl_J n e ep tl T C E) {ao : Nat} {fo : Nat → Int64} (h40 : g 40 = some (ao, .inl (Γ.2.1 3, 1, .inr (.inl fo)))) {r' : Int32} {w2 : sl_W} (hm : (fun r g' => r = (if lo = true then -1 else nI tl) ∧ sl_Mdl Γ μ n ep tl lo T C E 0 g' ∧ sl_fm g g') r' w2) : sl_LT Γ α μ ao e 0 fo w2 := sl_LT_same hK hJ h40 hm.2.1 hm.2.2
theorem sl_ad_tokens {Γ : sl_G} {α μ : Nat → Nat} {β : Nat → Nat × Nat × Nat} {n e : Nat} {ep : Int32} {tl : Nat} {lo : Bool} {T C : Nat → Int32} {E : Nat → sl_Ent} {g : sl_W} (hK : sl_Cls Γ α β n ep tl lo T C E g) (hJ : sl_J n e ep tl T C E) {ao : Nat} {fo : Nat → Int64} (h40 : g 40 = some (ao, .inl (Γ.2.1 3, 1, .inr (.inl fo)))) {r' : Int32} {w2 : sl_W} (hm : (fun r g' => r = (nI n) ∧ sl_Mdl Γ μ n ep tl lo T C E 0 g' ∧ sl_fm g g') r' w2) : sl_LT Γ α μ ao e 0 fo w2 := sl_LT_same hK hJ h40 hm.2.1 hm.2.2
theorem sl_ad_known {Γ : sl_G} {α μ : Nat → Nat} {β : Nat → Nat × Nat × Nat} {n e : Nat} {ep : Int32} {tl : Nat} {lo : Bool} {T C : Nat → Int32} {E : Nat → sl_Ent} {g : sl_W} (hK : sl_Cls Γ α β n ep tl lo T C E g) (hJ : sl_J n e ep tl T C E) {ao : Nat} {fo : Nat → Int64} (h40 : g 40 = some (ao, .inl (Γ.2.1 3, 1, .inr (.inl fo)))) {r' : Int32} {w2 : sl_W} (hm : (fun r g' => r = (nI (sl_kn C)) ∧ sl_Mdl Γ μ n ep tl lo T C E 0 g' ∧ sl_fm g g') r' w2) : sl_LT Γ α μ ao e 0 fo w2 := sl_LT_same hK hJ h40 hm.2.1 hm.2.2
theorem sl_ad_seal {Γ : sl_G} {α μ : Nat → Nat} {β : Nat → Nat × Nat × Nat} {n e : Nat} {ep : Int32} {tl : Nat} {lo : Bool} {T C : Nat → Int32} {E : Nat → sl_Ent} {g : sl_W} (hK : sl_Cls Γ α β n ep tl lo T C E g) (hJ : sl_J n e ep tl T C E) (hw : sl_wf n tl C E) {ao : Nat} {fo : Nat → Int64} (h40 : g 40 = some (ao, .inl (Γ.2.1 3, 1, .inr (.inl fo)))) (he : e < 100000) {r r' : Int32} {w w2 : sl_W} (hr : (fun r g' => r = nI (sl_ef C 120) ∧ sl_Cls Γ α β n (ep + 1) (sl_ef C 120) false (sl_sT n C E (sl_ef C 120)) C E g' ∧ sl_fr g g') r w) (hm : (fun r w' => r = nI (sl_ef C 120) ∧ sl_Mdl Γ μ n (ep + 1) (sl_ef C 120) false (sl_sT n C E 120) C E 0 w' ∧ sl_fm w w') r' w2) : sl_LT Γ α μ ao (e + 1) 0 fo w2 := by
  obtain ⟨-, hK9, hfr⟩ := hr
  obtain ⟨-, hM9, hfm⟩ := hm
  rw [sl_sT_120] at hM9
  exact ⟨β, n, _, _, _, _, _, _, hK9.cg (fun k hk => hfm k (by omega)), hM9, hJ.seal hw he, (hfm 40 (by omega)).trans ((hfr 40 (by omega) (by omega)).trans h40)⟩
theorem sl_ab_fill {Γ : sl_G} {α μ : Nat → Nat} {β : Nat → Nat × Nat × Nat} {n e : Nat} {ep : Int32} {tl : Nat} {lo : Bool} {T C : Nat → Int32} {E : Nat → sl_Ent} {g : sl_W} (hK : sl_Cls Γ α β n ep tl lo T C E g) (hJ : sl_J n e ep tl T C E) (hw : sl_wf n tl C E) {ao : Nat} {x : Int32} {r r' : Int32} {w w2 : sl_W} (hr : sl_Wr Γ g ao (fun v w => ∃ b, x = nI b ∧ b < 120 ∧ lo = false ∧ b < tl ∧ sl_wh C b = false ∧ v = sl_bi (sl_tok n (C b)).isSome ∧ sl_Cls Γ α β n ep tl lo T (sl_cf C b (if (sl_tok n (C b)).isSome = true then C b else -1)) E w) (sl_in x 0 119 = false) (∃ b, x = nI b ∧ b < 120 ∧ (lo = true ∨ tl ≤ b ∨ sl_wh C b = true)) r w) (hm : (fun r w' => ((∃ b, x = nI b ∧ b < 120 ∧ lo = false ∧ b < tl ∧ sl_wh C b = false ∧ r = sl_bi (sl_tok n (C b)).isSome ∧ sl_Mdl Γ μ n ep tl lo T (sl_mf C b (if (sl_tok n (C b)).isSome = true then C b else -1)) E 0 w') ∨ (∃ b, x = nI b ∧ b < 120 ∧ (lo = true ∨ tl ≤ b ∨ sl_wh C b = true) ∧ sl_Mdl Γ μ n ep tl lo T C E 2 w') ∨ (sl_in x 0 119 = false ∧ sl_Mdl Γ μ n ep tl lo T C E 1 w')) ∧ sl_fm w w') r' w2) : r = 0 → ∃ b9, r' = sl_bi b9 := by
  intro h0
  obtain ⟨hm, hfm⟩ := hm
  rcases hr with ⟨rfl, v, f, u, hP, hfr, rfl, hf⟩ | ⟨rfl, hA, rfl⟩ | ⟨rfl, hA, rfl⟩
  · obtain ⟨b, q1, q2, q3, q4, q5, q6, hK9⟩ := hP
    rcases hm with ⟨b2, j1, j2, j3, j4, j5, j6, m⟩ | ⟨b2, j1, j2, j3, m⟩ | ⟨k1, m⟩
    · exact ⟨_, j6⟩
    · have eb : b2 = b := sl_nIne (a := b2) (b := b) (by omega) (by omega) (j1.symm.trans q1)
      subst eb
      exact sl_or3 q3 q4 q5 j3
    · exact sl_in_119 q1 q2 k1
  · exact absurd h0 (by decide)
  · exact absurd h0 (by decide)
theorem sl_ab_takesEffect {Γ : sl_G} {α μ : Nat → Nat} {β : Nat → Nat × Nat × Nat} {n e : Nat} {ep : Int32} {tl : Nat} {lo : Bool} {T C : Nat → Int32} {E : Nat → sl_Ent} {g : sl_W} (hK : sl_Cls Γ α β n ep tl lo T C E g) (hJ : sl_J n e ep tl T C E) (hw : sl_wf n tl C E) {ao : Nat} {x : Int32} {r r' : Int32} {w w2 : sl_W} (hr : sl_Wr Γ g ao (fun v w => (∃ b, x = nI b ∧ b < sl_kn C ∧ v = sl_bi (sl_ev n C E b)) ∧ sl_Cls Γ α β n ep tl lo T C E w) (¬ (0 ≤ x.toInt ∧ x.toInt < sl_kn C)) (False) r w) (hm : (fun r w' => ((∃ b, x = nI b ∧ b < sl_kn C ∧ r = sl_bi (sl_ev n C E b)) ∧ sl_Mdl Γ μ n ep tl lo T C E 0 w' ∨ ¬ (0 ≤ x.toInt ∧ x.toInt < sl_kn C) ∧ sl_Mdl Γ μ n ep tl lo T C E 1 w') ∧ sl_fm w w') r' w2) : r = 0 → ∃ b9, r' = sl_bi b9 := by
  intro h0
  obtain ⟨hm, hfm⟩ := hm
  rcases hr with ⟨rfl, v, f, u, hP, hfr, rfl, hf⟩ | ⟨rfl, hA, rfl⟩ | ⟨rfl, hA, rfl⟩
  · have hkn := sl_kn_le C
    obtain ⟨⟨b, q1, q2, q3⟩, hK9⟩ := hP
    rcases hm with ⟨⟨b2, j1, j2, j3⟩, m⟩ | ⟨k1, m⟩
    · exact ⟨_, j3⟩
    · exact absurd ⟨by rw [q1, nI_toInt (by omega)]; omega, by rw [q1, nI_toInt (by omega)]; omega⟩ k1
  · exact absurd h0 (by decide)
  · exact hA.elim
theorem sl_b1 {r : Int32} {x : Int64} (h : x = r.toInt64) (hb : ∃ b, r = sl_bi b) (h2 : ¬ r = 0) : x = 1 := by
  obtain ⟨b, hb⟩ := hb
  rw [h, ← sl_r1 hb h2]
theorem sl_b0z {r : Int32} {x : Int64} (h : x = r.toInt64) (h2 : r = 0) : x = 0 := by rw [h, h2]; rfl
set_option maxHeartbeats 4000000 in
set_option maxRecDepth 100000 in
theorem sl_seg_take {p : Program} {l : Launch} {e : Env} {s : State} {m : MethodId} {below : List Frame} {meth : Method} {c : Code} {H : Heap} {locs : List Loc} {cells slots : Nat} {Q : State → Prop} {Γ : sl_G} {α μ : Nat → Nat} {ao bb L e0 i : Nat} {xs : Nat → Int32} {g : sl_W} {th0 : Int32} {f0 : Nat → Int64} {ls : Array Slot} (hlt : l.stackTraces = false) (hC : sl_C Γ p s m meth c cL_law 7 RL) (hz : ¬ sl_A Γ bb) (hX : va_X bb L xs s s.heap) (hbl : bb < s.heap.size) (hL : L ≤ 2560) (hi : i + 5 ≤ L) (hG : sl_I Γ g s H locs) (hI : sl_LT Γ α μ ao e0 th0 f0 g) (he : e0 < 100000) (hcs : cells + 4 ≤ 601024) (hss : slots + 40 ≤ 7293034) (hl : lv_has ls 7 [(4, .int (nI i)), (3, .ref ao), (2, .ref (μ 0)), (1, .ref (α 0)), (0, .ref bb)]) (kk : ∀ (e1 : Nat) (th1 : Int32) (f1 : Nat → Int64) (g1 : sl_W) (H1 : Heap) (locs1 : List Loc) (ls1 : Array Slot) (k1 n1 : Nat), e1 ≤ e0 + 1 → sl_LT Γ α μ ao e1 th1 f1 g1 → sl_I Γ g1 s H1 locs1 → lv_has ls1 7 [(4, .int (nI i)), (3, .ref ao), (2, .ref (μ 0)), (1, .ref (α 0)), (0, .ref bb)] → k1 ≤ cells + 4 → n1 ≤ slots + 40 → W p l e room_1 s m #[.ref bb] below meth c H1 locs1 k1 n1 Q (F0 m 1039 ls1 [])) : W p l e room_1 s m #[.ref bb] below meth c H locs cells slots Q (F0 m 124 ls []) := by
  have hx := hC.1
  have hb := hC.2.1
  obtain ⟨β, n, ep, tl, lo, T, C, E, hK, hM, hJ, h40⟩ := id hI
  have hw := sl_Mdl.wf hM
  refine lv_aload_n hx hb dL_law_124 rfl (lv_at hl 3 rfl) ?_
  refine lv_aload_n hx hb dL_law_125 rfl (lv_at hl 4 rfl) ?_
  refine lv_iload hx hb dL_law_126 (lv_at hl 0 rfl) ?_
  refine lv_iconst (v := 1) hx hb dL_law_128 (by decide) ?_
  refine lv_iadd hx hb dL_law_129 ?_
  refine sl_topi (y := nI (i + 1)) (nI_add i 1) ?_
  refine va_sld hx hb hX hbl hz hG.2 (i := nI (i + 1)) (vp_in_nI (by omega) (by omega)) dL_law_130 ?_
  refine sl_topi (y := xs (i + 1)) (by rw [nI_clamp (by omega)]) ?_
  refine lv_aload_n hx hb dL_law_131 rfl (lv_at hl 4 rfl) ?_
  refine lv_iload hx hb dL_law_132 (lv_at hl 0 rfl) ?_
  refine lv_iconst (v := 2) hx hb dL_law_134 (by decide) ?_
  refine lv_iadd hx hb dL_law_135 ?_
  refine sl_topi (y := nI (i + 2)) (nI_add i 2) ?_
  refine va_sld hx hb hX hbl hz hG.2 (i := nI (i + 2)) (vp_in_nI (by omega) (by omega)) dL_law_136 ?_
  refine sl_topi (y := xs (i + 2)) (by rw [nI_clamp (by omega)]) ?_
  refine lv_aload_n hx hb dL_law_137 rfl (lv_at hl 1 rfl) ?_
  refine sl_calli (sl_runSW (As := [.ref (α 0), .int (xs (i + 1)), .int (xs (i + 2)), .ref ao]) (rest := []) hC hG (kL_take l hlt Γ g α β n ep tl lo T C E hK ao f0 h40 (xs (i + 1)) (xs (i + 2))) mi_L_take lk_RL_64 rfl rfl ⟨Nat.le_of_ble_eq_true rfl, Nat.le_of_ble_eq_true rfl⟩ rfl hl.1 rfl (Nat.le_of_ble_eq_true rfl) dL_law_138 ⟨(by show _ + _ ≤ 601024; omega), (by show _ + _ ≤ 7293034; omega)⟩) hG (fun r_138 u_138 H locs hr_138 hG => ?_)
  have hG : sl_I Γ u_138 s H locs := hG
  have hM2 := hM.cg (sl_Wr.md hr_138)
  refine lv_istore (lv' := [(5, .int r_138), (4, .int (nI i)), (3, .ref ao), (2, .ref (μ 0)), (1, .ref (α 0)), (0, .ref bb)]) hx hb dL_law_141 hl (by decide) rfl (fun ls hl => ?_)
  refine lv_aload_n hx hb dL_law_143 rfl (lv_at hl 3 rfl) ?_
  refine lv_aload_n hx hb dL_law_144 rfl (lv_at hl 5 rfl) ?_
  refine lv_iload hx hb dL_law_145 (lv_at hl 1 rfl) ?_
  refine lv_iconst (v := 1) hx hb dL_law_147 (by decide) ?_
  refine lv_iadd hx hb dL_law_148 ?_
  refine sl_topi (y := nI (i + 1)) (nI_add i 1) ?_
  refine va_sld hx hb hX hbl hz hG.2 (i := nI (i + 1)) (vp_in_nI (by omega) (by omega)) dL_law_149 ?_
  refine sl_topi (y := xs (i + 1)) (by rw [nI_clamp (by omega)]) ?_
  refine lv_aload_n hx hb dL_law_150 rfl (lv_at hl 5 rfl) ?_
  refine lv_iload hx hb dL_law_151 (lv_at hl 1 rfl) ?_
  refine lv_iconst (v := 2) hx hb dL_law_153 (by decide) ?_
  refine lv_iadd hx hb dL_law_154 ?_
  refine sl_topi (y := nI (i + 2)) (nI_add i 2) ?_
  refine va_sld hx hb hX hbl hz hG.2 (i := nI (i + 2)) (vp_in_nI (by omega) (by omega)) dL_law_155 ?_
  refine sl_topi (y := xs (i + 2)) (by rw [nI_clamp (by omega)]) ?_
  refine sl_calli (sl_runV (As := [.int (xs (i + 1)), .int (xs (i + 2))]) (rest := []) hC hG (kX5_take l Γ u_138 μ n ep tl lo T C E th0 hM2 (xs (i + 1)) (xs (i + 2))) mi_X5_take lk_RL_69 20 hM2.1 rfl rfl rfl ⟨Nat.le_of_ble_eq_true rfl, Nat.le_of_ble_eq_true rfl⟩ rfl hl.1 rfl (Nat.le_of_ble_eq_true rfl) dL_law_156 ⟨(by show _ + _ ≤ 601024; omega), (by show _ + _ ≤ 7293034; omega)⟩) hG (fun r_156 u_156 H locs hr_156 hG => ?_)
  have hG : sl_I Γ u_156 s H locs := hG
  obtain ⟨th9, f9, hT9, hrr, hf9⟩ := sl_ag_take hK hJ hw h40 hr_138 hr_156
  subst hrr
  obtain ⟨β9, n9, ep9, tl9, lo9, T9, C9, E9, hK9, hM9, hJ9, h49⟩ := id hT9
  refine lv_istore (lv' := [(6, .int r_156), (5, .int r_138), (4, .int (nI i)), (3, .ref ao), (2, .ref (μ 0)), (1, .ref (α 0)), (0, .ref bb)]) hx hb dL_law_159 hl (by decide) rfl (fun ls hl => ?_)
  refine lv_aload_n hx hb dL_law_161 rfl (lv_at hl 4 rfl) ?_
  refine sl_calli (sl_runV (As := []) (rest := []) hC hG (kX5_thrown l Γ u_156 μ n9 ep9 tl9 lo9 T9 C9 E9 r_138 hM9) mi_X5_thrown lk_RL_70 20 hM9.1 rfl rfl rfl ⟨Nat.le_of_ble_eq_true rfl, Nat.le_of_ble_eq_true rfl⟩ rfl hl.1 rfl (Nat.le_of_ble_eq_true rfl) dL_law_162 ⟨(by show _ + _ ≤ 601024; omega), (by show _ + _ ≤ 7293034; omega)⟩) hG (fun r_162 u_162 H locs hr_162 hG => ?_)
  refine sl_topi (y := r_138) hr_162 ?_
  refine lv_iload hx hb dL_law_165 (lv_at hl 1 rfl) ?_
  refine lv_icmp_eq (tgt := 172) hx hb dL_law_167 (by decide) (fun c_167 => ?_) (fun c_167 => ?_)
  · refine lv_iload hx hb dL_law_172 (lv_at hl 1 rfl) ?_
    refine lv_if_ne (tgt := 189) hx hb dL_law_174 (by decide) (fun c_174 => ?_) (fun c_174 => ?_)
    · refine lv_goto (tgt := 1039) hx hb dL_law_189 (by decide) ?_
      exact kk (e0) _ _ _ _ _ _ _ _ (by omega) hT9 hG (lv_sub hl [2, 3, 4, 5, 6] rfl) (by omega) (by omega)
    · refine lv_aload_n hx hb dL_law_177 rfl (lv_at hl 3 rfl) ?_
      refine lv_iconst (v := 0) hx hb dL_law_178 (by decide) ?_
      refine sl_laldN hC hG 40 h49 (j := 0) rfl (by omega) (by omega) dL_law_179 ?_
      refine lv_iload hx hb dL_law_180 (lv_at hl 0 rfl) ?_
      refine lv_i2l hx hb dL_law_182 rfl ?_
      refine W.lcmp hx hb dL_law_183 ?_
      refine sl_topi (y := 0) (by rw [hf9 c_174]; exact sl_cmp0 _) ?_
      refine lv_if_eq (tgt := 189) hx hb dL_law_184 (by decide) (fun c_184 => ?_) (fun c_184 => ?_)
      · refine lv_goto (tgt := 1039) hx hb dL_law_189 (by decide) ?_
        exact kk (e0) _ _ _ _ _ _ _ _ (by omega) hT9 hG (lv_sub hl [2, 3, 4, 5, 6] rfl) (by omega) (by omega)
      · exact absurd c_184 (by decide)
  · exact absurd rfl c_167
set_option maxHeartbeats 4000000 in
set_option maxRecDepth 100000 in
theorem sl_seg_takeIf {p : Program} {l : Launch} {e : Env} {s : State} {m : MethodId} {below : List Frame} {meth : Method} {c : Code} {H : Heap} {locs : List Loc} {cells slots : Nat} {Q : State → Prop} {Γ : sl_G} {α μ : Nat → Nat} {ao bb L e0 i : Nat} {xs : Nat → Int32} {g : sl_W} {th0 : Int32} {f0 : Nat → Int64} {ls : Array Slot} (hlt : l.stackTraces = false) (hC : sl_C Γ p s m meth c cL_law 7 RL) (hz : ¬ sl_A Γ bb) (hX : va_X bb L xs s s.heap) (hbl : bb < s.heap.size) (hL : L ≤ 2560) (hi : i + 5 ≤ L) (hG : sl_I Γ g s H locs) (hI : sl_LT Γ α μ ao e0 th0 f0 g) (he : e0 < 100000) (hcs : cells + 4 ≤ 601024) (hss : slots + 40 ≤ 7293034) (hl : lv_has ls 7 [(4, .int (nI i)), (3, .ref ao), (2, .ref (μ 0)), (1, .ref (α 0)), (0, .ref bb)]) (kk : ∀ (e1 : Nat) (th1 : Int32) (f1 : Nat → Int64) (g1 : sl_W) (H1 : Heap) (locs1 : List Loc) (ls1 : Array Slot) (k1 n1 : Nat), e1 ≤ e0 + 1 → sl_LT Γ α μ ao e1 th1 f1 g1 → sl_I Γ g1 s H1 locs1 → lv_has ls1 7 [(4, .int (nI i)), (3, .ref ao), (2, .ref (μ 0)), (1, .ref (α 0)), (0, .ref bb)] → k1 ≤ cells + 4 → n1 ≤ slots + 40 → W p l e room_1 s m #[.ref bb] below meth c H1 locs1 k1 n1 Q (F0 m 1039 ls1 [])) : W p l e room_1 s m #[.ref bb] below meth c H locs cells slots Q (F0 m 192 ls []) := by
  have hx := hC.1
  have hb := hC.2.1
  obtain ⟨β, n, ep, tl, lo, T, C, E, hK, hM, hJ, h40⟩ := id hI
  have hw := sl_Mdl.wf hM
  refine lv_aload_n hx hb dL_law_192 rfl (lv_at hl 3 rfl) ?_
  refine lv_aload_n hx hb dL_law_193 rfl (lv_at hl 4 rfl) ?_
  refine lv_iload hx hb dL_law_194 (lv_at hl 0 rfl) ?_
  refine lv_iconst (v := 1) hx hb dL_law_196 (by decide) ?_
  refine lv_iadd hx hb dL_law_197 ?_
  refine sl_topi (y := nI (i + 1)) (nI_add i 1) ?_
  refine va_sld hx hb hX hbl hz hG.2 (i := nI (i + 1)) (vp_in_nI (by omega) (by omega)) dL_law_198 ?_
  refine sl_topi (y := xs (i + 1)) (by rw [nI_clamp (by omega)]) ?_
  refine lv_aload_n hx hb dL_law_199 rfl (lv_at hl 4 rfl) ?_
  refine lv_iload hx hb dL_law_200 (lv_at hl 0 rfl) ?_
  refine lv_iconst (v := 2) hx hb dL_law_202 (by decide) ?_
  refine lv_iadd hx hb dL_law_203 ?_
  refine sl_topi (y := nI (i + 2)) (nI_add i 2) ?_
  refine va_sld hx hb hX hbl hz hG.2 (i := nI (i + 2)) (vp_in_nI (by omega) (by omega)) dL_law_204 ?_
  refine sl_topi (y := xs (i + 2)) (by rw [nI_clamp (by omega)]) ?_
  refine lv_aload_n hx hb dL_law_205 rfl (lv_at hl 4 rfl) ?_
  refine lv_iload hx hb dL_law_206 (lv_at hl 0 rfl) ?_
  refine lv_iconst (v := 3) hx hb dL_law_208 (by decide) ?_
  refine lv_iadd hx hb dL_law_209 ?_
  refine sl_topi (y := nI (i + 3)) (nI_add i 3) ?_
  refine va_sld hx hb hX hbl hz hG.2 (i := nI (i + 3)) (vp_in_nI (by omega) (by omega)) dL_law_210 ?_
  refine sl_topi (y := xs (i + 3)) (by rw [nI_clamp (by omega)]) ?_
  refine lv_aload_n hx hb dL_law_211 rfl (lv_at hl 4 rfl) ?_
  refine lv_iload hx hb dL_law_212 (lv_at hl 0 rfl) ?_
  refine lv_iconst (v := 4) hx hb dL_law_214 (by decide) ?_
  refine lv_iadd hx hb dL_law_215 ?_
  refine sl_topi (y := nI (i + 4)) (nI_add i 4) ?_
  refine va_sld hx hb hX hbl hz hG.2 (i := nI (i + 4)) (vp_in_nI (by omega) (by omega)) dL_law_216 ?_
  refine sl_topi (y := xs (i + 4)) (by rw [nI_clamp (by omega)]) ?_
  refine lv_aload_n hx hb dL_law_217 rfl (lv_at hl 1 rfl) ?_
  refine sl_calli (sl_runSW (As := [.ref (α 0), .int (xs (i + 1)), .int (xs (i + 2)), .int (xs (i + 3)), .int (xs (i + 4)), .ref ao]) (rest := []) hC hG (kL_takeIf l hlt Γ g α β n ep tl lo T C E hK ao f0 h40 (xs (i + 1)) (xs (i + 2)) (xs (i + 3)) (xs (i + 4))) mi_L_takeIf lk_RL_73 rfl rfl ⟨Nat.le_of_ble_eq_true rfl, Nat.le_of_ble_eq_true rfl⟩ rfl hl.1 rfl (Nat.le_of_ble_eq_true rfl) dL_law_218 ⟨(by show _ + _ ≤ 601024; omega), (by show _ + _ ≤ 7293034; omega)⟩) hG (fun r_218 u_218 H locs hr_218 hG => ?_)
  have hG : sl_I Γ u_218 s H locs := hG
  have hM2 := hM.cg (sl_Wr.md hr_218)
  refine lv_istore (lv' := [(5, .int r_218), (4, .int (nI i)), (3, .ref ao), (2, .ref (μ 0)), (1, .ref (α 0)), (0, .ref bb)]) hx hb dL_law_221 hl (by decide) rfl (fun ls hl => ?_)
  refine lv_aload_n hx hb dL_law_223 rfl (lv_at hl 3 rfl) ?_
  refine lv_aload_n hx hb dL_law_224 rfl (lv_at hl 5 rfl) ?_
  refine lv_iload hx hb dL_law_225 (lv_at hl 1 rfl) ?_
  refine lv_iconst (v := 1) hx hb dL_law_227 (by decide) ?_
  refine lv_iadd hx hb dL_law_228 ?_
  refine sl_topi (y := nI (i + 1)) (nI_add i 1) ?_
  refine va_sld hx hb hX hbl hz hG.2 (i := nI (i + 1)) (vp_in_nI (by omega) (by omega)) dL_law_229 ?_
  refine sl_topi (y := xs (i + 1)) (by rw [nI_clamp (by omega)]) ?_
  refine lv_aload_n hx hb dL_law_230 rfl (lv_at hl 5 rfl) ?_
  refine lv_iload hx hb dL_law_231 (lv_at hl 1 rfl) ?_
  refine lv_iconst (v := 2) hx hb dL_law_233 (by decide) ?_
  refine lv_iadd hx hb dL_law_234 ?_
  refine sl_topi (y := nI (i + 2)) (nI_add i 2) ?_
  refine va_sld hx hb hX hbl hz hG.2 (i := nI (i + 2)) (vp_in_nI (by omega) (by omega)) dL_law_235 ?_
  refine sl_topi (y := xs (i + 2)) (by rw [nI_clamp (by omega)]) ?_
  refine lv_aload_n hx hb dL_law_236 rfl (lv_at hl 5 rfl) ?_
  refine lv_iload hx hb dL_law_237 (lv_at hl 1 rfl) ?_
  refine lv_iconst (v := 3) hx hb dL_law_239 (by decide) ?_
  refine lv_iadd hx hb dL_law_240 ?_
  refine sl_topi (y := nI (i + 3)) (nI_add i 3) ?_
  refine va_sld hx hb hX hbl hz hG.2 (i := nI (i + 3)) (vp_in_nI (by omega) (by omega)) dL_law_241 ?_
  refine sl_topi (y := xs (i + 3)) (by rw [nI_clamp (by omega)]) ?_
  refine lv_aload_n hx hb dL_law_242 rfl (lv_at hl 5 rfl) ?_
  refine lv_iload hx hb dL_law_243 (lv_at hl 1 rfl) ?_
  refine lv_iconst (v := 4) hx hb dL_law_245 (by decide) ?_
  refine lv_iadd hx hb dL_law_246 ?_
  refine sl_topi (y := nI (i + 4)) (nI_add i 4) ?_
  refine va_sld hx hb hX hbl hz hG.2 (i := nI (i + 4)) (vp_in_nI (by omega) (by omega)) dL_law_247 ?_
  refine sl_topi (y := xs (i + 4)) (by rw [nI_clamp (by omega)]) ?_
  refine sl_calli (sl_runV (As := [.int (xs (i + 1)), .int (xs (i + 2)), .int (xs (i + 3)), .int (xs (i + 4))]) (rest := []) hC hG (kX5_takeIf l Γ u_218 μ n ep tl lo T C E th0 hM2 (xs (i + 1)) (xs (i + 2)) (xs (i + 3)) (xs (i + 4))) mi_X5_takeIf lk_RL_76 20 hM2.1 rfl rfl rfl ⟨Nat.le_of_ble_eq_true rfl, Nat.le_of_ble_eq_true rfl⟩ rfl hl.1 rfl (Nat.le_of_ble_eq_true rfl) dL_law_248 ⟨(by show _ + _ ≤ 601024; omega), (by show _ + _ ≤ 7293034; omega)⟩) hG (fun r_248 u_248 H locs hr_248 hG => ?_)
  have hG : sl_I Γ u_248 s H locs := hG
  obtain ⟨th9, f9, hT9, hrr, hf9⟩ := sl_ag_takeIf hK hJ hw h40 hr_218 hr_248
  subst hrr
  obtain ⟨β9, n9, ep9, tl9, lo9, T9, C9, E9, hK9, hM9, hJ9, h49⟩ := id hT9
  refine lv_istore (lv' := [(6, .int r_248), (5, .int r_218), (4, .int (nI i)), (3, .ref ao), (2, .ref (μ 0)), (1, .ref (α 0)), (0, .ref bb)]) hx hb dL_law_251 hl (by decide) rfl (fun ls hl => ?_)
  refine lv_aload_n hx hb dL_law_253 rfl (lv_at hl 4 rfl) ?_
  refine sl_calli (sl_runV (As := []) (rest := []) hC hG (kX5_thrown l Γ u_248 μ n9 ep9 tl9 lo9 T9 C9 E9 r_218 hM9) mi_X5_thrown lk_RL_70 20 hM9.1 rfl rfl rfl ⟨Nat.le_of_ble_eq_true rfl, Nat.le_of_ble_eq_true rfl⟩ rfl hl.1 rfl (Nat.le_of_ble_eq_true rfl) dL_law_254 ⟨(by show _ + _ ≤ 601024; omega), (by show _ + _ ≤ 7293034; omega)⟩) hG (fun r_254 u_254 H locs hr_254 hG => ?_)
  refine sl_topi (y := r_218) hr_254 ?_
  refine lv_iload hx hb dL_law_257 (lv_at hl 1 rfl) ?_
  refine lv_icmp_eq (tgt := 264) hx hb dL_law_259 (by decide) (fun c_259 => ?_) (fun c_259 => ?_)
  · refine lv_iload hx hb dL_law_264 (lv_at hl 1 rfl) ?_
    refine lv_if_ne (tgt := 281) hx hb dL_law_266 (by decide) (fun c_266 => ?_) (fun c_266 => ?_)
    · refine lv_goto (tgt := 1039) hx hb dL_law_281 (by decide) ?_
      exact kk (e0) _ _ _ _ _ _ _ _ (by omega) hT9 hG (lv_sub hl [2, 3, 4, 5, 6] rfl) (by omega) (by omega)
    · refine lv_aload_n hx hb dL_law_269 rfl (lv_at hl 3 rfl) ?_
      refine lv_iconst (v := 0) hx hb dL_law_270 (by decide) ?_
      refine sl_laldN hC hG 40 h49 (j := 0) rfl (by omega) (by omega) dL_law_271 ?_
      refine lv_iload hx hb dL_law_272 (lv_at hl 0 rfl) ?_
      refine lv_i2l hx hb dL_law_274 rfl ?_
      refine W.lcmp hx hb dL_law_275 ?_
      refine sl_topi (y := 0) (by rw [hf9 c_266]; exact sl_cmp0 _) ?_
      refine lv_if_eq (tgt := 281) hx hb dL_law_276 (by decide) (fun c_276 => ?_) (fun c_276 => ?_)
      · refine lv_goto (tgt := 1039) hx hb dL_law_281 (by decide) ?_
        exact kk (e0) _ _ _ _ _ _ _ _ (by omega) hT9 hG (lv_sub hl [2, 3, 4, 5, 6] rfl) (by omega) (by omega)
      · exact absurd c_276 (by decide)
  · exact absurd rfl c_259
set_option maxHeartbeats 4000000 in
set_option maxRecDepth 100000 in
theorem sl_seg_lose {p : Program} {l : Launch} {e : Env} {s : State} {m : MethodId} {below : List Frame} {meth : Method} {c : Code} {H : Heap} {locs : List Loc} {cells slots : Nat} {Q : State → Prop} {Γ : sl_G} {α μ : Nat → Nat} {ao bb L e0 i : Nat} {xs : Nat → Int32} {g : sl_W} {th0 : Int32} {f0 : Nat → Int64} {ls : Array Slot} (hlt : l.stackTraces = false) (hC : sl_C Γ p s m meth c cL_law 7 RL) (hz : ¬ sl_A Γ bb) (hX : va_X bb L xs s s.heap) (hbl : bb < s.heap.size) (hL : L ≤ 2560) (hi : i + 5 ≤ L) (hG : sl_I Γ g s H locs) (hI : sl_LT Γ α μ ao e0 th0 f0 g) (he : e0 < 100000) (hcs : cells + 4 ≤ 601024) (hss : slots + 40 ≤ 7293034) (hl : lv_has ls 7 [(4, .int (nI i)), (3, .ref ao), (2, .ref (μ 0)), (1, .ref (α 0)), (0, .ref bb)]) (kk : ∀ (e1 : Nat) (th1 : Int32) (f1 : Nat → Int64) (g1 : sl_W) (H1 : Heap) (locs1 : List Loc) (ls1 : Array Slot) (k1 n1 : Nat), e1 ≤ e0 + 1 → sl_LT Γ α μ ao e1 th1 f1 g1 → sl_I Γ g1 s H1 locs1 → lv_has ls1 7 [(4, .int (nI i)), (3, .ref ao), (2, .ref (μ 0)), (1, .ref (α 0)), (0, .ref bb)] → k1 ≤ cells + 4 → n1 ≤ slots + 40 → W p l e room_1 s m #[.ref bb] below meth c H1 locs1 k1 n1 Q (F0 m 1039 ls1 [])) : W p l e room_1 s m #[.ref bb] below meth c H locs cells slots Q (F0 m 284 ls []) := by
  have hx := hC.1
  have hb := hC.2.1
  obtain ⟨β, n, ep, tl, lo, T, C, E, hK, hM, hJ, h40⟩ := id hI
  have hw := sl_Mdl.wf hM
  refine lv_aload_n hx hb dL_law_284 rfl (lv_at hl 3 rfl) ?_
  refine lv_aload_n hx hb dL_law_285 rfl (lv_at hl 1 rfl) ?_
  refine sl_calli (sl_runSW (As := [.ref (α 0), .ref ao]) (rest := []) hC hG (kL_lose l hlt Γ g α β n ep tl lo T C E hK ao f0 h40) mi_L_lose lk_RL_77 rfl rfl ⟨Nat.le_of_ble_eq_true rfl, Nat.le_of_ble_eq_true rfl⟩ rfl hl.1 rfl (Nat.le_of_ble_eq_true rfl) dL_law_286 ⟨(by show _ + _ ≤ 601024; omega), (by show _ + _ ≤ 7293034; omega)⟩) hG (fun r_286 u_286 H locs hr_286 hG => ?_)
  have hG : sl_I Γ u_286 s H locs := hG
  have hM2 := hM.cg (sl_Wr.md hr_286)
  refine lv_istore (lv' := [(5, .int r_286), (4, .int (nI i)), (3, .ref ao), (2, .ref (μ 0)), (1, .ref (α 0)), (0, .ref bb)]) hx hb dL_law_289 hl (by decide) rfl (fun ls hl => ?_)
  refine lv_aload_n hx hb dL_law_291 rfl (lv_at hl 3 rfl) ?_
  refine sl_calli (sl_runV (As := []) (rest := []) hC hG (kX5_lose l Γ u_286 μ n ep tl lo T C E th0 hM2) mi_X5_lose lk_RL_80 20 hM2.1 rfl rfl rfl ⟨Nat.le_of_ble_eq_true rfl, Nat.le_of_ble_eq_true rfl⟩ rfl hl.1 rfl (Nat.le_of_ble_eq_true rfl) dL_law_292 ⟨(by show _ + _ ≤ 601024; omega), (by show _ + _ ≤ 7293034; omega)⟩) hG (fun r_292 u_292 H locs hr_292 hG => ?_)
  have hG : sl_I Γ u_292 s H locs := hG
  obtain ⟨th9, f9, hT9, hrr, hf9⟩ := sl_ag_lose hK hJ hw h40 hr_286 hr_292
  subst hrr
  obtain ⟨β9, n9, ep9, tl9, lo9, T9, C9, E9, hK9, hM9, hJ9, h49⟩ := id hT9
  refine lv_istore (lv' := [(6, .int r_292), (5, .int r_286), (4, .int (nI i)), (3, .ref ao), (2, .ref (μ 0)), (1, .ref (α 0)), (0, .ref bb)]) hx hb dL_law_295 hl (by decide) rfl (fun ls hl => ?_)
  refine lv_aload_n hx hb dL_law_297 rfl (lv_at hl 4 rfl) ?_
  refine sl_calli (sl_runV (As := []) (rest := []) hC hG (kX5_thrown l Γ u_292 μ n9 ep9 tl9 lo9 T9 C9 E9 r_286 hM9) mi_X5_thrown lk_RL_70 20 hM9.1 rfl rfl rfl ⟨Nat.le_of_ble_eq_true rfl, Nat.le_of_ble_eq_true rfl⟩ rfl hl.1 rfl (Nat.le_of_ble_eq_true rfl) dL_law_298 ⟨(by show _ + _ ≤ 601024; omega), (by show _ + _ ≤ 7293034; omega)⟩) hG (fun r_298 u_298 H locs hr_298 hG => ?_)
  refine sl_topi (y := r_286) hr_298 ?_
  refine lv_iload hx hb dL_law_301 (lv_at hl 1 rfl) ?_
  refine lv_icmp_eq (tgt := 308) hx hb dL_law_303 (by decide) (fun c_303 => ?_) (fun c_303 => ?_)
  · refine lv_iload hx hb dL_law_308 (lv_at hl 1 rfl) ?_
    refine lv_if_ne (tgt := 325) hx hb dL_law_310 (by decide) (fun c_310 => ?_) (fun c_310 => ?_)
    · refine lv_goto (tgt := 1039) hx hb dL_law_325 (by decide) ?_
      exact kk (e0) _ _ _ _ _ _ _ _ (by omega) hT9 hG (lv_sub hl [2, 3, 4, 5, 6] rfl) (by omega) (by omega)
    · refine lv_aload_n hx hb dL_law_313 rfl (lv_at hl 3 rfl) ?_
      refine lv_iconst (v := 0) hx hb dL_law_314 (by decide) ?_
      refine sl_laldN hC hG 40 h49 (j := 0) rfl (by omega) (by omega) dL_law_315 ?_
      refine lv_iload hx hb dL_law_316 (lv_at hl 0 rfl) ?_
      refine lv_i2l hx hb dL_law_318 rfl ?_
      refine W.lcmp hx hb dL_law_319 ?_
      refine sl_topi (y := 0) (by rw [hf9 c_310]; exact sl_cmp0 _) ?_
      refine lv_if_eq (tgt := 325) hx hb dL_law_320 (by decide) (fun c_320 => ?_) (fun c_320 => ?_)
      · refine lv_goto (tgt := 1039) hx hb dL_law_325 (by decide) ?_
        exact kk (e0) _ _ _ _ _ _ _ _ (by omega) hT9 hG (lv_sub hl [2, 3, 4, 5, 6] rfl) (by omega) (by omega)
      · exact absurd c_320 (by decide)
  · exact absurd rfl c_303
