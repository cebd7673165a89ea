/-! p21: its law takes a token -/
theorem lp_eu1 (E : Nat → sl_Ent) (n : Nat) (x : sl_Ent) : (sl_eu E n x n).1 = x.1 := by rw [sl_eu, if_pos rfl]
set_option maxHeartbeats 4000000 in
set_option maxRecDepth 100000 in
theorem lp_seg_take {p : Program} {l : Launch} {e : Env} {s : State} {m : MethodId} {below : List Frame} {meth : Method} {c : Code} {H : Heap} {locs : List Loc} {cells slots : Nat} {Q : State → Prop} {Γ : sl_G} {α ρ : Nat → Nat} {bb i : Nat} {g : sl_W} {ls : Array Slot} {w : Int32} {β : Nat → Nat × Nat × Nat} {n e0 : Nat} {ep : Int32} {tl : Nat} {T C : Nat → Int32} {E : Nat → sl_Ent} {S A R V P F : Nat → Int32} (hlt : l.stackTraces = false) (hC : sl_C Γ p s m meth c cL_law 17 RL) (hG : sl_I Γ g s H locs) (hO : lp_O Γ α ρ β n e0 ep tl false T C E S A R V P F g) (he : e0 < 100000) (hcs : cells + 600 ≤ 600104) (hss : slots + 3600 ≤ 7301314) {v : Int32} (htl : tl < 60) (hn : n < 60) (hl : lv_has ls 17 [(14, .int (nI tl)), (10, .int v), (11, .int w), (9, .int (nI i)), (8, .int (nI n)), (7, .ref (ρ 5)), (6, .ref (ρ 4)), (5, .ref (ρ 3)), (4, .ref (ρ 2)), (3, .ref (ρ 1)), (2, .ref (ρ 0)), (1, .ref (α 0)), (0, .ref bb)]) (kk : ∀ (n1 e1 : Nat) (g1 : sl_W) (H1 : Heap) (locs1 : List Loc) (ls1 : Array Slot) (k1 m1 : Nat), e1 ≤ e0 + 1 → lp_LT Γ α ρ n1 e1 g1 → sl_I Γ g1 s H1 locs1 → lv_has ls1 17 [(11, .int w), (9, .int (nI i)), (8, .int (nI n1)), (7, .ref (ρ 5)), (6, .ref (ρ 4)), (5, .ref (ρ 3)), (4, .ref (ρ 2)), (3, .ref (ρ 1)), (2, .ref (ρ 0)), (1, .ref (α 0)), (0, .ref bb)] → k1 ≤ cells + 10 → m1 ≤ slots + 60 → W p l e room_1 s m #[.ref bb] below meth c H1 locs1 k1 m1 Q (F0 m 595 ls1 [])) : W p l e room_1 s m #[.ref bb] below meth c H locs cells slots Q (F0 m 150 ls []) := by
  have hx := hC.1
  have hb := hC.2.1
  obtain ⟨hK, hJ, hw, hn60, ht60, h41, h42, h43, h44, h45, h46, hAr⟩ := id hO
  refine lv_aload_n hx hb dL_law_150 rfl (lv_at hl 10 rfl) ?_
  refine lv_iload hx hb dL_law_151 (lv_at hl 4 rfl) ?_
  refine lv_iconst (v := 1) hx hb dL_law_153 (by decide) ?_
  refine lv_iload hx hb dL_law_154 (lv_at hl 2 rfl) ?_
  refine lv_bipush (v := 15) hx hb dL_law_156 (by decide) ?_
  refine sl_calli (sl_runS (As := [.int w, .int 15]) (rest := [.int 1, .int (nI n), .ref (ρ 0)]) hC hG (kL_low l Γ g w 15 15 rfl (by omega) (by omega)) mi_L_low lk_RL_38 rfl rfl ⟨Nat.le_of_ble_eq_true rfl, Nat.le_of_ble_eq_true rfl⟩ rfl hl.1 rfl (Nat.le_of_ble_eq_true rfl) dL_law_158 ⟨(by show _ + _ ≤ 600104; omega), (by show _ + _ ≤ 7301314; omega)⟩) hG (fun r_158 u_158 H locs hr_158 hG => ?_)
  obtain ⟨j158, hj158, ej158⟩ := hr_158
  refine sl_topi ej158 ?_
  refine lv_iadd hx hb dL_law_161 ?_
  refine sl_topi (y := nI (1 + j158)) (nI_add 1 j158) ?_
  refine sl_iastN hC hG 41 h41 (j := n) rfl (by omega) (by omega) dL_law_162 (fun H locs hG => ?_)
  have hG : sl_I Γ (sl_up g 41 ((ρ 0), .inl (Γ.2.1 0, 60, .inl (upd S n (nI (1 + j158)))))) s H _ := hG
  refine lv_aload_n hx hb dL_law_163 rfl (lv_at hl 9 rfl) ?_
  refine lv_iload hx hb dL_law_164 (lv_at hl 4 rfl) ?_
  refine lv_iload hx hb dL_law_166 (lv_at hl 2 rfl) ?_
  refine lv_iconst (v := 4) hx hb dL_law_168 (by decide) ?_
  refine lv_ishr hx hb dL_law_169 ?_
  refine lv_bipush (v := 41) hx hb dL_law_170 (by decide) ?_
  refine sl_calli (sl_runS (As := [.int (w >>> (4 &&& 31)), .int 41]) (rest := [.int (nI n), .ref (ρ 1)]) hC hG (kL_low l Γ (sl_up g 41 ((ρ 0), .inl (Γ.2.1 0, 60, .inl (upd S n (nI (1 + j158)))))) (w >>> (4 &&& 31)) 41 41 rfl (by omega) (by omega)) mi_L_low lk_RL_38 rfl rfl ⟨Nat.le_of_ble_eq_true rfl, Nat.le_of_ble_eq_true rfl⟩ rfl hl.1 rfl (Nat.le_of_ble_eq_true rfl) dL_law_172 ⟨(by show _ + _ ≤ 600104; omega), (by show _ + _ ≤ 7301314; omega)⟩) hG (fun r_172 u_172 H locs hr_172 hG => ?_)
  obtain ⟨j172, hj172, ej172⟩ := hr_172
  refine sl_topi ej172 ?_
  refine lv_bipush (v := 20) hx hb dL_law_175 (by decide) ?_
  refine lv_isub hx hb dL_law_177 ?_
  refine sl_iastN hC hG 42 (sl_up_to (by decide) h42) (j := n) rfl (by omega) (by omega) dL_law_178 (fun H locs hG => ?_)
  have hG : sl_I Γ (sl_up (sl_up g 41 ((ρ 0), .inl (Γ.2.1 0, 60, .inl (upd S n (nI (1 + j158)))))) 42 ((ρ 1), .inl (Γ.2.1 0, 60, .inl (upd A n ((nI j172) - 20))))) s H _ := hG
  refine lv_aload hx hb dL_law_179 (lv_at hl 8 rfl) ?_
  refine lv_iload hx hb dL_law_181 (lv_at hl 4 rfl) ?_
  refine lv_iload hx hb dL_law_183 (lv_at hl 1 rfl) ?_
  refine lv_iconst (v := 4) hx hb dL_law_185 (by decide) ?_
  refine lv_ishr hx hb dL_law_186 ?_
  refine lv_iconst (v := 2) hx hb dL_law_187 (by decide) ?_
  refine sl_calli (sl_runS (As := [.int (v >>> (4 &&& 31)), .int 2]) (rest := [.int (nI n), .ref (ρ 2)]) hC hG (kL_low l Γ (sl_up (sl_up g 41 ((ρ 0), .inl (Γ.2.1 0, 60, .inl (upd S n (nI (1 + j158)))))) 42 ((ρ 1), .inl (Γ.2.1 0, 60, .inl (upd A n ((nI j172) - 20))))) (v >>> (4 &&& 31)) 2 2 rfl (by omega) (by omega)) mi_L_low lk_RL_38 rfl rfl ⟨Nat.le_of_ble_eq_true rfl, Nat.le_of_ble_eq_true rfl⟩ rfl hl.1 rfl (Nat.le_of_ble_eq_true rfl) dL_law_188 ⟨(by show _ + _ ≤ 600104; omega), (by show _ + _ ≤ 7301314; omega)⟩) hG (fun r_188 u_188 H locs hr_188 hG => ?_)
  obtain ⟨j188, hj188, ej188⟩ := hr_188
  refine sl_topi ej188 ?_
  refine lv_if_ne (tgt := 209) hx hb dL_law_191 (by decide) (fun c_191 => ?_) (fun c_191 => ?_)
  · have n_191 : ¬ (j188 = 0) := fun z => c_191 ((nI_eq (a := j188) (b := 0) (by omega) (by omega)).mpr z)
    refine lv_iconst (v := 0) hx hb dL_law_209 (by decide) ?_
    refine sl_iastN hC hG 43 (sl_up_to (by decide) (sl_up_to (by decide) h43)) (j := n) rfl (by omega) (by omega) dL_law_210 (fun H locs hG => ?_)
    have hG : sl_I Γ (sl_up (sl_up (sl_up g 41 ((ρ 0), .inl (Γ.2.1 0, 60, .inl (upd S n (nI (1 + j158)))))) 42 ((ρ 1), .inl (Γ.2.1 0, 60, .inl (upd A n ((nI j172) - 20))))) 43 ((ρ 2), .inl (Γ.2.1 0, 60, .inl (upd R n 0)))) s H _ := hG
    refine lv_aload hx hb dL_law_211 (lv_at hl 7 rfl) ?_
    refine lv_iload hx hb dL_law_213 (lv_at hl 4 rfl) ?_
    refine lv_aload hx hb dL_law_215 (lv_at hl 8 rfl) ?_
    refine lv_iload hx hb dL_law_217 (lv_at hl 4 rfl) ?_
    refine sl_ialdN hC hG 43 (sl_up_s _ _ _) (j := n) rfl (by omega) (by omega) dL_law_219 ?_
    refine sl_topi (y := 0) pk_us ?_
    refine lv_if_ne (tgt := 227) hx hb dL_law_220 (by decide) (fun c_220 => ?_) (fun c_220 => ?_)
    · exact absurd c_220 (by decide)
    · refine lv_iconst (v := 0) hx hb dL_law_223 (by decide) ?_
      refine lv_goto (tgt := 239) hx hb dL_law_224 (by decide) ?_
      refine sl_iastN hC hG 44 (sl_up_to (by decide) (sl_up_to (by decide) (sl_up_to (by decide) h44))) (j := n) rfl (by omega) (by omega) dL_law_239 (fun H locs hG => ?_)
      have hG : sl_I Γ (sl_up (sl_up (sl_up (sl_up g 41 ((ρ 0), .inl (Γ.2.1 0, 60, .inl (upd S n (nI (1 + j158)))))) 42 ((ρ 1), .inl (Γ.2.1 0, 60, .inl (upd A n ((nI j172) - 20))))) 43 ((ρ 2), .inl (Γ.2.1 0, 60, .inl (upd R n 0)))) 44 ((ρ 3), .inl (Γ.2.1 0, 60, .inl (upd V n 0)))) s H _ := hG
      refine lv_aload hx hb dL_law_240 (lv_at hl 6 rfl) ?_
      refine lv_iload hx hb dL_law_242 (lv_at hl 4 rfl) ?_
      refine lv_aload_n hx hb dL_law_244 rfl (lv_at hl 11 rfl) ?_
      refine sl_calli (sl_runV (As := []) (rest := [.int (nI n), .ref (ρ 4)]) hC hG (kX4_epoch l Γ (sl_up (sl_up (sl_up (sl_up g 41 ((ρ 0), .inl (Γ.2.1 0, 60, .inl (upd S n (nI (1 + j158)))))) 42 ((ρ 1), .inl (Γ.2.1 0, 60, .inl (upd A n ((nI j172) - 20))))) 43 ((ρ 2), .inl (Γ.2.1 0, 60, .inl (upd R n 0)))) 44 ((ρ 3), .inl (Γ.2.1 0, 60, .inl (upd V n 0)))) α β n ep tl false T C E (hK.cg (fun k hk => (sl_up_n _ _ (by omega)).trans ((sl_up_n _ _ (by omega)).trans ((sl_up_n _ _ (by omega)).trans (sl_up_n _ _ (by omega))))))) mi_X4_epoch lk_RL_45 0 (sl_up_to (by decide) (sl_up_to (by decide) (sl_up_to (by decide) (sl_up_to (by decide) hK.1)))) rfl rfl rfl ⟨Nat.le_of_ble_eq_true rfl, Nat.le_of_ble_eq_true rfl⟩ rfl hl.1 rfl (Nat.le_of_ble_eq_true rfl) dL_law_245 ⟨(by show _ + _ ≤ 600104; omega), (by show _ + _ ≤ 7301314; omega)⟩) hG (fun r_245 u_245 H locs hr_245 hG => ?_)
      refine sl_topi (y := ep) (hr_245) ?_
      refine sl_iastN hC hG 45 (sl_up_to (by decide) (sl_up_to (by decide) (sl_up_to (by decide) (sl_up_to (by decide) h45)))) (j := n) rfl (by omega) (by omega) dL_law_248 (fun H locs hG => ?_)
      have hG : sl_I Γ (sl_up (sl_up (sl_up (sl_up (sl_up g 41 ((ρ 0), .inl (Γ.2.1 0, 60, .inl (upd S n (nI (1 + j158)))))) 42 ((ρ 1), .inl (Γ.2.1 0, 60, .inl (upd A n ((nI j172) - 20))))) 43 ((ρ 2), .inl (Γ.2.1 0, 60, .inl (upd R n 0)))) 44 ((ρ 3), .inl (Γ.2.1 0, 60, .inl (upd V n 0)))) 45 ((ρ 4), .inl (Γ.2.1 0, 60, .inl (upd P n ep)))) s H _ := hG
      refine lv_iinc (v := nI (n + 1)) (lv' := [(8, .int (nI (n + 1))), (14, .int (nI tl)), (10, .int v), (11, .int w), (9, .int (nI i)), (7, .ref (ρ 5)), (6, .ref (ρ 4)), (5, .ref (ρ 3)), (4, .ref (ρ 2)), (3, .ref (ρ 1)), (2, .ref (ρ 0)), (1, .ref (α 0)), (0, .ref bb)]) hx hb dL_law_249 hl (k := 4) rfl (nI_1 n) (by decide) rfl (fun ls hl => ?_)
      refine lv_aload hx hb dL_law_252 (lv_at hl 8 rfl) ?_
      refine lv_iload hx hb dL_law_254 (lv_at hl 0 rfl) ?_
      refine lv_iconst (v := 1) hx hb dL_law_256 (by decide) ?_
      refine lv_isub hx hb dL_law_257 ?_
      refine sl_topi (y := nI (n + 0)) (nI_pred (n + 0)) ?_
      refine sl_ialdN hC hG 43 (sl_up_to (by decide) (sl_up_to (by decide) (sl_up_s _ _ _))) (j := n + 0) rfl (by omega) (by omega) dL_law_258 ?_
      refine sl_topi (y := 0) pk_us ?_
      refine lv_if_ne (tgt := 281) hx hb dL_law_259 (by decide) (fun c_259 => ?_) (fun c_259 => ?_)
      · exact absurd c_259 (by decide)
      · refine lv_aload_n hx hb dL_law_262 rfl (lv_at hl 11 rfl) ?_
        refine lv_aload_n hx hb dL_law_263 rfl (lv_at hl 10 rfl) ?_
        refine lv_iload hx hb dL_law_264 (lv_at hl 0 rfl) ?_
        refine lv_iconst (v := 1) hx hb dL_law_266 (by decide) ?_
        refine lv_isub hx hb dL_law_267 ?_
        refine sl_topi (y := nI (n + 0)) (nI_pred (n + 0)) ?_
        refine sl_ialdN hC hG 41 (sl_up_to (by decide) (sl_up_to (by decide) (sl_up_to (by decide) (sl_up_to (by decide) (sl_up_s _ _ _))))) (j := n + 0) rfl (by omega) (by omega) dL_law_268 ?_
        refine sl_topi (y := nI (1 + j158)) pk_us ?_
        refine lv_aload_n hx hb dL_law_269 rfl (lv_at hl 9 rfl) ?_
        refine lv_iload hx hb dL_law_270 (lv_at hl 0 rfl) ?_
        refine lv_iconst (v := 1) hx hb dL_law_272 (by decide) ?_
        refine lv_isub hx hb dL_law_273 ?_
        refine sl_topi (y := nI (n + 0)) (nI_pred (n + 0)) ?_
        refine sl_ialdN hC hG 42 (sl_up_to (by decide) (sl_up_to (by decide) (sl_up_to (by decide) (sl_up_s _ _ _)))) (j := n + 0) rfl (by omega) (by omega) dL_law_274 ?_
        refine sl_topi (y := (nI j172) - 20) pk_us ?_
        refine sl_calli (sl_runV (As := [.int (nI (1 + j158)), .int ((nI j172) - 20)]) (rest := []) hC hG (sl_nox (kX4_take l hlt Γ (sl_up (sl_up (sl_up (sl_up (sl_up g 41 ((ρ 0), .inl (Γ.2.1 0, 60, .inl (upd S n (nI (1 + j158)))))) 42 ((ρ 1), .inl (Γ.2.1 0, 60, .inl (upd A n ((nI j172) - 20))))) 43 ((ρ 2), .inl (Γ.2.1 0, 60, .inl (upd R n 0)))) 44 ((ρ 3), .inl (Γ.2.1 0, 60, .inl (upd V n 0)))) 45 ((ρ 4), .inl (Γ.2.1 0, 60, .inl (upd P n ep)))) α β n ep tl false T C E (hK.cg (fun k hk => (sl_up_n _ _ (by omega)).trans ((sl_up_n _ _ (by omega)).trans ((sl_up_n _ _ (by omega)).trans ((sl_up_n _ _ (by omega)).trans (sl_up_n _ _ (by omega))))))) (nI (1 + j158)) ((nI j172) - 20)) (fun E9 z => z.elim (fun z => by rw [lp_k2 (by omega) (by omega)] at z; cases z.2) (fun z => by rw [lp_ch (by omega) (by omega)] at z; cases z.2.2))) mi_X4_take lk_RL_48 0 (sl_up_to (by decide) (sl_up_to (by decide) (sl_up_to (by decide) (sl_up_to (by decide) (sl_up_to (by decide) hK.1))))) rfl rfl rfl ⟨Nat.le_of_ble_eq_true rfl, Nat.le_of_ble_eq_true rfl⟩ rfl hl.1 rfl (Nat.le_of_ble_eq_true rfl) dL_law_275 ⟨(by show _ + _ ≤ 600104; omega), (by show _ + _ ≤ 7301314; omega)⟩) hG (fun r_275 u_275 H locs hr_275 hG => ?_)
        obtain ⟨y1, y2, y3, hK3, hf3⟩ := hr_275
        have hG : sl_I Γ u_275.2 s H locs := hG
        have hO3 : lp_O Γ α ρ u_275.1 (n + 1) e0 ep (tl + 1) false (sl_tp T (nI (1 + j158)) (nI tl) 4) C (sl_eu E n (nI tl, ep, nI (1 + j158), (nI j172) - 20, 0, 0, sl_tc T (nI (1 + j158)) 4, 0)) (upd S n (nI (1 + j158))) (upd A n ((nI j172) - 20)) (upd R n 0) (upd V n 0) (upd P n ep) F u_275.2 := ⟨hK3, hJ.take hw (by omega) (by omega) ⟨_, by omega, rfl⟩, lp_wf_take hw (by omega) (by omega) (lp_r0) (⟨0, by omega, rfl⟩), by omega, by omega, (hf3 41 (by decide) (by decide)).trans (sl_up_to (by decide) (sl_up_to (by decide) (sl_up_to (by decide) (sl_up_to (by decide) (sl_up_s _ _ _))))), (hf3 42 (by decide) (by decide)).trans (sl_up_to (by decide) (sl_up_to (by decide) (sl_up_to (by decide) (sl_up_s _ _ _)))), (hf3 43 (by decide) (by decide)).trans (sl_up_to (by decide) (sl_up_to (by decide) (sl_up_s _ _ _))), (hf3 44 (by decide) (by decide)).trans (sl_up_to (by decide) (sl_up_s _ _ _)), (hf3 45 (by decide) (by decide)).trans (sl_up_s _ _ _), (hf3 46 (by decide) (by decide)).trans (sl_up_to (by decide) (sl_up_to (by decide) (sl_up_to (by decide) (sl_up_to (by decide) (sl_up_to (by decide) h46))))), hAr.take (nI tl) ep _ _ _ _ _⟩
        refine sl_topi (y := nI n) y3 ?_
        refine lv_goto (tgt := 311) hx hb dL_law_278 (by decide) ?_
        refine lv_istore (lv' := [(15, .int (nI n)), (8, .int (nI (n + 1))), (14, .int (nI tl)), (10, .int v), (11, .int w), (9, .int (nI i)), (7, .ref (ρ 5)), (6, .ref (ρ 4)), (5, .ref (ρ 3)), (4, .ref (ρ 2)), (3, .ref (ρ 1)), (2, .ref (ρ 0)), (1, .ref (α 0)), (0, .ref bb)]) hx hb dL_law_311 hl (by decide) rfl (fun ls hl => ?_)
        refine lv_iload hx hb dL_law_313 (lv_at hl 0 rfl) ?_
        refine lv_iload hx hb dL_law_315 (lv_at hl 1 rfl) ?_
        refine lv_iconst (v := 1) hx hb dL_law_317 (by decide) ?_
        refine lv_isub hx hb dL_law_318 ?_
        refine sl_topi (y := nI (n + 0)) (nI_pred (n + 0)) ?_
        refine lv_icmp_ne (tgt := 344) hx hb dL_law_319 (by decide) (fun c_319 => ?_) (fun c_319 => ?_)
        · exact absurd rfl c_319
        · have n_319 : n = n + 0 := (nI_eq (a := n) (b := n + 0) (by omega) (by omega)).mp c_319
          refine lv_aload_n hx hb dL_law_322 rfl (lv_at hl 12 rfl) ?_
          refine lv_iload hx hb dL_law_323 (lv_at hl 0 rfl) ?_
          refine sl_calli (sl_runV (As := [.int (nI n)]) (rest := []) hC hG (sl_nox (kX4_positionOf l hlt Γ u_275.2 α u_275.1 (n + 1) ep (tl + 1) false (sl_tp T (nI (1 + j158)) (nI tl) 4) C (sl_eu E n (nI tl, ep, nI (1 + j158), (nI j172) - 20, 0, 0, sl_tc T (nI (1 + j158)) 4, 0)) hK3 (nI n)) (fun E9 z => by rw [sl_tokN (Nat.lt_succ_self n) (by omega)] at z; cases z.2)) mi_X4_positionOf lk_RL_55 0 hK3.1 rfl rfl rfl ⟨Nat.le_of_ble_eq_true rfl, Nat.le_of_ble_eq_true rfl⟩ rfl hl.1 rfl (Nat.le_of_ble_eq_true rfl) dL_law_325 ⟨(by show _ + _ ≤ 600104; omega), (by show _ + _ ≤ 7301314; omega)⟩) hG (fun r_325 u_325 H locs hr_325 hG => ?_)
          obtain ⟨t9, y4, y5⟩ := hr_325
          have y6 : n = t9 := Option.some.inj ((sl_tokN (Nat.lt_succ_self n) (by omega)).symm.trans y4)
          subst y6
          refine sl_topi (y := nI tl) (y5.trans (lp_eu1 E n _)) ?_
          refine lv_iload hx hb dL_law_328 (lv_at hl 2 rfl) ?_
          refine lv_icmp_ne (tgt := 344) hx hb dL_law_330 (by decide) (fun c_330 => ?_) (fun c_330 => ?_)
          · exact absurd rfl c_330
          · have n_330 : tl = tl := (nI_eq (a := tl) (b := tl) (by omega) (by omega)).mp c_330
            refine lv_aload_n hx hb dL_law_333 rfl (lv_at hl 12 rfl) ?_
            refine sl_calli (sl_runV (As := []) (rest := []) hC hG (kX4_tail l Γ u_275.2 α u_275.1 (n + 1) ep (tl + 1) false (sl_tp T (nI (1 + j158)) (nI tl) 4) C (sl_eu E n (nI tl, ep, nI (1 + j158), (nI j172) - 20, 0, 0, sl_tc T (nI (1 + j158)) 4, 0)) hK3) mi_X4_tail lk_RL_41 0 hK3.1 rfl rfl rfl ⟨Nat.le_of_ble_eq_true rfl, Nat.le_of_ble_eq_true rfl⟩ rfl hl.1 rfl (Nat.le_of_ble_eq_true rfl) dL_law_334 ⟨(by show _ + _ ≤ 600104; omega), (by show _ + _ ≤ 7301314; omega)⟩) hG (fun r_334 u_334 H locs hr_334 hG => ?_)
            refine sl_topi (y := nI (tl + 1)) (hr_334) ?_
            refine lv_iload hx hb dL_law_337 (lv_at hl 2 rfl) ?_
            refine lv_iconst (v := 1) hx hb dL_law_339 (by decide) ?_
            refine lv_iadd hx hb dL_law_340 ?_
            refine sl_topi (y := nI (tl + 1)) (nI_add tl 1) ?_
            refine lv_icmp_eq (tgt := 346) hx hb dL_law_341 (by decide) (fun c_341 => ?_) (fun c_341 => ?_)
            · have n_341 : tl + 1 = tl + 1 := (nI_eq (a := tl + 1) (b := tl + 1) (by omega) (by omega)).mp c_341
              refine lv_goto (tgt := 595) hx hb dL_law_346 (by decide) ?_
              exact kk (n + 1) (e0) _ _ _ _ _ _ (by omega) hO3.lt hG (lv_sub hl [4, 5, 1, 6, 7, 8, 9, 10, 11, 12, 13] rfl) (by omega) (by omega)
            · exact absurd rfl c_341
  · have n_191 : j188 = 0 := (nI_eq (a := j188) (b := 0) (by omega) (by omega)).mp c_191
    refine lv_iconst (v := 1) hx hb dL_law_194 (by decide) ?_
    refine lv_iload hx hb dL_law_195 (lv_at hl 2 rfl) ?_
    refine lv_bipush (v := 10) hx hb dL_law_197 (by decide) ?_
    refine lv_ishr hx hb dL_law_199 ?_
    refine lv_bipush (v := 15) hx hb dL_law_200 (by decide) ?_
    refine sl_calli (sl_runS (As := [.int (w >>> (10 &&& 31)), .int 15]) (rest := [.int 1, .int (nI n), .ref (ρ 2)]) hC hG (kL_low l Γ (sl_up (sl_up g 41 ((ρ 0), .inl (Γ.2.1 0, 60, .inl (upd S n (nI (1 + j158)))))) 42 ((ρ 1), .inl (Γ.2.1 0, 60, .inl (upd A n ((nI j172) - 20))))) (w >>> (10 &&& 31)) 15 15 rfl (by omega) (by omega)) mi_L_low lk_RL_38 rfl rfl ⟨Nat.le_of_ble_eq_true rfl, Nat.le_of_ble_eq_true rfl⟩ rfl hl.1 rfl (Nat.le_of_ble_eq_true rfl) dL_law_202 ⟨(by show _ + _ ≤ 600104; omega), (by show _ + _ ≤ 7301314; omega)⟩) hG (fun r_202 u_202 H locs hr_202 hG => ?_)
    obtain ⟨j202, hj202, ej202⟩ := hr_202
    refine sl_topi ej202 ?_
    refine lv_iadd hx hb dL_law_205 ?_
    refine sl_topi (y := nI (1 + j202)) (nI_add 1 j202) ?_
    refine lv_goto (tgt := 210) hx hb dL_law_206 (by decide) ?_
    refine sl_iastN hC hG 43 (sl_up_to (by decide) (sl_up_to (by decide) h43)) (j := n) rfl (by omega) (by omega) dL_law_210 (fun H locs hG => ?_)
    have hG : sl_I Γ (sl_up (sl_up (sl_up g 41 ((ρ 0), .inl (Γ.2.1 0, 60, .inl (upd S n (nI (1 + j158)))))) 42 ((ρ 1), .inl (Γ.2.1 0, 60, .inl (upd A n ((nI j172) - 20))))) 43 ((ρ 2), .inl (Γ.2.1 0, 60, .inl (upd R n (nI (1 + j202)))))) s H _ := hG
    refine lv_aload hx hb dL_law_211 (lv_at hl 7 rfl) ?_
    refine lv_iload hx hb dL_law_213 (lv_at hl 4 rfl) ?_
    refine lv_aload hx hb dL_law_215 (lv_at hl 8 rfl) ?_
    refine lv_iload hx hb dL_law_217 (lv_at hl 4 rfl) ?_
    refine sl_ialdN hC hG 43 (sl_up_s _ _ _) (j := n) rfl (by omega) (by omega) dL_law_219 ?_
    refine sl_topi (y := nI (1 + j202)) pk_us ?_
    refine lv_if_ne (tgt := 227) hx hb dL_law_220 (by decide) (fun c_220 => ?_) (fun c_220 => ?_)
    · have n_220 : ¬ (1 + j202 = 0) := fun z => c_220 ((nI_eq (a := 1 + j202) (b := 0) (by omega) (by omega)).mpr z)
      refine lv_iload hx hb dL_law_227 (lv_at hl 2 rfl) ?_
      refine lv_bipush (v := 14) hx hb dL_law_229 (by decide) ?_
      refine lv_ishr hx hb dL_law_231 ?_
      refine lv_iload hx hb dL_law_232 (lv_at hl 0 rfl) ?_
      refine lv_iconst (v := 1) hx hb dL_law_234 (by decide) ?_
      refine lv_iadd hx hb dL_law_235 ?_
      refine sl_topi (y := nI (tl + 1)) (nI_add tl 1) ?_
      refine sl_calli (sl_runS (As := [.int (w >>> (14 &&& 31)), .int (nI (tl + 1))]) (rest := [.int (nI n), .ref (ρ 3)]) hC hG (kL_low l Γ (sl_up (sl_up (sl_up g 41 ((ρ 0), .inl (Γ.2.1 0, 60, .inl (upd S n (nI (1 + j158)))))) 42 ((ρ 1), .inl (Γ.2.1 0, 60, .inl (upd A n ((nI j172) - 20))))) 43 ((ρ 2), .inl (Γ.2.1 0, 60, .inl (upd R n (nI (1 + j202)))))) (w >>> (14 &&& 31)) (nI (tl + 1)) (tl + 1) rfl (by omega) (by omega)) mi_L_low lk_RL_38 rfl rfl ⟨Nat.le_of_ble_eq_true rfl, Nat.le_of_ble_eq_true rfl⟩ rfl hl.1 rfl (Nat.le_of_ble_eq_true rfl) dL_law_236 ⟨(by show _ + _ ≤ 600104; omega), (by show _ + _ ≤ 7301314; omega)⟩) hG (fun r_236 u_236 H locs hr_236 hG => ?_)
      obtain ⟨j236, hj236, ej236⟩ := hr_236
      refine sl_topi ej236 ?_
      refine sl_iastN hC hG 44 (sl_up_to (by decide) (sl_up_to (by decide) (sl_up_to (by decide) h44))) (j := n) rfl (by omega) (by omega) dL_law_239 (fun H locs hG => ?_)
      have hG : sl_I Γ (sl_up (sl_up (sl_up (sl_up g 41 ((ρ 0), .inl (Γ.2.1 0, 60, .inl (upd S n (nI (1 + j158)))))) 42 ((ρ 1), .inl (Γ.2.1 0, 60, .inl (upd A n ((nI j172) - 20))))) 43 ((ρ 2), .inl (Γ.2.1 0, 60, .inl (upd R n (nI (1 + j202)))))) 44 ((ρ 3), .inl (Γ.2.1 0, 60, .inl (upd V n (nI j236))))) s H _ := hG
      refine lv_aload hx hb dL_law_240 (lv_at hl 6 rfl) ?_
      refine lv_iload hx hb dL_law_242 (lv_at hl 4 rfl) ?_
      refine lv_aload_n hx hb dL_law_244 rfl (lv_at hl 11 rfl) ?_
      refine sl_calli (sl_runV (As := []) (rest := [.int (nI n), .ref (ρ 4)]) hC hG (kX4_epoch l Γ (sl_up (sl_up (sl_up (sl_up g 41 ((ρ 0), .inl (Γ.2.1 0, 60, .inl (upd S n (nI (1 + j158)))))) 42 ((ρ 1), .inl (Γ.2.1 0, 60, .inl (upd A n ((nI j172) - 20))))) 43 ((ρ 2), .inl (Γ.2.1 0, 60, .inl (upd R n (nI (1 + j202)))))) 44 ((ρ 3), .inl (Γ.2.1 0, 60, .inl (upd V n (nI j236))))) α β n ep tl false T C E (hK.cg (fun k hk => (sl_up_n _ _ (by omega)).trans ((sl_up_n _ _ (by omega)).trans ((sl_up_n _ _ (by omega)).trans (sl_up_n _ _ (by omega))))))) mi_X4_epoch lk_RL_45 0 (sl_up_to (by decide) (sl_up_to (by decide) (sl_up_to (by decide) (sl_up_to (by decide) hK.1)))) rfl rfl rfl ⟨Nat.le_of_ble_eq_true rfl, Nat.le_of_ble_eq_true rfl⟩ rfl hl.1 rfl (Nat.le_of_ble_eq_true rfl) dL_law_245 ⟨(by show _ + _ ≤ 600104; omega), (by show _ + _ ≤ 7301314; omega)⟩) hG (fun r_245 u_245 H locs hr_245 hG => ?_)
      refine sl_topi (y := ep) (hr_245) ?_
      refine sl_iastN hC hG 45 (sl_up_to (by decide) (sl_up_to (by decide) (sl_up_to (by decide) (sl_up_to (by decide) h45)))) (j := n) rfl (by omega) (by omega) dL_law_248 (fun H locs hG => ?_)
      have hG : sl_I Γ (sl_up (sl_up (sl_up (sl_up (sl_up g 41 ((ρ 0), .inl (Γ.2.1 0, 60, .inl (upd S n (nI (1 + j158)))))) 42 ((ρ 1), .inl (Γ.2.1 0, 60, .inl (upd A n ((nI j172) - 20))))) 43 ((ρ 2), .inl (Γ.2.1 0, 60, .inl (upd R n (nI (1 + j202)))))) 44 ((ρ 3), .inl (Γ.2.1 0, 60, .inl (upd V n (nI j236))))) 45 ((ρ 4), .inl (Γ.2.1 0, 60, .inl (upd P n ep)))) s H _ := hG
      refine lv_iinc (v := nI (n + 1)) (lv' := [(8, .int (nI (n + 1))), (14, .int (nI tl)), (10, .int v), (11, .int w), (9, .int (nI i)), (7, .ref (ρ 5)), (6, .ref (ρ 4)), (5, .ref (ρ 3)), (4, .ref (ρ 2)), (3, .ref (ρ 1)), (2, .ref (ρ 0)), (1, .ref (α 0)), (0, .ref bb)]) hx hb dL_law_249 hl (k := 4) rfl (nI_1 n) (by decide) rfl (fun ls hl => ?_)
      refine lv_aload hx hb dL_law_252 (lv_at hl 8 rfl) ?_
      refine lv_iload hx hb dL_law_254 (lv_at hl 0 rfl) ?_
      refine lv_iconst (v := 1) hx hb dL_law_256 (by decide) ?_
      refine lv_isub hx hb dL_law_257 ?_
      refine sl_topi (y := nI (n + 0)) (nI_pred (n + 0)) ?_
      refine sl_ialdN hC hG 43 (sl_up_to (by decide) (sl_up_to (by decide) (sl_up_s _ _ _))) (j := n + 0) rfl (by omega) (by omega) dL_law_258 ?_
      refine sl_topi (y := nI (1 + j202)) pk_us ?_
      refine lv_if_ne (tgt := 281) hx hb dL_law_259 (by decide) (fun c_259 => ?_) (fun c_259 => ?_)
      · have n_259 : ¬ (1 + j202 = 0) := fun z => c_259 ((nI_eq (a := 1 + j202) (b := 0) (by omega) (by omega)).mpr z)
        refine lv_aload_n hx hb dL_law_281 rfl (lv_at hl 11 rfl) ?_
        refine lv_aload_n hx hb dL_law_282 rfl (lv_at hl 10 rfl) ?_
        refine lv_iload hx hb dL_law_283 (lv_at hl 0 rfl) ?_
        refine lv_iconst (v := 1) hx hb dL_law_285 (by decide) ?_
        refine lv_isub hx hb dL_law_286 ?_
        refine sl_topi (y := nI (n + 0)) (nI_pred (n + 0)) ?_
        refine sl_ialdN hC hG 41 (sl_up_to (by decide) (sl_up_to (by decide) (sl_up_to (by decide) (sl_up_to (by decide) (sl_up_s _ _ _))))) (j := n + 0) rfl (by omega) (by omega) dL_law_287 ?_
        refine sl_topi (y := nI (1 + j158)) pk_us ?_
        refine lv_aload_n hx hb dL_law_288 rfl (lv_at hl 9 rfl) ?_
        refine lv_iload hx hb dL_law_289 (lv_at hl 0 rfl) ?_
        refine lv_iconst (v := 1) hx hb dL_law_291 (by decide) ?_
        refine lv_isub hx hb dL_law_292 ?_
        refine sl_topi (y := nI (n + 0)) (nI_pred (n + 0)) ?_
        refine sl_ialdN hC hG 42 (sl_up_to (by decide) (sl_up_to (by decide) (sl_up_to (by decide) (sl_up_s _ _ _)))) (j := n + 0) rfl (by omega) (by omega) dL_law_293 ?_
        refine sl_topi (y := (nI j172) - 20) pk_us ?_
        refine lv_aload hx hb dL_law_294 (lv_at hl 8 rfl) ?_
        refine lv_iload hx hb dL_law_296 (lv_at hl 0 rfl) ?_
        refine lv_iconst (v := 1) hx hb dL_law_298 (by decide) ?_
        refine lv_isub hx hb dL_law_299 ?_
        refine sl_topi (y := nI (n + 0)) (nI_pred (n + 0)) ?_
        refine sl_ialdN hC hG 43 (sl_up_to (by decide) (sl_up_to (by decide) (sl_up_s _ _ _))) (j := n + 0) rfl (by omega) (by omega) dL_law_300 ?_
        refine sl_topi (y := nI (1 + j202)) pk_us ?_
        refine lv_aload hx hb dL_law_301 (lv_at hl 7 rfl) ?_
        refine lv_iload hx hb dL_law_303 (lv_at hl 0 rfl) ?_
        refine lv_iconst (v := 1) hx hb dL_law_305 (by decide) ?_
        refine lv_isub hx hb dL_law_306 ?_
        refine sl_topi (y := nI (n + 0)) (nI_pred (n + 0)) ?_
        refine sl_ialdN hC hG 44 (sl_up_to (by decide) (sl_up_s _ _ _)) (j := n + 0) rfl (by omega) (by omega) dL_law_307 ?_
        refine sl_topi (y := nI j236) pk_us ?_
        refine sl_calli (sl_runV (As := [.int (nI (1 + j158)), .int ((nI j172) - 20), .int (nI (1 + j202)), .int (nI j236)]) (rest := []) hC hG (sl_nox (kX4_takeIf l hlt Γ (sl_up (sl_up (sl_up (sl_up (sl_up g 41 ((ρ 0), .inl (Γ.2.1 0, 60, .inl (upd S n (nI (1 + j158)))))) 42 ((ρ 1), .inl (Γ.2.1 0, 60, .inl (upd A n ((nI j172) - 20))))) 43 ((ρ 2), .inl (Γ.2.1 0, 60, .inl (upd R n (nI (1 + j202)))))) 44 ((ρ 3), .inl (Γ.2.1 0, 60, .inl (upd V n (nI j236))))) 45 ((ρ 4), .inl (Γ.2.1 0, 60, .inl (upd P n ep)))) α β n ep tl false T C E (hK.cg (fun k hk => (sl_up_n _ _ (by omega)).trans ((sl_up_n _ _ (by omega)).trans ((sl_up_n _ _ (by omega)).trans ((sl_up_n _ _ (by omega)).trans (sl_up_n _ _ (by omega))))))) (nI (1 + j158)) ((nI j172) - 20) (nI (1 + j202)) (nI j236)) (fun E9 z => z.elim (fun z => by rw [lp_k4 (by omega) (by omega) (by omega) (by omega) (by omega)] at z; cases z.2) (fun z => by rw [lp_ch (by omega) (by omega)] at z; cases z.2.2))) mi_X4_takeIf lk_RL_51 0 (sl_up_to (by decide) (sl_up_to (by decide) (sl_up_to (by decide) (sl_up_to (by decide) (sl_up_to (by decide) hK.1))))) rfl rfl rfl ⟨Nat.le_of_ble_eq_true rfl, Nat.le_of_ble_eq_true rfl⟩ rfl hl.1 rfl (Nat.le_of_ble_eq_true rfl) dL_law_308 ⟨(by show _ + _ ≤ 600104; omega), (by show _ + _ ≤ 7301314; omega)⟩) hG (fun r_308 u_308 H locs hr_308 hG => ?_)
        obtain ⟨y1, y2, y3, hK3, hf3⟩ := hr_308
        have hG : sl_I Γ u_308.2 s H locs := hG
        have hO3 : lp_O Γ α ρ u_308.1 (n + 1) e0 ep (tl + 1) false (sl_tp T (nI (1 + j158)) (nI tl) 4) C (sl_eu E n (nI tl, ep, nI (1 + j158), (nI j172) - 20, nI (1 + j202), nI j236, sl_tc T (nI (1 + j158)) 4, 0)) (upd S n (nI (1 + j158))) (upd A n ((nI j172) - 20)) (upd R n (nI (1 + j202))) (upd V n (nI j236)) (upd P n ep) F u_308.2 := ⟨hK3, hJ.take hw (by omega) (by omega) ⟨_, by omega, rfl⟩, lp_wf_take hw (by omega) (by omega) (lp_r1 (by omega)) (⟨_, by omega, rfl⟩), by omega, by omega, (hf3 41 (by decide) (by decide)).trans (sl_up_to (by decide) (sl_up_to (by decide) (sl_up_to (by decide) (sl_up_to (by decide) (sl_up_s _ _ _))))), (hf3 42 (by decide) (by decide)).trans (sl_up_to (by decide) (sl_up_to (by decide) (sl_up_to (by decide) (sl_up_s _ _ _)))), (hf3 43 (by decide) (by decide)).trans (sl_up_to (by decide) (sl_up_to (by decide) (sl_up_s _ _ _))), (hf3 44 (by decide) (by decide)).trans (sl_up_to (by decide) (sl_up_s _ _ _)), (hf3 45 (by decide) (by decide)).trans (sl_up_s _ _ _), (hf3 46 (by decide) (by decide)).trans (sl_up_to (by decide) (sl_up_to (by decide) (sl_up_to (by decide) (sl_up_to (by decide) (sl_up_to (by decide) h46))))), hAr.take (nI tl) ep _ _ _ _ _⟩
        refine sl_topi (y := nI n) y3 ?_
        refine lv_istore (lv' := [(15, .int (nI n)), (8, .int (nI (n + 1))), (14, .int (nI tl)), (10, .int v), (11, .int w), (9, .int (nI i)), (7, .ref (ρ 5)), (6, .ref (ρ 4)), (5, .ref (ρ 3)), (4, .ref (ρ 2)), (3, .ref (ρ 1)), (2, .ref (ρ 0)), (1, .ref (α 0)), (0, .ref bb)]) hx hb dL_law_311 hl (by decide) rfl (fun ls hl => ?_)
        refine lv_iload hx hb dL_law_313 (lv_at hl 0 rfl) ?_
        refine lv_iload hx hb dL_law_315 (lv_at hl 1 rfl) ?_
        refine lv_iconst (v := 1) hx hb dL_law_317 (by decide) ?_
        refine lv_isub hx hb dL_law_318 ?_
        refine sl_topi (y := nI (n + 0)) (nI_pred (n + 0)) ?_
        refine lv_icmp_ne (tgt := 344) hx hb dL_law_319 (by decide) (fun c_319 => ?_) (fun c_319 => ?_)
        · exact absurd rfl c_319
        · have n_319 : n = n + 0 := (nI_eq (a := n) (b := n + 0) (by omega) (by omega)).mp c_319
          refine lv_aload_n hx hb dL_law_322 rfl (lv_at hl 12 rfl) ?_
          refine lv_iload hx hb dL_law_323 (lv_at hl 0 rfl) ?_
          refine sl_calli (sl_runV (As := [.int (nI n)]) (rest := []) hC hG (sl_nox (kX4_positionOf l hlt Γ u_308.2 α u_308.1 (n + 1) ep (tl + 1) false (sl_tp T (nI (1 + j158)) (nI tl) 4) C (sl_eu E n (nI tl, ep, nI (1 + j158), (nI j172) - 20, nI (1 + j202), nI j236, sl_tc T (nI (1 + j158)) 4, 0)) hK3 (nI n)) (fun E9 z => by rw [sl_tokN (Nat.lt_succ_self n) (by omega)] at z; cases z.2)) mi_X4_positionOf lk_RL_55 0 hK3.1 rfl rfl rfl ⟨Nat.le_of_ble_eq_true rfl, Nat.le_of_ble_eq_true rfl⟩ rfl hl.1 rfl (Nat.le_of_ble_eq_true rfl) dL_law_325 ⟨(by show _ + _ ≤ 600104; omega), (by show _ + _ ≤ 7301314; omega)⟩) hG (fun r_325 u_325 H locs hr_325 hG => ?_)
          obtain ⟨t9, y4, y5⟩ := hr_325
          have y6 : n = t9 := Option.some.inj ((sl_tokN (Nat.lt_succ_self n) (by omega)).symm.trans y4)
          subst y6
          refine sl_topi (y := nI tl) (y5.trans (lp_eu1 E n _)) ?_
          refine lv_iload hx hb dL_law_328 (lv_at hl 2 rfl) ?_
          refine lv_icmp_ne (tgt := 344) hx hb dL_law_330 (by decide) (fun c_330 => ?_) (fun c_330 => ?_)
          · exact absurd rfl c_330
          · have n_330 : tl = tl := (nI_eq (a := tl) (b := tl) (by omega) (by omega)).mp c_330
            refine lv_aload_n hx hb dL_law_333 rfl (lv_at hl 12 rfl) ?_
            refine sl_calli (sl_runV (As := []) (rest := []) hC hG (kX4_tail l Γ u_308.2 α u_308.1 (n + 1) ep (tl + 1) false (sl_tp T (nI (1 + j158)) (nI tl) 4) C (sl_eu E n (nI tl, ep, nI (1 + j158), (nI j172) - 20, nI (1 + j202), nI j236, sl_tc T (nI (1 + j158)) 4, 0)) hK3) mi_X4_tail lk_RL_41 0 hK3.1 rfl rfl rfl ⟨Nat.le_of_ble_eq_true rfl, Nat.le_of_ble_eq_true rfl⟩ rfl hl.1 rfl (Nat.le_of_ble_eq_true rfl) dL_law_334 ⟨(by show _ + _ ≤ 600104; omega), (by show _ + _ ≤ 7301314; omega)⟩) hG (fun r_334 u_334 H locs hr_334 hG => ?_)
            refine sl_topi (y := nI (tl + 1)) (hr_334) ?_
            refine lv_iload hx hb dL_law_337 (lv_at hl 2 rfl) ?_
            refine lv_iconst (v := 1) hx hb dL_law_339 (by decide) ?_
            refine lv_iadd hx hb dL_law_340 ?_
            refine sl_topi (y := nI (tl + 1)) (nI_add tl 1) ?_
            refine lv_icmp_eq (tgt := 346) hx hb dL_law_341 (by decide) (fun c_341 => ?_) (fun c_341 => ?_)
            · have n_341 : tl + 1 = tl + 1 := (nI_eq (a := tl + 1) (b := tl + 1) (by omega) (by omega)).mp c_341
              refine lv_goto (tgt := 595) hx hb dL_law_346 (by decide) ?_
              exact kk (n + 1) (e0) _ _ _ _ _ _ (by omega) hO3.lt hG (lv_sub hl [4, 5, 1, 6, 7, 8, 9, 10, 11, 12, 13] rfl) (by omega) (by omega)
            · exact absurd rfl c_341
      · exact absurd c_259 (fun z => by have := congrArg Int32.toInt z; rw [nI_toInt (by omega), sl_i0] at this; omega)
    · exact absurd c_220 (fun z => by have := congrArg Int32.toInt z; rw [nI_toInt (by omega), sl_i0] at this; omega)
