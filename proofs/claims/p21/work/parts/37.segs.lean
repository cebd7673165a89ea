/-! p21: its law, part by part -/
/-- the law's own numbers are those of the entries -/
def lp_Ar (n : Nat) (E : Nat → sl_Ent) (S A R V P : Nat → Int32) : Prop := ∀ t, t < n → S t = (E t).2.2.1 ∧ A t = (E t).2.2.2.1 ∧ R t = (E t).2.2.2.2.1 ∧ V t = (E t).2.2.2.2.2.1 ∧ P t = (E t).2.1
/-- the class, its state, the law's six rows -/
def lp_O (Γ : sl_G) (α ρ : Nat → Nat) (β : Nat → Nat × Nat × Nat) (n e0 : Nat) (ep : Int32) (tl : Nat) (lo : Bool) (T C : Nat → Int32) (E : Nat → sl_Ent) (S A R V P F : Nat → Int32) (g : sl_W) : Prop :=
  sl_Cls Γ α β n ep tl lo T C E g ∧ sl_J n e0 ep tl T C E ∧ sl_wf n tl C E ∧ n ≤ 60 ∧ tl ≤ 60 ∧
  g 41 = some (ρ 0, .inl (Γ.2.1 0, 60, .inl S)) ∧ g 42 = some (ρ 1, .inl (Γ.2.1 0, 60, .inl A)) ∧ g 43 = some (ρ 2, .inl (Γ.2.1 0, 60, .inl R)) ∧ g 44 = some (ρ 3, .inl (Γ.2.1 0, 60, .inl V)) ∧ g 45 = some (ρ 4, .inl (Γ.2.1 0, 60, .inl P)) ∧ g 46 = some (ρ 5, .inl (Γ.2.1 0, 60, .inl F)) ∧ lp_Ar n E S A R V P
def lp_LT (Γ : sl_G) (α ρ : Nat → Nat) (n e0 : Nat) (g : sl_W) : Prop := ∃ (β : Nat → Nat × Nat × Nat) (ep : Int32) (tl : Nat) (lo : Bool) (T C : Nat → Int32) (E : Nat → sl_Ent) (S A R V P F : Nat → Int32), lp_O Γ α ρ β n e0 ep tl lo T C E S A R V P F g
theorem lp_O.lt {Γ : sl_G} {α ρ : Nat → Nat} {β : Nat → Nat × Nat × Nat} {n e0 : Nat} {ep : Int32} {tl : Nat} {lo : Bool} {T C : Nat → Int32} {E : Nat → sl_Ent} {S A R V P F : Nat → Int32} {g : sl_W} (h : lp_O Γ α ρ β n e0 ep tl lo T C E S A R V P F g) : lp_LT Γ α ρ n e0 g := ⟨β, ep, tl, lo, T, C, E, S, A, R, V, P, F, h⟩
theorem lp_O.mk2 {Γ : sl_G} {α ρ : Nat → Nat} {β β' : Nat → Nat × Nat × Nat} {n n' e0 e1 : Nat} {ep ep' : Int32} {tl tl' : Nat} {lo lo' : Bool} {T C T' C' : Nat → Int32} {E E' : Nat → sl_Ent} {S A R V P F : Nat → Int32} {g g' : sl_W} (h : lp_O Γ α ρ β n e0 ep tl lo T C E S A R V P F g) (hK : sl_Cls Γ α β' n' ep' tl' lo' T' C' E' g') (hf : sl_fr g g') (hJ : sl_J n' e1 ep' tl' T' C' E') (hw : sl_wf n' tl' C' E') (hn : n' ≤ 60) (ht : tl' ≤ 60) (hAr : lp_Ar n' E' S A R V P) : lp_O Γ α ρ β' n' e1 ep' tl' lo' T' C' E' S A R V P F g' := by
  obtain ⟨-, -, -, -, -, h41, h42, h43, h44, h45, h46, -⟩ := h
  exact ⟨hK, hJ, hw, hn, ht, (hf 41 (by decide) (by decide)).trans h41, (hf 42 (by decide) (by decide)).trans h42, (hf 43 (by decide) (by decide)).trans h43, (hf 44 (by decide) (by decide)).trans h44, (hf 45 (by decide) (by decide)).trans h45, (hf 46 (by decide) (by decide)).trans h46, hAr⟩
theorem lp_O.up46 {Γ : sl_G} {α ρ : Nat → Nat} {β : Nat → Nat × Nat × Nat} {n e0 : Nat} {ep : Int32} {tl : Nat} {lo : Bool} {T C : Nat → Int32} {E : Nat → sl_Ent} {S A R V P F : Nat → Int32} {g : sl_W} (h : lp_O Γ α ρ β n e0 ep tl lo T C E S A R V P F g) (F' : Nat → Int32) : lp_O Γ α ρ β n e0 ep tl lo T C E S A R V P F' (sl_up g 46 (ρ 5, .inl (Γ.2.1 0, 60, .inl F'))) := by
  obtain ⟨hK, hJ, hw, hn, ht, h41, h42, h43, h44, h45, h46, hAr⟩ := h
  exact ⟨hK.cg (fun k hk => sl_up_n _ _ (by omega)), hJ, hw, hn, ht, sl_up_to (by decide) h41, sl_up_to (by decide) h42, sl_up_to (by decide) h43, sl_up_to (by decide) h44, sl_up_to (by decide) h45, sl_up_s _ _ _, hAr⟩
theorem lp_Ar.take {n : Nat} {E : Nat → sl_Ent} {S A R V P : Nat → Int32} (h : lp_Ar n E S A R V P) (x1 ep ss am rd ver : Int32) (Q : Nat → Int32) : lp_Ar (n + 1) (sl_eu E n (x1, ep, ss, am, rd, ver, Q, 0)) (upd S n ss) (upd A n am) (upd R n rd) (upd V n ver) (upd P n ep) := by
  intro t ht
  by_cases e : t = n
  · rw [e, pk_us, pk_us, pk_us, pk_us, pk_us, show sl_eu E n (x1, ep, ss, am, rd, ver, Q, 0) n = (x1, ep, ss, am, rd, ver, Q, 0) from if_pos rfl]
    exact ⟨rfl, rfl, rfl, rfl, rfl⟩
  · rw [pk_un e, pk_un e, pk_un e, pk_un e, pk_un e, show sl_eu E n (x1, ep, ss, am, rd, ver, Q, 0) t = E t from if_neg e]
    exact h t (by omega)
theorem lp_Ar.es {n : Nat} {E : Nat → sl_Ent} {S A R V P : Nat → Int32} (h : lp_Ar n E S A R V P) (u : Nat) (v : Int32) : lp_Ar n (sl_es E u v) S A R V P := by
  intro t ht
  by_cases e : t = u
  · subst e
    rw [sl_es_at]
    exact h t ht
  · rw [sl_es_ne e]
    exact h t ht
theorem lp_sub {a b : Nat} (h : b ≤ a) (ha : a < 2 ^ 31) : nI a - nI b = nI (a - b) := by
  rw [← Int32.toInt_inj, Int32.toInt_sub, nI_toInt ha, nI_toInt (by omega), nI_toInt (by omega), Int.bmod_eq_of_le (by omega) (by omega)]
  omega
theorem lp_z0 {lo : Bool} {z : Int32} {tl : Nat} (hz : (lo = true ∧ z = -1) ∨ (lo = false ∧ z = nI tl)) (h : ¬ z < 0) : lo = false ∧ z = nI tl := by
  rcases hz with ⟨-, e⟩ | w
  · rw [e] at h; exact absurd (by decide) h
  · exact w
theorem lp_z1 {lo : Bool} {z : Int32} {tl : Nat} (ht : tl ≤ 60) (hz : (lo = true ∧ z = -1) ∨ (lo = false ∧ z = nI tl)) (h : ¬ z ≤ 0) : lo = false ∧ z = nI tl ∧ 0 < tl := by
  rcases hz with ⟨-, e⟩ | ⟨w1, w2⟩
  · rw [e] at h; exact absurd (by decide) h
  · refine ⟨w1, w2, ?_⟩
    rw [w2, sl_leI, nI_toInt (by omega), sl_i0] at h
    omega
theorem lp_tailz (lo : Bool) (tl : Nat) : (lo = true ∧ (if lo = true then (-1 : Int32) else nI tl) = -1) ∨ (lo = false ∧ (if lo = true then (-1 : Int32) else nI tl) = nI tl) := by
  cases lo
  · exact Or.inr ⟨rfl, rfl⟩
  · exact Or.inl ⟨rfl, rfl⟩
theorem lp_k2 {j k : Nat} (hj : j < 15) (hk : k < 41) : sl_k2 (nI (1 + j)) (nI k - 20) = true := by
  have h : (nI k - 20).toInt = (k : Int) - 20 := by
    rw [Int32.toInt_sub, nI_toInt (by omega), show (20 : Int32).toInt = 20 from rfl, Int.bmod_eq_of_le (by omega) (by omega)]
  rw [sl_k2, sl_in_t (by rw [nI_toInt (by omega), show (1 : Int32).toInt = 1 from rfl]; omega) (by rw [nI_toInt (by omega), show (15 : Int32).toInt = 15 from rfl]; omega), sl_in_t (by rw [h, show (-1000 : Int32).toInt = -1000 from rfl]; omega) (by rw [h, show (1000 : Int32).toInt = 1000 from rfl]; omega)]
  rfl
theorem lp_k4 {j k r v tl : Nat} (hj : j < 15) (hk : k < 41) (hr : r < 15) (hv : v ≤ tl) (ht : tl ≤ 120) : sl_k4 false tl (nI (1 + j)) (nI k - 20) (nI (1 + r)) (nI v) = true := by
  have h := lp_k2 hj hk
  rw [sl_k2] at h
  rw [sl_k4, h, sl_in_t (by rw [nI_toInt (by omega), show (1 : Int32).toInt = 1 from rfl]; omega) (by rw [nI_toInt (by omega), show (15 : Int32).toInt = 15 from rfl]; omega), sl_nIin (hi := nI tl) (n := tl) (nI_toInt (by omega)) hv (by omega)]
  rfl
theorem lp_ch {tl n : Nat} (h1 : tl < 120) (h2 : n < 150) : sl_ch false tl n = false := by
  rw [sl_ch, decide_eq_false (by omega), decide_eq_false (by omega)]; rfl
theorem lp_r0 : (0 : Int) ≤ (0 : Int32).toInt ∧ (0 : Int32).toInt ≤ 15 := by decide
theorem lp_r1 {r : Nat} (h : r < 15) : (0 : Int) ≤ (nI (1 + r)).toInt ∧ (nI (1 + r)).toInt ≤ 15 := by rw [nI_toInt (by omega)]; omega
theorem lp_Cn {Γ : sl_G} {α : Nat → Nat} {β : Nat → Nat × Nat × Nat} {n : Nat} {ep : Int32} {tl : Nat} {lo : Bool} {T C : Nat → Int32} {E : Nat → sl_Ent} {g : sl_W} (h : sl_Cls Γ α β n ep tl lo T C E g) : n ≤ 150 := h.2.2.2.2.2.2.2.2.2.1
theorem lp_nofill {C : Nat → Int32} {b tl : Nat} (hb : b < 120) (hbt : b < tl) (hwh : sl_wh C b = false) {E9 : String} (z : (E9 = "java/lang/IndexOutOfBoundsException" ∧ sl_in (nI b) 0 119 = false) ∨ (E9 = "java/lang/IllegalStateException" ∧ ∃ b9, nI b = nI b9 ∧ b9 < 120 ∧ (false = true ∨ tl ≤ b9 ∨ sl_wh C b9 = true))) : False := by
  rcases z with ⟨-, z⟩ | ⟨-, b9, z1, z2, z3⟩
  · rw [sl_nIin (n := 119) sl_i119 (by omega) (by omega)] at z
    cases z
  · have e : b = b9 := sl_nIne (by omega) (by omega) z1
    subst e
    rcases z3 with z3 | z3 | z3
    · cases z3
    · omega
    · rw [hwh] at z3; cases z3
/-- as lp_LT; and a step of t can come where b says so -/
def lp_LW (Γ : sl_G) (α ρ : Nat → Nat) (n e0 t : Nat) (b : Bool) (g : sl_W) : Prop := ∃ (β : Nat → Nat × Nat × Nat) (ep : Int32) (tl : Nat) (lo : Bool) (T C : Nat → Int32) (E : Nat → sl_Ent) (S A R V P F : Nat → Int32), lp_O Γ α ρ β n e0 ep tl lo T C E S A R V P F g ∧ (b = true → ¬ ((E t).2.2.2.2.2.2.2 = -1 ∨ (E t).2.2.2.2.2.2.2 = 3 ∨ ¬ (E t).2.1 = ep))
theorem lp_cn_ok {v : Int32} (h : lp_cn v = true) : ¬ (v = -1 ∨ v = 3) := by
  intro z
  rcases z with z | z <;> (rw [z] at h; revert h; decide)
set_option maxHeartbeats 4000000 in
set_option maxRecDepth 100000 in
theorem lp_seg_lose {p : Program} {l : Launch} {e : Env} {s : State} {m : MethodId} {below : List Frame} {meth : Method} {c : Code} {H : Heap} {locs : List Loc} {cells slots : Nat} {Q : State → Prop} {Γ : sl_G} {α ρ : Nat → Nat} {bb i : Nat} {g : sl_W} {ls : Array Slot} {w : Int32} {β : Nat → Nat × Nat × Nat} {n e0 : Nat} {ep : Int32} {tl : Nat} {T C : Nat → Int32} {E : Nat → sl_Ent} {S A R V P F : Nat → Int32} (hlt : l.stackTraces = false) (hC : sl_C Γ p s m meth c cL_law 17 RL) (hG : sl_I Γ g s H locs) (hO : lp_O Γ α ρ β n e0 ep tl false T C E S A R V P F g) (he : e0 < 100000) (hcs : cells + 600 ≤ 600104) (hss : slots + 3600 ≤ 7301314)  (hl : lv_has ls 17 [(11, .int w), (9, .int (nI i)), (8, .int (nI n)), (7, .ref (ρ 5)), (6, .ref (ρ 4)), (5, .ref (ρ 3)), (4, .ref (ρ 2)), (3, .ref (ρ 1)), (2, .ref (ρ 0)), (1, .ref (α 0)), (0, .ref bb)]) (kk : ∀ (n1 e1 : Nat) (g1 : sl_W) (H1 : Heap) (locs1 : List Loc) (ls1 : Array Slot) (k1 m1 : Nat), e1 ≤ e0 + 1 → lp_LT Γ α ρ n1 e1 g1 → sl_I Γ g1 s H1 locs1 → lv_has ls1 17 [(11, .int w), (9, .int (nI i)), (8, .int (nI n1)), (7, .ref (ρ 5)), (6, .ref (ρ 4)), (5, .ref (ρ 3)), (4, .ref (ρ 2)), (3, .ref (ρ 1)), (2, .ref (ρ 0)), (1, .ref (α 0)), (0, .ref bb)] → k1 ≤ cells + 10 → m1 ≤ slots + 60 → W p l e room_1 s m #[.ref bb] below meth c H1 locs1 k1 m1 Q (F0 m 595 ls1 [])) : W p l e room_1 s m #[.ref bb] below meth c H locs cells slots Q (F0 m 550 ls []) := by
  have hx := hC.1
  have hb := hC.2.1
  obtain ⟨hK, hJ, hw, hn60, ht60, h41, h42, h43, h44, h45, h46, hAr⟩ := id hO
  refine lv_aload_n hx hb dL_law_550 rfl (lv_at hl 9 rfl) ?_
  refine sl_calli (sl_runV (As := []) (rest := []) hC hG (sl_nox (kX4_lose l hlt Γ g α β n ep tl false T C E hK) (fun E9 z => by cases z.2)) mi_X4_lose lk_RL_68 0 hK.1 rfl rfl rfl ⟨Nat.le_of_ble_eq_true rfl, Nat.le_of_ble_eq_true rfl⟩ rfl hl.1 rfl (Nat.le_of_ble_eq_true rfl) dL_law_551 ⟨(by show _ + _ ≤ 600104; omega), (by show _ + _ ≤ 7301314; omega)⟩) hG (fun r_551 u_551 H locs hr_551 hG => ?_)
  have hG : sl_I Γ u_551 s H locs := hG
  have hO2 := hO.mk2 hr_551.2.2.1 hr_551.2.2.2 hJ hw hn60 ht60 hAr
  refine lv_pop hx hb dL_law_554 rfl ?_
  refine lv_goto (tgt := 595) hx hb dL_law_555 (by decide) ?_
  exact kk n (e0) _ _ _ _ _ _ (by omega) hO2.lt hG (lv_sub hl [0, 1, 2, 3, 4, 5, 6, 7, 8, 9, 10] rfl) (by omega) (by omega)
set_option maxHeartbeats 4000000 in
set_option maxRecDepth 100000 in
theorem lp_seg_seal {p : Program} {l : Launch} {e : Env} {s : State} {m : MethodId} {below : List Frame} {meth : Method} {c : Code} {H : Heap} {locs : List Loc} {cells slots : Nat} {Q : State → Prop} {Γ : sl_G} {α ρ : Nat → Nat} {bb i : Nat} {g : sl_W} {ls : Array Slot} {w : Int32} {β : Nat → Nat × Nat × Nat} {n e0 : Nat} {ep : Int32} {tl : Nat} {lo : Bool} {T C : Nat → Int32} {E : Nat → sl_Ent} {S A R V P F : Nat → Int32} (hlt : l.stackTraces = false) (hC : sl_C Γ p s m meth c cL_law 17 RL) (hG : sl_I Γ g s H locs) (hO : lp_O Γ α ρ β n e0 ep tl lo T C E S A R V P F g) (he : e0 < 100000) (hcs : cells + 600 ≤ 600104) (hss : slots + 3600 ≤ 7301314)  (hl : lv_has ls 17 [(11, .int w), (9, .int (nI i)), (8, .int (nI n)), (7, .ref (ρ 5)), (6, .ref (ρ 4)), (5, .ref (ρ 3)), (4, .ref (ρ 2)), (3, .ref (ρ 1)), (2, .ref (ρ 0)), (1, .ref (α 0)), (0, .ref bb)]) (kk : ∀ (n1 e1 : Nat) (g1 : sl_W) (H1 : Heap) (locs1 : List Loc) (ls1 : Array Slot) (k1 m1 : Nat), e1 ≤ e0 + 1 → lp_LT Γ α ρ n1 e1 g1 → sl_I Γ g1 s H1 locs1 → lv_has ls1 17 [(11, .int w), (9, .int (nI i)), (8, .int (nI n1)), (7, .ref (ρ 5)), (6, .ref (ρ 4)), (5, .ref (ρ 3)), (4, .ref (ρ 2)), (3, .ref (ρ 1)), (2, .ref (ρ 0)), (1, .ref (α 0)), (0, .ref bb)] → k1 ≤ cells + 10 → m1 ≤ slots + 60 → W p l e room_1 s m #[.ref bb] below meth c H1 locs1 k1 m1 Q (F0 m 595 ls1 [])) : W p l e room_1 s m #[.ref bb] below meth c H locs cells slots Q (F0 m 565 ls []) := by
  have hx := hC.1
  have hb := hC.2.1
  obtain ⟨hK, hJ, hw, hn60, ht60, h41, h42, h43, h44, h45, h46, hAr⟩ := id hO
  refine lv_aload_n hx hb dL_law_565 rfl (lv_at hl 9 rfl) ?_
  refine sl_calli (sl_runV (As := []) (rest := []) hC hG (kX4_epoch l Γ g α β n ep tl lo T C E hK) mi_X4_epoch lk_RL_45 0 hK.1 rfl rfl rfl ⟨Nat.le_of_ble_eq_true rfl, Nat.le_of_ble_eq_true rfl⟩ rfl hl.1 rfl (Nat.le_of_ble_eq_true rfl) dL_law_566 ⟨(by show _ + _ ≤ 600104; omega), (by show _ + _ ≤ 7301314; omega)⟩) hG (fun r_566 u_566 H locs hr_566 hG => ?_)
  refine sl_topi (y := ep) (hr_566) ?_
  refine lv_istore (lv' := [(15, .int ep), (11, .int w), (9, .int (nI i)), (8, .int (nI n)), (7, .ref (ρ 5)), (6, .ref (ρ 4)), (5, .ref (ρ 3)), (4, .ref (ρ 2)), (3, .ref (ρ 1)), (2, .ref (ρ 0)), (1, .ref (α 0)), (0, .ref bb)]) hx hb dL_law_569 hl (by decide) rfl (fun ls hl => ?_)
  refine lv_aload_n hx hb dL_law_571 rfl (lv_at hl 10 rfl) ?_
  refine sl_calli (sl_runV (As := []) (rest := []) hC hG (kX4_seal l Γ g α β n ep tl lo T C E hK) mi_X4_seal lk_RL_71 0 hK.1 rfl rfl rfl ⟨Nat.le_of_ble_eq_true rfl, Nat.le_of_ble_eq_true rfl⟩ rfl hl.1 rfl (Nat.le_of_ble_eq_true rfl) dL_law_572 ⟨(by show _ + _ ≤ 600104; omega), (by show _ + _ ≤ 7301314; omega)⟩) hG (fun r_572 u_572 H locs hr_572 hG => ?_)
  have hG : sl_I Γ u_572 s H locs := hG
  have hK2 := hr_572.2.1
  have hf2 := hr_572.2.2
  have htl2 := lp_ef_le hJ.em 120 (Nat.le_refl _)
  have hO2 := hO.mk2 hK2 hf2 (hJ.seal hw he) (lp_wf_seal hw (by omega)) hn60 (by omega) hAr
  refine sl_topi (y := nI (sl_ef C 120)) hr_572.1 ?_
  refine lv_aload_n hx hb dL_law_575 rfl (lv_at hl 10 rfl) ?_
  refine sl_calli (sl_runV (As := []) (rest := [.int (nI (sl_ef C 120))]) hC hG (kX4_tail l Γ u_572 α β n (ep + 1) (sl_ef C 120) false (sl_sT n C E (sl_ef C 120)) C E hK2) mi_X4_tail lk_RL_41 0 hK2.1 rfl rfl rfl ⟨Nat.le_of_ble_eq_true rfl, Nat.le_of_ble_eq_true rfl⟩ rfl hl.1 rfl (Nat.le_of_ble_eq_true rfl) dL_law_576 ⟨(by show _ + _ ≤ 600104; omega), (by show _ + _ ≤ 7301314; omega)⟩) hG (fun r_576 u_576 H locs hr_576 hG => ?_)
  refine sl_topi (y := nI (sl_ef C 120)) (hr_576) ?_
  refine lv_icmp_ne (tgt := 593) hx hb dL_law_579 (by decide) (fun c_579 => ?_) (fun c_579 => ?_)
  · exact absurd rfl c_579
  · have n_579 : sl_ef C 120 = sl_ef C 120 := (nI_eq (a := sl_ef C 120) (b := sl_ef C 120) (by omega) (by omega)).mp c_579
    refine lv_aload_n hx hb dL_law_582 rfl (lv_at hl 10 rfl) ?_
    refine sl_calli (sl_runV (As := []) (rest := []) hC hG (kX4_epoch l Γ u_572 α β n (ep + 1) (sl_ef C 120) false (sl_sT n C E (sl_ef C 120)) C E hK2) mi_X4_epoch lk_RL_45 0 hK2.1 rfl rfl rfl ⟨Nat.le_of_ble_eq_true rfl, Nat.le_of_ble_eq_true rfl⟩ rfl hl.1 rfl (Nat.le_of_ble_eq_true rfl) dL_law_583 ⟨(by show _ + _ ≤ 600104; omega), (by show _ + _ ≤ 7301314; omega)⟩) hG (fun r_583 u_583 H locs hr_583 hG => ?_)
    refine sl_topi (y := ep + 1) (hr_583) ?_
    refine lv_iload hx hb dL_law_586 (lv_at hl 0 rfl) ?_
    refine lv_iconst (v := 1) hx hb dL_law_588 (by decide) ?_
    refine lv_iadd hx hb dL_law_589 ?_
    refine lv_icmp_eq (tgt := 595) hx hb dL_law_590 (by decide) (fun c_590 => ?_) (fun c_590 => ?_)
    · exact kk n (e0 + 1) _ _ _ _ _ _ (by omega) hO2.lt hG (lv_sub hl [1, 2, 3, 4, 5, 6, 7, 8, 9, 10, 11] rfl) (by omega) (by omega)
    · exact absurd rfl c_590
set_option maxHeartbeats 4000000 in
set_option maxRecDepth 100000 in
theorem lp_seg_fill {p : Program} {l : Launch} {e : Env} {s : State} {m : MethodId} {below : List Frame} {meth : Method} {c : Code} {H : Heap} {locs : List Loc} {cells slots : Nat} {Q : State → Prop} {Γ : sl_G} {α ρ : Nat → Nat} {bb i : Nat} {g : sl_W} {ls : Array Slot} {w : Int32} {β : Nat → Nat × Nat × Nat} {n e0 : Nat} {ep : Int32} {tl : Nat} {T C : Nat → Int32} {E : Nat → sl_Ent} {S A R V P F : Nat → Int32} (hlt : l.stackTraces = false) (hC : sl_C Γ p s m meth c cL_law 17 RL) (hG : sl_I Γ g s H locs) (hO : lp_O Γ α ρ β n e0 ep tl false T C E S A R V P F g) (he : e0 < 100000) (hcs : cells + 600 ≤ 600104) (hss : slots + 3600 ≤ 7301314) (htl : 0 < tl) (hl : lv_has ls 17 [(14, .int (nI tl)), (11, .int w), (9, .int (nI i)), (8, .int (nI n)), (7, .ref (ρ 5)), (6, .ref (ρ 4)), (5, .ref (ρ 3)), (4, .ref (ρ 2)), (3, .ref (ρ 1)), (2, .ref (ρ 0)), (1, .ref (α 0)), (0, .ref bb)]) (kk : ∀ (n1 e1 : Nat) (g1 : sl_W) (H1 : Heap) (locs1 : List Loc) (ls1 : Array Slot) (k1 m1 : Nat), e1 ≤ e0 + 1 → lp_LT Γ α ρ n1 e1 g1 → sl_I Γ g1 s H1 locs1 → lv_has ls1 17 [(11, .int w), (9, .int (nI i)), (8, .int (nI n1)), (7, .ref (ρ 5)), (6, .ref (ρ 4)), (5, .ref (ρ 3)), (4, .ref (ρ 2)), (3, .ref (ρ 1)), (2, .ref (ρ 0)), (1, .ref (α 0)), (0, .ref bb)] → k1 ≤ cells + 10 → m1 ≤ slots + 60 → W p l e room_1 s m #[.ref bb] below meth c H1 locs1 k1 m1 Q (F0 m 595 ls1 [])) : W p l e room_1 s m #[.ref bb] below meth c H locs cells slots Q (F0 m 451 ls []) := by
  have hx := hC.1
  have hb := hC.2.1
  obtain ⟨hK, hJ, hw, hn60, ht60, h41, h42, h43, h44, h45, h46, hAr⟩ := id hO
  have hn9 := hw.1
  refine lv_iload hx hb dL_law_451 (lv_at hl 1 rfl) ?_
  refine lv_iload hx hb dL_law_453 (lv_at hl 0 rfl) ?_
  refine sl_calli (sl_runS (As := [.int w, .int (nI tl)]) (rest := []) hC hG (kL_low l Γ g w (nI tl) tl rfl (by omega) (by omega)) mi_L_low lk_RL_38 rfl rfl ⟨Nat.le_of_ble_eq_true rfl, Nat.le_of_ble_eq_true rfl⟩ rfl hl.1 rfl (Nat.le_of_ble_eq_true rfl) dL_law_455 ⟨(by show _ + _ ≤ 600104; omega), (by show _ + _ ≤ 7301314; omega)⟩) hG (fun r_455 u_455 H locs hr_455 hG => ?_)
  obtain ⟨j455, hj455, ej455⟩ := hr_455
  refine sl_topi ej455 ?_
  refine lv_istore (lv' := [(15, .int (nI j455)), (14, .int (nI tl)), (11, .int w), (9, .int (nI i)), (8, .int (nI n)), (7, .ref (ρ 5)), (6, .ref (ρ 4)), (5, .ref (ρ 3)), (4, .ref (ρ 2)), (3, .ref (ρ 1)), (2, .ref (ρ 0)), (1, .ref (α 0)), (0, .ref bb)]) hx hb dL_law_458 hl (by decide) rfl (fun ls hl => ?_)
  refine lv_aload_n hx hb dL_law_460 rfl (lv_at hl 11 rfl) ?_
  refine lv_iconst (v := 0) hx hb dL_law_461 (by decide) ?_
  refine lv_iload hx hb dL_law_462 (lv_at hl 0 rfl) ?_
  refine sl_calli (sl_runV (As := [.int 0, .int (nI j455)]) (rest := []) hC hG (sl_nox (kX4_cellAt l hlt Γ g α β n ep tl false T C E hK 0 (nI j455)) (fun E9 z => lp_ca (by decide) (by omega) z.2)) mi_X4_cellAt lk_RL_8 0 hK.1 rfl rfl rfl ⟨Nat.le_of_ble_eq_true rfl, Nat.le_of_ble_eq_true rfl⟩ rfl hl.1 rfl (Nat.le_of_ble_eq_true rfl) dL_law_464 ⟨(by show _ + _ ≤ 600104; omega), (by show _ + _ ≤ 7301314; omega)⟩) hG (fun r_464 u_464 H locs hr_464 hG => ?_)
  refine sl_topi (y := C j455) (hr_464.2.trans (sl_cg0 C (by omega))) ?_
  refine lv_bipush (v := (-2)) hx hb dL_law_467 (by decide) ?_
  refine lv_icmp_eq (tgt := 496) hx hb dL_law_469 (by decide) (fun c_469 => ?_) (fun c_469 => ?_)
  · have hwh : sl_wh C j455 = false := sl_wh_iff.mpr (Or.inl c_469)
    refine lv_aload_n hx hb dL_law_496 rfl (lv_at hl 11 rfl) ?_
    refine lv_iconst (v := 0) hx hb dL_law_497 (by decide) ?_
    refine lv_iload hx hb dL_law_498 (lv_at hl 0 rfl) ?_
    refine sl_calli (sl_runV (As := [.int 0, .int (nI j455)]) (rest := []) hC hG (sl_nox (kX4_cellAt l hlt Γ g α β n ep tl false T C E hK 0 (nI j455)) (fun E9 z => lp_ca (by decide) (by omega) z.2)) mi_X4_cellAt lk_RL_8 0 hK.1 rfl rfl rfl ⟨Nat.le_of_ble_eq_true rfl, Nat.le_of_ble_eq_true rfl⟩ rfl hl.1 rfl (Nat.le_of_ble_eq_true rfl) dL_law_500 ⟨(by show _ + _ ≤ 600104; omega), (by show _ + _ ≤ 7301314; omega)⟩) hG (fun r_500 u_500 H locs hr_500 hG => ?_)
    refine sl_topi (y := C j455) (hr_500.2.trans (sl_cg0 C (by omega))) ?_
    refine lv_if_lt (tgt := 510) hx hb dL_law_503 (by decide) (fun c_503 => ?_) (fun c_503 => ?_)
    · refine lv_iconst (v := 0) hx hb dL_law_510 (by decide) ?_
      refine lv_istore (lv' := [(16, .int 0), (15, .int (nI j455)), (14, .int (nI tl)), (11, .int w), (9, .int (nI i)), (8, .int (nI n)), (7, .ref (ρ 5)), (6, .ref (ρ 4)), (5, .ref (ρ 3)), (4, .ref (ρ 2)), (3, .ref (ρ 1)), (2, .ref (ρ 0)), (1, .ref (α 0)), (0, .ref bb)]) hx hb dL_law_511 hl (by decide) rfl (fun ls hl => ?_)
      refine lv_aload_n hx hb dL_law_513 rfl (lv_at hl 12 rfl) ?_
      refine lv_iload hx hb dL_law_514 (lv_at hl 1 rfl) ?_
      refine sl_calli (sl_runV (As := [.int (nI j455)]) (rest := []) hC hG (sl_nox (kX4_fill l hlt Γ g α β n ep tl false T C E hK (nI j455)) (fun E9 z => lp_nofill (by omega) (by omega) hwh z)) mi_X4_fill lk_RL_65 0 hK.1 rfl rfl rfl ⟨Nat.le_of_ble_eq_true rfl, Nat.le_of_ble_eq_true rfl⟩ rfl hl.1 rfl (Nat.le_of_ble_eq_true rfl) dL_law_516 ⟨(by show _ + _ ≤ 600104; omega), (by show _ + _ ≤ 7301314; omega)⟩) hG (fun r_516 u_516 H locs hr_516 hG => ?_)
      obtain ⟨b9, y1, y2, y3, y4, y5, y6, y7, y8⟩ := hr_516
      have y9 : j455 = b9 := sl_nIne (by omega) (by omega) y1
      subst y9
      have hJ2 := hJ.fill hw y2 y4 y5
      rw [← hJ.cf hw y2 y5] at hJ2
      have hO2 := hO.mk2 y7 y8 hJ2 (lp_wf_fill hw y2) hn60 ht60 hAr
      have hG : sl_I Γ u_516 s H locs := hG
      refine sl_topi (y := 0) (y6.trans (by rw [sl_tok_isS hn9 (hw.2.2.1 j455 (by omega)), decide_eq_true c_503]; rfl)) ?_
      refine lv_iload hx hb dL_law_519 (lv_at hl 0 rfl) ?_
      refine lv_icmp_eq (tgt := 526) hx hb dL_law_521 (by decide) (fun c_521 => ?_) (fun c_521 => ?_)
      · refine lv_goto (tgt := 595) hx hb dL_law_526 (by decide) ?_
        exact kk n (e0) _ _ _ _ _ _ (by omega) hO2.lt hG (lv_sub hl [3, 4, 5, 6, 7, 8, 9, 10, 11, 12, 13] rfl) (by omega) (by omega)
      · exact absurd c_521 (by decide)
    · refine lv_iconst (v := 1) hx hb dL_law_506 (by decide) ?_
      refine lv_goto (tgt := 511) hx hb dL_law_507 (by decide) ?_
      refine lv_istore (lv' := [(16, .int 1), (15, .int (nI j455)), (14, .int (nI tl)), (11, .int w), (9, .int (nI i)), (8, .int (nI n)), (7, .ref (ρ 5)), (6, .ref (ρ 4)), (5, .ref (ρ 3)), (4, .ref (ρ 2)), (3, .ref (ρ 1)), (2, .ref (ρ 0)), (1, .ref (α 0)), (0, .ref bb)]) hx hb dL_law_511 hl (by decide) rfl (fun ls hl => ?_)
      refine lv_aload_n hx hb dL_law_513 rfl (lv_at hl 12 rfl) ?_
      refine lv_iload hx hb dL_law_514 (lv_at hl 1 rfl) ?_
      refine sl_calli (sl_runV (As := [.int (nI j455)]) (rest := []) hC hG (sl_nox (kX4_fill l hlt Γ g α β n ep tl false T C E hK (nI j455)) (fun E9 z => lp_nofill (by omega) (by omega) hwh z)) mi_X4_fill lk_RL_65 0 hK.1 rfl rfl rfl ⟨Nat.le_of_ble_eq_true rfl, Nat.le_of_ble_eq_true rfl⟩ rfl hl.1 rfl (Nat.le_of_ble_eq_true rfl) dL_law_516 ⟨(by show _ + _ ≤ 600104; omega), (by show _ + _ ≤ 7301314; omega)⟩) hG (fun r_516 u_516 H locs hr_516 hG => ?_)
      obtain ⟨b9, y1, y2, y3, y4, y5, y6, y7, y8⟩ := hr_516
      have y9 : j455 = b9 := sl_nIne (by omega) (by omega) y1
      subst y9
      have hJ2 := hJ.fill hw y2 y4 y5
      rw [← hJ.cf hw y2 y5] at hJ2
      have hO2 := hO.mk2 y7 y8 hJ2 (lp_wf_fill hw y2) hn60 ht60 hAr
      have hG : sl_I Γ u_516 s H locs := hG
      refine sl_topi (y := 1) (y6.trans (by rw [sl_tok_isS hn9 (hw.2.2.1 j455 (by omega)), decide_eq_false c_503]; rfl)) ?_
      refine lv_iload hx hb dL_law_519 (lv_at hl 0 rfl) ?_
      refine lv_icmp_eq (tgt := 526) hx hb dL_law_521 (by decide) (fun c_521 => ?_) (fun c_521 => ?_)
      · refine lv_goto (tgt := 595) hx hb dL_law_526 (by decide) ?_
        exact kk n (e0) _ _ _ _ _ _ (by omega) hO2.lt hG (lv_sub hl [3, 4, 5, 6, 7, 8, 9, 10, 11, 12, 13] rfl) (by omega) (by omega)
      · exact absurd c_521 (by decide)
  · refine lv_aload_n hx hb dL_law_472 rfl (lv_at hl 11 rfl) ?_
    refine lv_iconst (v := 1) hx hb dL_law_473 (by decide) ?_
    refine lv_iload hx hb dL_law_474 (lv_at hl 0 rfl) ?_
    refine sl_calli (sl_runV (As := [.int 1, .int (nI j455)]) (rest := []) hC hG (sl_nox (kX4_cellAt l hlt Γ g α β n ep tl false T C E hK 1 (nI j455)) (fun E9 z => lp_ca (by decide) (by omega) z.2)) mi_X4_cellAt lk_RL_8 0 hK.1 rfl rfl rfl ⟨Nat.le_of_ble_eq_true rfl, Nat.le_of_ble_eq_true rfl⟩ rfl hl.1 rfl (Nat.le_of_ble_eq_true rfl) dL_law_476 ⟨(by show _ + _ ≤ 600104; omega), (by show _ + _ ≤ 7301314; omega)⟩) hG (fun r_476 u_476 H locs hr_476 hG => ?_)
    refine sl_topi (y := C (120 + j455)) (hr_476.2.trans (lp_cg1 C (by omega))) ?_
    refine lv_bipush (v := (-2)) hx hb dL_law_479 (by decide) ?_
    refine lv_icmp_eq (tgt := 496) hx hb dL_law_481 (by decide) (fun c_481 => ?_) (fun c_481 => ?_)
    · have hwh : sl_wh C j455 = false := sl_wh_iff.mpr (Or.inr (Or.inl c_481))
      refine lv_aload_n hx hb dL_law_496 rfl (lv_at hl 11 rfl) ?_
      refine lv_iconst (v := 0) hx hb dL_law_497 (by decide) ?_
      refine lv_iload hx hb dL_law_498 (lv_at hl 0 rfl) ?_
      refine sl_calli (sl_runV (As := [.int 0, .int (nI j455)]) (rest := []) hC hG (sl_nox (kX4_cellAt l hlt Γ g α β n ep tl false T C E hK 0 (nI j455)) (fun E9 z => lp_ca (by decide) (by omega) z.2)) mi_X4_cellAt lk_RL_8 0 hK.1 rfl rfl rfl ⟨Nat.le_of_ble_eq_true rfl, Nat.le_of_ble_eq_true rfl⟩ rfl hl.1 rfl (Nat.le_of_ble_eq_true rfl) dL_law_500 ⟨(by show _ + _ ≤ 600104; omega), (by show _ + _ ≤ 7301314; omega)⟩) hG (fun r_500 u_500 H locs hr_500 hG => ?_)
      refine sl_topi (y := C j455) (hr_500.2.trans (sl_cg0 C (by omega))) ?_
      refine lv_if_lt (tgt := 510) hx hb dL_law_503 (by decide) (fun c_503 => ?_) (fun c_503 => ?_)
      · refine lv_iconst (v := 0) hx hb dL_law_510 (by decide) ?_
        refine lv_istore (lv' := [(16, .int 0), (15, .int (nI j455)), (14, .int (nI tl)), (11, .int w), (9, .int (nI i)), (8, .int (nI n)), (7, .ref (ρ 5)), (6, .ref (ρ 4)), (5, .ref (ρ 3)), (4, .ref (ρ 2)), (3, .ref (ρ 1)), (2, .ref (ρ 0)), (1, .ref (α 0)), (0, .ref bb)]) hx hb dL_law_511 hl (by decide) rfl (fun ls hl => ?_)
        refine lv_aload_n hx hb dL_law_513 rfl (lv_at hl 12 rfl) ?_
        refine lv_iload hx hb dL_law_514 (lv_at hl 1 rfl) ?_
        refine sl_calli (sl_runV (As := [.int (nI j455)]) (rest := []) hC hG (sl_nox (kX4_fill l hlt Γ g α β n ep tl false T C E hK (nI j455)) (fun E9 z => lp_nofill (by omega) (by omega) hwh z)) mi_X4_fill lk_RL_65 0 hK.1 rfl rfl rfl ⟨Nat.le_of_ble_eq_true rfl, Nat.le_of_ble_eq_true rfl⟩ rfl hl.1 rfl (Nat.le_of_ble_eq_true rfl) dL_law_516 ⟨(by show _ + _ ≤ 600104; omega), (by show _ + _ ≤ 7301314; omega)⟩) hG (fun r_516 u_516 H locs hr_516 hG => ?_)
        obtain ⟨b9, y1, y2, y3, y4, y5, y6, y7, y8⟩ := hr_516
        have y9 : j455 = b9 := sl_nIne (by omega) (by omega) y1
        subst y9
        have hJ2 := hJ.fill hw y2 y4 y5
        rw [← hJ.cf hw y2 y5] at hJ2
        have hO2 := hO.mk2 y7 y8 hJ2 (lp_wf_fill hw y2) hn60 ht60 hAr
        have hG : sl_I Γ u_516 s H locs := hG
        refine sl_topi (y := 0) (y6.trans (by rw [sl_tok_isS hn9 (hw.2.2.1 j455 (by omega)), decide_eq_true c_503]; rfl)) ?_
        refine lv_iload hx hb dL_law_519 (lv_at hl 0 rfl) ?_
        refine lv_icmp_eq (tgt := 526) hx hb dL_law_521 (by decide) (fun c_521 => ?_) (fun c_521 => ?_)
        · refine lv_goto (tgt := 595) hx hb dL_law_526 (by decide) ?_
          exact kk n (e0) _ _ _ _ _ _ (by omega) hO2.lt hG (lv_sub hl [3, 4, 5, 6, 7, 8, 9, 10, 11, 12, 13] rfl) (by omega) (by omega)
        · exact absurd c_521 (by decide)
      · refine lv_iconst (v := 1) hx hb dL_law_506 (by decide) ?_
        refine lv_goto (tgt := 511) hx hb dL_law_507 (by decide) ?_
        refine lv_istore (lv' := [(16, .int 1), (15, .int (nI j455)), (14, .int (nI tl)), (11, .int w), (9, .int (nI i)), (8, .int (nI n)), (7, .ref (ρ 5)), (6, .ref (ρ 4)), (5, .ref (ρ 3)), (4, .ref (ρ 2)), (3, .ref (ρ 1)), (2, .ref (ρ 0)), (1, .ref (α 0)), (0, .ref bb)]) hx hb dL_law_511 hl (by decide) rfl (fun ls hl => ?_)
        refine lv_aload_n hx hb dL_law_513 rfl (lv_at hl 12 rfl) ?_
        refine lv_iload hx hb dL_law_514 (lv_at hl 1 rfl) ?_
        refine sl_calli (sl_runV (As := [.int (nI j455)]) (rest := []) hC hG (sl_nox (kX4_fill l hlt Γ g α β n ep tl false T C E hK (nI j455)) (fun E9 z => lp_nofill (by omega) (by omega) hwh z)) mi_X4_fill lk_RL_65 0 hK.1 rfl rfl rfl ⟨Nat.le_of_ble_eq_true rfl, Nat.le_of_ble_eq_true rfl⟩ rfl hl.1 rfl (Nat.le_of_ble_eq_true rfl) dL_law_516 ⟨(by show _ + _ ≤ 600104; omega), (by show _ + _ ≤ 7301314; omega)⟩) hG (fun r_516 u_516 H locs hr_516 hG => ?_)
        obtain ⟨b9, y1, y2, y3, y4, y5, y6, y7, y8⟩ := hr_516
        have y9 : j455 = b9 := sl_nIne (by omega) (by omega) y1
        subst y9
        have hJ2 := hJ.fill hw y2 y4 y5
        rw [← hJ.cf hw y2 y5] at hJ2
        have hO2 := hO.mk2 y7 y8 hJ2 (lp_wf_fill hw y2) hn60 ht60 hAr
        have hG : sl_I Γ u_516 s H locs := hG
        refine sl_topi (y := 1) (y6.trans (by rw [sl_tok_isS hn9 (hw.2.2.1 j455 (by omega)), decide_eq_false c_503]; rfl)) ?_
        refine lv_iload hx hb dL_law_519 (lv_at hl 0 rfl) ?_
        refine lv_icmp_eq (tgt := 526) hx hb dL_law_521 (by decide) (fun c_521 => ?_) (fun c_521 => ?_)
        · refine lv_goto (tgt := 595) hx hb dL_law_526 (by decide) ?_
          exact kk n (e0) _ _ _ _ _ _ (by omega) hO2.lt hG (lv_sub hl [3, 4, 5, 6, 7, 8, 9, 10, 11, 12, 13] rfl) (by omega) (by omega)
        · exact absurd c_521 (by decide)
    · refine lv_aload_n hx hb dL_law_484 rfl (lv_at hl 11 rfl) ?_
      refine lv_iconst (v := 2) hx hb dL_law_485 (by decide) ?_
      refine lv_iload hx hb dL_law_486 (lv_at hl 0 rfl) ?_
      refine sl_calli (sl_runV (As := [.int 2, .int (nI j455)]) (rest := []) hC hG (sl_nox (kX4_cellAt l hlt Γ g α β n ep tl false T C E hK 2 (nI j455)) (fun E9 z => lp_ca (by decide) (by omega) z.2)) mi_X4_cellAt lk_RL_8 0 hK.1 rfl rfl rfl ⟨Nat.le_of_ble_eq_true rfl, Nat.le_of_ble_eq_true rfl⟩ rfl hl.1 rfl (Nat.le_of_ble_eq_true rfl) dL_law_488 ⟨(by show _ + _ ≤ 600104; omega), (by show _ + _ ≤ 7301314; omega)⟩) hG (fun r_488 u_488 H locs hr_488 hG => ?_)
      refine sl_topi (y := C (240 + j455)) (hr_488.2.trans (lp_cg2 C (by omega))) ?_
      refine lv_bipush (v := (-2)) hx hb dL_law_491 (by decide) ?_
      refine lv_icmp_ne (tgt := 526) hx hb dL_law_493 (by decide) (fun c_493 => ?_) (fun c_493 => ?_)
      · refine lv_goto (tgt := 595) hx hb dL_law_526 (by decide) ?_
        exact kk n (e0) _ _ _ _ _ _ (by omega) hO.lt hG (lv_sub hl [2, 3, 4, 5, 6, 7, 8, 9, 10, 11, 12] rfl) (by omega) (by omega)
      · have hwh : sl_wh C j455 = false := sl_wh_iff.mpr (Or.inr (Or.inr c_493))
        refine lv_aload_n hx hb dL_law_496 rfl (lv_at hl 11 rfl) ?_
        refine lv_iconst (v := 0) hx hb dL_law_497 (by decide) ?_
        refine lv_iload hx hb dL_law_498 (lv_at hl 0 rfl) ?_
        refine sl_calli (sl_runV (As := [.int 0, .int (nI j455)]) (rest := []) hC hG (sl_nox (kX4_cellAt l hlt Γ g α β n ep tl false T C E hK 0 (nI j455)) (fun E9 z => lp_ca (by decide) (by omega) z.2)) mi_X4_cellAt lk_RL_8 0 hK.1 rfl rfl rfl ⟨Nat.le_of_ble_eq_true rfl, Nat.le_of_ble_eq_true rfl⟩ rfl hl.1 rfl (Nat.le_of_ble_eq_true rfl) dL_law_500 ⟨(by show _ + _ ≤ 600104; omega), (by show _ + _ ≤ 7301314; omega)⟩) hG (fun r_500 u_500 H locs hr_500 hG => ?_)
        refine sl_topi (y := C j455) (hr_500.2.trans (sl_cg0 C (by omega))) ?_
        refine lv_if_lt (tgt := 510) hx hb dL_law_503 (by decide) (fun c_503 => ?_) (fun c_503 => ?_)
        · refine lv_iconst (v := 0) hx hb dL_law_510 (by decide) ?_
          refine lv_istore (lv' := [(16, .int 0), (15, .int (nI j455)), (14, .int (nI tl)), (11, .int w), (9, .int (nI i)), (8, .int (nI n)), (7, .ref (ρ 5)), (6, .ref (ρ 4)), (5, .ref (ρ 3)), (4, .ref (ρ 2)), (3, .ref (ρ 1)), (2, .ref (ρ 0)), (1, .ref (α 0)), (0, .ref bb)]) hx hb dL_law_511 hl (by decide) rfl (fun ls hl => ?_)
          refine lv_aload_n hx hb dL_law_513 rfl (lv_at hl 12 rfl) ?_
          refine lv_iload hx hb dL_law_514 (lv_at hl 1 rfl) ?_
          refine sl_calli (sl_runV (As := [.int (nI j455)]) (rest := []) hC hG (sl_nox (kX4_fill l hlt Γ g α β n ep tl false T C E hK (nI j455)) (fun E9 z => lp_nofill (by omega) (by omega) hwh z)) mi_X4_fill lk_RL_65 0 hK.1 rfl rfl rfl ⟨Nat.le_of_ble_eq_true rfl, Nat.le_of_ble_eq_true rfl⟩ rfl hl.1 rfl (Nat.le_of_ble_eq_true rfl) dL_law_516 ⟨(by show _ + _ ≤ 600104; omega), (by show _ + _ ≤ 7301314; omega)⟩) hG (fun r_516 u_516 H locs hr_516 hG => ?_)
          obtain ⟨b9, y1, y2, y3, y4, y5, y6, y7, y8⟩ := hr_516
          have y9 : j455 = b9 := sl_nIne (by omega) (by omega) y1
          subst y9
          have hJ2 := hJ.fill hw y2 y4 y5
          rw [← hJ.cf hw y2 y5] at hJ2
          have hO2 := hO.mk2 y7 y8 hJ2 (lp_wf_fill hw y2) hn60 ht60 hAr
          have hG : sl_I Γ u_516 s H locs := hG
          refine sl_topi (y := 0) (y6.trans (by rw [sl_tok_isS hn9 (hw.2.2.1 j455 (by omega)), decide_eq_true c_503]; rfl)) ?_
          refine lv_iload hx hb dL_law_519 (lv_at hl 0 rfl) ?_
          refine lv_icmp_eq (tgt := 526) hx hb dL_law_521 (by decide) (fun c_521 => ?_) (fun c_521 => ?_)
          · refine lv_goto (tgt := 595) hx hb dL_law_526 (by decide) ?_
            exact kk n (e0) _ _ _ _ _ _ (by omega) hO2.lt hG (lv_sub hl [3, 4, 5, 6, 7, 8, 9, 10, 11, 12, 13] rfl) (by omega) (by omega)
          · exact absurd c_521 (by decide)
        · refine lv_iconst (v := 1) hx hb dL_law_506 (by decide) ?_
          refine lv_goto (tgt := 511) hx hb dL_law_507 (by decide) ?_
          refine lv_istore (lv' := [(16, .int 1), (15, .int (nI j455)), (14, .int (nI tl)), (11, .int w), (9, .int (nI i)), (8, .int (nI n)), (7, .ref (ρ 5)), (6, .ref (ρ 4)), (5, .ref (ρ 3)), (4, .ref (ρ 2)), (3, .ref (ρ 1)), (2, .ref (ρ 0)), (1, .ref (α 0)), (0, .ref bb)]) hx hb dL_law_511 hl (by decide) rfl (fun ls hl => ?_)
          refine lv_aload_n hx hb dL_law_513 rfl (lv_at hl 12 rfl) ?_
          refine lv_iload hx hb dL_law_514 (lv_at hl 1 rfl) ?_
          refine sl_calli (sl_runV (As := [.int (nI j455)]) (rest := []) hC hG (sl_nox (kX4_fill l hlt Γ g α β n ep tl false T C E hK (nI j455)) (fun E9 z => lp_nofill (by omega) (by omega) hwh z)) mi_X4_fill lk_RL_65 0 hK.1 rfl rfl rfl ⟨Nat.le_of_ble_eq_true rfl, Nat.le_of_ble_eq_true rfl⟩ rfl hl.1 rfl (Nat.le_of_ble_eq_true rfl) dL_law_516 ⟨(by show _ + _ ≤ 600104; omega), (by show _ + _ ≤ 7301314; omega)⟩) hG (fun r_516 u_516 H locs hr_516 hG => ?_)
          obtain ⟨b9, y1, y2, y3, y4, y5, y6, y7, y8⟩ := hr_516
          have y9 : j455 = b9 := sl_nIne (by omega) (by omega) y1
          subst y9
          have hJ2 := hJ.fill hw y2 y4 y5
          rw [← hJ.cf hw y2 y5] at hJ2
          have hO2 := hO.mk2 y7 y8 hJ2 (lp_wf_fill hw y2) hn60 ht60 hAr
          have hG : sl_I Γ u_516 s H locs := hG
          refine sl_topi (y := 1) (y6.trans (by rw [sl_tok_isS hn9 (hw.2.2.1 j455 (by omega)), decide_eq_false c_503]; rfl)) ?_
          refine lv_iload hx hb dL_law_519 (lv_at hl 0 rfl) ?_
          refine lv_icmp_eq (tgt := 526) hx hb dL_law_521 (by decide) (fun c_521 => ?_) (fun c_521 => ?_)
          · refine lv_goto (tgt := 595) hx hb dL_law_526 (by decide) ?_
            exact kk n (e0) _ _ _ _ _ _ (by omega) hO2.lt hG (lv_sub hl [3, 4, 5, 6, 7, 8, 9, 10, 11, 12, 13] rfl) (by omega) (by omega)
          · exact absurd c_521 (by decide)
set_option maxHeartbeats 4000000 in
set_option maxRecDepth 100000 in
theorem lp_seg_tail {p : Program} {l : Launch} {e : Env} {s : State} {m : MethodId} {below : List Frame} {meth : Method} {c : Code} {H : Heap} {locs : List Loc} {cells slots : Nat} {Q : State → Prop} {Γ : sl_G} {α ρ : Nat → Nat} {bb i : Nat} {g : sl_W} {ls : Array Slot} {w : Int32} {β : Nat → Nat × Nat × Nat} {n e0 : Nat} {ep : Int32} {tl : Nat} {lo : Bool} {T C : Nat → Int32} {E : Nat → sl_Ent} {S A R V P F : Nat → Int32} (hlt : l.stackTraces = false) (hC : sl_C Γ p s m meth c cL_law 17 RL) (hG : sl_I Γ g s H locs) (hO : lp_O Γ α ρ β n e0 ep tl lo T C E S A R V P F g) (he : e0 < 100000) (hcs : cells + 600 ≤ 600104) (hss : slots + 3600 ≤ 7301314)  (hl : lv_has ls 17 [(11, .int w), (9, .int (nI i)), (8, .int (nI n)), (7, .ref (ρ 5)), (6, .ref (ρ 4)), (5, .ref (ρ 3)), (4, .ref (ρ 2)), (3, .ref (ρ 1)), (2, .ref (ρ 0)), (1, .ref (α 0)), (0, .ref bb)]) (kk : ∀ (g1 : sl_W) (H1 : Heap) (locs1 : List Loc) (ls1 : Array Slot) (k1 m1 : Nat), lp_LT Γ α ρ n e0 g1 → sl_I Γ g1 s H1 locs1 → lv_has ls1 17 [(9, .int (nI i)), (8, .int (nI n)), (7, .ref (ρ 5)), (6, .ref (ρ 4)), (5, .ref (ρ 3)), (4, .ref (ρ 2)), (3, .ref (ρ 1)), (2, .ref (ρ 0)), (1, .ref (α 0)), (0, .ref bb)] → k1 ≤ cells + 487 → m1 ≤ slots + 2922 → W p l e room_1 s m #[.ref bb] below meth c H1 locs1 k1 m1 Q (F0 m 650 ls1 [])) : W p l e room_1 s m #[.ref bb] below meth c H locs cells slots Q (F0 m 595 ls []) := by
  have hx := hC.1
  have hb := hC.2.1
  obtain ⟨hK, hJ, hw, hn60, ht60, h41, h42, h43, h44, h45, h46, hAr⟩ := id hO
  have hk60 : sl_kn C ≤ 60 := Nat.le_trans (lp_kn_le hw.2.1 hJ.em) ht60
  refine lv_aload_n hx hb dL_law_595 rfl (lv_at hl 9 rfl) ?_
  refine sl_calli (sl_runV (As := []) (rest := []) hC hG (kX4_known l Γ g α β n ep tl lo T C E hK) mi_X4_known lk_RL_74 0 hK.1 rfl rfl rfl ⟨Nat.le_of_ble_eq_true rfl, Nat.le_of_ble_eq_true rfl⟩ rfl hl.1 rfl (Nat.le_of_ble_eq_true rfl) dL_law_596 ⟨(by show _ + _ ≤ 600104; omega), (by show _ + _ ≤ 7301314; omega)⟩) hG (fun r_596 u_596 H locs hr_596 hG => ?_)
  refine sl_topi (y := nI (sl_kn C)) (hr_596) ?_
  refine lv_istore (lv' := [(15, .int (nI (sl_kn C))), (11, .int w), (9, .int (nI i)), (8, .int (nI n)), (7, .ref (ρ 5)), (6, .ref (ρ 4)), (5, .ref (ρ 3)), (4, .ref (ρ 2)), (3, .ref (ρ 1)), (2, .ref (ρ 0)), (1, .ref (α 0)), (0, .ref bb)]) hx hb dL_law_599 hl (by decide) rfl (fun ls hl => ?_)
  refine lv_aload_n hx hb dL_law_601 rfl (lv_at hl 10 rfl) ?_
  refine lv_aload_n hx hb dL_law_602 rfl (lv_at hl 9 rfl) ?_
  refine lv_aload hx hb dL_law_603 (lv_at hl 7 rfl) ?_
  refine lv_aload hx hb dL_law_605 (lv_at hl 6 rfl) ?_
  refine lv_aload hx hb dL_law_607 (lv_at hl 4 rfl) ?_
  refine lv_iload hx hb dL_law_609 (lv_at hl 0 rfl) ?_
  refine sl_callv (sl_runS (As := [.ref (α 0), .ref (ρ 0), .ref (ρ 2), .ref (ρ 3), .ref (ρ 5), .int (nI (sl_kn C))]) (rest := []) hC hG (kL_folds l Γ g hlt α β n ep tl lo T C E hK hw hJ.st hk60 hn60 (ρ 0) (ρ 2) (ρ 3) (ρ 5) S R V F h41 h43 h44 h46 (fun t ht => (hAr t ht).1) (fun t ht => (hAr t ht).2.2.1) (fun t ht => (hAr t ht).2.2.2.1)) mi_L_folds lk_RL_77 rfl rfl ⟨Nat.le_of_ble_eq_true rfl, Nat.le_of_ble_eq_true rfl⟩ rfl hl.1 rfl (Nat.le_of_ble_eq_true rfl) dL_law_611 ⟨(by show _ + _ ≤ 600104; omega), (by show _ + _ ≤ 7301314; omega)⟩) hG (fun u_611 H locs hr_611 hG => ?_)
  have hG : sl_I Γ (sl_up g 46 (ρ 5, .inl (Γ.2.1 0, 60, .inl u_611))) s H locs := hG
  have hO2 := hO.up46 u_611
  obtain ⟨hK2, -, -, -, -, k41, k42, k43, k44, k45, k46, -⟩ := id hO2
  refine lv_aload_n hx hb dL_law_614 rfl (lv_at hl 10 rfl) ?_
  refine lv_aload_n hx hb dL_law_615 rfl (lv_at hl 9 rfl) ?_
  refine lv_aload_n hx hb dL_law_616 rfl (lv_at hl 8 rfl) ?_
  refine lv_aload hx hb dL_law_617 (lv_at hl 4 rfl) ?_
  refine lv_iload hx hb dL_law_619 (lv_at hl 1 rfl) ?_
  refine lv_bipush (v := 9) hx hb dL_law_621 (by decide) ?_
  refine lv_ishr hx hb dL_law_623 ?_
  refine lv_iconst (v := 4) hx hb dL_law_624 (by decide) ?_
  refine sl_calli (sl_runS (As := [.int (w >>> (9 &&& 31)), .int 4]) (rest := [.ref (ρ 5), .ref (ρ 1), .ref (ρ 0), .ref (α 0)]) hC hG (kL_low l Γ (sl_up g 46 (ρ 5, .inl (Γ.2.1 0, 60, .inl u_611))) (w >>> (9 &&& 31)) 4 4 rfl (by omega) (by omega)) mi_L_low lk_RL_38 rfl rfl ⟨Nat.le_of_ble_eq_true rfl, Nat.le_of_ble_eq_true rfl⟩ rfl hl.1 rfl (Nat.le_of_ble_eq_true rfl) dL_law_625 ⟨(by show _ + _ ≤ 600104; omega), (by show _ + _ ≤ 7301314; omega)⟩) hG (fun r_625 u_625 H locs hr_625 hG => ?_)
  obtain ⟨j625, hj625, ej625⟩ := hr_625
  refine sl_topi ej625 ?_
  refine lv_iload hx hb dL_law_628 (lv_at hl 0 rfl) ?_
  refine lv_iload hx hb dL_law_630 (lv_at hl 1 rfl) ?_
  refine lv_bipush (v := 13) hx hb dL_law_632 (by decide) ?_
  refine lv_ishr hx hb dL_law_634 ?_
  refine lv_iload hx hb dL_law_635 (lv_at hl 0 rfl) ?_
  refine lv_iconst (v := 1) hx hb dL_law_637 (by decide) ?_
  refine lv_iadd hx hb dL_law_638 ?_
  refine sl_topi (y := nI (sl_kn C + 1)) (nI_add (sl_kn C) 1) ?_
  refine sl_calli (sl_runS (As := [.int (w >>> (13 &&& 31)), .int (nI (sl_kn C + 1))]) (rest := [.int (nI (sl_kn C)), .int (nI j625), .ref (ρ 5), .ref (ρ 1), .ref (ρ 0), .ref (α 0)]) hC hG (kL_low l Γ (sl_up g 46 (ρ 5, .inl (Γ.2.1 0, 60, .inl u_611))) (w >>> (13 &&& 31)) (nI (sl_kn C + 1)) (sl_kn C + 1) rfl (by omega) (by omega)) mi_L_low lk_RL_38 rfl rfl ⟨Nat.le_of_ble_eq_true rfl, Nat.le_of_ble_eq_true rfl⟩ rfl hl.1 rfl (Nat.le_of_ble_eq_true rfl) dL_law_639 ⟨(by show _ + _ ≤ 600104; omega), (by show _ + _ ≤ 7301314; omega)⟩) hG (fun r_639 u_639 H locs hr_639 hG => ?_)
  obtain ⟨j639, hj639, ej639⟩ := hr_639
  refine sl_topi ej639 ?_
  refine sl_calli (sl_runS (As := [.ref (α 0), .ref (ρ 0), .ref (ρ 1), .ref (ρ 5), .int (nI j625), .int (nI (sl_kn C)), .int (nI j639)]) (rest := []) hC hG (kL_isFolded l Γ (sl_up g 46 (ρ 5, .inl (Γ.2.1 0, 60, .inl u_611))) hlt α β n ep tl lo T C E hK2 hw hJ hk60 hn60 (ρ 0) (ρ 1) (ρ 5) S A u_611 k41 k42 k46 (fun t ht => (hAr t ht).1) (fun t ht => (hAr t ht).2.1) hr_611 j625 (by omega) j639 (by omega)) mi_L_isFolded lk_RL_81 rfl rfl ⟨Nat.le_of_ble_eq_true rfl, Nat.le_of_ble_eq_true rfl⟩ rfl hl.1 rfl (Nat.le_of_ble_eq_true rfl) dL_law_642 ⟨(by show _ + _ ≤ 600104; omega), (by show _ + _ ≤ 7301314; omega)⟩) hG (fun r_642 u_642 H locs hr_642 hG => ?_)
  have hG : sl_I Γ u_642 s H locs := hG
  have hO3 := hO2.mk2 hr_642.2.1 hr_642.2.2 hJ hw hn60 ht60 hAr
  refine sl_topi (y := 1) hr_642.1 ?_
  refine lv_if_ne (tgt := 650) hx hb dL_law_645 (by decide) (fun c_645 => ?_) (fun c_645 => ?_)
  · exact kk _ _ _ _ _ _ hO3.lt hG (lv_sub hl [2, 3, 4, 5, 6, 7, 8, 9, 10, 11] rfl) (by omega) (by omega)
  · exact absurd c_645 (by decide)
set_option maxHeartbeats 4000000 in
set_option maxRecDepth 100000 in
theorem lp_seg_wl {p : Program} {l : Launch} {e : Env} {s : State} {m : MethodId} {below : List Frame} {meth : Method} {c : Code} {Q : State → Prop} {Γ : sl_G} {α ρ : Nat → Nat} {bb i n e0 t M N : Nat} {w : Int32} (hlt : l.stackTraces = false) (hC : sl_C Γ p s m meth c cL_law 17 RL) (ht : t < n) (hM : M ≤ 600104) (hN : N ≤ 7301314) (kk : ∀ (g1 : sl_W) (H1 : Heap) (locs1 : List Loc) (ls1 : Array Slot) (k1 m1 : Nat), lp_LT Γ α ρ n e0 g1 → sl_I Γ g1 s H1 locs1 → lv_has ls1 17 [(11, .int w), (9, .int (nI i)), (8, .int (nI n)), (7, .ref (ρ 5)), (6, .ref (ρ 4)), (5, .ref (ρ 3)), (4, .ref (ρ 2)), (3, .ref (ρ 1)), (2, .ref (ρ 0)), (1, .ref (α 0)), (0, .ref bb)] → k1 ≤ M → m1 ≤ N → W p l e room_1 s m #[.ref bb] below meth c H1 locs1 k1 m1 Q (F0 m 595 ls1 [])) :
    ∀ (fuel q : Nat) (b : Bool) (g : sl_W) (H : Heap) (locs : List Loc) (ls : Array Slot) (cells slots : Nat), q ≤ 3 → 4 ≤ q + fuel → cells + (3 - q) ≤ M → slots + 6 * (3 - q) ≤ N → lp_LW Γ α ρ n e0 t b g → sl_I Γ g s H locs → lv_has ls 17 [(16, .int (nI q)), (15, .int (sl_bi b)), (13, .int (nI t)), (11, .int w), (9, .int (nI i)), (8, .int (nI n)), (7, .ref (ρ 5)), (6, .ref (ρ 4)), (5, .ref (ρ 3)), (4, .ref (ρ 2)), (3, .ref (ρ 1)), (2, .ref (ρ 0)), (1, .ref (α 0)), (0, .ref bb)] → W p l e room_1 s m #[.ref bb] below meth c H locs cells slots Q (F0 m 402 ls []) := by
  have hx := hC.1
  have hb := hC.2.1
  intro fuel
  induction fuel with
  | zero =>
    intro q b g H locs ls cells slots h1 h2
    exact absurd h2 (by omega)
  | succ fuel ih =>
    intro q b g H locs ls cells slots h1 h2 h3 h4 hW hG hl
    obtain ⟨β, ep, tl, lo, T, C, E, S, A, R, V, P, F, hO, hok⟩ := hW
    obtain ⟨hK, hJ, hw, hn60, ht60, h41, h42, h43, h44, h45, h46, hAr⟩ := id hO
    have hn9 := hw.1
    refine lv_iload hx hb dL_law_402 (lv_at hl 0 rfl) ?_
    refine lv_iconst (v := 1) hx hb dL_law_404 (by decide) ?_
    refine lv_iload hx hb dL_law_405 (lv_at hl 3 rfl) ?_
    refine lv_iconst (v := 5) hx hb dL_law_407 (by decide) ?_
    refine lv_ishr hx hb dL_law_408 ?_
    refine lv_iconst (v := 3) hx hb dL_law_409 (by decide) ?_
    refine sl_calli (sl_runS (As := [.int (w >>> (5 &&& 31)), .int 3]) (rest := [.int 1, .int (nI q)]) hC hG (kL_low l Γ g (w >>> (5 &&& 31)) 3 3 rfl (by omega) (by omega)) mi_L_low lk_RL_38 rfl rfl ⟨Nat.le_of_ble_eq_true rfl, Nat.le_of_ble_eq_true rfl⟩ rfl hl.1 rfl (Nat.le_of_ble_eq_true rfl) dL_law_410 ⟨(by show _ + _ ≤ 600104; omega), (by show _ + _ ≤ 7301314; omega)⟩) hG (fun r_410 u_410 H locs hr_410 hG => ?_)
    obtain ⟨j410, hj410, ej410⟩ := hr_410
    refine sl_topi ej410 ?_
    refine lv_iadd hx hb dL_law_413 ?_
    refine sl_topi (y := nI (1 + j410)) (nI_add 1 j410) ?_
    refine lv_icmp_ge (tgt := 436) hx hb dL_law_414 (by decide) (fun c_414 => ?_) (fun c_414 => ?_)
    · have n_414 : 1 + j410 ≤ q := (nI_leI (a := 1 + j410) (b := q) (by omega) (by omega)).mp c_414
      refine lv_goto (tgt := 595) hx hb dL_law_436 (by decide) ?_
      exact kk _ _ _ _ _ _ hO.lt hG (lv_sub hl [3, 4, 5, 6, 7, 8, 9, 10, 11, 12, 13] rfl) (by omega) (by omega)
    · have n_414 : ¬ (1 + j410 ≤ q) := fun z => c_414 ((nI_leI (a := 1 + j410) (b := q) (by omega) (by omega)).mpr z)
      refine lv_iload hx hb dL_law_417 (lv_at hl 1 rfl) ?_
      refine lv_if_eq (tgt := 436) hx hb dL_law_419 (by decide) (fun c_419 => ?_) (fun c_419 => ?_)
      · have c_419 := sl_bF c_419
        refine lv_goto (tgt := 595) hx hb dL_law_436 (by decide) ?_
        exact kk _ _ _ _ _ _ hO.lt hG (lv_sub hl [3, 4, 5, 6, 7, 8, 9, 10, 11, 12, 13] rfl) (by omega) (by omega)
      · have c_419 := sl_bT c_419
        have hb9 := c_419
        refine lv_aload_n hx hb dL_law_422 rfl (lv_at hl 12 rfl) ?_
        refine lv_iload hx hb dL_law_423 (lv_at hl 2 rfl) ?_
        refine sl_calli (sl_runS (As := [.ref (α 0), .int (nI t)]) (rest := []) hC hG (kL_writes l Γ g hlt α β n ep tl lo T C E hK t ht (hok hb9)) mi_L_writes lk_RL_61 rfl rfl ⟨Nat.le_of_ble_eq_true rfl, Nat.le_of_ble_eq_true rfl⟩ rfl hl.1 rfl (Nat.le_of_ble_eq_true rfl) dL_law_425 ⟨(by show _ + _ ≤ 600104; omega), (by show _ + _ ≤ 7301314; omega)⟩) hG (fun r_425 u_425 H locs hr_425 hG => ?_)
        have hG : sl_I Γ u_425 s H locs := hG
        have hO2 := hO.mk2 hr_425.2.1 hr_425.2.2 (hJ.write hw ht (hok hb9)) (lp_wf_write hw ht (fun z => hok hb9 (z.elim Or.inl (fun z => Or.inr (Or.inl z))))) hn60 ht60 (hAr.es t _)
        refine sl_topi (y := sl_bi (lp_cn (if sl_cg C (E t).2.2.2.2.2.2.2 (E t).1 = -1 then -1 else (E t).2.2.2.2.2.2.2 + 1))) hr_425.1 ?_
        refine lv_istore (lv' := [(15, .int (sl_bi (lp_cn (if sl_cg C (E t).2.2.2.2.2.2.2 (E t).1 = -1 then -1 else (E t).2.2.2.2.2.2.2 + 1)))), (16, .int (nI q)), (13, .int (nI t)), (11, .int w), (9, .int (nI i)), (8, .int (nI n)), (7, .ref (ρ 5)), (6, .ref (ρ 4)), (5, .ref (ρ 3)), (4, .ref (ρ 2)), (3, .ref (ρ 1)), (2, .ref (ρ 0)), (1, .ref (α 0)), (0, .ref bb)]) hx hb dL_law_428 hl (by decide) rfl (fun ls hl => ?_)
        refine lv_iinc (v := nI (q + 1)) (lv' := [(16, .int (nI (q + 1))), (15, .int (sl_bi (lp_cn (if sl_cg C (E t).2.2.2.2.2.2.2 (E t).1 = -1 then -1 else (E t).2.2.2.2.2.2.2 + 1)))), (13, .int (nI t)), (11, .int w), (9, .int (nI i)), (8, .int (nI n)), (7, .ref (ρ 5)), (6, .ref (ρ 4)), (5, .ref (ρ 3)), (4, .ref (ρ 2)), (3, .ref (ρ 1)), (2, .ref (ρ 0)), (1, .ref (α 0)), (0, .ref bb)]) hx hb dL_law_430 hl (k := 1) rfl (nI_1 q) (by decide) rfl (fun ls hl => ?_)
        refine lv_goto (tgt := 402) hx hb dL_law_433 (by decide) ?_
        refine ih (q + 1) (lp_cn (if sl_cg C (E t).2.2.2.2.2.2.2 (E t).1 = -1 then -1 else (E t).2.2.2.2.2.2.2 + 1)) _ _ _ _ _ _ (by omega) (by omega) (by omega) (by omega) ⟨β, ep, tl, lo, _, _, _, S, A, R, V, P, F, hO2, fun z => ?_⟩ hG (lv_sub hl [0, 1, 2, 3, 4, 5, 6, 7, 8, 9, 10, 11, 12, 13] rfl)
        rw [sl_es_at]
        have hk := hok hb9
        exact fun y => y.elim (fun y => lp_cn_ok z (Or.inl y)) (fun y => y.elim (fun y => lp_cn_ok z (Or.inr y)) (fun y => hk (Or.inr (Or.inr y))))
set_option maxHeartbeats 4000000 in
set_option maxRecDepth 100000 in
theorem lp_seg_write {p : Program} {l : Launch} {e : Env} {s : State} {m : MethodId} {below : List Frame} {meth : Method} {c : Code} {H : Heap} {locs : List Loc} {cells slots : Nat} {Q : State → Prop} {Γ : sl_G} {α ρ : Nat → Nat} {bb i : Nat} {g : sl_W} {ls : Array Slot} {w : Int32} {β : Nat → Nat × Nat × Nat} {n e0 : Nat} {ep : Int32} {tl : Nat} {lo : Bool} {T C : Nat → Int32} {E : Nat → sl_Ent} {S A R V P F : Nat → Int32} (hlt : l.stackTraces = false) (hC : sl_C Γ p s m meth c cL_law 17 RL) (hG : sl_I Γ g s H locs) (hO : lp_O Γ α ρ β n e0 ep tl lo T C E S A R V P F g) (he : e0 < 100000) (hcs : cells + 600 ≤ 600104) (hss : slots + 3600 ≤ 7301314) {t : Nat} (ht : t < n) (hl : lv_has ls 17 [(13, .int (nI t)), (11, .int w), (9, .int (nI i)), (8, .int (nI n)), (7, .ref (ρ 5)), (6, .ref (ρ 4)), (5, .ref (ρ 3)), (4, .ref (ρ 2)), (3, .ref (ρ 1)), (2, .ref (ρ 0)), (1, .ref (α 0)), (0, .ref bb)]) (kk : ∀ (n1 e1 : Nat) (g1 : sl_W) (H1 : Heap) (locs1 : List Loc) (ls1 : Array Slot) (k1 m1 : Nat), e1 ≤ e0 + 1 → lp_LT Γ α ρ n1 e1 g1 → sl_I Γ g1 s H1 locs1 → lv_has ls1 17 [(11, .int w), (9, .int (nI i)), (8, .int (nI n1)), (7, .ref (ρ 5)), (6, .ref (ρ 4)), (5, .ref (ρ 3)), (4, .ref (ρ 2)), (3, .ref (ρ 1)), (2, .ref (ρ 0)), (1, .ref (α 0)), (0, .ref bb)] → k1 ≤ cells + 10 → m1 ≤ slots + 60 → W p l e room_1 s m #[.ref bb] below meth c H1 locs1 k1 m1 Q (F0 m 595 ls1 [])) : W p l e room_1 s m #[.ref bb] below meth c H locs cells slots Q (F0 m 361 ls []) := by
  have hx := hC.1
  have hb := hC.2.1
  obtain ⟨hK, hJ, hw, hn60, ht60, h41, h42, h43, h44, h45, h46, hAr⟩ := id hO
  have hn9 := hw.1
  refine lv_aload hx hb dL_law_361 (lv_at hl 5 rfl) ?_
  refine lv_iload hx hb dL_law_363 (lv_at hl 0 rfl) ?_
  refine sl_ialdN hC hG 45 h45 (j := t) rfl (by omega) (by omega) dL_law_365 ?_
  refine sl_topi (y := (E t).2.1) ((hAr t ht).2.2.2.2) ?_
  refine lv_aload_n hx hb dL_law_366 rfl (lv_at hl 10 rfl) ?_
  refine sl_calli (sl_runV (As := []) (rest := [.int ((E t).2.1)]) hC hG (kX4_epoch l Γ g α β n ep tl lo T C E hK) mi_X4_epoch lk_RL_45 0 hK.1 rfl rfl rfl ⟨Nat.le_of_ble_eq_true rfl, Nat.le_of_ble_eq_true rfl⟩ rfl hl.1 rfl (Nat.le_of_ble_eq_true rfl) dL_law_367 ⟨(by show _ + _ ≤ 600104; omega), (by show _ + _ ≤ 7301314; omega)⟩) hG (fun r_367 u_367 H locs hr_367 hG => ?_)
  refine sl_topi (y := ep) (hr_367) ?_
  refine lv_icmp_ne (tgt := 396) hx hb dL_law_370 (by decide) (fun c_370 => ?_) (fun c_370 => ?_)
  · refine lv_iconst (v := 0) hx hb dL_law_396 (by decide) ?_
    refine lv_istore (lv' := [(15, .int 0), (13, .int (nI t)), (11, .int w), (9, .int (nI i)), (8, .int (nI n)), (7, .ref (ρ 5)), (6, .ref (ρ 4)), (5, .ref (ρ 3)), (4, .ref (ρ 2)), (3, .ref (ρ 1)), (2, .ref (ρ 0)), (1, .ref (α 0)), (0, .ref bb)]) hx hb dL_law_397 hl (by decide) rfl (fun ls hl => ?_)
    refine lv_iconst (v := 0) hx hb dL_law_399 (by decide) ?_
    refine lv_istore (lv' := [(16, .int 0), (15, .int 0), (13, .int (nI t)), (11, .int w), (9, .int (nI i)), (8, .int (nI n)), (7, .ref (ρ 5)), (6, .ref (ρ 4)), (5, .ref (ρ 3)), (4, .ref (ρ 2)), (3, .ref (ρ 1)), (2, .ref (ρ 0)), (1, .ref (α 0)), (0, .ref bb)]) hx hb dL_law_400 hl (by decide) rfl (fun ls hl => ?_)
    exact lp_seg_wl (M := cells + 10) (N := slots + 60) hlt hC ht (by omega) (by omega) (fun g1 H1 locs1 ls1 k1 m1 q1 q2 q3 q4 q5 => kk _ _ _ _ _ _ _ _ (by omega) q1 q2 q3 q4 q5) 4 0 false _ _ _ _ _ _ (by omega) (by omega) (by omega) (by omega) ⟨β, ep, tl, lo, T, C, E, S, A, R, V, P, F, hO, fun z => by cases z⟩ hG (lv_sub hl [0, 1, 2, 3, 4, 5, 6, 7, 8, 9, 10, 11, 12, 13] rfl)
  · refine lv_aload_n hx hb dL_law_373 rfl (lv_at hl 10 rfl) ?_
    refine lv_iload hx hb dL_law_374 (lv_at hl 0 rfl) ?_
    refine sl_calli (sl_runV (As := [.int (nI t)]) (rest := []) hC hG (sl_nox (kX4_stateOf l hlt Γ g α β n ep tl lo T C E hK (nI t)) (fun E9 z => by rw [sl_tokN ht hn9] at z; cases z.2)) mi_X4_stateOf lk_RL_58 0 hK.1 rfl rfl rfl ⟨Nat.le_of_ble_eq_true rfl, Nat.le_of_ble_eq_true rfl⟩ rfl hl.1 rfl (Nat.le_of_ble_eq_true rfl) dL_law_376 ⟨(by show _ + _ ≤ 600104; omega), (by show _ + _ ≤ 7301314; omega)⟩) hG (fun r_376 u_376 H locs hr_376 hG => ?_)
    obtain ⟨t9, y1, y2⟩ := hr_376
    have y3 : t = t9 := Option.some.inj ((sl_tokN ht hn9).symm.trans y1)
    subst y3
    refine sl_topi (y := (E t).2.2.2.2.2.2.2) y2 ?_
    refine lv_if_lt (tgt := 396) hx hb dL_law_379 (by decide) (fun c_379 => ?_) (fun c_379 => ?_)
    · refine lv_iconst (v := 0) hx hb dL_law_396 (by decide) ?_
      refine lv_istore (lv' := [(15, .int 0), (13, .int (nI t)), (11, .int w), (9, .int (nI i)), (8, .int (nI n)), (7, .ref (ρ 5)), (6, .ref (ρ 4)), (5, .ref (ρ 3)), (4, .ref (ρ 2)), (3, .ref (ρ 1)), (2, .ref (ρ 0)), (1, .ref (α 0)), (0, .ref bb)]) hx hb dL_law_397 hl (by decide) rfl (fun ls hl => ?_)
      refine lv_iconst (v := 0) hx hb dL_law_399 (by decide) ?_
      refine lv_istore (lv' := [(16, .int 0), (15, .int 0), (13, .int (nI t)), (11, .int w), (9, .int (nI i)), (8, .int (nI n)), (7, .ref (ρ 5)), (6, .ref (ρ 4)), (5, .ref (ρ 3)), (4, .ref (ρ 2)), (3, .ref (ρ 1)), (2, .ref (ρ 0)), (1, .ref (α 0)), (0, .ref bb)]) hx hb dL_law_400 hl (by decide) rfl (fun ls hl => ?_)
      exact lp_seg_wl (M := cells + 10) (N := slots + 60) hlt hC ht (by omega) (by omega) (fun g1 H1 locs1 ls1 k1 m1 q1 q2 q3 q4 q5 => kk _ _ _ _ _ _ _ _ (by omega) q1 q2 q3 q4 q5) 4 0 false _ _ _ _ _ _ (by omega) (by omega) (by omega) (by omega) ⟨β, ep, tl, lo, T, C, E, S, A, R, V, P, F, hO, fun z => by cases z⟩ hG (lv_sub hl [0, 1, 2, 3, 4, 5, 6, 7, 8, 9, 10, 11, 12, 13] rfl)
    · refine lv_aload_n hx hb dL_law_382 rfl (lv_at hl 10 rfl) ?_
      refine lv_iload hx hb dL_law_383 (lv_at hl 0 rfl) ?_
      refine sl_calli (sl_runV (As := [.int (nI t)]) (rest := []) hC hG (sl_nox (kX4_stateOf l hlt Γ g α β n ep tl lo T C E hK (nI t)) (fun E9 z => by rw [sl_tokN ht hn9] at z; cases z.2)) mi_X4_stateOf lk_RL_58 0 hK.1 rfl rfl rfl ⟨Nat.le_of_ble_eq_true rfl, Nat.le_of_ble_eq_true rfl⟩ rfl hl.1 rfl (Nat.le_of_ble_eq_true rfl) dL_law_385 ⟨(by show _ + _ ≤ 600104; omega), (by show _ + _ ≤ 7301314; omega)⟩) hG (fun r_385 u_385 H locs hr_385 hG => ?_)
      obtain ⟨t9, y1, y2⟩ := hr_385
      have y3 : t = t9 := Option.some.inj ((sl_tokN ht hn9).symm.trans y1)
      subst y3
      refine sl_topi (y := (E t).2.2.2.2.2.2.2) y2 ?_
      refine lv_iconst (v := 3) hx hb dL_law_388 (by decide) ?_
      refine lv_icmp_ge (tgt := 396) hx hb dL_law_389 (by decide) (fun c_389 => ?_) (fun c_389 => ?_)
      · refine lv_iconst (v := 0) hx hb dL_law_396 (by decide) ?_
        refine lv_istore (lv' := [(15, .int 0), (13, .int (nI t)), (11, .int w), (9, .int (nI i)), (8, .int (nI n)), (7, .ref (ρ 5)), (6, .ref (ρ 4)), (5, .ref (ρ 3)), (4, .ref (ρ 2)), (3, .ref (ρ 1)), (2, .ref (ρ 0)), (1, .ref (α 0)), (0, .ref bb)]) hx hb dL_law_397 hl (by decide) rfl (fun ls hl => ?_)
        refine lv_iconst (v := 0) hx hb dL_law_399 (by decide) ?_
        refine lv_istore (lv' := [(16, .int 0), (15, .int 0), (13, .int (nI t)), (11, .int w), (9, .int (nI i)), (8, .int (nI n)), (7, .ref (ρ 5)), (6, .ref (ρ 4)), (5, .ref (ρ 3)), (4, .ref (ρ 2)), (3, .ref (ρ 1)), (2, .ref (ρ 0)), (1, .ref (α 0)), (0, .ref bb)]) hx hb dL_law_400 hl (by decide) rfl (fun ls hl => ?_)
        exact lp_seg_wl (M := cells + 10) (N := slots + 60) hlt hC ht (by omega) (by omega) (fun g1 H1 locs1 ls1 k1 m1 q1 q2 q3 q4 q5 => kk _ _ _ _ _ _ _ _ (by omega) q1 q2 q3 q4 q5) 4 0 false _ _ _ _ _ _ (by omega) (by omega) (by omega) (by omega) ⟨β, ep, tl, lo, T, C, E, S, A, R, V, P, F, hO, fun z => by cases z⟩ hG (lv_sub hl [0, 1, 2, 3, 4, 5, 6, 7, 8, 9, 10, 11, 12, 13] rfl)
      · refine lv_iconst (v := 1) hx hb dL_law_392 (by decide) ?_
        refine lv_goto (tgt := 397) hx hb dL_law_393 (by decide) ?_
        refine lv_istore (lv' := [(15, .int 1), (13, .int (nI t)), (11, .int w), (9, .int (nI i)), (8, .int (nI n)), (7, .ref (ρ 5)), (6, .ref (ρ 4)), (5, .ref (ρ 3)), (4, .ref (ρ 2)), (3, .ref (ρ 1)), (2, .ref (ρ 0)), (1, .ref (α 0)), (0, .ref bb)]) hx hb dL_law_397 hl (by decide) rfl (fun ls hl => ?_)
        refine lv_iconst (v := 0) hx hb dL_law_399 (by decide) ?_
        refine lv_istore (lv' := [(16, .int 0), (15, .int 1), (13, .int (nI t)), (11, .int w), (9, .int (nI i)), (8, .int (nI n)), (7, .ref (ρ 5)), (6, .ref (ρ 4)), (5, .ref (ρ 3)), (4, .ref (ρ 2)), (3, .ref (ρ 1)), (2, .ref (ρ 0)), (1, .ref (α 0)), (0, .ref bb)]) hx hb dL_law_400 hl (by decide) rfl (fun ls hl => ?_)
        exact lp_seg_wl (M := cells + 10) (N := slots + 60) hlt hC ht (by omega) (by omega) (fun g1 H1 locs1 ls1 k1 m1 q1 q2 q3 q4 q5 => kk _ _ _ _ _ _ _ _ (by omega) q1 q2 q3 q4 q5) 4 0 true _ _ _ _ _ _ (by omega) (by omega) (by omega) (by omega) ⟨β, ep, tl, lo, T, C, E, S, A, R, V, P, F, hO, fun _ => fun y => y.elim (fun y => c_379 (by rw [y]; decide)) (fun y => y.elim (fun y => c_389 (by rw [y]; decide)) (fun y => y c_370))⟩ hG (lv_sub hl [0, 1, 2, 3, 4, 5, 6, 7, 8, 9, 10, 11, 12, 13] rfl)
