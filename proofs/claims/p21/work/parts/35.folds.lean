/-! p21: its law's folding of the known positions -/
/-- 1 more than the token at a position whose entry takes effect, else 0 -/
def lp_ef (n : Nat) (C : Nat → Int32) (E : Nat → sl_Ent) (q : Nat) : Int32 := if sl_ev n C E q = true then C q + 1 else 0
theorem lp_ef_y {n q : Nat} {C : Nat → Int32} {E : Nat → sl_Ent} (h : sl_ev n C E q = true) : lp_ef n C E q = C q + 1 := if_pos h
theorem lp_ef_n {n q : Nat} {C : Nat → Int32} {E : Nat → sl_Ent} (h : sl_ev n C E q = false) : lp_ef n C E q = 0 := if_neg (by rw [h]; decide)
theorem lp_ef_t {n q : Nat} {C : Nat → Int32} {E : Nat → sl_Ent} (hn : n ≤ 150) (h : sl_ev n C E q = true) : ∃ u, u < n ∧ C q = nI u ∧ sl_tok n (C q) = some u ∧ lp_ef n C E q = nI (u + 1) := by
  obtain ⟨u, h1, h2, h3⟩ := sl_ev_tok hn h
  exact ⟨u, h1, h2, h3, by rw [lp_ef_y h, h2, nI_1]⟩
theorem lp_ef_0 {n q : Nat} {C : Nat → Int32} {E : Nat → sl_Ent} (hn : n ≤ 150) (h : lp_ef n C E q = 0) : sl_ev n C E q = false := by
  cases e : sl_ev n C E q
  · rfl
  · obtain ⟨u, h1, -, -, h4⟩ := lp_ef_t hn e
    rw [h4] at h
    have := congrArg Int32.toInt h
    rw [nI_toInt (by omega), sl_i0] at this
    omega
theorem lp_ef_1 {n q : Nat} {C : Nat → Int32} {E : Nat → sl_Ent} (h : ¬ lp_ef n C E q = 0) : sl_ev n C E q = true := by
  cases e : sl_ev n C E q
  · exact absurd (lp_ef_n e) h
  · rfl
theorem lp_ef_z {n q : Nat} {C : Nat → Int32} {E : Nat → sl_Ent} (hn : n ≤ 150) (h : lp_ef n C E q ≤ 0) : sl_ev n C E q = false := by
  cases e : sl_ev n C E q
  · rfl
  · obtain ⟨u, h1, -, -, h4⟩ := lp_ef_t hn e
    rw [h4, sl_leI, nI_toInt (by omega), sl_i0] at h
    omega
theorem lp_ef_gt {n q : Nat} {C : Nat → Int32} {E : Nat → sl_Ent} (h : ¬ lp_ef n C E q ≤ 0) : sl_ev n C E q = true := lp_ef_1 (fun z => h (by rw [z]; decide))
theorem lp_fu {n k : Nat} {C : Nat → Int32} {E : Nat → sl_Ent} {F : Nat → Int32} {z : Int32} (h1 : ∀ q, q < k → F q = lp_ef n C E q) (h2 : z = lp_ef n C E k) : ∀ q, q < k + 1 → upd F k z q = lp_ef n C E q := by
  intro q hq
  by_cases e : q = k
  · rw [e, pk_us, h2]
  · rw [pk_un e]
    exact h1 q (by omega)
theorem lp_iq_d {n q v : Nat} {C : Nat → Int32} {E : Nat → sl_Ent} {rd : Int32} (h : sl_iq n C E rd v q = false) : ∀ d, sl_iq n C E rd v (q + d) = false
  | 0 => h
  | d + 1 => by
    rw [← Nat.add_assoc, sl_iq, lp_iq_d h d]; rfl
theorem lp_iq_f {n q p v : Nat} {C : Nat → Int32} {E : Nat → sl_Ent} {rd : Int32} (h : sl_iq n C E rd v q = false) (hq : q ≤ p) : sl_iq n C E rd v p = false := by
  have := lp_iq_d h (p - q)
  rwa [show q + (p - q) = p by omega] at this
/-- one position more: it does not take effect; or it does, and shares no stream; or it shares one -/
theorem lp_iq_a {n q v : Nat} {C : Nat → Int32} {E : Nat → sl_Ent} {rd : Int32} (hb : true = sl_iq n C E rd v q) (h : sl_ev n C E q = false) : true = sl_iq n C E rd v (q + 1) := by
  rw [sl_iq, ← hb, h, Bool.and_false]; rfl
theorem lp_iq_b {n q v u : Nat} {C : Nat → Int32} {E : Nat → sl_Ent} {rd : Int32} (hb : true = sl_iq n C E rd v q) (ht : sl_tok n (C q) = some u) (h : (E u).2.2.1 &&& rd = 0) : true = sl_iq n C E rd v (q + 1) := by
  rw [sl_iq, ← hb, sl_is_1 ht, show decide (¬ ((E u).2.2.1 &&& rd = 0)) = false from decide_eq_false (fun z => z h), Bool.and_false]; rfl
theorem lp_iq_c {n q v u : Nat} {C : Nat → Int32} {E : Nat → sl_Ent} {rd : Int32} (hv : v ≤ q) (he : sl_ev n C E q = true) (ht : sl_tok n (C q) = some u) (h : ¬ (E u).2.2.1 &&& rd = 0) : false = sl_iq n C E rd v (q + 1) := by
  rw [sl_iq, sl_is_1 ht, decide_eq_true h, he, decide_eq_true hv, Bool.and_true, Bool.and_true, Bool.not_true, Bool.and_false]
theorem lp_ca {x : Int32} {b : Nat} (hx : sl_in x 0 2 = true) (hb : b < 120) (h : (sl_in x 0 2 && sl_in (nI b) 0 119) = false) : False := by
  rw [hx, sl_nIin (n := 119) sl_i119 (by omega) (by omega)] at h
  cases h
/-- a step's answer says that another one could come -/
def lp_cn (v : Int32) : Bool := decide (0 ≤ v) && decide (v < 3)
theorem lp_cn_n {v : Int32} (h : v < 0) : (0 : Int32) = sl_bi (lp_cn v) := by
  have h2 : decide (0 ≤ v) = false := decide_eq_false (fun z => by rw [sl_ltI, sl_i0] at h; rw [sl_leI, sl_i0] at z; omega)
  rw [lp_cn, h2]; rfl
theorem lp_cn_f {v : Int32} (h : 3 ≤ v) : (0 : Int32) = sl_bi (lp_cn v) := by
  have h2 : decide (v < 3) = false := decide_eq_false (fun z => by rw [sl_ltI] at z; rw [sl_leI] at h; omega)
  rw [lp_cn, h2, Bool.and_false]; rfl
theorem lp_cn_y {v : Int32} (h : ¬ v < 0) (h2 : ¬ 3 ≤ v) : (1 : Int32) = sl_bi (lp_cn v) := by
  have h3 : decide (0 ≤ v) = true := decide_eq_true (by rw [sl_ltI, sl_i0] at h; rw [sl_leI, sl_i0]; omega)
  have h4 : decide (v < 3) = true := decide_eq_true (by rw [sl_leI] at h2; rw [sl_ltI]; omega)
  rw [lp_cn, h3, h4]; rfl
set_option maxHeartbeats 4000000 in
set_option maxRecDepth 100000 in
theorem kL_writes (l : Launch) (Γ : sl_G) (g : sl_W) (hlt : l.stackTraces = false) (α : Nat → Nat) (β : Nat → Nat × Nat × Nat) (n : Nat) (ep : Int32) (tl : Nat) (lo : Bool) (T C : Nat → Int32) (E : Nat → sl_Ent) (hK : sl_Cls Γ α β n ep tl lo T C E g) (t : Nat) (ht : t < n) (hok : ¬ ((E t).2.2.2.2.2.2.2 = -1 ∨ (E t).2.2.2.2.2.2.2 = 3 ∨ ¬ (E t).2.1 = ep)) : Met l yL_writes [Cond.code yL_writes cL_writes 3 (some .boolean)] ({ frames := 7, cells := 1, slots := 6, locals := 122 } : Room) (va_Pc [.ref (α 0), .int (nI t)] (sl_B Γ g)) (sl_Qi Γ (fun r g' => r = sl_bi (lp_cn (if sl_cg C (E t).2.2.2.2.2.2.2 (E t).1 = -1 then -1 else (E t).2.2.2.2.2.2.2 + 1)) ∧ sl_Cls Γ α β n ep tl lo T (if sl_cg C (E t).2.2.2.2.2.2.2 (E t).1 = -1 then C else sl_cp C (E t).2.2.2.2.2.2.2 (E t).1 (nI t)) (sl_es E t (if sl_cg C (E t).2.2.2.2.2.2.2 (E t).1 = -1 then -1 else (E t).2.2.2.2.2.2.2 + 1)) g' ∧ sl_fr g g') (fun g' => g')) 1 6 (sl_A Γ) := by
  refine sl_ent (by decide) (Nat.le_of_ble_eq_true rfl) ?_
  intro p e s m below meth c ls hC hr hin hG hl
  have hx := hC.1
  have hb := hC.2.1
  have hl : lv_has ls 3 [(0, .ref (α 0)), (1, .int (nI t))] := hl
  refine lv_aload_n hx hb dL_writes_0 rfl (lv_at hl 0 rfl) ?_
  refine lv_iload_n hx hb dL_writes_1 rfl (lv_at hl 1 rfl) ?_
  refine sl_calli (sl_runV (As := [.int (nI t)]) (rest := []) hC hG (sl_nox (kX4_write l hlt Γ g α β n ep tl lo T C E hK (nI t)) (fun E9 z => z.elim (fun z => by rw [sl_tokN ht hK.2.2.2.2.2.2.2.2.2.1] at z; exact absurd z.2 (by simp)) (fun z => by obtain ⟨-, t9, k1, k2⟩ := z; rw [sl_tokN ht hK.2.2.2.2.2.2.2.2.2.1] at k1; cases k1; exact hok k2))) mi_X4_write lk_RL_27 0 hK.1 rfl rfl rfl ⟨Nat.le_of_ble_eq_true rfl, Nat.le_of_ble_eq_true rfl⟩ rfl hl.1 rfl (Nat.le_of_ble_eq_true rfl) dL_writes_2 ⟨Nat.le_of_ble_eq_true rfl, Nat.le_of_ble_eq_true rfl⟩) hG (fun r_2 u_2 H locs hr_2 hG => ?_)
  obtain ⟨t9, k1, k2, k3, k4, k5⟩ := hr_2
  have k6 : t = t9 := Option.some.inj ((sl_tokN ht hK.2.2.2.2.2.2.2.2.2.1).symm.trans k1)
  subst k6
  have hG : sl_I Γ u_2 s H locs := hG
  subst k3
  refine lv_istore_n (lv' := [(2, .int (if sl_cg C (E t).2.2.2.2.2.2.2 (E t).1 = -1 then -1 else (E t).2.2.2.2.2.2.2 + 1)), (0, .ref (α 0)), (1, .int (nI t))]) hx hb dL_writes_5 rfl hl (by decide) rfl (fun ls hl => ?_)
  refine lv_iload_n hx hb dL_writes_6 rfl (lv_at hl 0 rfl) ?_
  refine lv_if_lt (tgt := 19) hx hb dL_writes_7 (by decide) (fun c_7 => ?_) (fun c_7 => ?_)
  · refine lv_iconst (v := 0) hx hb dL_writes_19 (by decide) ?_
    exact sl_rz (v := 0) hC hr rfl hG u_2 ⟨lp_cn_n c_7, k4, k5⟩ rfl (Nat.le_of_ble_eq_true rfl) (Nat.le_of_ble_eq_true rfl) dL_writes_20
  · refine lv_iload_n hx hb dL_writes_10 rfl (lv_at hl 0 rfl) ?_
    refine lv_iconst (v := 3) hx hb dL_writes_11 (by decide) ?_
    refine lv_icmp_ge (tgt := 19) hx hb dL_writes_12 (by decide) (fun c_12 => ?_) (fun c_12 => ?_)
    · refine lv_iconst (v := 0) hx hb dL_writes_19 (by decide) ?_
      exact sl_rz (v := 0) hC hr rfl hG u_2 ⟨lp_cn_f c_12, k4, k5⟩ rfl (Nat.le_of_ble_eq_true rfl) (Nat.le_of_ble_eq_true rfl) dL_writes_20
    · refine lv_iconst (v := 1) hx hb dL_writes_15 (by decide) ?_
      refine lv_goto (tgt := 20) hx hb dL_writes_16 (by decide) ?_
      exact sl_rz (v := 1) hC hr rfl hG u_2 ⟨lp_cn_y c_7 c_12, k4, k5⟩ rfl (Nat.le_of_ble_eq_true rfl) (Nat.le_of_ble_eq_true rfl) dL_writes_20
set_option maxHeartbeats 4000000 in
set_option maxRecDepth 100000 in
theorem kL_folds (l : Launch) (Γ : sl_G) (g : sl_W) (hlt : l.stackTraces = false) (α : Nat → Nat) (β : Nat → Nat × Nat × Nat) (n : Nat) (ep : Int32) (tl : Nat) (lo : Bool) (T C : Nat → Int32) (E : Nat → sl_Ent) (hK : sl_Cls Γ α β n ep tl lo T C E g) (hw : sl_wf n tl C E) (hST : sl_ST n E) (hk60 : sl_kn C ≤ 60) (hn60 : n ≤ 60) (a1 a3 a4 a6 : Nat) (S R V Fz : Nat → Int32) (h41 : g 41 = some (a1, .inl (Γ.2.1 0, 60, .inl S))) (h43 : g 43 = some (a3, .inl (Γ.2.1 0, 60, .inl R))) (h44 : g 44 = some (a4, .inl (Γ.2.1 0, 60, .inl V))) (h46 : g 46 = some (a6, .inl (Γ.2.1 0, 60, .inl Fz))) (hS : ∀ t, t < n → S t = (E t).2.2.1) (hR : ∀ t, t < n → R t = (E t).2.2.2.2.1) (hV : ∀ t, t < n → V t = (E t).2.2.2.2.2.1) : Met l yL_folds [Cond.code yL_folds cL_folds 10 none] ({ frames := 7, cells := 60, slots := 360, locals := 122 } : Room) (va_Pc [.ref (α 0), .ref a1, .ref a3, .ref a4, .ref a6, .int (nI (sl_kn C))] (sl_B Γ g)) (sl_Qv Γ (fun (F : Nat → Int32) => ∀ q, q < sl_kn C → F q = lp_ef n C E q) (fun F => sl_up g 46 (a6, .inl (Γ.2.1 0, 60, .inl F)))) 60 360 (sl_A Γ) := by
  refine sl_ent (by decide) (Nat.le_of_ble_eq_true rfl) ?_
  intro p e s m below meth c ls hC hr hin hG hl
  have hx := hC.1
  have hb := hC.2.1
  have hl : lv_has ls 10 [(0, .ref (α 0)), (1, .ref a1), (2, .ref a3), (3, .ref a4), (4, .ref a6), (5, .int (nI (sl_kn C)))] := hl
  have hn9 := hw.1
  refine lv_iconst (v := 0) hx hb dL_folds_0 (by decide) ?_
  refine lv_istore (lv' := [(6, .int 0), (0, .ref (α 0)), (1, .ref a1), (2, .ref a3), (3, .ref a4), (4, .ref a6), (5, .int (nI (sl_kn C)))]) hx hb dL_folds_1 hl (by decide) rfl (fun ls hl => ?_)
  have loop_3 : ∀ (fuel pp : Nat) (F : Nat → Int32) (cs : Nat) (ss : Nat), pp ≤ sl_kn C → sl_kn C + 1 ≤ pp + fuel → (cs + (60 - pp) ≤ 60) → (ss + 6 * (60 - pp) ≤ 360) → (∀ q, q < pp → F q = lp_ef n C E q) → ∀ (H : Heap) (locs : List Loc), sl_I Γ (sl_up g 46 (a6, .inl (Γ.2.1 0, 60, .inl F))) s H locs → ∀ (ls : Array Slot), lv_has ls 10 [(0, .ref (α 0)), (1, .ref a1), (2, .ref a3), (3, .ref a4), (4, .ref a6), (5, .int (nI (sl_kn C))), (6, .int (nI pp))] → W p l e ({ frames := 7, cells := 60, slots := 360, locals := 122 } : Room) s m ([.ref (α 0), .ref a1, .ref a3, .ref a4, .ref a6, .int (nI (sl_kn C))] : List Value).toArray below meth c H locs cs ss (MQ below (sl_Qv Γ (fun (F : Nat → Int32) => ∀ q, q < sl_kn C → F q = lp_ef n C E q) (fun F => sl_up g 46 (a6, .inl (Γ.2.1 0, 60, .inl F)))) ([.ref (α 0), .ref a1, .ref a3, .ref a4, .ref a6, .int (nI (sl_kn C))] : List Value).toArray s 60 360 (sl_A Γ)) (F0 m 3 ls []) := by
    intro fuel
    induction fuel with
    | zero =>
      intro pp F cs ss h1 h2
      exact absurd h2 (by omega)
    | succ fuel ih_3 =>
      intro pp F cs ss hk_3 hn_3 hcs hss hF H locs hG ls hl
      refine lv_iload hx hb dL_folds_3 (lv_at hl 6 rfl) ?_
      refine lv_iload hx hb dL_folds_5 (lv_at hl 5 rfl) ?_
      refine lv_icmp_ge (tgt := 128) hx hb dL_folds_7 (by decide) (fun c_7 => ?_) (fun c_7 => ?_)
      · have n_7 : sl_kn C ≤ pp := (nI_leI (a := sl_kn C) (b := pp) (by omega) (by omega)).mp c_7
        exact sl_rv hC hr hG F (fun q hq => hF q (by omega)) rfl (by omega) (by omega) dL_folds_128
      · have n_7 : ¬ (sl_kn C ≤ pp) := fun z => c_7 ((nI_leI (a := sl_kn C) (b := pp) (by omega) (by omega)).mpr z)
        refine lv_aload_n hx hb dL_folds_10 rfl (lv_at hl 0 rfl) ?_
        refine lv_iconst (v := 0) hx hb dL_folds_11 (by decide) ?_
        refine lv_iload hx hb dL_folds_12 (lv_at hl 6 rfl) ?_
        refine sl_calli (sl_runV (As := [.int 0, .int (nI pp)]) (rest := []) hC hG (sl_nox (kX4_cellAt l hlt Γ (sl_up g 46 (a6, .inl (Γ.2.1 0, 60, .inl F))) α β n ep tl lo T C E (hK.cg (fun k hk => sl_up_n _ _ (by omega))) 0 (nI pp)) (fun E9 z => lp_ca (by decide) (by omega) z.2)) mi_X4_cellAt lk_RL_8 0 (sl_up_to (by decide) hK.1) rfl rfl rfl ⟨Nat.le_of_ble_eq_true rfl, Nat.le_of_ble_eq_true rfl⟩ rfl hl.1 rfl (Nat.le_of_ble_eq_true rfl) dL_folds_14 ⟨(by show _ + _ ≤ 60; omega), (by show _ + _ ≤ 360; omega)⟩) hG (fun r_14 u_14 H locs hr_14 hG => ?_)
        refine sl_topi (y := C pp) (hr_14.2.trans (sl_cg0 C (by omega))) ?_
        refine lv_istore (lv' := [(7, .int (C pp)), (0, .ref (α 0)), (1, .ref a1), (2, .ref a3), (3, .ref a4), (4, .ref a6), (5, .int (nI (sl_kn C))), (6, .int (nI pp))]) hx hb dL_folds_17 hl (by decide) rfl (fun ls hl => ?_)
        refine lv_iload hx hb dL_folds_19 (lv_at hl 0 rfl) ?_
        refine lv_if_lt (tgt := 28) hx hb dL_folds_21 (by decide) (fun c_21 => ?_) (fun c_21 => ?_)
        · have etok : sl_tok n (C pp) = none := sl_ce_neg hn9 (hw.2.2.1 pp (by omega)) c_21
          refine lv_iconst (v := 0) hx hb dL_folds_28 (by decide) ?_
          refine lv_istore (lv' := [(8, .int 0), (7, .int (C pp)), (0, .ref (α 0)), (1, .ref a1), (2, .ref a3), (3, .ref a4), (4, .ref a6), (5, .int (nI (sl_kn C))), (6, .int (nI pp))]) hx hb dL_folds_29 hl (by decide) rfl (fun ls hl => ?_)
          refine lv_iload hx hb dL_folds_31 (lv_at hl 0 rfl) ?_
          refine lv_if_eq (tgt := 43) hx hb dL_folds_33 (by decide) (fun c_33 => ?_) (fun c_33 => ?_)
          · refine lv_iload hx hb dL_folds_43 (lv_at hl 8 rfl) ?_
            refine lv_istore (lv' := [(9, .int (nI pp)), (8, .int 0), (7, .int (C pp)), (0, .ref (α 0)), (1, .ref a1), (2, .ref a3), (3, .ref a4), (4, .ref a6), (5, .int (nI (sl_kn C))), (6, .int (nI pp))]) hx hb dL_folds_45 hl (by decide) rfl (fun ls hl => ?_)
            refine lv_iload hx hb dL_folds_47 (lv_at hl 0 rfl) ?_
            refine lv_iload hx hb dL_folds_49 (lv_at hl 9 rfl) ?_
            refine lv_icmp_ge (tgt := 104) hx hb dL_folds_51 (by decide) (fun c_51 => ?_) (fun c_51 => ?_)
            · have n_51 : pp ≤ pp := (nI_leI (a := pp) (b := pp) (by omega) (by omega)).mp c_51
              refine lv_aload hx hb dL_folds_104 (lv_at hl 7 rfl) ?_
              refine lv_iload hx hb dL_folds_106 (lv_at hl 9 rfl) ?_
              refine lv_iload hx hb dL_folds_108 (lv_at hl 1 rfl) ?_
              refine lv_if_eq (tgt := 120) hx hb dL_folds_110 (by decide) (fun c_110 => ?_) (fun c_110 => ?_)
              · refine lv_iconst (v := 0) hx hb dL_folds_120 (by decide) ?_
                refine sl_iastN hC hG 46 (sl_up_s _ _ _) (j := pp) rfl (by omega) (by omega) dL_folds_121 (fun H locs hG => ?_)
                rw [sl_up_up] at hG
                have hG : sl_I Γ (sl_up g 46 (a6, .inl (Γ.2.1 0, 60, .inl (upd F pp 0)))) s H _ := hG
                refine lv_iinc (v := nI (pp + 1)) (lv' := [(6, .int (nI (pp + 1))), (9, .int (nI pp)), (8, .int 0), (7, .int (C pp)), (0, .ref (α 0)), (1, .ref a1), (2, .ref a3), (3, .ref a4), (4, .ref a6), (5, .int (nI (sl_kn C)))]) hx hb dL_folds_122 hl (k := 9) rfl (nI_1 pp) (by decide) rfl (fun ls hl => ?_)
                refine lv_goto (tgt := 3) hx hb dL_folds_125 (by decide) ?_
                exact ih_3 (pp + 1) (upd F pp 0) (cs + 1) (ss + 6) (by omega) (by omega) (by omega) (by omega) (lp_fu hF ((lp_ef_n (sl_ev_0 etok)).symm)) _ _ hG _ (lv_sub hl [4, 5, 6, 7, 8, 9, 0] rfl)
              · exact absurd c_110 (by decide)
            · exact absurd (show nI pp ≤ nI pp by rw [sl_leI]; omega) c_51
          · exact absurd c_33 (by decide)
        · obtain ⟨t, ht, et, etok⟩ := sl_ce_pos hn9 (hw.2.2.1 pp (by omega)) c_21
          obtain ⟨v, hv, ev⟩ := (hw.2.2.2.1 t ht).2.1
          have hrd := (hw.2.2.2.1 t ht).2.2.2
          have hei := sl_ev_iq hST (by omega) etok hrd.1 hrd.2 hv ev
          refine lv_iconst (v := 1) hx hb dL_folds_24 (by decide) ?_
          refine lv_goto (tgt := 29) hx hb dL_folds_25 (by decide) ?_
          refine lv_istore (lv' := [(8, .int 1), (7, .int (C pp)), (0, .ref (α 0)), (1, .ref a1), (2, .ref a3), (3, .ref a4), (4, .ref a6), (5, .int (nI (sl_kn C))), (6, .int (nI pp))]) hx hb dL_folds_29 hl (by decide) rfl (fun ls hl => ?_)
          refine lv_iload hx hb dL_folds_31 (lv_at hl 0 rfl) ?_
          refine lv_if_eq (tgt := 43) hx hb dL_folds_33 (by decide) (fun c_33 => ?_) (fun c_33 => ?_)
          · exact absurd c_33 (by decide)
          · refine lv_aload_n hx hb dL_folds_36 rfl (lv_at hl 5 rfl) ?_
            refine lv_iload hx hb dL_folds_37 (lv_at hl 1 rfl) ?_
            refine sl_ialdN hC hG 44 (sl_up_to (by decide) h44) (j := t) et (by omega) (by omega) dL_folds_39 ?_
            refine sl_topi (y := nI v) ((hV t ht).trans ev) ?_
            refine lv_goto (tgt := 45) hx hb dL_folds_40 (by decide) ?_
            refine lv_istore (lv' := [(9, .int (nI v)), (8, .int 1), (7, .int (C pp)), (0, .ref (α 0)), (1, .ref a1), (2, .ref a3), (3, .ref a4), (4, .ref a6), (5, .int (nI (sl_kn C))), (6, .int (nI pp))]) hx hb dL_folds_45 hl (by decide) rfl (fun ls hl => ?_)
            have loop_47 : ∀ (fuel q : Nat) (b : Bool), q ≤ v + pp → v + pp + 1 ≤ q + fuel → (v ≤ q) → (q ≤ v ∨ q ≤ pp) → (b = sl_iq n C E (E t).2.2.2.2.1 v q) → ∀ (H : Heap) (locs : List Loc), sl_I Γ (sl_up g 46 (a6, .inl (Γ.2.1 0, 60, .inl F))) s H locs → ∀ (ls : Array Slot), lv_has ls 10 [(0, .ref (α 0)), (1, .ref a1), (2, .ref a3), (3, .ref a4), (4, .ref a6), (5, .int (nI (sl_kn C))), (6, .int (nI pp)), (7, .int (C pp)), (8, .int (sl_bi b)), (9, .int (nI q))] → W p l e ({ frames := 7, cells := 60, slots := 360, locals := 122 } : Room) s m ([.ref (α 0), .ref a1, .ref a3, .ref a4, .ref a6, .int (nI (sl_kn C))] : List Value).toArray below meth c H locs (cs + 1) (ss + 6) (MQ below (sl_Qv Γ (fun (F : Nat → Int32) => ∀ q, q < sl_kn C → F q = lp_ef n C E q) (fun F => sl_up g 46 (a6, .inl (Γ.2.1 0, 60, .inl F)))) ([.ref (α 0), .ref a1, .ref a3, .ref a4, .ref a6, .int (nI (sl_kn C))] : List Value).toArray s 60 360 (sl_A Γ)) (F0 m 47 ls []) := by
              intro fuel
              induction fuel with
              | zero =>
                intro q b h1 h2
                exact absurd h2 (by omega)
              | succ fuel ih_47 =>
                intro q b hk_47 hn_47 hvq hqp hbq H locs hG ls hl
                refine lv_iload hx hb dL_folds_47 (lv_at hl 9 rfl) ?_
                refine lv_iload hx hb dL_folds_49 (lv_at hl 6 rfl) ?_
                refine lv_icmp_ge (tgt := 104) hx hb dL_folds_51 (by decide) (fun c_51 => ?_) (fun c_51 => ?_)
                · have n_51 : pp ≤ q := (nI_leI (a := pp) (b := q) (by omega) (by omega)).mp c_51
                  have hev : sl_ev n C E pp = b := by rw [hei, hbq]; exact (sl_iq_x (by omega) hvq (by omega)).symm
                  refine lv_aload hx hb dL_folds_104 (lv_at hl 4 rfl) ?_
                  refine lv_iload hx hb dL_folds_106 (lv_at hl 6 rfl) ?_
                  refine lv_iload hx hb dL_folds_108 (lv_at hl 8 rfl) ?_
                  refine lv_if_eq (tgt := 120) hx hb dL_folds_110 (by decide) (fun c_110 => ?_) (fun c_110 => ?_)
                  · have c_110 := sl_bF c_110
                    refine lv_iconst (v := 0) hx hb dL_folds_120 (by decide) ?_
                    refine sl_iastN hC hG 46 (sl_up_s _ _ _) (j := pp) rfl (by omega) (by omega) dL_folds_121 (fun H locs hG => ?_)
                    rw [sl_up_up] at hG
                    have hG : sl_I Γ (sl_up g 46 (a6, .inl (Γ.2.1 0, 60, .inl (upd F pp 0)))) s H _ := hG
                    refine lv_iinc (v := nI (pp + 1)) (lv' := [(6, .int (nI (pp + 1))), (0, .ref (α 0)), (1, .ref a1), (2, .ref a3), (3, .ref a4), (4, .ref a6), (5, .int (nI (sl_kn C))), (7, .int (C pp)), (8, .int (sl_bi b)), (9, .int (nI q))]) hx hb dL_folds_122 hl (k := 6) rfl (nI_1 pp) (by decide) rfl (fun ls hl => ?_)
                    refine lv_goto (tgt := 3) hx hb dL_folds_125 (by decide) ?_
                    exact ih_3 (pp + 1) (upd F pp 0) (cs + 1) (ss + 6) (by omega) (by omega) (by omega) (by omega) (lp_fu hF ((lp_ef_n (hev.trans c_110)).symm)) _ _ hG _ (lv_sub hl [1, 2, 3, 4, 5, 6, 0] rfl)
                  · have c_110 := sl_bT c_110
                    refine lv_iload hx hb dL_folds_113 (lv_at hl 7 rfl) ?_
                    refine lv_iconst (v := 1) hx hb dL_folds_115 (by decide) ?_
                    refine lv_iadd hx hb dL_folds_116 ?_
                    refine lv_goto (tgt := 121) hx hb dL_folds_117 (by decide) ?_
                    refine sl_iastN hC hG 46 (sl_up_s _ _ _) (j := pp) rfl (by omega) (by omega) dL_folds_121 (fun H locs hG => ?_)
                    rw [sl_up_up] at hG
                    have hG : sl_I Γ (sl_up g 46 (a6, .inl (Γ.2.1 0, 60, .inl (upd F pp ((C pp) + 1))))) s H _ := hG
                    refine lv_iinc (v := nI (pp + 1)) (lv' := [(6, .int (nI (pp + 1))), (0, .ref (α 0)), (1, .ref a1), (2, .ref a3), (3, .ref a4), (4, .ref a6), (5, .int (nI (sl_kn C))), (7, .int (C pp)), (8, .int (sl_bi b)), (9, .int (nI q))]) hx hb dL_folds_122 hl (k := 6) rfl (nI_1 pp) (by decide) rfl (fun ls hl => ?_)
                    refine lv_goto (tgt := 3) hx hb dL_folds_125 (by decide) ?_
                    exact ih_3 (pp + 1) (upd F pp ((C pp) + 1)) (cs + 1) (ss + 6) (by omega) (by omega) (by omega) (by omega) (lp_fu hF ((lp_ef_y (hev.trans c_110)).symm)) _ _ hG _ (lv_sub hl [1, 2, 3, 4, 5, 6, 0] rfl)
                · have n_51 : ¬ (pp ≤ q) := fun z => c_51 ((nI_leI (a := pp) (b := q) (by omega) (by omega)).mpr z)
                  refine lv_iload hx hb dL_folds_54 (lv_at hl 8 rfl) ?_
                  refine lv_if_eq (tgt := 104) hx hb dL_folds_56 (by decide) (fun c_56 => ?_) (fun c_56 => ?_)
                  · have c_56 := sl_bF c_56
                    have hev : sl_ev n C E pp = b := by rw [hei, c_56]; exact lp_iq_f (hbq.symm.trans c_56) (by omega)
                    refine lv_aload hx hb dL_folds_104 (lv_at hl 4 rfl) ?_
                    refine lv_iload hx hb dL_folds_106 (lv_at hl 6 rfl) ?_
                    refine lv_iload hx hb dL_folds_108 (lv_at hl 8 rfl) ?_
                    refine lv_if_eq (tgt := 120) hx hb dL_folds_110 (by decide) (fun c_110 => ?_) (fun c_110 => ?_)
                    · have c_110 := sl_bF c_110
                      refine lv_iconst (v := 0) hx hb dL_folds_120 (by decide) ?_
                      refine sl_iastN hC hG 46 (sl_up_s _ _ _) (j := pp) rfl (by omega) (by omega) dL_folds_121 (fun H locs hG => ?_)
                      rw [sl_up_up] at hG
                      have hG : sl_I Γ (sl_up g 46 (a6, .inl (Γ.2.1 0, 60, .inl (upd F pp 0)))) s H _ := hG
                      refine lv_iinc (v := nI (pp + 1)) (lv' := [(6, .int (nI (pp + 1))), (0, .ref (α 0)), (1, .ref a1), (2, .ref a3), (3, .ref a4), (4, .ref a6), (5, .int (nI (sl_kn C))), (7, .int (C pp)), (8, .int (sl_bi b)), (9, .int (nI q))]) hx hb dL_folds_122 hl (k := 6) rfl (nI_1 pp) (by decide) rfl (fun ls hl => ?_)
                      refine lv_goto (tgt := 3) hx hb dL_folds_125 (by decide) ?_
                      exact ih_3 (pp + 1) (upd F pp 0) (cs + 1) (ss + 6) (by omega) (by omega) (by omega) (by omega) (lp_fu hF ((lp_ef_n (hev.trans c_110)).symm)) _ _ hG _ (lv_sub hl [1, 2, 3, 4, 5, 6, 0] rfl)
                    · have c_110 := sl_bT c_110
                      refine lv_iload hx hb dL_folds_113 (lv_at hl 7 rfl) ?_
                      refine lv_iconst (v := 1) hx hb dL_folds_115 (by decide) ?_
                      refine lv_iadd hx hb dL_folds_116 ?_
                      refine lv_goto (tgt := 121) hx hb dL_folds_117 (by decide) ?_
                      refine sl_iastN hC hG 46 (sl_up_s _ _ _) (j := pp) rfl (by omega) (by omega) dL_folds_121 (fun H locs hG => ?_)
                      rw [sl_up_up] at hG
                      have hG : sl_I Γ (sl_up g 46 (a6, .inl (Γ.2.1 0, 60, .inl (upd F pp ((C pp) + 1))))) s H _ := hG
                      refine lv_iinc (v := nI (pp + 1)) (lv' := [(6, .int (nI (pp + 1))), (0, .ref (α 0)), (1, .ref a1), (2, .ref a3), (3, .ref a4), (4, .ref a6), (5, .int (nI (sl_kn C))), (7, .int (C pp)), (8, .int (sl_bi b)), (9, .int (nI q))]) hx hb dL_folds_122 hl (k := 6) rfl (nI_1 pp) (by decide) rfl (fun ls hl => ?_)
                      refine lv_goto (tgt := 3) hx hb dL_folds_125 (by decide) ?_
                      exact ih_3 (pp + 1) (upd F pp ((C pp) + 1)) (cs + 1) (ss + 6) (by omega) (by omega) (by omega) (by omega) (lp_fu hF ((lp_ef_y (hev.trans c_110)).symm)) _ _ hG _ (lv_sub hl [1, 2, 3, 4, 5, 6, 0] rfl)
                  · have c_56 := sl_bT c_56
                    refine lv_aload_n hx hb dL_folds_59 rfl (lv_at hl 2 rfl) ?_
                    refine lv_iload hx hb dL_folds_60 (lv_at hl 7 rfl) ?_
                    refine sl_ialdN hC hG 43 (sl_up_to (by decide) h43) (j := t) et (by omega) (by omega) dL_folds_62 ?_
                    refine sl_topi (y := (E t).2.2.2.2.1) (hR t ht) ?_
                    refine lv_if_le (tgt := 104) hx hb dL_folds_63 (by decide) (fun c_63 => ?_) (fun c_63 => ?_)
                    · have hev : sl_ev n C E pp = b := (sl_ev_rd etok (sl_le0 c_63 hrd.1)).trans c_56.symm
                      refine lv_aload hx hb dL_folds_104 (lv_at hl 4 rfl) ?_
                      refine lv_iload hx hb dL_folds_106 (lv_at hl 6 rfl) ?_
                      refine lv_iload hx hb dL_folds_108 (lv_at hl 8 rfl) ?_
                      refine lv_if_eq (tgt := 120) hx hb dL_folds_110 (by decide) (fun c_110 => ?_) (fun c_110 => ?_)
                      · have c_110 := sl_bF c_110
                        refine lv_iconst (v := 0) hx hb dL_folds_120 (by decide) ?_
                        refine sl_iastN hC hG 46 (sl_up_s _ _ _) (j := pp) rfl (by omega) (by omega) dL_folds_121 (fun H locs hG => ?_)
                        rw [sl_up_up] at hG
                        have hG : sl_I Γ (sl_up g 46 (a6, .inl (Γ.2.1 0, 60, .inl (upd F pp 0)))) s H _ := hG
                        refine lv_iinc (v := nI (pp + 1)) (lv' := [(6, .int (nI (pp + 1))), (0, .ref (α 0)), (1, .ref a1), (2, .ref a3), (3, .ref a4), (4, .ref a6), (5, .int (nI (sl_kn C))), (7, .int (C pp)), (8, .int (sl_bi b)), (9, .int (nI q))]) hx hb dL_folds_122 hl (k := 6) rfl (nI_1 pp) (by decide) rfl (fun ls hl => ?_)
                        refine lv_goto (tgt := 3) hx hb dL_folds_125 (by decide) ?_
                        exact ih_3 (pp + 1) (upd F pp 0) (cs + 1) (ss + 6) (by omega) (by omega) (by omega) (by omega) (lp_fu hF ((lp_ef_n (hev.trans c_110)).symm)) _ _ hG _ (lv_sub hl [1, 2, 3, 4, 5, 6, 0] rfl)
                      · have c_110 := sl_bT c_110
                        refine lv_iload hx hb dL_folds_113 (lv_at hl 7 rfl) ?_
                        refine lv_iconst (v := 1) hx hb dL_folds_115 (by decide) ?_
                        refine lv_iadd hx hb dL_folds_116 ?_
                        refine lv_goto (tgt := 121) hx hb dL_folds_117 (by decide) ?_
                        refine sl_iastN hC hG 46 (sl_up_s _ _ _) (j := pp) rfl (by omega) (by omega) dL_folds_121 (fun H locs hG => ?_)
                        rw [sl_up_up] at hG
                        have hG : sl_I Γ (sl_up g 46 (a6, .inl (Γ.2.1 0, 60, .inl (upd F pp ((C pp) + 1))))) s H _ := hG
                        refine lv_iinc (v := nI (pp + 1)) (lv' := [(6, .int (nI (pp + 1))), (0, .ref (α 0)), (1, .ref a1), (2, .ref a3), (3, .ref a4), (4, .ref a6), (5, .int (nI (sl_kn C))), (7, .int (C pp)), (8, .int (sl_bi b)), (9, .int (nI q))]) hx hb dL_folds_122 hl (k := 6) rfl (nI_1 pp) (by decide) rfl (fun ls hl => ?_)
                        refine lv_goto (tgt := 3) hx hb dL_folds_125 (by decide) ?_
                        exact ih_3 (pp + 1) (upd F pp ((C pp) + 1)) (cs + 1) (ss + 6) (by omega) (by omega) (by omega) (by omega) (lp_fu hF ((lp_ef_y (hev.trans c_110)).symm)) _ _ hG _ (lv_sub hl [1, 2, 3, 4, 5, 6, 0] rfl)
                    · refine lv_aload hx hb dL_folds_66 (lv_at hl 4 rfl) ?_
                      refine lv_iload hx hb dL_folds_68 (lv_at hl 9 rfl) ?_
                      refine sl_ialdN hC hG 46 (sl_up_s _ _ _) (j := q) rfl (by omega) (by omega) dL_folds_70 ?_
                      refine sl_topi (y := lp_ef n C E q) (hF q (by omega)) ?_
                      refine lv_if_eq (tgt := 91) hx hb dL_folds_71 (by decide) (fun c_71 => ?_) (fun c_71 => ?_)
                      · refine lv_iconst (v := 1) hx hb dL_folds_91 (by decide) ?_
                        refine lv_goto (tgt := 96) hx hb dL_folds_92 (by decide) ?_
                        refine lv_istore (lv' := [(8, .int 1), (0, .ref (α 0)), (1, .ref a1), (2, .ref a3), (3, .ref a4), (4, .ref a6), (5, .int (nI (sl_kn C))), (6, .int (nI pp)), (7, .int (C pp)), (9, .int (nI q))]) hx hb dL_folds_96 hl (by decide) rfl (fun ls hl => ?_)
                        refine lv_iinc (v := nI (q + 1)) (lv' := [(9, .int (nI (q + 1))), (8, .int 1), (0, .ref (α 0)), (1, .ref a1), (2, .ref a3), (3, .ref a4), (4, .ref a6), (5, .int (nI (sl_kn C))), (6, .int (nI pp)), (7, .int (C pp))]) hx hb dL_folds_98 hl (k := 9) rfl (nI_1 q) (by decide) rfl (fun ls hl => ?_)
                        refine lv_goto (tgt := 47) hx hb dL_folds_101 (by decide) ?_
                        exact ih_47 (q + 1) true (by omega) (by omega) (by omega) (Or.inr (by omega)) (lp_iq_a (c_56.symm.trans hbq) (lp_ef_0 hn9 c_71)) _ _ hG _ (lv_sub hl [2, 3, 4, 5, 6, 7, 8, 9, 1, 0] rfl)
                      · have hqe := lp_ef_1 c_71
                        obtain ⟨u, hu, eu, hqt, hq9⟩ := lp_ef_t hn9 hqe
                        refine lv_aload_n hx hb dL_folds_74 rfl (lv_at hl 1 rfl) ?_
                        refine lv_aload hx hb dL_folds_75 (lv_at hl 4 rfl) ?_
                        refine lv_iload hx hb dL_folds_77 (lv_at hl 9 rfl) ?_
                        refine sl_ialdN hC hG 46 (sl_up_s _ _ _) (j := q) rfl (by omega) (by omega) dL_folds_79 ?_
                        refine sl_topi (y := nI (u + 1)) ((hF q (by omega)).trans hq9) ?_
                        refine lv_iconst (v := 1) hx hb dL_folds_80 (by decide) ?_
                        refine lv_isub hx hb dL_folds_81 ?_
                        refine sl_topi (y := nI (u + 0)) (nI_pred (u + 0)) ?_
                        refine sl_ialdN hC hG 41 (sl_up_to (by decide) h41) (j := u) rfl (by omega) (by omega) dL_folds_82 ?_
                        refine sl_topi (y := (E u).2.2.1) (hS u hu) ?_
                        refine lv_aload_n hx hb dL_folds_83 rfl (lv_at hl 2 rfl) ?_
                        refine lv_iload hx hb dL_folds_84 (lv_at hl 7 rfl) ?_
                        refine sl_ialdN hC hG 43 (sl_up_to (by decide) h43) (j := t) et (by omega) (by omega) dL_folds_86 ?_
                        refine sl_topi (y := (E t).2.2.2.2.1) (hR t ht) ?_
                        refine lv_iand hx hb dL_folds_87 ?_
                        refine lv_if_ne (tgt := 95) hx hb dL_folds_88 (by decide) (fun c_88 => ?_) (fun c_88 => ?_)
                        · refine lv_iconst (v := 0) hx hb dL_folds_95 (by decide) ?_
                          refine lv_istore (lv' := [(8, .int 0), (0, .ref (α 0)), (1, .ref a1), (2, .ref a3), (3, .ref a4), (4, .ref a6), (5, .int (nI (sl_kn C))), (6, .int (nI pp)), (7, .int (C pp)), (9, .int (nI q))]) hx hb dL_folds_96 hl (by decide) rfl (fun ls hl => ?_)
                          refine lv_iinc (v := nI (q + 1)) (lv' := [(9, .int (nI (q + 1))), (8, .int 0), (0, .ref (α 0)), (1, .ref a1), (2, .ref a3), (3, .ref a4), (4, .ref a6), (5, .int (nI (sl_kn C))), (6, .int (nI pp)), (7, .int (C pp))]) hx hb dL_folds_98 hl (k := 9) rfl (nI_1 q) (by decide) rfl (fun ls hl => ?_)
                          refine lv_goto (tgt := 47) hx hb dL_folds_101 (by decide) ?_
                          exact ih_47 (q + 1) false (by omega) (by omega) (by omega) (Or.inr (by omega)) (lp_iq_c hvq hqe hqt c_88) _ _ hG _ (lv_sub hl [2, 3, 4, 5, 6, 7, 8, 9, 1, 0] rfl)
                        · refine lv_iconst (v := 1) hx hb dL_folds_91 (by decide) ?_
                          refine lv_goto (tgt := 96) hx hb dL_folds_92 (by decide) ?_
                          refine lv_istore (lv' := [(8, .int 1), (0, .ref (α 0)), (1, .ref a1), (2, .ref a3), (3, .ref a4), (4, .ref a6), (5, .int (nI (sl_kn C))), (6, .int (nI pp)), (7, .int (C pp)), (9, .int (nI q))]) hx hb dL_folds_96 hl (by decide) rfl (fun ls hl => ?_)
                          refine lv_iinc (v := nI (q + 1)) (lv' := [(9, .int (nI (q + 1))), (8, .int 1), (0, .ref (α 0)), (1, .ref a1), (2, .ref a3), (3, .ref a4), (4, .ref a6), (5, .int (nI (sl_kn C))), (6, .int (nI pp)), (7, .int (C pp))]) hx hb dL_folds_98 hl (k := 9) rfl (nI_1 q) (by decide) rfl (fun ls hl => ?_)
                          refine lv_goto (tgt := 47) hx hb dL_folds_101 (by decide) ?_
                          exact ih_47 (q + 1) true (by omega) (by omega) (by omega) (Or.inr (by omega)) (lp_iq_b (c_56.symm.trans hbq) hqt c_88) _ _ hG _ (lv_sub hl [2, 3, 4, 5, 6, 7, 8, 9, 1, 0] rfl)
            exact loop_47 (v + pp + 1) v true (by omega) (by omega) (by omega) (Or.inl (Nat.le_refl v)) ((sl_iq_v _ _ _ _ _ v (Nat.le_refl v)).symm) _ _ hG _ (lv_sub hl [3, 4, 5, 6, 7, 8, 9, 2, 1, 0] rfl)
  have hup0 := sl_up_same h46
  rw [← hup0] at hG
  exact loop_3 (sl_kn C + 1) 0 Fz 0 0 (by omega) (by omega) (by omega) (by omega) (fun q hq => absurd hq (Nat.not_lt_zero q)) _ _ hG _ (lv_sub hl [1, 2, 3, 4, 5, 6, 0] rfl)
