/-! the reference's fold -/
theorem sl_has_and : ∀ a, a < 16 → ∀ b, b < 16 → (¬ (nI a &&& nI b = 0) ↔ ∃ s, s < 4 ∧ sl_has (nI a) (nI s) = true ∧ sl_has (nI b) (nI s) = true) := by decide +kernel
/-- the sets of the tokens are sets -/
def sl_ST (n : Nat) (E : Nat → sl_Ent) : Prop := ∀ t, t < n → ∃ a, a < 16 ∧ (E t).2.2.1 = nI a
/-- an entry at a position shares a stream with those read -/
def sl_is (n : Nat) (C : Nat → Int32) (E : Nat → sl_Ent) (rd : Int32) (q : Nat) : Bool := match sl_tok n (C q) with
  | none => false
  | some t => decide (¬ ((E t).2.2.1 &&& rd = 0))
theorem sl_is_1 {n t : Nat} {C : Nat → Int32} {E : Nat → sl_Ent} {rd : Int32} {q : Nat} (h : sl_tok n (C q) = some t) : sl_is n C E rd q = decide (¬ ((E t).2.2.1 &&& rd = 0)) := by rw [sl_is, h]
/-- nothing that took effect, from v on and ahead of q, shares a stream with those read -/
def sl_iq (n : Nat) (C : Nat → Int32) (E : Nat → sl_Ent) (rd : Int32) (v : Nat) : Nat → Bool
  | 0 => true
  | q + 1 => sl_iq n C E rd v q && !(decide (v ≤ q) && sl_ev n C E q && sl_is n C E rd q)
theorem sl_iq_v (n : Nat) (C : Nat → Int32) (E : Nat → sl_Ent) (rd : Int32) (v : Nat) : ∀ q, q ≤ v → sl_iq n C E rd v q = true
  | 0, _ => rfl
  | q + 1, h => by rw [sl_iq, sl_iq_v n C E rd v q (by omega), decide_eq_false (by omega)]; rfl
theorem sl_iq_iff (n : Nat) (C : Nat → Int32) (E : Nat → sl_Ent) (rd : Int32) (v : Nat) : ∀ k, sl_iq n C E rd v k = true ↔ ∀ q, q < k → v ≤ q → sl_ev n C E q = true → sl_is n C E rd q = false
  | 0 => ⟨fun _ q h => absurd h (Nat.not_lt_zero q), fun _ => rfl⟩
  | k + 1 => by
    rw [sl_iq, Bool.and_eq_true, sl_iq_iff n C E rd v k]
    constructor
    · intro ⟨h1, h2⟩ q hq hv he
      by_cases e : q = k
      · subst e
        rw [decide_eq_true hv, he] at h2
        cases hs : sl_is n C E rd q
        · rfl
        · rw [hs] at h2; cases h2
      · exact h1 q (by omega) hv he
    · intro h
      refine ⟨fun q hq => h q (by omega), ?_⟩
      by_cases hv : v ≤ k
      · cases he : sl_ev n C E k
        · rw [decide_eq_true hv]; rfl
        · rw [decide_eq_true hv, h k (by omega) hv he]; rfl
      · rw [decide_eq_false hv]; rfl
theorem sl_nIlt {a b : Nat} (ha : a < 2 ^ 31) (hb : b < 2 ^ 31) : nI a < nI b ↔ a < b := nI_ltI ha hb
theorem sl_fX_lt {n : Nat} {C : Nat → Int32} {E : Nat → sl_Ent} {v s : Nat} (hv : v ≤ 120) (hs : s < 4) : ∀ k, k ≤ 120 → (sl_fX n C E k s < nI v ↔ ∀ q, q < k → v ≤ q → sl_ev n C E q = true → sl_hs n C E (nI s) q = false)
  | 0, _ => by
    refine ⟨fun _ q h => absurd h (Nat.not_lt_zero q), fun _ => ?_⟩
    show (-1 : Int32) < nI v
    rw [sl_ltI, nI_toInt (by omega), show (-1 : Int32).toInt = -1 from rfl]; omega
  | k + 1, hk => by
    have ih := sl_fX_lt (n := n) (C := C) (E := E) hv hs k (by omega)
    have old : sl_fX n C E (k + 1) s = sl_fX n C E k s → (v ≤ k → sl_ev n C E k = true → sl_hs n C E (nI s) k = false) → (sl_fX n C E (k + 1) s < nI v ↔ ∀ q, q < k + 1 → v ≤ q → sl_ev n C E q = true → sl_hs n C E (nI s) q = false) := by
      intro e h0
      rw [e, ih]
      constructor
      · intro h q hq
        by_cases e : q = k
        · subst e; exact h0
        · exact h q (by omega)
      · intro h q hq; exact h q (by omega)
    rcases sl_opt (sl_tok n (C k)) with e | ⟨t, e⟩
    · exact old (by rw [sl_fX_0 e]) (fun _ h => by rw [sl_ev_0 e] at h; cases h)
    · cases hu : sl_un (sl_fX n C E k) (E t).2.2.2.2.1 (E t).2.2.2.2.2.1 4
      · exact old (by rw [sl_fX_1 e, if_neg (by rw [hu]; decide)]) (fun _ h => by rw [sl_ev_1 e, hu] at h; cases h)
      · cases hh : sl_has (E t).2.2.1 (nI s)
        · exact old (by rw [sl_fX_1 e, if_pos hu, sl_nc, if_neg (by rw [hh]; simp)]) (fun _ _ => by rw [sl_hs_1 e, hh])
        · have e1 : sl_fX n C E (k + 1) s = nI k := by rw [sl_fX_1 e, if_pos hu, sl_nc, if_pos ⟨hs, hh⟩]
          rw [e1, sl_nIlt (by omega) (by omega)]
          constructor
          · intro h q hq hv2; exact absurd hv2 (by omega)
          · intro h
            have hv3 : ¬ v ≤ k := fun hv3 => by
              have := h k (by omega) hv3 (by rw [sl_ev_1 e, hu])
              rw [sl_hs_1 e, hh] at this; cases this
            omega
theorem sl_un_iff (X : Nat → Int32) (ss ver : Int32) : ∀ k, sl_un X ss ver k = true ↔ ∀ s, s < k → sl_has ss (nI s) = true → X s < ver
  | 0 => ⟨fun _ s h => absurd h (Nat.not_lt_zero s), fun _ => rfl⟩
  | k + 1 => by
    rw [sl_un, Bool.and_eq_true, sl_un_iff X ss ver k, Bool.or_eq_true, decide_eq_true_iff]
    constructor
    · intro ⟨h1, h2⟩ s hs hh
      by_cases e : s = k
      · subst e
        rcases h2 with h2 | h2
        · rw [hh] at h2; cases h2
        · exact h2
      · exact h1 s (by omega) hh
    · intro h
      refine ⟨fun s hs => h s (by omega), ?_⟩
      cases hh : sl_has ss (nI k)
      · exact Or.inl rfl
      · exact Or.inr (h k (by omega) hh)
theorem sl_ev_iq {n t v k : Nat} {C : Nat → Int32} {E : Nat → sl_Ent} (hST : sl_ST n E) (hk : k ≤ 120) (htok : sl_tok n (C k) = some t) (hr1 : 0 ≤ (E t).2.2.2.2.1.toInt) (hr2 : (E t).2.2.2.2.1.toInt ≤ 15) (hv : v ≤ 120) (ev : (E t).2.2.2.2.2.1 = nI v) : sl_ev n C E k = sl_iq n C E (E t).2.2.2.2.1 v k := by
  obtain ⟨r, hr, er⟩ := sl_nat (v := (E t).2.2.2.2.1) (n := 15) hr1 (by omega) (by omega)
  rw [Bool.eq_iff_iff, sl_ev_1 htok, sl_un_iff, sl_iq_iff, er, ev]
  constructor
  · intro h q hq hvq he
    rcases sl_opt (sl_tok n (C q)) with e | ⟨t2, e⟩
    · rw [sl_ev_0 e] at he; cases he
    · obtain ⟨a, ha, ea⟩ := hST t2 (sl_tok_lt e)
      rw [sl_is_1 e, decide_eq_false_iff_not, ea, sl_has_and a ha r (by omega)]
      rintro ⟨s, hs, h1, h2⟩
      have h3 := (sl_fX_lt hv hs k hk).mp (h s hs h2) q hq hvq he
      rw [sl_hs_1 e, ea, h1] at h3; cases h3
  · intro h s hs hh
    rw [sl_fX_lt hv hs k hk]
    intro q hq hvq he
    have h3 := h q hq hvq he
    rcases sl_opt (sl_tok n (C q)) with e | ⟨t2, e⟩
    · rw [sl_ev_0 e] at he; cases he
    · obtain ⟨a, ha, ea⟩ := hST t2 (sl_tok_lt e)
      rw [sl_is_1 e, decide_eq_false_iff_not, ea, sl_has_and a ha r (by omega)] at h3
      rw [sl_hs_1 e, ea]
      cases h4 : sl_has (nI a) (nI s)
      · rfl
      · exact absurd ⟨s, hs, h4, hh⟩ h3
theorem sl_ev_rd {n t k : Nat} {C : Nat → Int32} {E : Nat → sl_Ent} (htok : sl_tok n (C k) = some t) (hr : (E t).2.2.2.2.1 = 0) : sl_ev n C E k = true := by
  rw [sl_ev_1 htok, sl_un_iff, hr]
  intro s hs hh
  exact absurd hh (by rcases (by omega : s = 0 ∨ s = 1 ∨ s = 2 ∨ s = 3) with e | e | e | e <;> subst e <;> decide)
theorem sl_le0 {z : Int32} (h : z ≤ 0) (h1 : 0 ≤ z.toInt) : z = 0 := by
  rw [sl_leI, sl_i0] at h
  exact Int32.toInt_inj.mp (by rw [sl_i0]; omega)
theorem sl_ev_tok {n q : Nat} {C : Nat → Int32} {E : Nat → sl_Ent} (hn : n ≤ 150) (h : sl_ev n C E q = true) : ∃ t, t < n ∧ C q = nI t ∧ sl_tok n (C q) = some t := by
  rcases sl_opt (sl_tok n (C q)) with e | ⟨t, e⟩
  · rw [sl_ev_0 e] at h; cases h
  · exact ⟨t, sl_tok_lt e, sl_tok_eq hn e, e⟩
theorem sl_iq_s {n q v : Nat} {C : Nat → Int32} {E : Nat → sl_Ent} {rd : Int32} {b : Bool} (hv : v ≤ q) (h : (sl_iq n C E rd v q && !(sl_ev n C E q && sl_is n C E rd q)) = b) : sl_bi b = sl_bi (sl_iq n C E rd v (q + 1)) := by
  rw [sl_iq, decide_eq_true hv, Bool.true_and, h]
theorem sl_fw {n k : Nat} {C : Nat → Int32} {E : Nat → sl_Ent} {F : Nat → Int32} (h1 : ∀ q, q < k → F q = sl_bi (sl_ev n C E q)) (h2 : F k = sl_bi (sl_ev n C E k)) : ∀ q, q < k + 1 → F q = sl_bi (sl_ev n C E q) := by
  intro q hq
  by_cases e : q = k
  · rw [e]; exact h2
  · exact h1 q (by omega)
theorem sl_fu {n k : Nat} {C : Nat → Int32} {E : Nat → sl_Ent} {F : Nat → Int32} {z : Int32} (h1 : ∀ q, q < k → F q = sl_bi (sl_ev n C E q)) (h2 : z = sl_bi (sl_ev n C E k)) : ∀ q, q < k + 1 → upd F k z q = sl_bi (sl_ev n C E q) := sl_fw (fun q hq => (pk_un (by omega)).trans (h1 q hq)) (pk_us.trans h2)
theorem sl_iq_x {n q k v : Nat} {C : Nat → Int32} {E : Nat → sl_Ent} {rd : Int32} (h : k ≤ q) (hv : v ≤ q) (hq : q ≤ v ∨ q ≤ k) : sl_iq n C E rd v q = sl_iq n C E rd v k := by
  by_cases e : q = k
  · rw [e]
  · rw [sl_iq_v _ _ _ _ _ q (by omega), sl_iq_v _ _ _ _ _ k (by omega)]
set_option maxHeartbeats 4000000 in
set_option maxRecDepth 100000 in
theorem kX5_folds (l : Launch) (Γ : sl_G) (g : sl_W) (μ : Nat → Nat) (n : Nat) (ep : Int32) (tl : Nat) (lo : Bool) (T C : Nat → Int32) (E : Nat → sl_Ent) (th : Int32) (hM : sl_Mdl Γ μ n ep tl lo T C E th g) (hST : sl_ST n E) : Met l yX5_folds [Cond.code yX5_folds cX5_folds 5 none] ({ frames := 2, cells := 0, slots := 0, locals := 42 } : Room) (va_Pc [.ref (μ 0)] (sl_B Γ g)) (sl_Qv Γ (fun (u : sl_W) => sl_Mdl Γ μ n ep tl lo T C E th u ∧ sl_fm g u ∧ ∃ F, u 31 = some (μ 11, .inl (Γ.2.1 1, 120, .inl F)) ∧ ∀ q, q < sl_kn C → F q = sl_bi (sl_ev n C E q)) (fun u => u)) 0 0 (sl_A Γ) := by
  refine sl_ent (by decide) (Nat.le_of_ble_eq_true rfl) ?_
  intro p e s m below meth c ls hC hr hin hG hl
  have hx := hC.1
  have hb := hC.2.1
  have hl : lv_has ls 5 [(0, .ref (μ 0))] := hl
  obtain ⟨h20, h21, h22, h23, h24, h25, h26, h27, h28, h29, h30, ⟨F, h31⟩, hn9, ht9, hC9, hE9, hZ9⟩ := id hM
  have hkn := sl_kn_le C
  refine lv_aload_n hx hb dX5_folds_0 rfl (lv_at hl 0 rfl) ?_
  refine sl_calli (sl_runV (As := []) (rest := []) hC hG (kX5_knownMany l Γ g μ n ep tl lo T C E th hM) mi_X5_knownMany lk_RX5_101 20 h20 rfl rfl rfl ⟨Nat.le_of_ble_eq_true rfl, Nat.le_of_ble_eq_true rfl⟩ rfl hl.1 rfl (Nat.le_of_ble_eq_true rfl) dX5_folds_1 ⟨Nat.le_of_ble_eq_true rfl, Nat.le_of_ble_eq_true rfl⟩) hG (fun r_1 u_1 H locs hr_1 hG => ?_)
  subst hr_1
  refine lv_istore_n (lv' := [(1, .int (nI (sl_kn C))), (0, .ref (μ 0))]) hx hb dX5_folds_4 rfl hl (by decide) rfl (fun ls hl => ?_)
  refine lv_iconst (v := 0) hx hb dX5_folds_5 (by decide) ?_
  refine lv_istore_n (lv' := [(2, .int 0), (1, .int (nI (sl_kn C))), (0, .ref (μ 0))]) hx hb dX5_folds_6 rfl hl (by decide) rfl (fun ls hl => ?_)
  have loop_7 : ∀ (fuel k : Nat) (F1 : Nat → Int32), k ≤ sl_kn C → sl_kn C + 1 ≤ k + fuel → (∀ q, q < k → F1 q = sl_bi (sl_ev n C E q)) → ∀ (H : Heap) (locs : List Loc), sl_I Γ (sl_up g 31 ((μ 11), .inl (Γ.2.1 1, 120, .inl F1))) s H locs → ∀ (ls : Array Slot), lv_has ls 5 [(0, .ref (μ 0)), (1, .int (nI (sl_kn C))), (2, .int (nI k))] → W p l e ({ frames := 2, cells := 0, slots := 0, locals := 42 } : Room) s m ([.ref (μ 0)] : List Value).toArray below meth c H locs 0 0 (MQ below (sl_Qv Γ (fun (u : sl_W) => sl_Mdl Γ μ n ep tl lo T C E th u ∧ sl_fm g u ∧ ∃ F, u 31 = some (μ 11, .inl (Γ.2.1 1, 120, .inl F)) ∧ ∀ q, q < sl_kn C → F q = sl_bi (sl_ev n C E q)) (fun u => u)) ([.ref (μ 0)] : List Value).toArray s 0 0 (sl_A Γ)) (F0 m 7 ls []) := by
    intro fuel
    induction fuel with
    | zero =>
      intro k F1 h1 h2
      exact absurd h2 (by omega)
    | succ fuel ih_7 =>
      intro k F1 hk_7 hn_7 hi H locs hG ls hl
      refine lv_iload_n hx hb dX5_folds_7 rfl (lv_at hl 2 rfl) ?_
      refine lv_iload_n hx hb dX5_folds_8 rfl (lv_at hl 1 rfl) ?_
      refine lv_icmp_ge (tgt := 125) hx hb dX5_folds_9 (by decide) (fun c_9 => ?_) (fun c_9 => ?_)
      · have n_9 : sl_kn C ≤ k := (nI_leI (a := sl_kn C) (b := k) (by omega) (by omega)).mp c_9
        have hk9 : k = sl_kn C := by omega
        exact sl_rv hC hr hG (sl_up g 31 ((μ 11), .inl (Γ.2.1 1, 120, .inl F1))) ⟨(sl_Mdl_up11 hM F1), ((sl_fm.rf g).up _ (by omega)), ⟨F1, (sl_up_s _ _ _), by rw [← hk9]; exact hi⟩⟩ rfl (Nat.le_of_ble_eq_true rfl) (Nat.le_of_ble_eq_true rfl) dX5_folds_125
      · have n_9 : ¬ (sl_kn C ≤ k) := fun z => c_9 ((nI_leI (a := sl_kn C) (b := k) (by omega) (by omega)).mpr z)
        refine lv_aload_n hx hb dX5_folds_12 rfl (lv_at hl 0 rfl) ?_
        refine sl_get (C := RX5) (T := TX5) (N := 16) hC hG 20 (sl_up_to (by decide) h20) rfl la_5 14 (by decide) lk_RX5_37 rfl rfl dX5_folds_13 ?_
        refine lv_iload_n hx hb dX5_folds_16 rfl (lv_at hl 2 rfl) ?_
        refine sl_ialdN hC hG 30 (sl_up_to (by decide) h30) (j := k) rfl (by omega) (by omega) dX5_folds_17 ?_
        refine lv_istore_n (lv' := [(3, .int (C k)), (0, .ref (μ 0)), (1, .int (nI (sl_kn C))), (2, .int (nI k))]) hx hb dX5_folds_18 rfl hl (by decide) rfl (fun ls hl => ?_)
        refine lv_aload_n hx hb dX5_folds_19 rfl (lv_at hl 1 rfl) ?_
        refine sl_get (C := RX5) (T := TX5) (N := 16) hC hG 20 (sl_up_to (by decide) h20) rfl la_5 15 (by decide) lk_RX5_40 rfl rfl dX5_folds_20 ?_
        refine lv_iload_n hx hb dX5_folds_23 rfl (lv_at hl 3 rfl) ?_
        refine lv_iload_n hx hb dX5_folds_24 rfl (lv_at hl 0 rfl) ?_
        refine lv_if_lt (tgt := 32) hx hb dX5_folds_25 (by decide) (fun c_25 => ?_) (fun c_25 => ?_)
        · refine lv_iconst (v := 0) hx hb dX5_folds_32 (by decide) ?_
          refine sl_zastN hC hG 31 (sl_up_s _ _ _) (j := k) rfl rfl (by omega) (by omega) dX5_folds_33 (fun H locs hG => ?_)
          have hG : sl_I Γ (sl_up (sl_up g 31 ((μ 11), .inl (Γ.2.1 1, 120, .inl F1))) 31 ((μ 11), .inl (Γ.2.1 1, 120, .inl (upd F1 k 0)))) s H _ := hG
          refine lv_iload_n hx hb dX5_folds_34 rfl (lv_at hl 0 rfl) ?_
          refine lv_if_lt (tgt := 119) hx hb dX5_folds_35 (by decide) (fun c_35 => ?_) (fun c_35 => ?_)
          · refine lv_iinc (v := nI (k + 1)) (lv' := [(2, .int (nI (k + 1))), (3, .int (C k)), (0, .ref (μ 0)), (1, .int (nI (sl_kn C)))]) hx hb dX5_folds_119 hl (k := 3) rfl (nI_1 k) (by decide) rfl (fun ls hl => ?_)
            refine lv_goto (tgt := 7) hx hb dX5_folds_122 (by decide) ?_
            rw [sl_up_up] at hG
            exact ih_7 (k + 1) (upd F1 k 0) (by omega) (by omega) (sl_fu hi (by rw [sl_ev_0 (sl_ce_neg hn9 (hC9 k (by omega)) c_35)]; rfl)) _ _ hG _ (lv_sub hl [2, 3, 0] rfl)
          · exact absurd c_25 c_35
        · refine lv_iconst (v := 1) hx hb dX5_folds_28 (by decide) ?_
          refine lv_goto (tgt := 33) hx hb dX5_folds_29 (by decide) ?_
          refine sl_zastN hC hG 31 (sl_up_s _ _ _) (j := k) rfl rfl (by omega) (by omega) dX5_folds_33 (fun H locs hG => ?_)
          have hG : sl_I Γ (sl_up (sl_up g 31 ((μ 11), .inl (Γ.2.1 1, 120, .inl F1))) 31 ((μ 11), .inl (Γ.2.1 1, 120, .inl (upd F1 k 1)))) s H _ := hG
          refine lv_iload_n hx hb dX5_folds_34 rfl (lv_at hl 0 rfl) ?_
          refine lv_if_lt (tgt := 119) hx hb dX5_folds_35 (by decide) (fun c_35 => ?_) (fun c_35 => ?_)
          · exact absurd c_35 c_25
          · obtain ⟨t, ht, eC, htok⟩ := sl_ce_pos hn9 (hC9 k (by omega)) c_35
            have hl : lv_has ls 5 [(3, .int (nI t)), (0, .ref (μ 0)), (1, .int (nI (sl_kn C))), (2, .int (nI k))] := by rw [← eC]; exact hl
            refine lv_aload_n hx hb dX5_folds_38 rfl (lv_at hl 1 rfl) ?_
            refine sl_get (C := RX5) (T := TX5) (N := 16) hC hG 20 (sl_up_to (by decide) (sl_up_to (by decide) h20)) rfl la_5 10 (by decide) lk_RX5_25 rfl rfl dX5_folds_39 ?_
            refine lv_iload_n hx hb dX5_folds_42 rfl (lv_at hl 0 rfl) ?_
            refine sl_ialdN hC hG 26 (sl_up_to (by decide) (sl_up_to (by decide) h26)) (j := t) rfl (by omega) (by omega) dX5_folds_43 ?_
            refine lv_if_le (tgt := 119) hx hb dX5_folds_44 (by decide) (fun c_44 => ?_) (fun c_44 => ?_)
            · refine lv_iinc (v := nI (k + 1)) (lv' := [(2, .int (nI (k + 1))), (3, .int (nI t)), (0, .ref (μ 0)), (1, .int (nI (sl_kn C)))]) hx hb dX5_folds_119 hl (k := 3) rfl (nI_1 k) (by decide) rfl (fun ls hl => ?_)
              refine lv_goto (tgt := 7) hx hb dX5_folds_122 (by decide) ?_
              rw [sl_up_up] at hG
              exact ih_7 (k + 1) (upd F1 k 1) (by omega) (by omega) (sl_fu hi (by rw [sl_ev_rd htok (sl_le0 c_44 (hE9 t ht).2.2.2.1)]; rfl)) _ _ hG _ (lv_sub hl [2, 3, 0] rfl)
            · refine lv_aload_n hx hb dX5_folds_47 rfl (lv_at hl 1 rfl) ?_
              refine sl_get (C := RX5) (T := TX5) (N := 16) hC hG 20 (sl_up_to (by decide) (sl_up_to (by decide) h20)) rfl la_5 11 (by decide) lk_RX5_28 rfl rfl dX5_folds_48 ?_
              refine lv_iload_n hx hb dX5_folds_51 rfl (lv_at hl 0 rfl) ?_
              refine sl_ialdN hC hG 27 (sl_up_to (by decide) (sl_up_to (by decide) h27)) (j := t) rfl (by omega) (by omega) dX5_folds_52 ?_
              refine lv_istore (lv' := [(4, .int ((fun i => (E i).2.2.2.2.2.1) t)), (3, .int (nI t)), (0, .ref (μ 0)), (1, .int (nI (sl_kn C))), (2, .int (nI k))]) hx hb dX5_folds_53 hl (by decide) rfl (fun ls hl => ?_)
              obtain ⟨v, hv9, ev9⟩ := (hE9 t ht).2.1
              have hl : lv_has ls 5 [(4, .int (nI v)), (3, .int (nI t)), (0, .ref (μ 0)), (1, .int (nI (sl_kn C))), (2, .int (nI k))] := by rw [← ev9]; exact hl
              have loop_55 : ∀ (fuel q : Nat) (F2 : Nat → Int32), q ≤ 120 → 120 + 1 ≤ q + fuel → ((∀ j, j < k → F2 j = sl_bi (sl_ev n C E j)) ∧ F2 k = sl_bi (sl_iq n C E (E t).2.2.2.2.1 v q)) → (v ≤ q) → (q ≤ v ∨ q ≤ k) → ∀ (H : Heap) (locs : List Loc), sl_I Γ (sl_up g 31 ((μ 11), .inl (Γ.2.1 1, 120, .inl F2))) s H locs → ∀ (ls : Array Slot), lv_has ls 5 [(0, .ref (μ 0)), (1, .int (nI (sl_kn C))), (2, .int (nI k)), (3, .int (nI t)), (4, .int (nI q))] → W p l e ({ frames := 2, cells := 0, slots := 0, locals := 42 } : Room) s m ([.ref (μ 0)] : List Value).toArray below meth c H locs 0 0 (MQ below (sl_Qv Γ (fun (u : sl_W) => sl_Mdl Γ μ n ep tl lo T C E th u ∧ sl_fm g u ∧ ∃ F, u 31 = some (μ 11, .inl (Γ.2.1 1, 120, .inl F)) ∧ ∀ q, q < sl_kn C → F q = sl_bi (sl_ev n C E q)) (fun u => u)) ([.ref (μ 0)] : List Value).toArray s 0 0 (sl_A Γ)) (F0 m 55 ls []) := by
                intro fuel
                induction fuel with
                | zero =>
                  intro q F2 h1 h2
                  exact absurd h2 (by omega)
                | succ fuel ih_55 =>
                  intro q F2 hk_55 hn_55 h2 hvq hqk H locs hG ls hl
                  refine lv_iload hx hb dX5_folds_55 (lv_at hl 4 rfl) ?_
                  refine lv_iload_n hx hb dX5_folds_57 rfl (lv_at hl 2 rfl) ?_
                  refine lv_icmp_ge (tgt := 119) hx hb dX5_folds_58 (by decide) (fun c_58 => ?_) (fun c_58 => ?_)
                  · have n_58 : k ≤ q := (nI_leI (a := k) (b := q) (by omega) (by omega)).mp c_58
                    refine lv_iinc (v := nI (k + 1)) (lv' := [(2, .int (nI (k + 1))), (0, .ref (μ 0)), (1, .int (nI (sl_kn C))), (3, .int (nI t)), (4, .int (nI q))]) hx hb dX5_folds_119 hl (k := 2) rfl (nI_1 k) (by decide) rfl (fun ls hl => ?_)
                    refine lv_goto (tgt := 7) hx hb dX5_folds_122 (by decide) ?_
                    exact ih_7 (k + 1) F2 (by omega) (by omega) (sl_fw h2.1 (h2.2.trans (by rw [sl_ev_iq hST (by omega) htok (hE9 t ht).2.2.2.1 (hE9 t ht).2.2.2.2 hv9 ev9]; exact congrArg sl_bi (sl_iq_x (by omega) hvq hqk)))) _ _ hG _ (lv_sub hl [1, 2, 0] rfl)
                  · have n_58 : ¬ (k ≤ q) := fun z => c_58 ((nI_leI (a := k) (b := q) (by omega) (by omega)).mpr z)
                    refine lv_aload_n hx hb dX5_folds_61 rfl (lv_at hl 0 rfl) ?_
                    refine sl_get (C := RX5) (T := TX5) (N := 16) hC hG 20 (sl_up_to (by decide) h20) rfl la_5 15 (by decide) lk_RX5_40 rfl rfl dX5_folds_62 ?_
                    refine lv_iload_n hx hb dX5_folds_65 rfl (lv_at hl 2 rfl) ?_
                    refine lv_aload_n hx hb dX5_folds_66 rfl (lv_at hl 0 rfl) ?_
                    refine sl_get (C := RX5) (T := TX5) (N := 16) hC hG 20 (sl_up_to (by decide) h20) rfl la_5 15 (by decide) lk_RX5_40 rfl rfl dX5_folds_67 ?_
                    refine lv_iload_n hx hb dX5_folds_70 rfl (lv_at hl 2 rfl) ?_
                    refine sl_zaldN hC hG 31 (sl_up_s _ _ _) (j := k) rfl (by omega) (by omega) dX5_folds_71 ?_
                    refine sl_topi (y := sl_bi (sl_iq n C E (E t).2.2.2.2.1 v q)) h2.2 ?_
                    refine lv_if_eq (tgt := 111) hx hb dX5_folds_72 (by decide) (fun c_72 => ?_) (fun c_72 => ?_)
                    · have c_72 := sl_bF c_72
                      refine lv_iconst (v := 0) hx hb dX5_folds_111 (by decide) ?_
                      refine sl_zastN hC hG 31 (sl_up_s _ _ _) (j := k) rfl rfl (by omega) (by omega) dX5_folds_112 (fun H locs hG => ?_)
                      have hG : sl_I Γ (sl_up (sl_up g 31 ((μ 11), .inl (Γ.2.1 1, 120, .inl F2))) 31 ((μ 11), .inl (Γ.2.1 1, 120, .inl (upd F2 k 0)))) s H _ := hG
                      refine lv_iinc (v := nI (q + 1)) (lv' := [(4, .int (nI (q + 1))), (0, .ref (μ 0)), (1, .int (nI (sl_kn C))), (2, .int (nI k)), (3, .int (nI t))]) hx hb dX5_folds_113 hl (k := 4) rfl (nI_1 q) (by decide) rfl (fun ls hl => ?_)
                      refine lv_goto (tgt := 55) hx hb dX5_folds_116 (by decide) ?_
                      rw [sl_up_up] at hG
                      exact ih_55 (q + 1) (upd F2 k 0) (by omega) (by omega) (⟨fun j hj => (pk_un (by omega)).trans (h2.1 j hj), pk_us.trans (sl_iq_s (b := false) hvq (by rw [c_72]; rfl))⟩) (by omega) (by omega) _ _ hG _ (lv_sub hl [1, 2, 3, 4, 0] rfl)
                    · have c_72 := sl_bT c_72
                      refine lv_aload_n hx hb dX5_folds_75 rfl (lv_at hl 0 rfl) ?_
                      refine sl_get (C := RX5) (T := TX5) (N := 16) hC hG 20 (sl_up_to (by decide) h20) rfl la_5 15 (by decide) lk_RX5_40 rfl rfl dX5_folds_76 ?_
                      refine lv_iload hx hb dX5_folds_79 (lv_at hl 4 rfl) ?_
                      refine sl_zaldN hC hG 31 (sl_up_s _ _ _) (j := q) rfl (by omega) (by omega) dX5_folds_81 ?_
                      refine sl_topi (y := sl_bi (sl_ev n C E q)) (h2.1 q (by omega)) ?_
                      refine lv_if_eq (tgt := 107) hx hb dX5_folds_82 (by decide) (fun c_82 => ?_) (fun c_82 => ?_)
                      · have c_82 := sl_bF c_82
                        refine lv_iconst (v := 1) hx hb dX5_folds_107 (by decide) ?_
                        refine lv_goto (tgt := 112) hx hb dX5_folds_108 (by decide) ?_
                        refine sl_zastN hC hG 31 (sl_up_s _ _ _) (j := k) rfl rfl (by omega) (by omega) dX5_folds_112 (fun H locs hG => ?_)
                        have hG : sl_I Γ (sl_up (sl_up g 31 ((μ 11), .inl (Γ.2.1 1, 120, .inl F2))) 31 ((μ 11), .inl (Γ.2.1 1, 120, .inl (upd F2 k 1)))) s H _ := hG
                        refine lv_iinc (v := nI (q + 1)) (lv' := [(4, .int (nI (q + 1))), (0, .ref (μ 0)), (1, .int (nI (sl_kn C))), (2, .int (nI k)), (3, .int (nI t))]) hx hb dX5_folds_113 hl (k := 4) rfl (nI_1 q) (by decide) rfl (fun ls hl => ?_)
                        refine lv_goto (tgt := 55) hx hb dX5_folds_116 (by decide) ?_
                        rw [sl_up_up] at hG
                        exact ih_55 (q + 1) (upd F2 k 1) (by omega) (by omega) (⟨fun j hj => (pk_un (by omega)).trans (h2.1 j hj), pk_us.trans (sl_iq_s (b := true) hvq (by rw [c_72, c_82]; rfl))⟩) (by omega) (by omega) _ _ hG _ (lv_sub hl [1, 2, 3, 4, 0] rfl)
                      · have c_82 := sl_bT c_82
                        obtain ⟨t2, ht2, eC2, htok2⟩ := sl_ev_tok hn9 c_82
                        refine lv_aload_n hx hb dX5_folds_85 rfl (lv_at hl 0 rfl) ?_
                        refine sl_get (C := RX5) (T := TX5) (N := 16) hC hG 20 (sl_up_to (by decide) h20) rfl la_5 8 (by decide) lk_RX5_19 rfl rfl dX5_folds_86 ?_
                        refine lv_aload_n hx hb dX5_folds_89 rfl (lv_at hl 0 rfl) ?_
                        refine sl_get (C := RX5) (T := TX5) (N := 16) hC hG 20 (sl_up_to (by decide) h20) rfl la_5 14 (by decide) lk_RX5_37 rfl rfl dX5_folds_90 ?_
                        refine lv_iload hx hb dX5_folds_93 (lv_at hl 4 rfl) ?_
                        refine sl_ialdN hC hG 30 (sl_up_to (by decide) h30) (j := q) rfl (by omega) (by omega) dX5_folds_95 ?_
                        refine sl_ialdN hC hG 24 (sl_up_to (by decide) h24) (j := t2) eC2 (by omega) (by omega) dX5_folds_96 ?_
                        refine lv_aload_n hx hb dX5_folds_97 rfl (lv_at hl 0 rfl) ?_
                        refine sl_get (C := RX5) (T := TX5) (N := 16) hC hG 20 (sl_up_to (by decide) h20) rfl la_5 10 (by decide) lk_RX5_25 rfl rfl dX5_folds_98 ?_
                        refine lv_iload_n hx hb dX5_folds_101 rfl (lv_at hl 3 rfl) ?_
                        refine sl_ialdN hC hG 26 (sl_up_to (by decide) h26) (j := t) rfl (by omega) (by omega) dX5_folds_102 ?_
                        refine lv_iand hx hb dX5_folds_103 ?_
                        refine lv_if_ne (tgt := 111) hx hb dX5_folds_104 (by decide) (fun c_104 => ?_) (fun c_104 => ?_)
                        · refine lv_iconst (v := 0) hx hb dX5_folds_111 (by decide) ?_
                          refine sl_zastN hC hG 31 (sl_up_s _ _ _) (j := k) rfl rfl (by omega) (by omega) dX5_folds_112 (fun H locs hG => ?_)
                          have hG : sl_I Γ (sl_up (sl_up g 31 ((μ 11), .inl (Γ.2.1 1, 120, .inl F2))) 31 ((μ 11), .inl (Γ.2.1 1, 120, .inl (upd F2 k 0)))) s H _ := hG
                          refine lv_iinc (v := nI (q + 1)) (lv' := [(4, .int (nI (q + 1))), (0, .ref (μ 0)), (1, .int (nI (sl_kn C))), (2, .int (nI k)), (3, .int (nI t))]) hx hb dX5_folds_113 hl (k := 4) rfl (nI_1 q) (by decide) rfl (fun ls hl => ?_)
                          refine lv_goto (tgt := 55) hx hb dX5_folds_116 (by decide) ?_
                          rw [sl_up_up] at hG
                          exact ih_55 (q + 1) (upd F2 k 0) (by omega) (by omega) (⟨fun j hj => (pk_un (by omega)).trans (h2.1 j hj), pk_us.trans (sl_iq_s (b := false) hvq (by rw [c_72, c_82, sl_is_1 htok2, decide_eq_true c_104]; rfl))⟩) (by omega) (by omega) _ _ hG _ (lv_sub hl [1, 2, 3, 4, 0] rfl)
                        · refine lv_iconst (v := 1) hx hb dX5_folds_107 (by decide) ?_
                          refine lv_goto (tgt := 112) hx hb dX5_folds_108 (by decide) ?_
                          refine sl_zastN hC hG 31 (sl_up_s _ _ _) (j := k) rfl rfl (by omega) (by omega) dX5_folds_112 (fun H locs hG => ?_)
                          have hG : sl_I Γ (sl_up (sl_up g 31 ((μ 11), .inl (Γ.2.1 1, 120, .inl F2))) 31 ((μ 11), .inl (Γ.2.1 1, 120, .inl (upd F2 k 1)))) s H _ := hG
                          refine lv_iinc (v := nI (q + 1)) (lv' := [(4, .int (nI (q + 1))), (0, .ref (μ 0)), (1, .int (nI (sl_kn C))), (2, .int (nI k)), (3, .int (nI t))]) hx hb dX5_folds_113 hl (k := 4) rfl (nI_1 q) (by decide) rfl (fun ls hl => ?_)
                          refine lv_goto (tgt := 55) hx hb dX5_folds_116 (by decide) ?_
                          rw [sl_up_up] at hG
                          exact ih_55 (q + 1) (upd F2 k 1) (by omega) (by omega) (⟨fun j hj => (pk_un (by omega)).trans (h2.1 j hj), pk_us.trans (sl_iq_s (b := true) hvq (by rw [c_72, c_82, sl_is_1 htok2, decide_eq_false (fun w9 => w9 c_104)]; rfl))⟩) (by omega) (by omega) _ _ hG _ (lv_sub hl [1, 2, 3, 4, 0] rfl)
              rw [sl_up_up] at hG
              exact loop_55 (120 + 1) v (upd F1 k 1) (by omega) (by omega) (⟨fun j hj => (pk_un (by omega)).trans (hi j hj), pk_us.trans (by rw [sl_iq_v _ _ _ _ _ v (by omega)]; rfl)⟩) (by omega) (by omega) _ _ hG _ (lv_sub hl [2, 3, 4, 1, 0] rfl)
  rw [← sl_up_same (g := g) (k := 31) (q := ((μ 11), .inl (Γ.2.1 1, 120, .inl F))) h31] at hG
  exact loop_7 (sl_kn C + 1) 0 F (by omega) (by omega) (fun q hq => absurd hq (Nat.not_lt_zero q)) _ _ hG _ (lv_sub hl [2, 1, 0] rfl)
theorem sl_vs_0 {n k : Nat} {C : Nat → Int32} {E : Nat → sl_Ent} {x : Int32} (h : sl_ev n C E k = false) : sl_vs n C E x k + 0 = sl_vs n C E x (k + 1) := by
  rw [sl_vs, Int32.add_zero]
  split
  · rcases sl_opt (sl_tok n (C k)) with e | ⟨t, e⟩
    · rw [sl_am_0 e, Int32.add_zero]
    · rw [sl_am_1 e, if_neg (by rw [h]; decide), Int32.add_zero]
  · rfl
theorem sl_vs_n {n k : Nat} {C : Nat → Int32} {E : Nat → sl_Ent} {x : Int32} (h : sl_hc n E (C k) x = false) : sl_vs n C E x k + 0 = sl_vs n C E x (k + 1) := by
  rw [sl_vs, Int32.add_zero, if_neg (by rw [← sl_hc_hs, h]; decide)]
theorem sl_vs_1 {n k t : Nat} {C : Nat → Int32} {E : Nat → sl_Ent} {x : Int32} (e : sl_tok n (C k) = some t) (h : sl_ev n C E k = true) (h2 : sl_hc n E (C k) x = true) : sl_vs n C E x k + (E t).2.2.2.1 = sl_vs n C E x (k + 1) := by
  rw [sl_vs, if_pos (by rw [← sl_hc_hs]; exact h2), sl_am_1 e, if_pos h]
set_option maxHeartbeats 4000000 in
set_option maxRecDepth 100000 in
theorem kX5_folded (l : Launch) (Γ : sl_G) (g : sl_W) (μ : Nat → Nat) (n : Nat) (ep : Int32) (tl : Nat) (lo : Bool) (T C : Nat → Int32) (E : Nat → sl_Ent) (th : Int32) (hM : sl_Mdl Γ μ n ep tl lo T C E th g) (hST : sl_ST n E) (x : Int32) (b : Nat) (hb9 : b ≤ sl_kn C) : Met l yX5_folded [Cond.code yX5_folded cX5_folded 5 (some .int)] ({ frames := 3, cells := 0, slots := 0, locals := 66 } : Room) (va_Pc [.ref (μ 0), .int x, .int (nI b)] (sl_B Γ g)) (sl_Qi Γ (fun r g' => r = sl_vs n C E x b ∧ sl_Mdl Γ μ n ep tl lo T C E th g' ∧ sl_fm g g') (fun g' => g')) 0 0 (sl_A Γ) := by
  refine sl_ent (by decide) (Nat.le_of_ble_eq_true rfl) ?_
  intro p e s m below meth c ls hC hr hin hG hl
  have hx := hC.1
  have hb := hC.2.1
  have hl : lv_has ls 5 [(0, .ref (μ 0)), (1, .int x), (2, .int (nI b))] := hl
  obtain ⟨h20, h21, h22, h23, h24, h25, h26, h27, h28, h29, h30, ⟨F, h31⟩, hn9, ht9, hC9, hE9, hZ9⟩ := id hM
  have hkn := sl_kn_le C
  refine lv_aload_n hx hb dX5_folded_0 rfl (lv_at hl 0 rfl) ?_
  refine sl_callv (sl_runV (As := []) (rest := []) hC hG (kX5_folds l Γ g μ n ep tl lo T C E th hM hST) mi_X5_folds lk_RX5_105 20 h20 rfl rfl rfl ⟨Nat.le_of_ble_eq_true rfl, Nat.le_of_ble_eq_true rfl⟩ rfl hl.1 rfl (Nat.le_of_ble_eq_true rfl) dX5_folded_1 ⟨Nat.le_of_ble_eq_true rfl, Nat.le_of_ble_eq_true rfl⟩) hG (fun u_1 H locs hr_1 hG => ?_)
  obtain ⟨hM8, hf8, F8, hF8, hV8⟩ := hr_1
  obtain ⟨i_20, i_21, i_22, i_23, i_24, i_25, i_26, i_27, i_28, i_29, i_30, -, -⟩ := id hM8
  refine lv_iconst (v := 0) hx hb dX5_folded_4 (by decide) ?_
  refine lv_istore_n (lv' := [(3, .int 0), (0, .ref (μ 0)), (1, .int x), (2, .int (nI b))]) hx hb dX5_folded_5 rfl hl (by decide) rfl (fun ls hl => ?_)
  refine lv_iconst (v := 0) hx hb dX5_folded_6 (by decide) ?_
  refine lv_istore (lv' := [(4, .int 0), (3, .int 0), (0, .ref (μ 0)), (1, .int x), (2, .int (nI b))]) hx hb dX5_folded_7 hl (by decide) rfl (fun ls hl => ?_)
  have loop_9 : ∀ (fuel k : Nat), k ≤ b → b + 1 ≤ k + fuel → ∀ (H : Heap) (locs : List Loc), sl_I Γ u_1 s H locs → ∀ (ls : Array Slot), lv_has ls 5 [(0, .ref (μ 0)), (1, .int x), (2, .int (nI b)), (3, .int (sl_vs n C E x k)), (4, .int (nI k))] → W p l e ({ frames := 3, cells := 0, slots := 0, locals := 66 } : Room) s m ([.ref (μ 0), .int x, .int (nI b)] : List Value).toArray below meth c H locs 0 0 (MQ below (sl_Qi Γ (fun r g' => r = sl_vs n C E x b ∧ sl_Mdl Γ μ n ep tl lo T C E th g' ∧ sl_fm g g') (fun g' => g')) ([.ref (μ 0), .int x, .int (nI b)] : List Value).toArray s 0 0 (sl_A Γ)) (F0 m 9 ls []) := by
    intro fuel
    induction fuel with
    | zero =>
      intro k  h1 h2
      exact absurd h2 (by omega)
    | succ fuel ih_9 =>
      intro k  hk_9 hn_9  H locs hG ls hl
      refine lv_iload hx hb dX5_folded_9 (lv_at hl 4 rfl) ?_
      refine lv_iload_n hx hb dX5_folded_11 rfl (lv_at hl 2 rfl) ?_
      refine lv_icmp_ge (tgt := 65) hx hb dX5_folded_12 (by decide) (fun c_12 => ?_) (fun c_12 => ?_)
      · have n_12 : b ≤ k := (nI_leI (a := b) (b := k) (by omega) (by omega)).mp c_12
        refine lv_iload_n hx hb dX5_folded_65 rfl (lv_at hl 3 rfl) ?_
        have hk9 : k = b := by omega
        exact sl_ri (v := sl_vs n C E x k) hC hr hG u_1 ⟨by rw [hk9], hM8, ((sl_fm.rf g).tr hf8)⟩ rfl (Nat.le_of_ble_eq_true rfl) (Nat.le_of_ble_eq_true rfl) dX5_folded_66
      · have n_12 : ¬ (b ≤ k) := fun z => c_12 ((nI_leI (a := b) (b := k) (by omega) (by omega)).mpr z)
        refine lv_iload_n hx hb dX5_folded_15 rfl (lv_at hl 3 rfl) ?_
        refine lv_aload_n hx hb dX5_folded_16 rfl (lv_at hl 0 rfl) ?_
        refine sl_get (C := RX5) (T := TX5) (N := 16) hC hG 20 i_20 rfl la_5 15 (by decide) lk_RX5_40 rfl rfl dX5_folded_17 ?_
        refine lv_iload hx hb dX5_folded_20 (lv_at hl 4 rfl) ?_
        refine sl_zaldN hC hG 31 hF8 (j := k) rfl (by omega) (by omega) dX5_folded_22 ?_
        refine sl_topi (y := sl_bi (sl_ev n C E k)) (hV8 k (by omega)) ?_
        refine lv_if_eq (tgt := 56) hx hb dX5_folded_23 (by decide) (fun c_23 => ?_) (fun c_23 => ?_)
        · have c_23 := sl_bF c_23
          refine lv_iconst (v := 0) hx hb dX5_folded_56 (by decide) ?_
          refine lv_iadd hx hb dX5_folded_57 ?_
          refine sl_topi (y := sl_vs n C E x (k + 1)) (sl_vs_0 c_23) ?_
          refine lv_istore_n (lv' := [(3, .int (sl_vs n C E x (k + 1))), (0, .ref (μ 0)), (1, .int x), (2, .int (nI b)), (4, .int (nI k))]) hx hb dX5_folded_58 rfl hl (by decide) rfl (fun ls hl => ?_)
          refine lv_iinc (v := nI (k + 1)) (lv' := [(4, .int (nI (k + 1))), (3, .int (sl_vs n C E x (k + 1))), (0, .ref (μ 0)), (1, .int x), (2, .int (nI b))]) hx hb dX5_folded_59 hl (k := 4) rfl (nI_1 k) (by decide) rfl (fun ls hl => ?_)
          refine lv_goto (tgt := 9) hx hb dX5_folded_62 (by decide) ?_
          exact ih_9 (k + 1) (by omega) (by omega) _ _ hG _ (lv_sub hl [2, 3, 4, 1, 0] rfl)
        · have c_23 := sl_bT c_23
          obtain ⟨t2, ht2, eC2, htok2⟩ := sl_ev_tok hn9 c_23
          refine lv_aload_n hx hb dX5_folded_26 rfl (lv_at hl 0 rfl) ?_
          refine lv_aload_n hx hb dX5_folded_27 rfl (lv_at hl 0 rfl) ?_
          refine sl_get (C := RX5) (T := TX5) (N := 16) hC hG 20 i_20 rfl la_5 14 (by decide) lk_RX5_37 rfl rfl dX5_folded_28 ?_
          refine lv_iload hx hb dX5_folded_31 (lv_at hl 4 rfl) ?_
          refine sl_ialdN hC hG 30 i_30 (j := k) rfl (by omega) (by omega) dX5_folded_33 ?_
          refine lv_iload_n hx hb dX5_folded_34 rfl (lv_at hl 1 rfl) ?_
          refine sl_calli (sl_runV (As := [.int (C k), .int x]) (rest := [.int (sl_vs n C E x k)]) hC hG (kX5_hasStream l Γ u_1 μ n ep tl lo T C E th hM8 (C k) x (hC9 _ (by omega))) mi_X5_hasStream lk_RX5_84 20 i_20 rfl rfl rfl ⟨Nat.le_of_ble_eq_true rfl, Nat.le_of_ble_eq_true rfl⟩ rfl hl.1 rfl (Nat.le_of_ble_eq_true rfl) dX5_folded_35 ⟨Nat.le_of_ble_eq_true rfl, Nat.le_of_ble_eq_true rfl⟩) hG (fun r_35 u_35 H locs hr_35 hG => ?_)
          subst hr_35
          refine lv_if_eq (tgt := 56) hx hb dX5_folded_38 (by decide) (fun c_38 => ?_) (fun c_38 => ?_)
          · have c_38 := sl_bF c_38
            refine lv_iconst (v := 0) hx hb dX5_folded_56 (by decide) ?_
            refine lv_iadd hx hb dX5_folded_57 ?_
            refine sl_topi (y := sl_vs n C E x (k + 1)) (sl_vs_n c_38) ?_
            refine lv_istore_n (lv' := [(3, .int (sl_vs n C E x (k + 1))), (0, .ref (μ 0)), (1, .int x), (2, .int (nI b)), (4, .int (nI k))]) hx hb dX5_folded_58 rfl hl (by decide) rfl (fun ls hl => ?_)
            refine lv_iinc (v := nI (k + 1)) (lv' := [(4, .int (nI (k + 1))), (3, .int (sl_vs n C E x (k + 1))), (0, .ref (μ 0)), (1, .int x), (2, .int (nI b))]) hx hb dX5_folded_59 hl (k := 4) rfl (nI_1 k) (by decide) rfl (fun ls hl => ?_)
            refine lv_goto (tgt := 9) hx hb dX5_folded_62 (by decide) ?_
            exact ih_9 (k + 1) (by omega) (by omega) _ _ hG _ (lv_sub hl [2, 3, 4, 1, 0] rfl)
          · have c_38 := sl_bT c_38
            refine lv_aload_n hx hb dX5_folded_41 rfl (lv_at hl 0 rfl) ?_
            refine sl_get (C := RX5) (T := TX5) (N := 16) hC hG 20 i_20 rfl la_5 9 (by decide) lk_RX5_22 rfl rfl dX5_folded_42 ?_
            refine lv_aload_n hx hb dX5_folded_45 rfl (lv_at hl 0 rfl) ?_
            refine sl_get (C := RX5) (T := TX5) (N := 16) hC hG 20 i_20 rfl la_5 14 (by decide) lk_RX5_37 rfl rfl dX5_folded_46 ?_
            refine lv_iload hx hb dX5_folded_49 (lv_at hl 4 rfl) ?_
            refine sl_ialdN hC hG 30 i_30 (j := k) rfl (by omega) (by omega) dX5_folded_51 ?_
            refine sl_ialdN hC hG 25 i_25 (j := t2) eC2 (by omega) (by omega) dX5_folded_52 ?_
            refine lv_goto (tgt := 57) hx hb dX5_folded_53 (by decide) ?_
            refine lv_iadd hx hb dX5_folded_57 ?_
            refine sl_topi (y := sl_vs n C E x (k + 1)) (sl_vs_1 htok2 c_23 c_38) ?_
            refine lv_istore_n (lv' := [(3, .int (sl_vs n C E x (k + 1))), (0, .ref (μ 0)), (1, .int x), (2, .int (nI b)), (4, .int (nI k))]) hx hb dX5_folded_58 rfl hl (by decide) rfl (fun ls hl => ?_)
            refine lv_iinc (v := nI (k + 1)) (lv' := [(4, .int (nI (k + 1))), (3, .int (sl_vs n C E x (k + 1))), (0, .ref (μ 0)), (1, .int x), (2, .int (nI b))]) hx hb dX5_folded_59 hl (k := 4) rfl (nI_1 k) (by decide) rfl (fun ls hl => ?_)
            refine lv_goto (tgt := 9) hx hb dX5_folded_62 (by decide) ?_
            exact ih_9 (k + 1) (by omega) (by omega) _ _ hG _ (lv_sub hl [2, 3, 4, 1, 0] rfl)
  exact loop_9 (b + 1) 0 (by omega) (by omega) _ _ hG _ (lv_sub hl [2, 3, 4, 1, 0] rfl)
set_option maxHeartbeats 4000000 in
set_option maxRecDepth 100000 in
theorem kX5_value (l : Launch) (Γ : sl_G) (g : sl_W) (μ : Nat → Nat) (n : Nat) (ep : Int32) (tl : Nat) (lo : Bool) (T C : Nat → Int32) (E : Nat → sl_Ent) (th : Int32) (hM : sl_Mdl Γ μ n ep tl lo T C E th g) (hST : sl_ST n E) (x y : Int32) : Met l yX5_value [Cond.code yX5_value cX5_value 3 (some .int)] ({ frames := 4, cells := 0, slots := 0, locals := 90 } : Room) (va_Pc [.ref (μ 0), .int x, .int y] (sl_B Γ g)) (sl_Qi Γ (fun r g' => (((sl_in x 0 3 && sl_in y 0 (nI (sl_kn C))) = true ∧ r = sl_vs n C E x y.toNatClampNeg) ∧ sl_Mdl Γ μ n ep tl lo T C E 0 g' ∨ (sl_in x 0 3 && sl_in y 0 (nI (sl_kn C))) = false ∧ sl_Mdl Γ μ n ep tl lo T C E 1 g') ∧ sl_fm g g') (fun g' => g')) 0 0 (sl_A Γ) := by
  refine sl_ent (by decide) (Nat.le_of_ble_eq_true rfl) ?_
  intro p e s m below meth c ls hC hr hin hG hl
  have hx := hC.1
  have hb := hC.2.1
  have hl : lv_has ls 3 [(0, .ref (μ 0)), (1, .int x), (2, .int y)] := hl
  obtain ⟨h20, h21, h22, h23, h24, h25, h26, h27, h28, h29, h30, ⟨F, h31⟩, hn9, ht9, hC9, hE9, hZ9⟩ := id hM
  refine lv_aload_n hx hb dX5_value_0 rfl (lv_at hl 0 rfl) ?_
  refine lv_iload_n hx hb dX5_value_1 rfl (lv_at hl 1 rfl) ?_
  refine lv_iload_n hx hb dX5_value_2 rfl (lv_at hl 2 rfl) ?_
  refine sl_calli (sl_runV (As := [.int x, .int y]) (rest := []) hC hG (kX5_isAsked l Γ g μ n ep tl lo T C E th hM x y) mi_X5_isAsked lk_RX5_108 20 h20 rfl rfl rfl ⟨Nat.le_of_ble_eq_true rfl, Nat.le_of_ble_eq_true rfl⟩ rfl hl.1 rfl (Nat.le_of_ble_eq_true rfl) dX5_value_3 ⟨Nat.le_of_ble_eq_true rfl, Nat.le_of_ble_eq_true rfl⟩) hG (fun r_3 u_3 H locs hr_3 hG => ?_)
  obtain ⟨hr9, hM9, hf9⟩ := hr_3
  subst hr9
  rcases Bool.eq_false_or_eq_true (sl_in x 0 3 && sl_in y 0 (nI (sl_kn C))) with hok | hok
  · rw [if_pos hok] at hM9
    obtain ⟨h_20, h_21, h_22, h_23, h_24, h_25, h_26, h_27, h_28, h_29, h_30, ⟨F9, h_31⟩, -⟩ := id hM9
    have hkn := sl_kn_le C
    obtain ⟨b, hb9, rfl⟩ := sl_inN (n := sl_kn C) (sl_and2 hok) (nI_toInt (by omega)) (by omega)
    refine lv_if_eq (tgt := 18) hx hb dX5_value_6 (by decide) (fun c_6 => ?_) (fun c_6 => ?_)
    · exact absurd (sl_bF c_6) (by rw [hok]; decide)
    · have c_6 := sl_bT c_6
      refine lv_aload_n hx hb dX5_value_9 rfl (lv_at hl 0 rfl) ?_
      refine lv_iload_n hx hb dX5_value_10 rfl (lv_at hl 1 rfl) ?_
      refine lv_iload_n hx hb dX5_value_11 rfl (lv_at hl 2 rfl) ?_
      refine sl_calli (sl_runV (As := [.int x, .int (nI b)]) (rest := []) hC hG (kX5_folded l Γ u_3 μ n ep tl lo T C E 0 hM9 hST x b hb9) mi_X5_folded lk_RX5_111 20 h_20 rfl rfl rfl ⟨Nat.le_of_ble_eq_true rfl, Nat.le_of_ble_eq_true rfl⟩ rfl hl.1 rfl (Nat.le_of_ble_eq_true rfl) dX5_value_12 ⟨Nat.le_of_ble_eq_true rfl, Nat.le_of_ble_eq_true rfl⟩) hG (fun r_12 u_12 H locs hr_12 hG => ?_)
      obtain ⟨hr7, hM7, hf7⟩ := hr_12
      subst hr7
      refine lv_goto (tgt := 19) hx hb dX5_value_15 (by decide) ?_
      exact sl_ri (v := sl_vs n C E x b) hC hr hG u_12 ⟨Or.inl ⟨⟨hok, by rw [nI_clamp (by omega)]⟩, hM7⟩, (hf9.tr hf7)⟩ rfl (Nat.le_of_ble_eq_true rfl) (Nat.le_of_ble_eq_true rfl) dX5_value_19
  · rw [if_neg (by rw [hok]; decide)] at hM9
    obtain ⟨h_20, h_21, h_22, h_23, h_24, h_25, h_26, h_27, h_28, h_29, h_30, ⟨F9, h_31⟩, -⟩ := id hM9
    refine lv_if_eq (tgt := 18) hx hb dX5_value_6 (by decide) (fun c_6 => ?_) (fun c_6 => ?_)
    · have c_6 := sl_bF c_6
      refine lv_iconst (v := 0) hx hb dX5_value_18 (by decide) ?_
      exact sl_ri (v := 0) hC hr hG u_3 ⟨Or.inr ⟨hok, hM9⟩, hf9⟩ rfl (Nat.le_of_ble_eq_true rfl) (Nat.le_of_ble_eq_true rfl) dX5_value_19
    · exact absurd (sl_bT c_6) (by rw [hok]; decide)
set_option maxHeartbeats 4000000 in
set_option maxRecDepth 100000 in
theorem kX5_valueByPointers (l : Launch) (Γ : sl_G) (g : sl_W) (μ : Nat → Nat) (n : Nat) (ep : Int32) (tl : Nat) (lo : Bool) (T C : Nat → Int32) (E : Nat → sl_Ent) (th : Int32) (hM : sl_Mdl Γ μ n ep tl lo T C E th g) (hST : sl_ST n E) (x y : Int32) : Met l yX5_valueByPointers [Cond.code yX5_valueByPointers cX5_valueByPointers 3 (some .int)] ({ frames := 4, cells := 0, slots := 0, locals := 90 } : Room) (va_Pc [.ref (μ 0), .int x, .int y] (sl_B Γ g)) (sl_Qi Γ (fun r g' => (((sl_in x 0 3 && sl_in y 0 (nI (sl_kn C))) = true ∧ r = sl_vs n C E x y.toNatClampNeg) ∧ sl_Mdl Γ μ n ep tl lo T C E 0 g' ∨ (sl_in x 0 3 && sl_in y 0 (nI (sl_kn C))) = false ∧ sl_Mdl Γ μ n ep tl lo T C E 1 g') ∧ sl_fm g g') (fun g' => g')) 0 0 (sl_A Γ) := by
  refine sl_ent (by decide) (Nat.le_of_ble_eq_true rfl) ?_
  intro p e s m below meth c ls hC hr hin hG hl
  have hx := hC.1
  have hb := hC.2.1
  have hl : lv_has ls 3 [(0, .ref (μ 0)), (1, .int x), (2, .int y)] := hl
  obtain ⟨h20, h21, h22, h23, h24, h25, h26, h27, h28, h29, h30, ⟨F, h31⟩, hn9, ht9, hC9, hE9, hZ9⟩ := id hM
  refine lv_aload_n hx hb dX5_valueByPointers_0 rfl (lv_at hl 0 rfl) ?_
  refine lv_iload_n hx hb dX5_valueByPointers_1 rfl (lv_at hl 1 rfl) ?_
  refine lv_iload_n hx hb dX5_valueByPointers_2 rfl (lv_at hl 2 rfl) ?_
  refine sl_calli (sl_runV (As := [.int x, .int y]) (rest := []) hC hG (kX5_isAsked l Γ g μ n ep tl lo T C E th hM x y) mi_X5_isAsked lk_RX5_108 20 h20 rfl rfl rfl ⟨Nat.le_of_ble_eq_true rfl, Nat.le_of_ble_eq_true rfl⟩ rfl hl.1 rfl (Nat.le_of_ble_eq_true rfl) dX5_valueByPointers_3 ⟨Nat.le_of_ble_eq_true rfl, Nat.le_of_ble_eq_true rfl⟩) hG (fun r_3 u_3 H locs hr_3 hG => ?_)
  obtain ⟨hr9, hM9, hf9⟩ := hr_3
  subst hr9
  rcases Bool.eq_false_or_eq_true (sl_in x 0 3 && sl_in y 0 (nI (sl_kn C))) with hok | hok
  · rw [if_pos hok] at hM9
    obtain ⟨h_20, h_21, h_22, h_23, h_24, h_25, h_26, h_27, h_28, h_29, h_30, ⟨F9, h_31⟩, -⟩ := id hM9
    have hkn := sl_kn_le C
    obtain ⟨b, hb9, rfl⟩ := sl_inN (n := sl_kn C) (sl_and2 hok) (nI_toInt (by omega)) (by omega)
    refine lv_if_eq (tgt := 18) hx hb dX5_valueByPointers_6 (by decide) (fun c_6 => ?_) (fun c_6 => ?_)
    · exact absurd (sl_bF c_6) (by rw [hok]; decide)
    · have c_6 := sl_bT c_6
      refine lv_aload_n hx hb dX5_valueByPointers_9 rfl (lv_at hl 0 rfl) ?_
      refine lv_iload_n hx hb dX5_valueByPointers_10 rfl (lv_at hl 1 rfl) ?_
      refine lv_iload_n hx hb dX5_valueByPointers_11 rfl (lv_at hl 2 rfl) ?_
      refine sl_calli (sl_runV (As := [.int x, .int (nI b)]) (rest := []) hC hG (kX5_folded l Γ u_3 μ n ep tl lo T C E 0 hM9 hST x b hb9) mi_X5_folded lk_RX5_111 20 h_20 rfl rfl rfl ⟨Nat.le_of_ble_eq_true rfl, Nat.le_of_ble_eq_true rfl⟩ rfl hl.1 rfl (Nat.le_of_ble_eq_true rfl) dX5_valueByPointers_12 ⟨Nat.le_of_ble_eq_true rfl, Nat.le_of_ble_eq_true rfl⟩) hG (fun r_12 u_12 H locs hr_12 hG => ?_)
      obtain ⟨hr7, hM7, hf7⟩ := hr_12
      subst hr7
      refine lv_goto (tgt := 19) hx hb dX5_valueByPointers_15 (by decide) ?_
      exact sl_ri (v := sl_vs n C E x b) hC hr hG u_12 ⟨Or.inl ⟨⟨hok, by rw [nI_clamp (by omega)]⟩, hM7⟩, (hf9.tr hf7)⟩ rfl (Nat.le_of_ble_eq_true rfl) (Nat.le_of_ble_eq_true rfl) dX5_valueByPointers_19
  · rw [if_neg (by rw [hok]; decide)] at hM9
    obtain ⟨h_20, h_21, h_22, h_23, h_24, h_25, h_26, h_27, h_28, h_29, h_30, ⟨F9, h_31⟩, -⟩ := id hM9
    refine lv_if_eq (tgt := 18) hx hb dX5_valueByPointers_6 (by decide) (fun c_6 => ?_) (fun c_6 => ?_)
    · have c_6 := sl_bF c_6
      refine lv_iconst (v := 0) hx hb dX5_valueByPointers_18 (by decide) ?_
      exact sl_ri (v := 0) hC hr hG u_3 ⟨Or.inr ⟨hok, hM9⟩, hf9⟩ rfl (Nat.le_of_ble_eq_true rfl) (Nat.le_of_ble_eq_true rfl) dX5_valueByPointers_19
    · exact absurd (sl_bT c_6) (by rw [hok]; decide)
theorem sl_kin {x : Int32} {k : Nat} (hk : k ≤ 120) (h : sl_in x 0 (nI k - 1) = true) : ∃ b, b < k ∧ x = nI b := by
  cases k with
  | zero =>
    have h1 := sl_in_iff.mp h
    rw [sl_i0, show (nI 0 - 1 : Int32).toInt = -1 from rfl] at h1
    omega
  | succ k =>
    rw [nI_pred] at h
    obtain ⟨b, h1, h2⟩ := sl_inN (n := k) h (nI_toInt (by omega)) (by omega)
    exact ⟨b, by omega, h2⟩
theorem sl_kin0 {x : Int32} {k : Nat} (hk : k ≤ 120) (h : sl_in x 0 (nI k - 1) = false) : ¬ (0 ≤ x.toInt ∧ x.toInt < k) := by
  have h1 := sl_in_iff'.mp h
  cases k with
  | zero => omega
  | succ k =>
    rw [nI_pred, sl_i0, nI_toInt (by omega)] at h1
    omega
set_option maxHeartbeats 4000000 in
set_option maxRecDepth 100000 in
theorem kX5_takesEffect (l : Launch) (Γ : sl_G) (g : sl_W) (μ : Nat → Nat) (n : Nat) (ep : Int32) (tl : Nat) (lo : Bool) (T C : Nat → Int32) (E : Nat → sl_Ent) (th : Int32) (hM : sl_Mdl Γ μ n ep tl lo T C E th g) (hST : sl_ST n E) (x : Int32) : Met l yX5_takesEffect [Cond.code yX5_takesEffect cX5_takesEffect 2 (some .boolean)] ({ frames := 3, cells := 0, slots := 0, locals := 66 } : Room) (va_Pc [.ref (μ 0), .int x] (sl_B Γ g)) (sl_Qi Γ (fun r g' => ((∃ b, x = nI b ∧ b < sl_kn C ∧ r = sl_bi (sl_ev n C E b)) ∧ sl_Mdl Γ μ n ep tl lo T C E 0 g' ∨ ¬ (0 ≤ x.toInt ∧ x.toInt < sl_kn C) ∧ sl_Mdl Γ μ n ep tl lo T C E 1 g') ∧ sl_fm g g') (fun g' => g')) 0 0 (sl_A Γ) := by
  refine sl_ent (by decide) (Nat.le_of_ble_eq_true rfl) ?_
  intro p e s m below meth c ls hC hr hin hG hl
  have hx := hC.1
  have hb := hC.2.1
  have hl : lv_has ls 2 [(0, .ref (μ 0)), (1, .int x)] := hl
  obtain ⟨h20, h21, h22, h23, h24, h25, h26, h27, h28, h29, h30, ⟨F, h31⟩, hn9, ht9, hC9, hE9, hZ9⟩ := id hM
  have hkn := sl_kn_le C
  refine lv_aload_n hx hb dX5_takesEffect_0 rfl (lv_at hl 0 rfl) ?_
  refine lv_iload_n hx hb dX5_takesEffect_1 rfl (lv_at hl 1 rfl) ?_
  refine lv_iconst (v := 0) hx hb dX5_takesEffect_2 (by decide) ?_
  refine lv_aload_n hx hb dX5_takesEffect_3 rfl (lv_at hl 0 rfl) ?_
  refine sl_calli (sl_runV (As := []) (rest := [.int 0, .int x, .ref (μ 0)]) hC hG (kX5_knownMany l Γ g μ n ep tl lo T C E th hM) mi_X5_knownMany lk_RX5_101 20 h20 rfl rfl rfl ⟨Nat.le_of_ble_eq_true rfl, Nat.le_of_ble_eq_true rfl⟩ rfl hl.1 rfl (Nat.le_of_ble_eq_true rfl) dX5_takesEffect_4 ⟨Nat.le_of_ble_eq_true rfl, Nat.le_of_ble_eq_true rfl⟩) hG (fun r_4 u_4 H locs hr_4 hG => ?_)
  subst hr_4
  refine lv_iconst (v := 1) hx hb dX5_takesEffect_7 (by decide) ?_
  refine lv_isub hx hb dX5_takesEffect_8 ?_
  refine sl_calli (sl_runS (As := [.int x, .int 0, .int ((nI (sl_kn C)) - 1)]) (rest := [.ref (μ 0)]) hC hG (kX5_in l Γ g x 0 ((nI (sl_kn C)) - 1)) mi_X5_in lk_RX5_48 rfl rfl ⟨Nat.le_of_ble_eq_true rfl, Nat.le_of_ble_eq_true rfl⟩ rfl hl.1 rfl (Nat.le_of_ble_eq_true rfl) dX5_takesEffect_9 ⟨Nat.le_of_ble_eq_true rfl, Nat.le_of_ble_eq_true rfl⟩) hG (fun r_9 u_9 H locs hr_9 hG => ?_)
  subst hr_9
  refine lv_if_eq (tgt := 19) hx hb dX5_takesEffect_12 (by decide) (fun c_12 => ?_) (fun c_12 => ?_)
  · have c_12 := sl_bF c_12
    refine lv_iconst (v := 1) hx hb dX5_takesEffect_19 (by decide) ?_
    refine sl_put (C := RX5) (T := TX5) (N := 16) (ty := .int) (v := .int 1) hC hG 20 h20 rfl la_5 tyX5 tyX5_ok nmX5 0 (by decide) lk_RX5_44 rfl rfl (by decide +kernel) rfl rfl (Nat.le_of_ble_eq_true rfl) dX5_takesEffect_20 (fun H locs hG => ?_)
    have hG : sl_I Γ (sl_up g 20 ((μ 0), .inr (5, [.int 1, .int ep, .int (sl_bi lo), .int (nI tl), .ref (μ 1), .int (nI n), .ref (μ 2), .ref (μ 3), .ref (μ 4), .ref (μ 5), .ref (μ 6), .ref (μ 7), .ref (μ 8), .ref (μ 9), .ref (μ 10), .ref (μ 11)]))) s H _ := hG
    refine lv_aload_n hx hb dX5_takesEffect_23 rfl (lv_at hl 0 rfl) ?_
    refine sl_callv (sl_runV (As := []) (rest := []) hC hG (kX5_folds l Γ (sl_up g 20 ((μ 0), .inr (5, [.int 1, .int ep, .int (sl_bi lo), .int (nI tl), .ref (μ 1), .int (nI n), .ref (μ 2), .ref (μ 3), .ref (μ 4), .ref (μ 5), .ref (μ 6), .ref (μ 7), .ref (μ 8), .ref (μ 9), .ref (μ 10), .ref (μ 11)]))) μ n ep tl lo T C E 1 (sl_Mdl_up0 hM 1 ep tl lo (by omega)) hST) mi_X5_folds lk_RX5_105 20 (sl_up_s _ _ _) rfl rfl rfl ⟨Nat.le_of_ble_eq_true rfl, Nat.le_of_ble_eq_true rfl⟩ rfl hl.1 rfl (Nat.le_of_ble_eq_true rfl) dX5_takesEffect_24 ⟨Nat.le_of_ble_eq_true rfl, Nat.le_of_ble_eq_true rfl⟩) hG (fun u_24 H locs hr_24 hG => ?_)
    obtain ⟨hM8, hf8, F8, hF8, hV8⟩ := hr_24
    obtain ⟨i_20, i_21, i_22, i_23, i_24, i_25, i_26, i_27, i_28, i_29, i_30, -, -⟩ := id hM8
    refine lv_aload_n hx hb dX5_takesEffect_27 rfl (lv_at hl 0 rfl) ?_
    refine sl_get (C := RX5) (T := TX5) (N := 16) hC hG 20 i_20 rfl la_5 0 (by decide) lk_RX5_44 rfl rfl dX5_takesEffect_28 ?_
    refine lv_if_ne (tgt := 47) hx hb dX5_takesEffect_31 (by decide) (fun c_31 => ?_) (fun c_31 => ?_)
    · refine lv_iconst (v := 0) hx hb dX5_takesEffect_47 (by decide) ?_
      exact sl_rz (v := 0) hC hr rfl hG u_24 ⟨Or.inr ⟨sl_kin0 hkn c_12, hM8⟩, (((sl_fm.rf g).up _ (by omega)).tr hf8)⟩ rfl (Nat.le_of_ble_eq_true rfl) (Nat.le_of_ble_eq_true rfl) dX5_takesEffect_48
    · exact absurd c_31 (by decide)
  · have c_12 := sl_bT c_12
    refine lv_iconst (v := 0) hx hb dX5_takesEffect_15 (by decide) ?_
    refine lv_goto (tgt := 20) hx hb dX5_takesEffect_16 (by decide) ?_
    refine sl_put (C := RX5) (T := TX5) (N := 16) (ty := .int) (v := .int 0) hC hG 20 h20 rfl la_5 tyX5 tyX5_ok nmX5 0 (by decide) lk_RX5_44 rfl rfl (by decide +kernel) rfl rfl (Nat.le_of_ble_eq_true rfl) dX5_takesEffect_20 (fun H locs hG => ?_)
    have hG : sl_I Γ (sl_up g 20 ((μ 0), .inr (5, [.int 0, .int ep, .int (sl_bi lo), .int (nI tl), .ref (μ 1), .int (nI n), .ref (μ 2), .ref (μ 3), .ref (μ 4), .ref (μ 5), .ref (μ 6), .ref (μ 7), .ref (μ 8), .ref (μ 9), .ref (μ 10), .ref (μ 11)]))) s H _ := hG
    refine lv_aload_n hx hb dX5_takesEffect_23 rfl (lv_at hl 0 rfl) ?_
    refine sl_callv (sl_runV (As := []) (rest := []) hC hG (kX5_folds l Γ (sl_up g 20 ((μ 0), .inr (5, [.int 0, .int ep, .int (sl_bi lo), .int (nI tl), .ref (μ 1), .int (nI n), .ref (μ 2), .ref (μ 3), .ref (μ 4), .ref (μ 5), .ref (μ 6), .ref (μ 7), .ref (μ 8), .ref (μ 9), .ref (μ 10), .ref (μ 11)]))) μ n ep tl lo T C E 0 (sl_Mdl_up0 hM 0 ep tl lo (by omega)) hST) mi_X5_folds lk_RX5_105 20 (sl_up_s _ _ _) rfl rfl rfl ⟨Nat.le_of_ble_eq_true rfl, Nat.le_of_ble_eq_true rfl⟩ rfl hl.1 rfl (Nat.le_of_ble_eq_true rfl) dX5_takesEffect_24 ⟨Nat.le_of_ble_eq_true rfl, Nat.le_of_ble_eq_true rfl⟩) hG (fun u_24 H locs hr_24 hG => ?_)
    obtain ⟨hM8, hf8, F8, hF8, hV8⟩ := hr_24
    obtain ⟨i_20, i_21, i_22, i_23, i_24, i_25, i_26, i_27, i_28, i_29, i_30, -, -⟩ := id hM8
    refine lv_aload_n hx hb dX5_takesEffect_27 rfl (lv_at hl 0 rfl) ?_
    refine sl_get (C := RX5) (T := TX5) (N := 16) hC hG 20 i_20 rfl la_5 0 (by decide) lk_RX5_44 rfl rfl dX5_takesEffect_28 ?_
    refine lv_if_ne (tgt := 47) hx hb dX5_takesEffect_31 (by decide) (fun c_31 => ?_) (fun c_31 => ?_)
    · exact absurd c_31 (by decide)
    · obtain ⟨b, hb9, rfl⟩ := sl_kin hkn c_12
      refine lv_aload_n hx hb dX5_takesEffect_34 rfl (lv_at hl 0 rfl) ?_
      refine sl_get (C := RX5) (T := TX5) (N := 16) hC hG 20 i_20 rfl la_5 15 (by decide) lk_RX5_40 rfl rfl dX5_takesEffect_35 ?_
      refine lv_iload_n hx hb dX5_takesEffect_38 rfl (lv_at hl 1 rfl) ?_
      refine sl_zaldN hC hG 31 hF8 (j := b) rfl (by omega) (by omega) dX5_takesEffect_39 ?_
      refine sl_topi (y := sl_bi (sl_ev n C E b)) (hV8 b hb9) ?_
      refine lv_if_eq (tgt := 47) hx hb dX5_takesEffect_40 (by decide) (fun c_40 => ?_) (fun c_40 => ?_)
      · have c_40 := sl_bF c_40
        refine lv_iconst (v := 0) hx hb dX5_takesEffect_47 (by decide) ?_
        exact sl_rz (v := 0) hC hr rfl hG u_24 ⟨Or.inl ⟨⟨b, rfl, hb9, by rw [c_40]; rfl⟩, hM8⟩, (((sl_fm.rf g).up _ (by omega)).tr hf8)⟩ rfl (Nat.le_of_ble_eq_true rfl) (Nat.le_of_ble_eq_true rfl) dX5_takesEffect_48
      · have c_40 := sl_bT c_40
        refine lv_iconst (v := 1) hx hb dX5_takesEffect_43 (by decide) ?_
        refine lv_goto (tgt := 48) hx hb dX5_takesEffect_44 (by decide) ?_
        exact sl_rz (v := 1) hC hr rfl hG u_24 ⟨Or.inl ⟨⟨b, rfl, hb9, by rw [c_40]; rfl⟩, hM8⟩, (((sl_fm.rf g).up _ (by omega)).tr hf8)⟩ rfl (Nat.le_of_ble_eq_true rfl) (Nat.le_of_ble_eq_true rfl) dX5_takesEffect_48
