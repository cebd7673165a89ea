/-! the cells: what a cell holds, a write, how many are written, what is whole -/
def sl_cg (C : Nat → Int32) (r p : Int32) : Int32 := if sl_in r 0 2 = true ∧ sl_in p 0 119 = true then C (120 * r.toNatClampNeg + p.toNatClampNeg) else -2
def sl_cp (C : Nat → Int32) (r p v : Int32) : Nat → Int32 := if sl_in r 0 2 = true ∧ sl_in p 0 119 = true ∧ sl_cg C r p = -2 then upd C (120 * r.toNatClampNeg + p.toNatClampNeg) v else C
theorem sl_c2 {r : Int32} (h : sl_in r 0 2 = true) : ∃ a : Nat, a ≤ 2 ∧ r = nI a := sl_inN (n := 2) h rfl (by omega)
theorem sl_c3 {r : Int32} (h : sl_in r 0 3 = true) : ∃ a : Nat, a ≤ 3 ∧ r = nI a := sl_inN (n := 3) h rfl (by omega)
theorem sl_c119 {r : Int32} (h : sl_in r 0 119 = true) : ∃ a : Nat, a ≤ 119 ∧ r = nI a := sl_inN (n := 119) h sl_i119 (by omega)
theorem sl_cix {r p : Int32} (h1 : sl_in r 0 2 = true) (h2 : sl_in p 0 119 = true) : r * 120 + p = nI (120 * r.toNatClampNeg + p.toNatClampNeg) := by
  obtain ⟨a, ha, rfl⟩ := sl_c2 h1
  obtain ⟨b, hb, rfl⟩ := sl_c119 h2
  rw [nI_clamp (by omega), nI_clamp (by omega), show (120 : Int32) = nI 120 from rfl, pk_mul, nI_add, Nat.mul_comm]
theorem sl_cil {r p : Int32} (h1 : sl_in r 0 2 = true) (h2 : sl_in p 0 119 = true) : 120 * r.toNatClampNeg + p.toNatClampNeg < 360 := by
  obtain ⟨a, ha, rfl⟩ := sl_c2 h1
  obtain ⟨b, hb, rfl⟩ := sl_c119 h2
  rw [nI_clamp (by omega), nI_clamp (by omega)]
  omega
theorem sl_cgN (C : Nat → Int32) {a b : Nat} (ha : a < 3) (hb : b < 120) : sl_cg C (nI a) (nI b) = C (120 * a + b) := by
  rw [sl_cg, if_pos ⟨sl_nIin (n := 2) rfl (by omega) (by omega), sl_nIin (n := 119) sl_i119 (by omega) (by omega)⟩, nI_clamp (by omega), nI_clamp (by omega)]
theorem sl_cpN (C : Nat → Int32) {a b : Nat} (v : Int32) (ha : a < 3) (hb : b < 120) : sl_cp C (nI a) (nI b) v = if C (120 * a + b) = -2 then upd C (120 * a + b) v else C := by
  rw [sl_cp, sl_cgN C ha hb, nI_clamp (by omega), nI_clamp (by omega)]
  by_cases h : C (120 * a + b) = -2
  · rw [if_pos ⟨sl_nIin (n := 2) rfl (by omega) (by omega), sl_nIin (n := 119) sl_i119 (by omega) (by omega), h⟩, if_pos h]
  · rw [if_neg (fun z => h z.2.2), if_neg h]
/-- how many of the first k replicas' cells are written at b -/
def sl_cw (C : Nat → Int32) (b : Nat) : Nat → Nat
  | 0 => 0
  | k + 1 => sl_cw C b k + if C (120 * k + b) = -2 then 0 else 1
theorem sl_cw_le (C : Nat → Int32) (b : Nat) : ∀ k, sl_cw C b k ≤ k
  | 0 => Nat.le_refl 0
  | k + 1 => by have := sl_cw_le C b k; rw [sl_cw]; split <;> omega
def sl_wh (C : Nat → Int32) (b : Nat) : Bool := !decide (C b = -2) && !decide (C (120 + b) = -2) && !decide (C (240 + b) = -2)
theorem sl_cw3 (C : Nat → Int32) (b : Nat) : sl_cw C b 3 = 3 ↔ sl_wh C b = true := by
  have e : sl_cw C b 3 = 0 + (if C (120 * 0 + b) = -2 then 0 else 1) + (if C (120 * 1 + b) = -2 then 0 else 1) + (if C (120 * 2 + b) = -2 then 0 else 1) := rfl
  rw [e, sl_wh, show 120 * 0 + b = b by omega, show 120 * 1 + b = 120 + b by omega, show 120 * 2 + b = 240 + b by omega]
  by_cases h1 : C b = -2 <;> by_cases h2 : C (120 + b) = -2 <;> by_cases h3 : C (240 + b) = -2 <;> simp [h1, h2, h3]
/-- how many positions from the first on are whole, of the first n -/
def sl_kf (C : Nat → Int32) : Nat → Nat
  | 0 => 0
  | n + 1 => if sl_kf C n = n ∧ sl_wh C n = true then n + 1 else sl_kf C n
theorem sl_kf_le (C : Nat → Int32) : ∀ n, sl_kf C n ≤ n
  | 0 => Nat.le_refl 0
  | n + 1 => by have := sl_kf_le C n; rw [sl_kf]; split <;> omega
theorem sl_kf_at (C : Nat → Int32) {i : Nat} (h : sl_kf C i = i) (hw : sl_wh C i = false) : ∀ n, i ≤ n → sl_kf C n = i
  | 0, hn => by have : i = 0 := by omega
                subst this; exact h
  | n + 1, hn => by
    by_cases e : i = n + 1
    · subst e; exact h
    · have h1 := sl_kf_at C h hw n (by omega)
      rw [sl_kf, h1]
      by_cases e2 : i = n
      · subst e2
        rw [if_neg (fun z => by rw [hw] at z; cases z.2)]
      · rw [if_neg (fun z => e2 z.1)]
theorem sl_kf_wh (C : Nat → Int32) : ∀ n k, k < sl_kf C n → sl_wh C k = true
  | 0, k, h => absurd h (Nat.not_lt_zero k)
  | n + 1, k, h => by
    rw [sl_kf] at h
    split at h
    · rename_i z
      by_cases e : k = n
      · subst e; exact z.2
      · exact sl_kf_wh C n k (by omega)
    · exact sl_kf_wh C n k h
def sl_kn (C : Nat → Int32) : Nat := sl_kf C 120
theorem sl_kn_le (C : Nat → Int32) : sl_kn C ≤ 120 := sl_kf_le C 120
/-- behind the greatest of the first n positions with a cell that is written -/
def sl_ef (C : Nat → Int32) : Nat → Nat
  | 0 => 0
  | n + 1 => if sl_cw C n 3 = 0 then sl_ef C n else n + 1
theorem sl_ef_le (C : Nat → Int32) : ∀ n, sl_ef C n ≤ n
  | 0 => Nat.le_refl 0
  | n + 1 => by have := sl_ef_le C n; rw [sl_ef]; split <;> omega
theorem sl_dnT {q : Int32} {k : Nat} (hq : q = nI k + (-1)) (hk : k ≤ 120) (h : q < 0) : k = 0 := by
  cases k with
  | zero => rfl
  | succ k => rw [hq, pk_m1] at h; exact absurd h (nI_pos (by omega))
theorem sl_dnF {q : Int32} {k : Nat} (hq : q = nI k + (-1)) (h : ¬ q < 0) : ∃ i : Nat, k = i + 1 ∧ q = nI i := by
  cases k with
  | zero => subst hq; exact absurd (by decide) h
  | succ k => exact ⟨k, rfl, by rw [hq, pk_m1]⟩
set_option maxHeartbeats 4000000 in
set_option maxRecDepth 100000 in
theorem kX0_get (l : Launch) (Γ : sl_G) (g : sl_W) (a2 a3 : Nat) (C : Nat → Int32) (h2 : g 2 = some (a2, .inr (0, [.ref a3]))) (h3 : g 3 = some (a3, .inl (Γ.2.1 0, 360, .inl C))) (x y : Int32) : Met l yX0_get [Cond.code yX0_get cX0_get 3 (some .int)] ({ frames := 1, cells := 0, slots := 0, locals := 20 } : Room) (va_Pc [.ref a2, .int x, .int y] (sl_B Γ g)) (sl_Qi Γ (fun r (_ : Unit) => r = sl_cg C x y) (fun _ => g)) 0 0 (sl_A Γ) := by
  refine sl_ent (by decide) (Nat.le_of_ble_eq_true rfl) ?_
  intro p e s m below meth c ls hC hr hin hG hl
  have hx := hC.1
  have hb := hC.2.1
  have hl : lv_has ls 3 [(0, .ref a2), (1, .int x), (2, .int y)] := hl
  refine lv_iload_n hx hb dX0_get_0 rfl (lv_at hl 1 rfl) ?_
  refine sl_calli (sl_runSN (As := [.int x]) (rest := []) hC hG (kX4_isReplica l Γ g x) mi_X4_isReplica lk_RX0_21 rfl rfl ⟨Nat.le_of_ble_eq_true rfl, Nat.le_of_ble_eq_true rfl⟩ rfl hl.1 rfl (by decide) dX0_get_1 ⟨Nat.le_of_ble_eq_true rfl, Nat.le_of_ble_eq_true rfl⟩) hG (fun r_1 u_1 H locs hr_1 hG => ?_)
  subst hr_1
  refine lv_if_eq (tgt := 28) hx hb dX0_get_4 (by decide) (fun c_4 => ?_) (fun c_4 => ?_)
  · have c_4 := sl_bF c_4
    refine lv_bipush (v := (-2)) hx hb dX0_get_28 (by decide) ?_
    exact sl_ri (v := (-2)) hC hr hG () (by show _ = sl_cg C x y; rw [sl_cg, if_neg (fun w => by rw [c_4] at w; cases w.1)]) rfl (Nat.le_of_ble_eq_true rfl) (Nat.le_of_ble_eq_true rfl) dX0_get_30
  · have c_4 := sl_bT c_4
    refine lv_iload_n hx hb dX0_get_7 rfl (lv_at hl 2 rfl) ?_
    refine sl_calli (sl_runSN (As := [.int y]) (rest := []) hC hG (kX4_isPosition l Γ g y) mi_X4_isPosition lk_RX0_25 rfl rfl ⟨Nat.le_of_ble_eq_true rfl, Nat.le_of_ble_eq_true rfl⟩ rfl hl.1 rfl (by decide) dX0_get_8 ⟨Nat.le_of_ble_eq_true rfl, Nat.le_of_ble_eq_true rfl⟩) hG (fun r_8 u_8 H locs hr_8 hG => ?_)
    subst hr_8
    refine lv_if_eq (tgt := 28) hx hb dX0_get_11 (by decide) (fun c_11 => ?_) (fun c_11 => ?_)
    · have c_11 := sl_bF c_11
      refine lv_bipush (v := (-2)) hx hb dX0_get_28 (by decide) ?_
      exact sl_ri (v := (-2)) hC hr hG () (by show _ = sl_cg C x y; rw [sl_cg, if_neg (fun w => by rw [c_11] at w; cases w.2)]) rfl (Nat.le_of_ble_eq_true rfl) (Nat.le_of_ble_eq_true rfl) dX0_get_30
    · have c_11 := sl_bT c_11
      refine lv_aload_n hx hb dX0_get_14 rfl (lv_at hl 0 rfl) ?_
      refine sl_get (C := RX0) (T := TX0) (N := 1) hC hG 2 h2 rfl la_0 0 (by decide) lk_RX0_9 rfl rfl dX0_get_15 ?_
      refine lv_iload_n hx hb dX0_get_18 rfl (lv_at hl 1 rfl) ?_
      refine lv_bipush (v := 120) hx hb dX0_get_19 (by decide) ?_
      refine lv_imul hx hb dX0_get_21 ?_
      refine lv_iload_n hx hb dX0_get_22 rfl (lv_at hl 2 rfl) ?_
      refine lv_iadd hx hb dX0_get_23 ?_
      refine sl_ialdN hC hG 3 h3 (j := 120 * x.toNatClampNeg + y.toNatClampNeg) (sl_cix c_4 c_11) (sl_cil c_4 c_11) (by decide) dX0_get_24 ?_
      refine lv_goto (tgt := 30) hx hb dX0_get_25 (by decide) ?_
      exact sl_ri (v := C (120 * x.toNatClampNeg + y.toNatClampNeg)) hC hr hG () (by show _ = sl_cg C x y; rw [sl_cg, if_pos ⟨c_4, c_11⟩]) rfl (Nat.le_of_ble_eq_true rfl) (Nat.le_of_ble_eq_true rfl) dX0_get_30
set_option maxHeartbeats 4000000 in
set_option maxRecDepth 100000 in
theorem kX0_put (l : Launch) (Γ : sl_G) (g : sl_W) (a2 a3 : Nat) (C : Nat → Int32) (h2 : g 2 = some (a2, .inr (0, [.ref a3]))) (h3 : g 3 = some (a3, .inl (Γ.2.1 0, 360, .inl C))) (x y z : Int32) : Met l yX0_put [Cond.code yX0_put cX0_put 4 none] ({ frames := 2, cells := 0, slots := 0, locals := 42 } : Room) (va_Pc [.ref a2, .int x, .int y, .int z] (sl_B Γ g)) (sl_Qv Γ (fun (_ : Unit) => True) (fun _ => sl_up g 3 (a3, .inl (Γ.2.1 0, 360, .inl (sl_cp C x y z))))) 0 0 (sl_A Γ) := by
  refine sl_ent (by decide) (Nat.le_of_ble_eq_true rfl) ?_
  intro p e s m below meth c ls hC hr hin hG hl
  have hx := hC.1
  have hb := hC.2.1
  have hl : lv_has ls 4 [(0, .ref a2), (1, .int x), (2, .int y), (3, .int z)] := hl
  refine lv_iload_n hx hb dX0_put_0 rfl (lv_at hl 1 rfl) ?_
  refine sl_calli (sl_runSN (As := [.int x]) (rest := []) hC hG (kX4_isReplica l Γ g x) mi_X4_isReplica lk_RX0_21 rfl rfl ⟨Nat.le_of_ble_eq_true rfl, Nat.le_of_ble_eq_true rfl⟩ rfl hl.1 rfl (by decide) dX0_put_1 ⟨Nat.le_of_ble_eq_true rfl, Nat.le_of_ble_eq_true rfl⟩) hG (fun r_1 u_1 H locs hr_1 hG => ?_)
  subst hr_1
  refine lv_if_eq (tgt := 37) hx hb dX0_put_4 (by decide) (fun c_4 => ?_) (fun c_4 => ?_)
  · have c_4 := sl_bF c_4
    exact sl_rv hC hr hG () trivial (by show sl_up g 3 (a3, .inl (Γ.2.1 0, 360, .inl (sl_cp C x y z))) = _; rw [sl_cp, if_neg (fun w => by rw [c_4] at w; cases w.1)]; exact sl_up_same h3) (Nat.le_of_ble_eq_true rfl) (Nat.le_of_ble_eq_true rfl) dX0_put_37
  · have c_4 := sl_bT c_4
    refine lv_iload_n hx hb dX0_put_7 rfl (lv_at hl 2 rfl) ?_
    refine sl_calli (sl_runSN (As := [.int y]) (rest := []) hC hG (kX4_isPosition l Γ g y) mi_X4_isPosition lk_RX0_25 rfl rfl ⟨Nat.le_of_ble_eq_true rfl, Nat.le_of_ble_eq_true rfl⟩ rfl hl.1 rfl (by decide) dX0_put_8 ⟨Nat.le_of_ble_eq_true rfl, Nat.le_of_ble_eq_true rfl⟩) hG (fun r_8 u_8 H locs hr_8 hG => ?_)
    subst hr_8
    refine lv_if_eq (tgt := 37) hx hb dX0_put_11 (by decide) (fun c_11 => ?_) (fun c_11 => ?_)
    · have c_11 := sl_bF c_11
      exact sl_rv hC hr hG () trivial (by show sl_up g 3 (a3, .inl (Γ.2.1 0, 360, .inl (sl_cp C x y z))) = _; rw [sl_cp, if_neg (fun w => by rw [c_11] at w; cases w.2.1)]; exact sl_up_same h3) (Nat.le_of_ble_eq_true rfl) (Nat.le_of_ble_eq_true rfl) dX0_put_37
    · have c_11 := sl_bT c_11
      refine lv_aload_n hx hb dX0_put_14 rfl (lv_at hl 0 rfl) ?_
      refine lv_iload_n hx hb dX0_put_15 rfl (lv_at hl 1 rfl) ?_
      refine lv_iload_n hx hb dX0_put_16 rfl (lv_at hl 2 rfl) ?_
      refine sl_calli (sl_runV (As := [.int x, .int y]) (rest := []) hC hG (kX0_get l Γ g a2 a3 C h2 h3 x y) mi_X0_get lk_RX0_28 2 h2 rfl rfl rfl ⟨Nat.le_of_ble_eq_true rfl, Nat.le_of_ble_eq_true rfl⟩ rfl hl.1 rfl (by decide) dX0_put_17 ⟨Nat.le_of_ble_eq_true rfl, Nat.le_of_ble_eq_true rfl⟩) hG (fun r_17 u_17 H locs hr_17 hG => ?_)
      subst hr_17
      refine lv_bipush (v := (-2)) hx hb dX0_put_20 (by decide) ?_
      refine lv_icmp_ne (tgt := 37) hx hb dX0_put_22 (by decide) (fun c_22 => ?_) (fun c_22 => ?_)
      · exact sl_rv hC hr hG () trivial (by show sl_up g 3 (a3, .inl (Γ.2.1 0, 360, .inl (sl_cp C x y z))) = _; rw [sl_cp, if_neg (fun w => c_22 w.2.2)]; exact sl_up_same h3) (Nat.le_of_ble_eq_true rfl) (Nat.le_of_ble_eq_true rfl) dX0_put_37
      · refine lv_aload_n hx hb dX0_put_25 rfl (lv_at hl 0 rfl) ?_
        refine sl_get (C := RX0) (T := TX0) (N := 1) hC hG 2 h2 rfl la_0 0 (by decide) lk_RX0_9 rfl rfl dX0_put_26 ?_
        refine lv_iload_n hx hb dX0_put_29 rfl (lv_at hl 1 rfl) ?_
        refine lv_bipush (v := 120) hx hb dX0_put_30 (by decide) ?_
        refine lv_imul hx hb dX0_put_32 ?_
        refine lv_iload_n hx hb dX0_put_33 rfl (lv_at hl 2 rfl) ?_
        refine lv_iadd hx hb dX0_put_34 ?_
        refine lv_iload_n hx hb dX0_put_35 rfl (lv_at hl 3 rfl) ?_
        refine sl_iastN hC hG 3 h3 (j := 120 * x.toNatClampNeg + y.toNatClampNeg) (sl_cix c_4 c_11) (sl_cil c_4 c_11) (by decide) dX0_put_36 (fun H locs hG => ?_)
        have hG : sl_I Γ (sl_up g 3 (a3, .inl (Γ.2.1 0, 360, .inl (upd C (120 * x.toNatClampNeg + y.toNatClampNeg) z)))) s H locs := hG
        exact sl_rv hC hr hG () trivial (by show sl_up g 3 (a3, .inl (Γ.2.1 0, 360, .inl (sl_cp C x y z))) = _; rw [sl_cp, if_pos ⟨c_4, c_11, c_22⟩]) (Nat.le_of_ble_eq_true rfl) (Nat.le_of_ble_eq_true rfl) dX0_put_37
set_option maxHeartbeats 4000000 in
set_option maxRecDepth 100000 in
theorem kX0_countWritten (l : Launch) (Γ : sl_G) (g : sl_W) (a2 a3 : Nat) (C : Nat → Int32) (h2 : g 2 = some (a2, .inr (0, [.ref a3]))) (h3 : g 3 = some (a3, .inl (Γ.2.1 0, 360, .inl C))) (b : Nat) (hb9 : b < 120) : Met l yX0_countWritten [Cond.code yX0_countWritten cX0_countWritten 4 (some .int)] ({ frames := 2, cells := 0, slots := 0, locals := 42 } : Room) (va_Pc [.ref a2, .int (nI b)] (sl_B Γ g)) (sl_Qi Γ (fun r (_ : Unit) => r = nI (sl_cw C b 3)) (fun _ => g)) 0 0 (sl_A Γ) := by
  refine sl_ent (by decide) (Nat.le_of_ble_eq_true rfl) ?_
  intro p e s m below meth c ls hC hr hin hG hl
  have hx := hC.1
  have hb := hC.2.1
  have hl : lv_has ls 4 [(0, .ref a2), (1, .int (nI b))] := hl
  refine lv_iconst (v := 0) hx hb dX0_countWritten_0 (by decide) ?_
  refine lv_istore_n (lv' := [(2, .int 0), (0, .ref a2), (1, .int (nI b))]) hx hb dX0_countWritten_1 rfl hl (by decide) rfl (fun ls hl => ?_)
  refine lv_iconst (v := 0) hx hb dX0_countWritten_2 (by decide) ?_
  refine lv_istore_n (lv' := [(3, .int 0), (2, .int 0), (0, .ref a2), (1, .int (nI b))]) hx hb dX0_countWritten_3 rfl hl (by decide) rfl (fun ls hl => ?_)
  have loop_4 : ∀ (n k : Nat), k ≤ 3 → 3 + 1 ≤ k + n → ∀ (H : Heap) (locs : List Loc), sl_I Γ g s H locs → ∀ (ls : Array Slot), lv_has ls 4 [(0, .ref a2), (1, .int (nI b)), (2, .int (nI (sl_cw C b k))), (3, .int (nI k))] → W p l e ({ frames := 2, cells := 0, slots := 0, locals := 42 } : Room) s m ([.ref a2, .int (nI b)] : List Value).toArray below meth c H locs 0 0 (MQ below (sl_Qi Γ (fun r (_ : Unit) => r = nI (sl_cw C b 3)) (fun _ => g)) ([.ref a2, .int (nI b)] : List Value).toArray s 0 0 (sl_A Γ)) (F0 m 4 ls []) := by
    intro n
    induction n with
    | zero =>
      intro k  h1 h2
      exact absurd h2 (by omega)
    | succ n ih_4 =>
      intro k  hk_4 hn_4  H locs hG ls hl
      refine lv_iload_n hx hb dX0_countWritten_4 rfl (lv_at hl 3 rfl) ?_
      refine lv_iconst (v := 3) hx hb dX0_countWritten_5 (by decide) ?_
      refine lv_icmp_ge (tgt := 29) hx hb dX0_countWritten_6 (by decide) (fun c_6 => ?_) (fun c_6 => ?_)
      · have n_6 : 3 ≤ k := (nI_leI (a := 3) (b := k) (by omega) (by omega)).mp c_6
        refine lv_iload_n hx hb dX0_countWritten_29 rfl (lv_at hl 2 rfl) ?_
        exact sl_ri (v := nI (sl_cw C b k)) hC hr hG () (by show _ = _; rw [show k = 3 by omega]) rfl (Nat.le_of_ble_eq_true rfl) (Nat.le_of_ble_eq_true rfl) dX0_countWritten_30
      · have n_6 : ¬ (3 ≤ k) := fun z => c_6 ((nI_leI (a := 3) (b := k) (by omega) (by omega)).mpr z)
        refine lv_aload_n hx hb dX0_countWritten_9 rfl (lv_at hl 0 rfl) ?_
        refine lv_iload_n hx hb dX0_countWritten_10 rfl (lv_at hl 3 rfl) ?_
        refine lv_iload_n hx hb dX0_countWritten_11 rfl (lv_at hl 1 rfl) ?_
        refine sl_calli (sl_runV (As := [.int (nI k), .int (nI b)]) (rest := []) hC hG (kX0_get l Γ g a2 a3 C h2 h3 (nI k) (nI b)) mi_X0_get lk_RX0_28 2 h2 rfl rfl rfl ⟨Nat.le_of_ble_eq_true rfl, Nat.le_of_ble_eq_true rfl⟩ rfl hl.1 rfl (by decide) dX0_countWritten_12 ⟨Nat.le_of_ble_eq_true rfl, Nat.le_of_ble_eq_true rfl⟩) hG (fun r_12 u_12 H locs hr_12 hG => ?_)
        subst hr_12
        refine sl_topi (sl_cgN C (a := k) (b := b) (by omega) hb9) ?_
        refine lv_bipush (v := (-2)) hx hb dX0_countWritten_15 (by decide) ?_
        refine lv_icmp_eq (tgt := 23) hx hb dX0_countWritten_17 (by decide) (fun c_17 => ?_) (fun c_17 => ?_)
        · have hl : lv_has ls 4 [(0, .ref a2), (1, .int (nI b)), (2, .int (nI (sl_cw C b (k + 1)))), (3, .int (nI k))] := by rw [show sl_cw C b (k + 1) = sl_cw C b k from (by rw [sl_cw, if_pos c_17]; rfl)]; exact hl
          refine lv_iinc (v := nI (k + 1)) (lv' := [(3, .int (nI (k + 1))), (0, .ref a2), (1, .int (nI b)), (2, .int (nI (sl_cw C b (k + 1))))]) hx hb dX0_countWritten_23 hl (k := 3) rfl (nI_1 k) (by decide) rfl (fun ls hl => ?_)
          refine lv_goto (tgt := 4) hx hb dX0_countWritten_26 (by decide) ?_
          exact ih_4 (k + 1) (by omega) (by omega) _ _ hG _ (lv_sub hl [1, 2, 3, 0] rfl)
        · refine lv_iinc (v := nI ((sl_cw C b k) + 1)) (lv' := [(2, .int (nI ((sl_cw C b k) + 1))), (0, .ref a2), (1, .int (nI b)), (3, .int (nI k))]) hx hb dX0_countWritten_20 hl (k := 2) rfl (nI_1 (sl_cw C b k)) (by decide) rfl (fun ls hl => ?_)
          have hl : lv_has ls 4 [(2, .int (nI (sl_cw C b (k + 1)))), (0, .ref a2), (1, .int (nI b)), (3, .int (nI k))] := by rw [show sl_cw C b (k + 1) = (sl_cw C b k) + 1 from (by rw [sl_cw, if_neg c_17])]; exact hl
          refine lv_iinc (v := nI (k + 1)) (lv' := [(3, .int (nI (k + 1))), (2, .int (nI (sl_cw C b (k + 1)))), (0, .ref a2), (1, .int (nI b))]) hx hb dX0_countWritten_23 hl (k := 3) rfl (nI_1 k) (by decide) rfl (fun ls hl => ?_)
          refine lv_goto (tgt := 4) hx hb dX0_countWritten_26 (by decide) ?_
          exact ih_4 (k + 1) (by omega) (by omega) _ _ hG _ (lv_sub hl [2, 3, 1, 0] rfl)
  exact loop_4 (3 + 1) 0 (by omega) (by omega) _ _ hG _ (lv_sub hl [2, 3, 1, 0] rfl)
set_option maxHeartbeats 4000000 in
set_option maxRecDepth 100000 in
theorem kX0_isComplete (l : Launch) (Γ : sl_G) (g : sl_W) (a2 a3 : Nat) (C : Nat → Int32) (h2 : g 2 = some (a2, .inr (0, [.ref a3]))) (h3 : g 3 = some (a3, .inl (Γ.2.1 0, 360, .inl C))) (b : Nat) (hb9 : b < 120) : Met l yX0_isComplete [Cond.code yX0_isComplete cX0_isComplete 2 (some .boolean)] ({ frames := 3, cells := 0, slots := 0, locals := 65 } : Room) (va_Pc [.ref a2, .int (nI b)] (sl_B Γ g)) (sl_Qi Γ (fun r (_ : Unit) => r = sl_bi (sl_wh C b)) (fun _ => g)) 0 0 (sl_A Γ) := by
  refine sl_ent (by decide) (Nat.le_of_ble_eq_true rfl) ?_
  intro p e s m below meth c ls hC hr hin hG hl
  have hx := hC.1
  have hb := hC.2.1
  have hl : lv_has ls 2 [(0, .ref a2), (1, .int (nI b))] := hl
  have hw9 := sl_cw_le C b 3
  refine lv_aload_n hx hb dX0_isComplete_0 rfl (lv_at hl 0 rfl) ?_
  refine lv_iload_n hx hb dX0_isComplete_1 rfl (lv_at hl 1 rfl) ?_
  refine sl_calli (sl_runV (As := [.int (nI b)]) (rest := []) hC hG (kX0_countWritten l Γ g a2 a3 C h2 h3 b (by omega)) mi_X0_countWritten lk_RX0_32 2 h2 rfl rfl rfl ⟨Nat.le_of_ble_eq_true rfl, Nat.le_of_ble_eq_true rfl⟩ rfl hl.1 rfl (by decide) dX0_isComplete_2 ⟨Nat.le_of_ble_eq_true rfl, Nat.le_of_ble_eq_true rfl⟩) hG (fun r_2 u_2 H locs hr_2 hG => ?_)
  subst hr_2
  refine lv_iconst (v := 3) hx hb dX0_isComplete_5 (by decide) ?_
  refine lv_icmp_ne (tgt := 13) hx hb dX0_isComplete_6 (by decide) (fun c_6 => ?_) (fun c_6 => ?_)
  · have n_6 : ¬ (sl_cw C b 3 = 3) := fun z => c_6 ((nI_eq (a := sl_cw C b 3) (b := 3) (by omega) (by omega)).mpr z)
    refine lv_iconst (v := 0) hx hb dX0_isComplete_13 (by decide) ?_
    exact sl_rz (v := 0) hC hr rfl hG () (by show _ = sl_bi (sl_wh C b); rw [Bool.eq_false_iff.mpr (fun w => n_6 ((sl_cw3 C b).mpr w))]; rfl) rfl (Nat.le_of_ble_eq_true rfl) (Nat.le_of_ble_eq_true rfl) dX0_isComplete_14
  · have n_6 : sl_cw C b 3 = 3 := (nI_eq (a := sl_cw C b 3) (b := 3) (by omega) (by omega)).mp c_6
    refine lv_iconst (v := 1) hx hb dX0_isComplete_9 (by decide) ?_
    refine lv_goto (tgt := 14) hx hb dX0_isComplete_10 (by decide) ?_
    exact sl_rz (v := 1) hC hr rfl hG () (by show _ = sl_bi (sl_wh C b); rw [(sl_cw3 C b).mp n_6]; rfl) rfl (Nat.le_of_ble_eq_true rfl) (Nat.le_of_ble_eq_true rfl) dX0_isComplete_14
set_option maxHeartbeats 4000000 in
set_option maxRecDepth 100000 in
theorem kX0_completeFromStart (l : Launch) (Γ : sl_G) (g : sl_W) (a2 a3 : Nat) (C : Nat → Int32) (h2 : g 2 = some (a2, .inr (0, [.ref a3]))) (h3 : g 3 = some (a3, .inl (Γ.2.1 0, 360, .inl C))) : Met l yX0_completeFromStart [Cond.code yX0_completeFromStart cX0_completeFromStart 2 (some .int)] ({ frames := 4, cells := 0, slots := 0, locals := 86 } : Room) (va_Pc [.ref a2] (sl_B Γ g)) (sl_Qi Γ (fun r (_ : Unit) => r = nI (sl_kn C)) (fun _ => g)) 0 0 (sl_A Γ) := by
  refine sl_ent (by decide) (Nat.le_of_ble_eq_true rfl) ?_
  intro p e s m below meth c ls hC hr hin hG hl
  have hx := hC.1
  have hb := hC.2.1
  have hl : lv_has ls 2 [(0, .ref a2)] := hl
  refine lv_iconst (v := 0) hx hb dX0_completeFromStart_0 (by decide) ?_
  refine lv_istore_n (lv' := [(1, .int 0), (0, .ref a2)]) hx hb dX0_completeFromStart_1 rfl hl (by decide) rfl (fun ls hl => ?_)
  have loop_2 : ∀ (n k : Nat), k ≤ 120 → 120 + 1 ≤ k + n → (sl_kf C k = k) → ∀ (H : Heap) (locs : List Loc), sl_I Γ g s H locs → ∀ (ls : Array Slot), lv_has ls 2 [(0, .ref a2), (1, .int (nI k))] → W p l e ({ frames := 4, cells := 0, slots := 0, locals := 86 } : Room) s m ([.ref a2] : List Value).toArray below meth c H locs 0 0 (MQ below (sl_Qi Γ (fun r (_ : Unit) => r = nI (sl_kn C)) (fun _ => g)) ([.ref a2] : List Value).toArray s 0 0 (sl_A Γ)) (F0 m 2 ls []) := by
    intro n
    induction n with
    | zero =>
      intro k  h1 h2
      exact absurd h2 (by omega)
    | succ n ih_2 =>
      intro k  hk_2 hn_2 hi H locs hG ls hl
      refine lv_iload_n hx hb dX0_completeFromStart_2 rfl (lv_at hl 1 rfl) ?_
      refine lv_bipush (v := 120) hx hb dX0_completeFromStart_3 (by decide) ?_
      refine lv_icmp_ge (tgt := 24) hx hb dX0_completeFromStart_5 (by decide) (fun c_5 => ?_) (fun c_5 => ?_)
      · have n_5 : 120 ≤ k := (nI_leI (a := 120) (b := k) (by omega) (by omega)).mp c_5
        refine lv_bipush (v := 120) hx hb dX0_completeFromStart_24 (by decide) ?_
        exact sl_ri (v := 120) hC hr hG () (by show _ = nI (sl_kf C 120); have hk9 : k = 120 := (by omega); subst hk9; rw [hi]; rfl) rfl (Nat.le_of_ble_eq_true rfl) (Nat.le_of_ble_eq_true rfl) dX0_completeFromStart_26
      · have n_5 : ¬ (120 ≤ k) := fun z => c_5 ((nI_leI (a := 120) (b := k) (by omega) (by omega)).mpr z)
        refine lv_aload_n hx hb dX0_completeFromStart_8 rfl (lv_at hl 0 rfl) ?_
        refine lv_iload_n hx hb dX0_completeFromStart_9 rfl (lv_at hl 1 rfl) ?_
        refine sl_calli (sl_runV (As := [.int (nI k)]) (rest := []) hC hG (kX0_isComplete l Γ g a2 a3 C h2 h3 k (by omega)) mi_X0_isComplete lk_RX0_36 2 h2 rfl rfl rfl ⟨Nat.le_of_ble_eq_true rfl, Nat.le_of_ble_eq_true rfl⟩ rfl hl.1 rfl (by decide) dX0_completeFromStart_10 ⟨Nat.le_of_ble_eq_true rfl, Nat.le_of_ble_eq_true rfl⟩) hG (fun r_10 u_10 H locs hr_10 hG => ?_)
        subst hr_10
        refine lv_if_ne (tgt := 18) hx hb dX0_completeFromStart_13 (by decide) (fun c_13 => ?_) (fun c_13 => ?_)
        · have c_13 := sl_bT c_13
          refine lv_iinc (v := nI (k + 1)) (lv' := [(1, .int (nI (k + 1))), (0, .ref a2)]) hx hb dX0_completeFromStart_18 hl (k := 1) rfl (nI_1 k) (by decide) rfl (fun ls hl => ?_)
          refine lv_goto (tgt := 2) hx hb dX0_completeFromStart_21 (by decide) ?_
          exact ih_2 (k + 1) (by omega) (by omega) (by rw [sl_kf, if_pos ⟨hi, c_13⟩]) _ _ hG _ (lv_sub hl [1, 0] rfl)
        · have c_13 := sl_bF c_13
          refine lv_iload_n hx hb dX0_completeFromStart_16 rfl (lv_at hl 1 rfl) ?_
          exact sl_ri (v := nI k) hC hr hG () (by show _ = nI (sl_kf C 120); rw [sl_kf_at C hi c_13 120 (by omega)]) rfl (Nat.le_of_ble_eq_true rfl) (Nat.le_of_ble_eq_true rfl) dX0_completeFromStart_17
  exact loop_2 (120 + 1) 0 (by omega) (by omega) rfl _ _ hG _ (lv_sub hl [1, 0] rfl)
set_option maxHeartbeats 4000000 in
set_option maxRecDepth 100000 in
theorem kX0_end (l : Launch) (Γ : sl_G) (g : sl_W) (a2 a3 : Nat) (C : Nat → Int32) (h2 : g 2 = some (a2, .inr (0, [.ref a3]))) (h3 : g 3 = some (a3, .inl (Γ.2.1 0, 360, .inl C))) : Met l yX0_end [Cond.code yX0_end cX0_end 2 (some .int)] ({ frames := 3, cells := 0, slots := 0, locals := 65 } : Room) (va_Pc [.ref a2] (sl_B Γ g)) (sl_Qi Γ (fun r (_ : Unit) => r = nI (sl_ef C 120)) (fun _ => g)) 0 0 (sl_A Γ) := by
  refine sl_ent (by decide) (Nat.le_of_ble_eq_true rfl) ?_
  intro p e s m below meth c ls hC hr hin hG hl
  have hx := hC.1
  have hb := hC.2.1
  have hl : lv_has ls 2 [(0, .ref a2)] := hl
  have hw9 := fun i => sl_cw_le C i 3
  refine lv_bipush (v := 119) hx hb dX0_end_0 (by decide) ?_
  refine lv_istore_n (lv' := [(1, .int 119), (0, .ref a2)]) hx hb dX0_end_2 rfl hl (by decide) rfl (fun ls hl => ?_)
  have loop_3 : ∀ (n k : Nat) (q : Int32), k ≤ 120 → k + 1 ≤ n → (q = nI k + (-1)) → (sl_ef C 120 = sl_ef C k) → ∀ (H : Heap) (locs : List Loc), sl_I Γ g s H locs → ∀ (ls : Array Slot), lv_has ls 2 [(0, .ref a2), (1, .int q)] → W p l e ({ frames := 3, cells := 0, slots := 0, locals := 65 } : Room) s m ([.ref a2] : List Value).toArray below meth c H locs 0 0 (MQ below (sl_Qi Γ (fun r (_ : Unit) => r = nI (sl_ef C 120)) (fun _ => g)) ([.ref a2] : List Value).toArray s 0 0 (sl_A Γ)) (F0 m 3 ls []) := by
    intro n
    induction n with
    | zero =>
      intro k q h1 h2
      exact absurd h2 (by omega)
    | succ n ih_3 =>
      intro k q hk_3 hn_3 hq hi H locs hG ls hl
      refine lv_iload_n hx hb dX0_end_3 rfl (lv_at hl 1 rfl) ?_
      refine lv_if_lt (tgt := 25) hx hb dX0_end_4 (by decide) (fun c_4 => ?_) (fun c_4 => ?_)
      · refine lv_iconst (v := 0) hx hb dX0_end_25 (by decide) ?_
        exact sl_ri (v := 0) hC hr hG () (by show _ = nI (sl_ef C 120); rw [hi, sl_dnT hq hk_3 c_4]; rfl) rfl (Nat.le_of_ble_eq_true rfl) (Nat.le_of_ble_eq_true rfl) dX0_end_26
      · obtain ⟨i, rfl, rfl⟩ := sl_dnF hq c_4
        have hw8 := sl_cw_le C i 3
        refine lv_aload_n hx hb dX0_end_7 rfl (lv_at hl 0 rfl) ?_
        refine lv_iload_n hx hb dX0_end_8 rfl (lv_at hl 1 rfl) ?_
        refine sl_calli (sl_runV (As := [.int (nI i)]) (rest := []) hC hG (kX0_countWritten l Γ g a2 a3 C h2 h3 i (by omega)) mi_X0_countWritten lk_RX0_32 2 h2 rfl rfl rfl ⟨Nat.le_of_ble_eq_true rfl, Nat.le_of_ble_eq_true rfl⟩ rfl hl.1 rfl (by decide) dX0_end_9 ⟨Nat.le_of_ble_eq_true rfl, Nat.le_of_ble_eq_true rfl⟩) hG (fun r_9 u_9 H locs hr_9 hG => ?_)
        subst hr_9
        refine lv_if_le (tgt := 19) hx hb dX0_end_12 (by decide) (fun c_12 => ?_) (fun c_12 => ?_)
        · have n_12 : sl_cw C i 3 ≤ 0 := (nI_leI (a := sl_cw C i 3) (b := 0) (by omega) (by omega)).mp c_12
          refine lv_iinc (v := (nI i) + (-1)) (lv' := [(1, .int ((nI i) + (-1))), (0, .ref a2)]) hx hb dX0_end_19 hl (k := 1) rfl rfl (by decide) rfl (fun ls hl => ?_)
          refine lv_goto (tgt := 3) hx hb dX0_end_22 (by decide) ?_
          exact ih_3 i (nI i + (-1)) (by omega) (by omega) rfl (by rw [hi, sl_ef, if_pos (by omega)]) _ _ hG _ (lv_sub hl [1, 0] rfl)
        · have n_12 : ¬ (sl_cw C i 3 ≤ 0) := fun z => c_12 ((nI_leI (a := sl_cw C i 3) (b := 0) (by omega) (by omega)).mpr z)
          refine lv_iload_n hx hb dX0_end_15 rfl (lv_at hl 1 rfl) ?_
          refine lv_iconst (v := 1) hx hb dX0_end_16 (by decide) ?_
          refine lv_iadd hx hb dX0_end_17 ?_
          exact sl_ri (v := (nI i) + 1) hC hr hG () (by show nI i + 1 = nI (sl_ef C 120); rw [hi, sl_ef, if_neg (by omega)]; exact nI_1 i) rfl (Nat.le_of_ble_eq_true rfl) (Nat.le_of_ble_eq_true rfl) dX0_end_18
  exact loop_3 (120 + 1) 120 119 (by omega) (by omega) (by decide) rfl _ _ hG _ (lv_sub hl [1, 0] rfl)

