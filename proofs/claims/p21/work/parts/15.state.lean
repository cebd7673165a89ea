/-! the class's state, and what it answers -/
/-- an entry: position, epoch, streams, amount, read, version, pointers, steps -/
abbrev sl_Ent : Type := Int32 × Int32 × Int32 × Int32 × Int32 × Int32 × (Nat → Int32) × Int32
theorem sl_opt (o : Option Nat) : o = none ∨ ∃ t, o = some t := by cases o with | none => exact Or.inl rfl | some t => exact Or.inr ⟨t, rfl⟩
theorem sl_subm (x : Int32) : x - 1 = x + (-1) := by rw [Int32.sub_eq_add_neg]
def sl_ea (n : Nat) (β : Nat → Nat × Nat × Nat) : Nat → Option Nat := fun i => if i < n then some (β i).1 else none
/-- the entries' cells -/
def sl_Es (Γ : sl_G) (β : Nat → Nat × Nat × Nat) (n : Nat) (E : Nat → sl_Ent) (g : sl_W) : Prop := ∀ i, i < n → g (100 + 3 * i) = some ((β i).1, .inr (1, [.int (E i).1, .int (E i).2.1, .int (E i).2.2.1, .int (E i).2.2.2.1, .int (E i).2.2.2.2.1, .int (E i).2.2.2.2.2.1, .ref (β i).2.1, .int (E i).2.2.2.2.2.2.2])) ∧ g (101 + 3 * i) = some ((β i).2.1, .inr (3, [.ref (β i).2.2])) ∧ g (102 + 3 * i) = some ((β i).2.2, .inl (Γ.2.1 0, 16, .inl (E i).2.2.2.2.2.2.1))
/-- what the reading methods need -/
def sl_Ro (Γ : sl_G) (α : Nat → Nat) (β : Nat → Nat × Nat × Nat) (n : Nat) (C : Nat → Int32) (E : Nat → sl_Ent) (g : sl_W) : Prop :=
  (∃ z4 z5 z6 z7 : Int32, g 0 = some (α 0, .inr (4, [.ref (α 1), .ref (α 2), .ref (α 4), .ref (α 6), .int z4, .int z5, .int z6, .int z7]))) ∧
  g 1 = some (α 1, .inl (Γ.2.1 2, 150, .inr (.inr (.inr (.inr (sl_ea n β)))))) ∧
  g 2 = some (α 2, .inr (0, [.ref (α 3)])) ∧
  g 3 = some (α 3, .inl (Γ.2.1 0, 360, .inl C)) ∧ sl_Es Γ β n E g ∧ n ≤ 150
theorem sl_Es.mono {Γ : sl_G} {β : Nat → Nat × Nat × Nat} {n : Nat} {E : Nat → sl_Ent} {g g' : sl_W} (h : sl_Es Γ β n E g) (hg : ∀ k, 100 ≤ k → g' k = g k) : sl_Es Γ β n E g' := by
  intro i hi
  obtain ⟨h1, h2, h3⟩ := h i hi
  exact ⟨(hg _ (by omega)).trans h1, (hg _ (by omega)).trans h2, (hg _ (by omega)).trans h3⟩
theorem sl_Ro_up {Γ : sl_G} {α : Nat → Nat} {β : Nat → Nat × Nat × Nat} {n : Nat} {C : Nat → Int32} {E : Nat → sl_Ent} {g : sl_W} {k : Nat} {q : Nat × va_E} (hk : 3 < k ∧ k < 100) (h : sl_Ro Γ α β n C E g) : sl_Ro Γ α β n C E (sl_up g k q) := by
  obtain ⟨⟨z4, z5, z6, z7, h0⟩, h1, h2, h3, hE, hn⟩ := h
  exact ⟨⟨z4, z5, z6, z7, sl_up_to (by omega) h0⟩, sl_up_to (by omega) h1, sl_up_to (by omega) h2, sl_up_to (by omega) h3, hE.mono (fun j hj => sl_up_n _ _ (by omega)), hn⟩
theorem sl_Ro_up0 {Γ : sl_G} {α : Nat → Nat} {β : Nat → Nat × Nat × Nat} {n : Nat} {C : Nat → Int32} {E : Nat → sl_Ent} {g : sl_W} {z4 z5 z6 z7 : Int32} (h : sl_Ro Γ α β n C E g) : sl_Ro Γ α β n C E (sl_up g 0 (α 0, .inr (4, [.ref (α 1), .ref (α 2), .ref (α 4), .ref (α 6), .int z4, .int z5, .int z6, .int z7]))) := by
  obtain ⟨-, h1, h2, h3, hE, hn⟩ := h
  exact ⟨⟨z4, z5, z6, z7, sl_up_s _ _ _⟩, sl_up_to (by omega) h1, sl_up_to (by omega) h2, sl_up_to (by omega) h3, hE.mono (fun j hj => sl_up_n _ _ (by omega)), hn⟩
theorem sl_Ro_w {Γ : sl_G} {α : Nat → Nat} {β : Nat → Nat × Nat × Nat} {n : Nat} {C : Nat → Int32} {E : Nat → sl_Ent} {g g' : sl_W} (h : sl_Ro Γ α β n C E g) (hg : ∀ k, k ≠ 6 → k ≠ 7 → k ≠ 8 → g' k = g k) : sl_Ro Γ α β n C E g' := by
  obtain ⟨⟨z4, z5, z6, z7, h0⟩, h1, h2, h3, hE, hn⟩ := h
  exact ⟨⟨z4, z5, z6, z7, (hg 0 (by omega) (by omega) (by omega)).trans h0⟩, (hg 1 (by omega) (by omega) (by omega)).trans h1, (hg 2 (by omega) (by omega) (by omega)).trans h2, (hg 3 (by omega) (by omega) (by omega)).trans h3, hE.mono (fun j hj => hg j (by omega) (by omega) (by omega)), hn⟩
/-- the token that a number names -/
def sl_tok (n : Nat) (x : Int32) : Option Nat := if 0 ≤ x.toInt ∧ x.toInt < n then some x.toNatClampNeg else none
theorem sl_tok_lt {n t : Nat} {x : Int32} (h : sl_tok n x = some t) : t < n := by
  rw [sl_tok] at h
  split at h
  · rename_i z
    cases h
    rw [Int32.toNatClampNeg]
    omega
  · cases h
theorem sl_tok_eq {n t : Nat} {x : Int32} (hn : n ≤ 150) (h : sl_tok n x = some t) : x = nI t := by
  have ht := sl_tok_lt h
  rw [sl_tok] at h
  split at h
  · rename_i z
    obtain ⟨j, hj, rfl⟩ := sl_nat (v := x) (n := 150) z.1 (by omega) (by omega)
    cases h
    rw [nI_clamp (by omega)]
  · cases h
theorem sl_tokN {n t : Nat} (h : t < n) (hn : n ≤ 150) : sl_tok n (nI t) = some t := by
  rw [sl_tok, nI_toInt (by omega), if_pos ⟨by omega, by omega⟩, nI_clamp (by omega)]
theorem sl_tok_neg {n : Nat} {x : Int32} (h : x.toInt < 0) : sl_tok n x = none := by
  rw [sl_tok, if_neg (by omega)]
theorem sl_tok_m1 (n : Nat) : sl_tok n (-1) = none := sl_tok_neg (by decide)
theorem sl_tok_m2 (n : Nat) : sl_tok n (-2) = none := sl_tok_neg (by decide)
theorem sl_tok_lo {n : Nat} {x : Int32} (h : x < 0) : none = (sl_tok n x) := by
  rw [sl_tok_neg (by rw [sl_ltI, sl_i0] at h; exact h)]
theorem sl_tok_hi {n : Nat} {x : Int32} (hn : n ≤ 150) (h : 150 ≤ x) : none = (sl_tok n x) := by
  have h2 : (150 : Int32).toInt = 150 := by decide
  rw [sl_leI, h2] at h
  rw [sl_tok, if_neg (by omega)]
theorem sl_vp150 {x : Int32} (h1 : ¬ x < 0) (h2 : ¬ 150 ≤ x) : vp_in x 150 := by
  have h3 : (150 : Int32).toInt = 150 := by decide
  rw [sl_ltI, sl_i0] at h1
  rw [sl_leI, h3] at h2
  exact vp_in_iff.mpr ⟨by omega, by omega⟩
theorem sl_tok_at {n : Nat} {x : Int32} {β : Nat → Nat × Nat × Nat} (hn : n ≤ 150) (h1 : ¬ x < 0) (h2 : ¬ 150 ≤ x) : sl_ea n β x.toNatClampNeg = (sl_tok n x).map (fun i => (β i).1) := by
  obtain ⟨j, hj, rfl⟩ := vp_in_of (sl_vp150 h1 h2) (by omega)
  rw [nI_clamp (by omega), sl_ea, sl_tok, nI_toInt (by omega)]
  by_cases h : j < n
  · rw [if_pos h, if_pos ⟨by omega, by omega⟩, nI_clamp (by omega)]; rfl
  · rw [if_neg h, if_neg (by omega)]; rfl
theorem sl_cg0 (C : Nat → Int32) {b : Nat} (hb : b < 120) : sl_cg C 0 (nI b) = C b := by
  have h := sl_cgN C (a := 0) (b := b) (by omega) hb
  rw [show 120 * 0 + b = b by omega] at h
  exact h
theorem sl_cg_m1 (C : Nat → Int32) : sl_cg C 0 (-1) = -2 := by
  rw [sl_cg, if_neg]
  intro z
  exact absurd z.2 (by decide)
/-- the entry at a position has the stream -/
def sl_hs (n : Nat) (C : Nat → Int32) (E : Nat → sl_Ent) (x : Int32) (q : Nat) : Bool := match sl_tok n (C q) with
  | none => false
  | some t => sl_has (E t).2.2.1 x
theorem sl_hs_0 {n : Nat} {C : Nat → Int32} {E : Nat → sl_Ent} {x : Int32} {q : Nat} (h : sl_tok n (C q) = none) : sl_hs n C E x q = false := by rw [sl_hs, h]
theorem sl_hs_1 {n t : Nat} {C : Nat → Int32} {E : Nat → sl_Ent} {x : Int32} {q : Nat} (h : sl_tok n (C q) = some t) : sl_hs n C E x q = sl_has (E t).2.2.1 x := by rw [sl_hs, h]
/-- the latest entry of a stream ahead of a position -/
def sl_la (n : Nat) (C : Nat → Int32) (E : Nat → sl_Ent) (x : Int32) : Nat → Int32
  | 0 => -1
  | q + 1 => if sl_hs n C E x q = true then nI q else sl_la n C E x q
theorem sl_la_in (n : Nat) (C : Nat → Int32) (E : Nat → sl_Ent) (x : Int32) : ∀ b, sl_la n C E x b = -1 ∨ ∃ q, q < b ∧ sl_la n C E x b = nI q ∧ sl_hs n C E x q = true
  | 0 => Or.inl rfl
  | b + 1 => by
    rw [sl_la]
    by_cases h : sl_hs n C E x b = true
    · rw [if_pos h]; exact Or.inr ⟨b, by omega, rfl, h⟩
    · rw [if_neg h]
      rcases sl_la_in n C E x b with e | ⟨q, h1, h2, h3⟩
      · exact Or.inl e
      · exact Or.inr ⟨q, by omega, h2, h3⟩
/-- a pointer: none, or a position -/
def sl_pt (x : Int32) : Prop := x = -1 ∨ ∃ q : Nat, q < 120 ∧ x = nI q
def sl_ta (n : Nat) (C : Nat → Int32) (x : Int32) : Option Nat := sl_tok n (sl_cg C 0 x)
/-- the entry ahead by the pointers of a token's entry -/
def sl_pb (n : Nat) (C : Nat → Int32) (E : Nat → sl_Ent) (k t : Nat) : Int32 :=
  if (E t).2.2.2.2.2.2.1 (4 * k + 0) = -1 then -1 else if (sl_ta n C ((E t).2.2.2.2.2.2.1 (4 * k + 0))).isSome = true then (E t).2.2.2.2.2.2.1 (4 * k + 0) else
  if (E t).2.2.2.2.2.2.1 (4 * k + 1) = -1 then -1 else if (sl_ta n C ((E t).2.2.2.2.2.2.1 (4 * k + 1))).isSome = true then (E t).2.2.2.2.2.2.1 (4 * k + 1) else
  if (E t).2.2.2.2.2.2.1 (4 * k + 2) = -1 then -1 else if (sl_ta n C ((E t).2.2.2.2.2.2.1 (4 * k + 2))).isSome = true then (E t).2.2.2.2.2.2.1 (4 * k + 2) else
  if (E t).2.2.2.2.2.2.1 (4 * k + 3) = -1 then -1 else if (sl_ta n C ((E t).2.2.2.2.2.2.1 (4 * k + 3))).isSome = true then (E t).2.2.2.2.2.2.1 (4 * k + 3) else
  sl_la n C E (nI k) ((E t).2.2.2.2.2.2.1 (4 * k + 3)).toNatClampNeg
def sl_pq (n : Nat) (C : Nat → Int32) (E : Nat → sl_Ent) (k q : Nat) : Int32 := match sl_tok n (C q) with
  | none => -1
  | some t => sl_pb n C E k t
/-- the fold: for each stream the latest position that took effect, of the first so many -/
def sl_fX (n : Nat) (C : Nat → Int32) (E : Nat → sl_Ent) : Nat → Nat → Int32
  | 0 => fun _ => -1
  | q + 1 => match sl_tok n (C q) with
    | none => sl_fX n C E q
    | some t => if sl_un (sl_fX n C E q) (E t).2.2.2.2.1 (E t).2.2.2.2.2.1 4 = true then sl_nc (sl_fX n C E q) (E t).2.2.1 (nI q) 4 else sl_fX n C E q
/-- the entry at a position takes effect -/
def sl_ev (n : Nat) (C : Nat → Int32) (E : Nat → sl_Ent) (q : Nat) : Bool := match sl_tok n (C q) with
  | none => false
  | some t => sl_un (sl_fX n C E q) (E t).2.2.2.2.1 (E t).2.2.2.2.2.1 4
theorem sl_fX_0 {n : Nat} {C : Nat → Int32} {E : Nat → sl_Ent} {q : Nat} (h : sl_tok n (C q) = none) : sl_fX n C E (q + 1) = sl_fX n C E q := by rw [sl_fX, h]
theorem sl_fX_1 {n t : Nat} {C : Nat → Int32} {E : Nat → sl_Ent} {q : Nat} (h : sl_tok n (C q) = some t) : sl_fX n C E (q + 1) = if sl_un (sl_fX n C E q) (E t).2.2.2.2.1 (E t).2.2.2.2.2.1 4 = true then sl_nc (sl_fX n C E q) (E t).2.2.1 (nI q) 4 else sl_fX n C E q := by rw [sl_fX, h]
theorem sl_ev_0 {n : Nat} {C : Nat → Int32} {E : Nat → sl_Ent} {q : Nat} (h : sl_tok n (C q) = none) : sl_ev n C E q = false := by rw [sl_ev, h]
theorem sl_ev_1 {n t : Nat} {C : Nat → Int32} {E : Nat → sl_Ent} {q : Nat} (h : sl_tok n (C q) = some t) : sl_ev n C E q = sl_un (sl_fX n C E q) (E t).2.2.2.2.1 (E t).2.2.2.2.2.1 4 := by rw [sl_ev, h]
/-- what the entry at a position adds -/
def sl_am (n : Nat) (C : Nat → Int32) (E : Nat → sl_Ent) (q : Nat) : Int32 := match sl_tok n (C q) with
  | none => 0
  | some t => if sl_ev n C E q = true then (E t).2.2.2.1 else 0
theorem sl_am_0 {n : Nat} {C : Nat → Int32} {E : Nat → sl_Ent} {q : Nat} (h : sl_tok n (C q) = none) : sl_am n C E q = 0 := by rw [sl_am, h]
theorem sl_am_1 {n t : Nat} {C : Nat → Int32} {E : Nat → sl_Ent} {q : Nat} (h : sl_tok n (C q) = some t) : sl_am n C E q = if sl_ev n C E q = true then (E t).2.2.2.1 else 0 := by rw [sl_am, h]
set_option maxHeartbeats 4000000 in
set_option maxRecDepth 100000 in
theorem kX4_entryOf (l : Launch) (Γ : sl_G) (g : sl_W) (α : Nat → Nat) (β : Nat → Nat × Nat × Nat) (n : Nat) (C : Nat → Int32) (E : Nat → sl_Ent) (hS : sl_Ro Γ α β n C E g) (x : Int32) : Met l yX4_entryOf [Cond.code yX4_entryOf cX4_entryOf 2 (some (.object "SharedLog$Entry"))] ({ frames := 0, cells := 0, slots := 0, locals := 0 } : Room) (va_Pc [.ref (α 0), .int x] (sl_B Γ g)) (sl_Qq Γ (fun r (_ : Unit) => r = (sl_tok n x).map (fun i => (β i).1)) (fun _ => g)) 0 0 (sl_A Γ) := by
  refine sl_ent (by decide) (Nat.le_of_ble_eq_true rfl) ?_
  intro p e s m below meth c ls hC hr hin hG hl
  have hx := hC.1
  have hb := hC.2.1
  have hl : lv_has ls 2 [(0, .ref (α 0)), (1, .int x)] := hl
  obtain ⟨⟨z4, z5, z6, z7, h0⟩, h1, h2, h3, hE, hn9⟩ := id hS
  refine lv_iload_n hx hb dX4_entryOf_0 rfl (lv_at hl 1 rfl) ?_
  refine lv_if_lt (tgt := 22) hx hb dX4_entryOf_1 (by decide) (fun c_1 => ?_) (fun c_1 => ?_)
  · refine lv_null hx hb dX4_entryOf_22 ?_
    exact sl_rq (v := none) hC hr hG () (by show none = (sl_tok n x).map _; rw [← sl_tok_lo c_1]; rfl) rfl (Nat.le_of_ble_eq_true rfl) (Nat.le_of_ble_eq_true rfl) dX4_entryOf_23
  · refine lv_iload_n hx hb dX4_entryOf_4 rfl (lv_at hl 1 rfl) ?_
    refine lv_aload_n hx hb dX4_entryOf_5 rfl (lv_at hl 0 rfl) ?_
    refine sl_get (C := RX4) (T := TX4) (N := 8) hC hG 0 h0 rfl la_4 0 (by decide) lk_RX4_11 rfl rfl dX4_entryOf_6 ?_
    refine sl_alen (v := 150) hC hG 1 2 h1 rfl rfl dX4_entryOf_9 ?_
    refine lv_icmp_ge (tgt := 22) hx hb dX4_entryOf_10 (by decide) (fun c_10 => ?_) (fun c_10 => ?_)
    · refine lv_null hx hb dX4_entryOf_22 ?_
      exact sl_rq (v := none) hC hr hG () (by show none = (sl_tok n x).map _; rw [← sl_tok_hi hn9 c_10]; rfl) rfl (Nat.le_of_ble_eq_true rfl) (Nat.le_of_ble_eq_true rfl) dX4_entryOf_23
    · refine lv_aload_n hx hb dX4_entryOf_13 rfl (lv_at hl 0 rfl) ?_
      refine sl_get (C := RX4) (T := TX4) (N := 8) hC hG 0 h0 rfl la_4 0 (by decide) lk_RX4_11 rfl rfl dX4_entryOf_14 ?_
      refine lv_iload_n hx hb dX4_entryOf_17 rfl (lv_at hl 1 rfl) ?_
      refine sl_aldq hC hG 1 h1 (sl_vp150 c_1 c_10) dX4_entryOf_18 ?_
      refine lv_goto (tgt := 23) hx hb dX4_entryOf_19 (by decide) ?_
      exact sl_rq (v := (sl_ea n β) x.toNatClampNeg) hC hr hG () (sl_tok_at hn9 c_1 c_10) rfl (Nat.le_of_ble_eq_true rfl) (Nat.le_of_ble_eq_true rfl) dX4_entryOf_23
set_option maxHeartbeats 4000000 in
set_option maxRecDepth 100000 in
theorem kX4_entryIn (l : Launch) (Γ : sl_G) (g : sl_W) (α : Nat → Nat) (β : Nat → Nat × Nat × Nat) (n : Nat) (C : Nat → Int32) (E : Nat → sl_Ent) (hS : sl_Ro Γ α β n C E g) (x : Int32) : Met l yX4_entryIn [Cond.code yX4_entryIn cX4_entryIn 2 (some (.object "SharedLog$Entry"))] ({ frames := 2, cells := 0, slots := 0, locals := 42 } : Room) (va_Pc [.ref (α 0), .int x] (sl_B Γ g)) (sl_Qq Γ (fun r (_ : Unit) => r = (sl_ta n C x).map (fun i => (β i).1)) (fun _ => g)) 0 0 (sl_A Γ) := by
  refine sl_ent (by decide) (Nat.le_of_ble_eq_true rfl) ?_
  intro p e s m below meth c ls hC hr hin hG hl
  have hx := hC.1
  have hb := hC.2.1
  have hl : lv_has ls 2 [(0, .ref (α 0)), (1, .int x)] := hl
  obtain ⟨⟨z4, z5, z6, z7, h0⟩, h1, h2, h3, hE, hn9⟩ := id hS
  refine lv_aload_n hx hb dX4_entryIn_0 rfl (lv_at hl 0 rfl) ?_
  refine lv_aload_n hx hb dX4_entryIn_1 rfl (lv_at hl 0 rfl) ?_
  refine sl_get (C := RX4) (T := TX4) (N := 8) hC hG 0 h0 rfl la_4 1 (by decide) lk_RX4_18 rfl rfl dX4_entryIn_2 ?_
  refine lv_iconst (v := 0) hx hb dX4_entryIn_5 (by decide) ?_
  refine lv_iload_n hx hb dX4_entryIn_6 rfl (lv_at hl 1 rfl) ?_
  refine sl_calli (sl_runVN (As := [.int 0, .int x]) (rest := [.ref (α 0)]) hC hG (kX0_get l Γ g (α 2) (α 3) C h2 h3 0 x) mi_X0_get lk_RX4_112 2 h2 rfl rfl rfl ⟨Nat.le_of_ble_eq_true rfl, Nat.le_of_ble_eq_true rfl⟩ rfl hl.1 rfl (Nat.le_of_ble_eq_true rfl) dX4_entryIn_7 ⟨Nat.le_of_ble_eq_true rfl, Nat.le_of_ble_eq_true rfl⟩) hG (fun r_7 u_7 H locs hr_7 hG => ?_)
  subst hr_7
  refine sl_callq (sl_runV (As := [.int (sl_cg C 0 x)]) (rest := []) hC hG (kX4_entryOf l Γ g α β n C E hS (sl_cg C 0 x)) mi_X4_entryOf lk_RX4_95 0 h0 rfl rfl rfl ⟨Nat.le_of_ble_eq_true rfl, Nat.le_of_ble_eq_true rfl⟩ rfl hl.1 rfl (Nat.le_of_ble_eq_true rfl) dX4_entryIn_10 ⟨Nat.le_of_ble_eq_true rfl, Nat.le_of_ble_eq_true rfl⟩) hG (fun r_10 u_10 H locs hr_10 hG => ?_)
  subst hr_10
  exact sl_rq (v := Option.map (fun i => (β i).1) (sl_tok n (sl_cg C 0 x))) hC hr hG () rfl rfl (Nat.le_of_ble_eq_true rfl) (Nat.le_of_ble_eq_true rfl) dX4_entryIn_13
set_option maxHeartbeats 4000000 in
set_option maxRecDepth 100000 in
theorem kX4_holdsStream (l : Launch) (Γ : sl_G) (g : sl_W) (α : Nat → Nat) (β : Nat → Nat × Nat × Nat) (n : Nat) (C : Nat → Int32) (E : Nat → sl_Ent) (hS : sl_Ro Γ α β n C E g) (b : Nat) (hb9 : b < 120) (x : Int32) : Met l yX4_holdsStream [Cond.code yX4_holdsStream cX4_holdsStream 4 (some .boolean)] ({ frames := 3, cells := 0, slots := 0, locals := 63 } : Room) (va_Pc [.ref (α 0), .int (nI b), .int x] (sl_B Γ g)) (sl_Qi Γ (fun r (_ : Unit) => r = sl_bi (sl_hs n C E x b)) (fun _ => g)) 0 0 (sl_A Γ) := by
  refine sl_ent (by decide) (Nat.le_of_ble_eq_true rfl) ?_
  intro p e s m below meth c ls hC hr hin hG hl
  have hx := hC.1
  have hb := hC.2.1
  have hl : lv_has ls 4 [(0, .ref (α 0)), (1, .int (nI b)), (2, .int x)] := hl
  obtain ⟨⟨z4, z5, z6, z7, h0⟩, h1, h2, h3, hE, hn9⟩ := id hS
  refine lv_aload_n hx hb dX4_holdsStream_0 rfl (lv_at hl 0 rfl) ?_
  refine lv_iload_n hx hb dX4_holdsStream_1 rfl (lv_at hl 1 rfl) ?_
  refine sl_callq (sl_runV (As := [.int (nI b)]) (rest := []) hC hG (kX4_entryIn l Γ g α β n C E hS (nI b)) mi_X4_entryIn lk_RX4_84 0 h0 rfl rfl rfl ⟨Nat.le_of_ble_eq_true rfl, Nat.le_of_ble_eq_true rfl⟩ rfl hl.1 rfl (Nat.le_of_ble_eq_true rfl) dX4_holdsStream_2 ⟨Nat.le_of_ble_eq_true rfl, Nat.le_of_ble_eq_true rfl⟩) hG (fun r_2 u_2 H locs hr_2 hG => ?_)
  subst hr_2
  rw [show sl_ta n C (nI b) = sl_tok n (C b) from congrArg (sl_tok n) (sl_cg0 C (by omega))]
  rcases sl_opt (sl_tok n (C b)) with hq_2 | ⟨t_2, hq_2⟩
  · refine sl_top (w := .null) (by rw [hq_2]; rfl) ?_
    refine lv_astore_nN (lv' := [(3, .null), (0, .ref (α 0)), (1, .int (nI b)), (2, .int x)]) hx hb dX4_holdsStream_5 rfl hl (by decide) rfl (fun ls hl => ?_)
    refine lv_aload_nN hx hb dX4_holdsStream_6 rfl (lv_at hl 0 rfl) ?_
    refine lv_ifnullN (tgt := 25) hx hb dX4_holdsStream_7 (by decide) ?_
    refine lv_iconst (v := 0) hx hb dX4_holdsStream_25 (by decide) ?_
    exact sl_rz (v := 0) hC hr rfl hG () (by show _ = sl_bi (sl_hs n C E x b); rw [sl_hs_0 hq_2]; rfl) rfl (Nat.le_of_ble_eq_true rfl) (Nat.le_of_ble_eq_true rfl) dX4_holdsStream_26
  · refine sl_top (w := .ref ((β t_2).1)) (by rw [hq_2]; rfl) ?_
    have ht_t_2 := sl_tok_lt hq_2
    refine lv_astore_n (lv' := [(3, .ref ((β t_2).1)), (0, .ref (α 0)), (1, .int (nI b)), (2, .int x)]) hx hb dX4_holdsStream_5 rfl hl (by decide) rfl (fun ls hl => ?_)
    refine lv_aload_n hx hb dX4_holdsStream_6 rfl (lv_at hl 0 rfl) ?_
    refine lv_ifnull hx hb dX4_holdsStream_7 ?_
    refine lv_iload_n hx hb dX4_holdsStream_10 rfl (lv_at hl 3 rfl) ?_
    refine lv_aload_n hx hb dX4_holdsStream_11 rfl (lv_at hl 0 rfl) ?_
    refine sl_getN (C := RX1) (T := TX1) (N := 8) hC hG (100 + 3 * t_2) (hE t_2 ht_t_2).1 rfl la_1 2 (by decide) lk_RX4_88 rfl rfl dX4_holdsStream_12 ?_
    refine sl_calli (sl_runS (As := [.int x, .int ((E t_2).2.2.1)]) (rest := []) hC hG (kX4_isIn l Γ g x ((E t_2).2.2.1)) mi_X4_isIn lk_RX4_187 rfl rfl ⟨Nat.le_of_ble_eq_true rfl, Nat.le_of_ble_eq_true rfl⟩ rfl hl.1 rfl (Nat.le_of_ble_eq_true rfl) dX4_holdsStream_15 ⟨Nat.le_of_ble_eq_true rfl, Nat.le_of_ble_eq_true rfl⟩) hG (fun r_15 u_15 H locs hr_15 hG => ?_)
    subst hr_15
    refine lv_if_eq (tgt := 25) hx hb dX4_holdsStream_18 (by decide) (fun c_18 => ?_) (fun c_18 => ?_)
    · have c_18 := sl_bF c_18
      refine lv_iconst (v := 0) hx hb dX4_holdsStream_25 (by decide) ?_
      exact sl_rz (v := 0) hC hr rfl hG () (by show _ = sl_bi (sl_hs n C E x b); rw [sl_hs_1 hq_2, c_18]; rfl) rfl (Nat.le_of_ble_eq_true rfl) (Nat.le_of_ble_eq_true rfl) dX4_holdsStream_26
    · have c_18 := sl_bT c_18
      refine lv_iconst (v := 1) hx hb dX4_holdsStream_21 (by decide) ?_
      refine lv_goto (tgt := 26) hx hb dX4_holdsStream_22 (by decide) ?_
      exact sl_rz (v := 1) hC hr rfl hG () (by show _ = sl_bi (sl_hs n C E x b); rw [sl_hs_1 hq_2, c_18]; rfl) rfl (Nat.le_of_ble_eq_true rfl) (Nat.le_of_ble_eq_true rfl) dX4_holdsStream_26
set_option maxHeartbeats 4000000 in
set_option maxRecDepth 100000 in
theorem kX4_latestAhead (l : Launch) (Γ : sl_G) (g : sl_W) (α : Nat → Nat) (β : Nat → Nat × Nat × Nat) (n : Nat) (C : Nat → Int32) (E : Nat → sl_Ent) (hS : sl_Ro Γ α β n C E g) (b : Nat) (hb9 : b ≤ 120) (x : Int32) : Met l yX4_latestAhead [Cond.code yX4_latestAhead cX4_latestAhead 4 (some .int)] ({ frames := 4, cells := 0, slots := 0, locals := 86 } : Room) (va_Pc [.ref (α 0), .int x, .int (nI b)] (sl_B Γ g)) (sl_Qi Γ (fun r (_ : Unit) => r = sl_la n C E x b) (fun _ => g)) 0 0 (sl_A Γ) := by
  refine sl_ent (by decide) (Nat.le_of_ble_eq_true rfl) ?_
  intro p e s m below meth c ls hC hr hin hG hl
  have hx := hC.1
  have hb := hC.2.1
  have hl : lv_has ls 4 [(0, .ref (α 0)), (1, .int x), (2, .int (nI b))] := hl
  obtain ⟨⟨z4, z5, z6, z7, h0⟩, h1, h2, h3, hE, hn9⟩ := id hS
  refine lv_iload_n hx hb dX4_latestAhead_0 rfl (lv_at hl 2 rfl) ?_
  refine lv_iconst (v := 1) hx hb dX4_latestAhead_1 (by decide) ?_
  refine lv_isub hx hb dX4_latestAhead_2 ?_
  refine lv_istore_n (lv' := [(3, .int ((nI b) - 1)), (0, .ref (α 0)), (1, .int x), (2, .int (nI b))]) hx hb dX4_latestAhead_3 rfl hl (by decide) rfl (fun ls hl => ?_)
  have loop_4 : ∀ (fuel k : Nat) (q : Int32), k ≤ b → k + 1 ≤ fuel → (q = nI k + (-1)) → (sl_la n C E x b = sl_la n C E x k) → ∀ (H : Heap) (locs : List Loc), sl_I Γ g s H locs → ∀ (ls : Array Slot), lv_has ls 4 [(0, .ref (α 0)), (1, .int x), (2, .int (nI b)), (3, .int q)] → W p l e ({ frames := 4, cells := 0, slots := 0, locals := 86 } : Room) s m ([.ref (α 0), .int x, .int (nI b)] : List Value).toArray below meth c H locs 0 0 (MQ below (sl_Qi Γ (fun r (_ : Unit) => r = sl_la n C E x b) (fun _ => g)) ([.ref (α 0), .int x, .int (nI b)] : List Value).toArray s 0 0 (sl_A Γ)) (F0 m 4 ls []) := by
    intro fuel
    induction fuel with
    | zero =>
      intro k q h1 h2
      exact absurd h2 (by omega)
    | succ fuel ih_4 =>
      intro k q hk_4 hn_4 hq hi H locs hG ls hl
      refine lv_iload_n hx hb dX4_latestAhead_4 rfl (lv_at hl 3 rfl) ?_
      refine lv_if_lt (tgt := 25) hx hb dX4_latestAhead_5 (by decide) (fun c_5 => ?_) (fun c_5 => ?_)
      · refine lv_iconst (v := (-1)) hx hb dX4_latestAhead_25 (by decide) ?_
        exact sl_ri (v := (-1)) hC hr hG () (by show _ = sl_la n C E x b; rw [hi, sl_dnT hq (by omega) c_5]; rfl) rfl (Nat.le_of_ble_eq_true rfl) (Nat.le_of_ble_eq_true rfl) dX4_latestAhead_26
      · obtain ⟨i, rfl, rfl⟩ := sl_dnF hq c_5
        refine lv_aload_n hx hb dX4_latestAhead_8 rfl (lv_at hl 0 rfl) ?_
        refine lv_iload_n hx hb dX4_latestAhead_9 rfl (lv_at hl 3 rfl) ?_
        refine lv_iload_n hx hb dX4_latestAhead_10 rfl (lv_at hl 1 rfl) ?_
        refine sl_calli (sl_runV (As := [.int (nI i), .int x]) (rest := []) hC hG (kX4_holdsStream l Γ g α β n C E hS i (by omega) x) mi_X4_holdsStream lk_RX4_164 0 h0 rfl rfl rfl ⟨Nat.le_of_ble_eq_true rfl, Nat.le_of_ble_eq_true rfl⟩ rfl hl.1 rfl (Nat.le_of_ble_eq_true rfl) dX4_latestAhead_11 ⟨Nat.le_of_ble_eq_true rfl, Nat.le_of_ble_eq_true rfl⟩) hG (fun r_11 u_11 H locs hr_11 hG => ?_)
        subst hr_11
        refine lv_if_eq (tgt := 19) hx hb dX4_latestAhead_14 (by decide) (fun c_14 => ?_) (fun c_14 => ?_)
        · have c_14 := sl_bF c_14
          refine lv_iinc (v := (nI i) + (-1)) (lv' := [(3, .int ((nI i) + (-1))), (0, .ref (α 0)), (1, .int x), (2, .int (nI b))]) hx hb dX4_latestAhead_19 hl (k := 3) rfl rfl (by decide) rfl (fun ls hl => ?_)
          refine lv_goto (tgt := 4) hx hb dX4_latestAhead_22 (by decide) ?_
          exact ih_4 i (nI i + (-1)) (by omega) (by omega) rfl (by rw [hi, sl_la, if_neg (by rw [c_14]; decide)]) _ _ hG _ (lv_sub hl [1, 2, 3, 0] rfl)
        · have c_14 := sl_bT c_14
          refine lv_iload_n hx hb dX4_latestAhead_17 rfl (lv_at hl 3 rfl) ?_
          exact sl_ri (v := nI i) hC hr hG () (by show _ = sl_la n C E x b; rw [hi, sl_la, if_pos c_14]) rfl (Nat.le_of_ble_eq_true rfl) (Nat.le_of_ble_eq_true rfl) dX4_latestAhead_18
  exact loop_4 (b + 1) b (nI b - 1) (by omega) (by omega) (sl_subm _) rfl _ _ hG _ (lv_sub hl [1, 2, 3, 0] rfl)

