/-! trails, Arrays.fill, constructors, the fold -/
theorem sl_arrV_ext (cA : ClassId) (n : Nat) {f f' : Nat → Value} (h : ∀ j, j < n → f j = f' j) : arrV cA n f = arrV cA n f' := by
  unfold arrV
  congr 2
  funext j
  exact h j.val j.isLt
theorem sl_fnH {Γ : sl_G} {g : sl_W} {k a n : Nat} {cA : ClassId} {f f' : Nat → Int32} {H : Heap} (hG : sl_H Γ (sl_up g k (a, .inl (cA, n, .inl f))) H) (h : ∀ j, j < n → f j = f' j) : sl_H Γ (sl_up g k (a, .inl (cA, n, .inl f'))) H := by
  have e : sl_up g k (a, .inl (cA, n, .inl f')) = sl_up (sl_up g k (a, .inl (cA, n, .inl f))) k (a, .inl (cA, n, .inl f')) := (sl_up_up _ _ _ _).symm
  rw [e]
  refine sl_up_H hG (sl_up_s _ _ _) ?_ (fun _ _ => rfl)
  have h1 := hG.1 k _ (sl_up_s _ _ _)
  show H[a]? = some (vp_cell cA (n, .inl f'))
  rw [vp_cell_i, ← sl_arrV_ext cA n (f := fun j => .int (f j)) (fun j hj => by rw [h j hj])]
  exact h1
theorem sl_fnI {Γ : sl_G} {g : sl_W} {s : State} {k a n : Nat} {cA : ClassId} {f : Nat → Int32} (f' : Nat → Int32) {H : Heap} {locs : List Loc} (hG : sl_I Γ (sl_up g k (a, .inl (cA, n, .inl f))) s H locs) (h : ∀ j, j < n → f j = f' j) : sl_I Γ (sl_up g k (a, .inl (cA, n, .inl f'))) s H locs := ⟨sl_fnH hG.1 h, hG.2⟩
theorem sl_up_mid (g : sl_W) (a b : Nat) (x y z : Nat × va_E) : sl_up (sl_up (sl_up g a x) b y) a z = sl_up (sl_up g b y) a z := by
  funext j
  by_cases h1 : j = a
  · rw [h1, sl_up_s, sl_up_s]
  · rw [sl_up_n _ _ h1, sl_up_n _ _ h1]
    by_cases h2 : j = b
    · rw [h2, sl_up_s, sl_up_s]
    · rw [sl_up_n _ _ h2, sl_up_n _ _ h2, sl_up_n _ _ h1]
theorem sl_fl {F : Nat → Int32} {k : Nat} {z : Int32} (h : ∀ j, j < k → F j = z) : ∀ j, j < k + 1 → upd F k z j = z := by
  intro j hj
  by_cases e : j = k
  · rw [e, pk_us]
  · rw [pk_un e]; exact h j (by omega)
theorem upd_at (f : Nat → Int32) (k : Nat) (x : Int32) : upd f k x k = x := pk_us
/-- a trail's cell for a stream and a number -/
def sl_tg (T : Nat → Int32) (x y : Int32) : Int32 := if sl_in x 0 3 = true ∧ sl_in y 0 3 = true then T (4 * x.toNatClampNeg + y.toNatClampNeg) else -1
def sl_ts (T : Nat → Int32) (x y z : Int32) : Nat → Int32 := if sl_in x 0 3 = true ∧ sl_in y 0 3 = true then upd T (4 * x.toNatClampNeg + y.toNatClampNeg) z else T
theorem sl_tix {x y : Int32} (h1 : sl_in x 0 3 = true) (h2 : sl_in y 0 3 = true) : x * 4 + y = nI (4 * x.toNatClampNeg + y.toNatClampNeg) := by
  obtain ⟨a, ha, rfl⟩ := sl_c3 h1
  obtain ⟨b, hb, rfl⟩ := sl_c3 h2
  rw [nI_clamp (by omega), nI_clamp (by omega), show (4 : Int32) = nI 4 from rfl, pk_mul, nI_add, Nat.mul_comm]
theorem sl_til {x y : Int32} (h1 : sl_in x 0 3 = true) (h2 : sl_in y 0 3 = true) : 4 * x.toNatClampNeg + y.toNatClampNeg < 16 := by
  obtain ⟨a, ha, rfl⟩ := sl_c3 h1
  obtain ⟨b, hb, rfl⟩ := sl_c3 h2
  rw [nI_clamp (by omega), nI_clamp (by omega)]
  omega
theorem sl_tgN (T : Nat → Int32) {a b : Nat} (ha : a < 4) (hb : b < 4) : sl_tg T (nI a) (nI b) = T (4 * a + b) := by
  rw [sl_tg, if_pos ⟨sl_nIin (n := 3) rfl (by omega) (by omega), sl_nIin (n := 3) rfl (by omega) (by omega)⟩, nI_clamp (by omega), nI_clamp (by omega)]
theorem sl_tsN (T : Nat → Int32) {a b : Nat} (z : Int32) (ha : a < 4) (hb : b < 4) : sl_ts T (nI a) (nI b) z = upd T (4 * a + b) z := by
  rw [sl_ts, if_pos ⟨sl_nIin (n := 3) rfl (by omega) (by omega), sl_nIin (n := 3) rfl (by omega) (by omega)⟩, nI_clamp (by omega), nI_clamp (by omega)]
/-- one stream learns a position -/
def sl_t1 (T : Nat → Int32) (k : Nat) (z : Int32) : Nat → Int32 := upd (upd (upd (upd T (4 * k + 3) (T (4 * k + 2))) (4 * k + 2) (T (4 * k + 1))) (4 * k + 1) (T (4 * k))) (4 * k) z
/-- the first k streams, those of a set, learn a position -/
def sl_tp (T : Nat → Int32) (ss z : Int32) : Nat → Nat → Int32
  | 0 => T
  | k + 1 => if sl_has ss (nI k) = true then sl_t1 (sl_tp T ss z k) k z else sl_tp T ss z k
/-- a copy of the first k streams', those of a set -/
def sl_tc (T : Nat → Int32) (ss : Int32) (k : Nat) : Nat → Int32 := fun j => if j < 4 * k ∧ sl_has ss (nI (j / 4)) = true then T j else -1
theorem sl_tc_s1 {T : Nat → Int32} {ss : Int32} {k : Nat} (h : sl_has ss (nI k) = true) : upd (upd (upd (upd (sl_tc T ss k) (4 * k + 0) (T (4 * k + 0))) (4 * k + 1) (T (4 * k + 1))) (4 * k + 2) (T (4 * k + 2))) (4 * k + 3) (T (4 * k + 3)) = sl_tc T ss (k + 1) := by
  funext j
  by_cases h1 : j < 4 * k
  · have e : ∀ (f : Nat → Int32) (i : Nat) (x : Int32), j ≠ i → upd f i x j = f j := fun f i x hn => pk_un hn
    rw [e _ _ _ (by omega), e _ _ _ (by omega), e _ _ _ (by omega), e _ _ _ (by omega), sl_tc, sl_tc]
    by_cases h2 : sl_has ss (nI (j / 4)) = true
    · rw [if_pos ⟨h1, h2⟩, if_pos ⟨by omega, h2⟩]
    · rw [if_neg (fun z => h2 z.2), if_neg (fun z => h2 z.2)]
  · by_cases h2 : j < 4 * k + 4
    · have e9 : sl_tc T ss (k + 1) j = T j := by
        rw [sl_tc, if_pos ⟨by omega, by rw [show j / 4 = k by omega]; exact h⟩]
      rw [e9]
      have e : j = 4 * k + 0 ∨ j = 4 * k + 1 ∨ j = 4 * k + 2 ∨ j = 4 * k + 3 := by omega
      rcases e with rfl | rfl | rfl | rfl
      · rw [pk_un (by omega), pk_un (by omega), pk_un (by omega), pk_us]
      · rw [pk_un (by omega), pk_un (by omega), pk_us]
      · rw [pk_un (by omega), pk_us]
      · rw [pk_us]
    · rw [pk_un (by omega), pk_un (by omega), pk_un (by omega), pk_un (by omega), sl_tc, sl_tc, if_neg (fun z => h1 z.1), if_neg (fun z => h2 (by have := z.1; omega))]
theorem sl_tc_s0 {T : Nat → Int32} {ss : Int32} {k : Nat} (h : sl_has ss (nI k) = false) : sl_tc T ss k = sl_tc T ss (k + 1) := by
  funext j
  rw [sl_tc, sl_tc]
  by_cases h1 : j < 4 * k
  · by_cases h2 : sl_has ss (nI (j / 4)) = true
    · rw [if_pos ⟨h1, h2⟩, if_pos ⟨by omega, h2⟩]
    · rw [if_neg (fun z => h2 z.2), if_neg (fun z => h2 z.2)]
  · rw [if_neg (fun z => h1 z.1), if_neg]
    intro z
    have e : j / 4 = k := by omega
    rw [e, h] at z
    cases z.2
/-- no stream of a set has changed from a version on, of the first k -/
def sl_un (X : Nat → Int32) (ss ver : Int32) : Nat → Bool
  | 0 => true
  | k + 1 => sl_un X ss ver k && (!sl_has ss (nI k) || decide (X k < ver))
theorem sl_un_f {X : Nat → Int32} {ss ver : Int32} {k : Nat} (h : sl_un X ss ver k = false) : ∀ n, k ≤ n → sl_un X ss ver n = false
  | 0, hn => by have : k = 0 := by omega
                subst this; exact h
  | n + 1, hn => by
    by_cases e : k = n + 1
    · subst e; exact h
    · rw [sl_un, sl_un_f h n (by omega)]; rfl
/-- the first k streams, those of a set, changed at a position -/
def sl_nc (X : Nat → Int32) (ss z : Int32) (k : Nat) : Nat → Int32 := fun j => if j < k ∧ sl_has ss (nI j) = true then z else X j
theorem sl_nc_1 {X : Nat → Int32} {ss z : Int32} {k : Nat} (h : sl_has ss (nI k) = true) : upd (sl_nc X ss z k) k z = sl_nc X ss z (k + 1) := by
  funext j
  by_cases e : j = k
  · rw [e, pk_us, sl_nc, if_pos ⟨by omega, h⟩]
  · rw [pk_un e, sl_nc, sl_nc]
    by_cases h2 : sl_has ss (nI j) = true
    · by_cases h1 : j < k
      · rw [if_pos ⟨h1, h2⟩, if_pos ⟨by omega, h2⟩]
      · rw [if_neg (fun w => h1 w.1), if_neg (fun w => h1 (by have := w.1; omega))]
    · rw [if_neg (fun w => h2 w.2), if_neg (fun w => h2 w.2)]
theorem sl_nc_0 {X : Nat → Int32} {ss z : Int32} {k : Nat} (h : sl_has ss (nI k) = false) : sl_nc X ss z k = sl_nc X ss z (k + 1) := by
  funext j
  rw [sl_nc, sl_nc]
  by_cases h2 : sl_has ss (nI j) = true
  · by_cases h1 : j < k
    · rw [if_pos ⟨h1, h2⟩, if_pos ⟨by omega, h2⟩]
    · rw [if_neg (fun w => h1 w.1), if_neg]
      intro w
      have e : j = k := by have := w.1; omega
      rw [e, h] at h2
      cases h2
  · rw [if_neg (fun w => h2 w.2), if_neg (fun w => h2 w.2)]
set_option maxHeartbeats 4000000 in
set_option maxRecDepth 100000 in
theorem kJ7_fill_53178 (l : Launch) (Γ : sl_G) (g : sl_W) (k0 a n0 : Nat) (f : Nat → Int32) (h0 : g k0 = some (a, .inl (Γ.2.1 0, n0, .inl f))) (hn9 : n0 ≤ 65536) (z : Int32) : Met l yJ7_fill_53178 [Cond.code yJ7_fill_53178 cJ7_fill_53178 4 none] ({ frames := 0, cells := 0, slots := 0, locals := 0 } : Room) (va_Pc [.ref a, .int z] (sl_B Γ g)) (sl_Qv Γ (fun (_ : Unit) => True) (fun _ => sl_up g k0 (a, .inl (Γ.2.1 0, n0, .inl (fun _ => z))))) 0 0 (sl_A Γ) := by
  refine sl_ent (by decide) (Nat.le_of_ble_eq_true rfl) ?_
  intro p e s m below meth c ls hC hr hin hG hl
  have hx := hC.1
  have hb := hC.2.1
  have hl : lv_has ls 4 [(0, .ref a), (1, .int z)] := hl
  refine lv_iconst (v := 0) hx hb dJ7_fill_53178_0 (by decide) ?_
  refine lv_istore_n (lv' := [(2, .int 0), (0, .ref a), (1, .int z)]) hx hb dJ7_fill_53178_1 rfl hl (by decide) rfl (fun ls hl => ?_)
  refine lv_aload_n hx hb dJ7_fill_53178_2 rfl (lv_at hl 1 rfl) ?_
  refine sl_alen (v := nI n0) hC hG k0 0 h0 rfl rfl dJ7_fill_53178_3 ?_
  refine lv_istore_n (lv' := [(3, .int (nI n0)), (2, .int 0), (0, .ref a), (1, .int z)]) hx hb dJ7_fill_53178_4 rfl hl (by decide) rfl (fun ls hl => ?_)
  have loop_5 : ∀ (n k : Nat) (F : Nat → Int32), k ≤ n0 → n0 + 1 ≤ k + n → (∀ j, j < k → F j = z) → ∀ (H : Heap) (locs : List Loc), sl_I Γ (sl_up g k0 (a, .inl (Γ.2.1 0, n0, .inl F))) s H locs → ∀ (ls : Array Slot), lv_has ls 4 [(0, .ref a), (1, .int z), (2, .int (nI k)), (3, .int (nI n0))] → W p l e ({ frames := 0, cells := 0, slots := 0, locals := 0 } : Room) s m ([.ref a, .int z] : List Value).toArray below meth c H locs 0 0 (MQ below (sl_Qv Γ (fun (_ : Unit) => True) (fun _ => sl_up g k0 (a, .inl (Γ.2.1 0, n0, .inl (fun _ => z))))) ([.ref a, .int z] : List Value).toArray s 0 0 (sl_A Γ)) (F0 m 5 ls []) := by
    intro n
    induction n with
    | zero =>
      intro k F h1 h2
      exact absurd h2 (by omega)
    | succ n ih_5 =>
      intro k F hk_5 hn_5 hi H locs hG ls hl
      refine lv_iload_n hx hb dJ7_fill_53178_5 rfl (lv_at hl 2 rfl) ?_
      refine lv_iload_n hx hb dJ7_fill_53178_6 rfl (lv_at hl 3 rfl) ?_
      refine lv_icmp_ge (tgt := 20) hx hb dJ7_fill_53178_7 (by decide) (fun c_7 => ?_) (fun c_7 => ?_)
      · have n_7 : n0 ≤ k := (nI_leI (a := n0) (b := k) (by omega) (by omega)).mp c_7
        have hG := sl_fnI (fun _ => z) hG (fun j hj => hi j (by omega))
        exact sl_rv hC hr hG () trivial rfl (Nat.le_of_ble_eq_true rfl) (Nat.le_of_ble_eq_true rfl) dJ7_fill_53178_20
      · have n_7 : ¬ (n0 ≤ k) := fun z => c_7 ((nI_leI (a := n0) (b := k) (by omega) (by omega)).mpr z)
        refine lv_aload_n hx hb dJ7_fill_53178_10 rfl (lv_at hl 0 rfl) ?_
        refine lv_iload_n hx hb dJ7_fill_53178_11 rfl (lv_at hl 2 rfl) ?_
        refine lv_iload_n hx hb dJ7_fill_53178_12 rfl (lv_at hl 1 rfl) ?_
        refine sl_iastN hC hG k0 (sl_up_s _ _ _) (j := k) rfl (by omega) (by omega) dJ7_fill_53178_13 (fun H locs hG => ?_)
        have hG : sl_I Γ (sl_up (sl_up g k0 (a, .inl (Γ.2.1 0, n0, .inl F))) k0 (a, .inl (Γ.2.1 0, n0, .inl (upd F k z)))) s H locs := hG
        refine lv_iinc (v := nI (k + 1)) (lv' := [(2, .int (nI (k + 1))), (0, .ref a), (1, .int z), (3, .int (nI n0))]) hx hb dJ7_fill_53178_14 hl (k := 2) rfl (nI_1 k) (by decide) rfl (fun ls hl => ?_)
        refine lv_goto (tgt := 5) hx hb dJ7_fill_53178_17 (by decide) ?_
        rw [sl_up_up] at hG
        exact ih_5 (k + 1) (upd F k z) (by omega) (by omega) (sl_fl hi) _ _ hG _ (lv_sub hl [1, 2, 0, 3] rfl)
  rw [← sl_up_same h0] at hG
  exact loop_5 (n0 + 1) 0 f (by omega) (by omega) (fun j hj => absurd hj (Nat.not_lt_zero j)) _ _ hG _ (lv_sub hl [2, 3, 1, 0] rfl)
set_option maxHeartbeats 4000000 in
set_option maxRecDepth 100000 in
theorem kX3_get (l : Launch) (Γ : sl_G) (g : sl_W) (kt ka a b : Nat) (T : Nat → Int32) (ht : g kt = some (a, .inr (3, [.ref b]))) (ha : g ka = some (b, .inl (Γ.2.1 0, 16, .inl T))) (x y : Int32) : Met l yX3_get [Cond.code yX3_get cX3_get 3 (some .int)] ({ frames := 1, cells := 0, slots := 0, locals := 20 } : Room) (va_Pc [.ref a, .int x, .int y] (sl_B Γ g)) (sl_Qi Γ (fun r (_ : Unit) => r = sl_tg T x y) (fun _ => g)) 0 0 (sl_A Γ) := by
  refine sl_ent (by decide) (Nat.le_of_ble_eq_true rfl) ?_
  intro p e s m below meth c ls hC hr hin hG hl
  have hx := hC.1
  have hb := hC.2.1
  have hl : lv_has ls 3 [(0, .ref a), (1, .int x), (2, .int y)] := hl
  refine lv_iload_n hx hb dX3_get_0 rfl (lv_at hl 1 rfl) ?_
  refine sl_calli (sl_runSN (As := [.int x]) (rest := []) hC hG (kX4_isStream l Γ g x) mi_X4_isStream lk_RX3_21 rfl rfl ⟨Nat.le_of_ble_eq_true rfl, Nat.le_of_ble_eq_true rfl⟩ rfl hl.1 rfl (Nat.le_of_ble_eq_true rfl) dX3_get_1 ⟨Nat.le_of_ble_eq_true rfl, Nat.le_of_ble_eq_true rfl⟩) hG (fun r_1 u_1 H locs hr_1 hG => ?_)
  subst hr_1
  refine lv_if_eq (tgt := 27) hx hb dX3_get_4 (by decide) (fun c_4 => ?_) (fun c_4 => ?_)
  · have c_4 := sl_bF c_4
    refine lv_iconst (v := (-1)) hx hb dX3_get_27 (by decide) ?_
    exact sl_ri (v := (-1)) hC hr hG () (by show _ = sl_tg T x y; rw [sl_tg, if_neg (fun w => by rw [c_4] at w; cases w.1)]) rfl (Nat.le_of_ble_eq_true rfl) (Nat.le_of_ble_eq_true rfl) dX3_get_28
  · have c_4 := sl_bT c_4
    refine lv_iload_n hx hb dX3_get_7 rfl (lv_at hl 2 rfl) ?_
    refine sl_calli (sl_runSN (As := [.int y]) (rest := []) hC hG (kX4_isPointerNumber l Γ g y) mi_X4_isPointerNumber lk_RX3_25 rfl rfl ⟨Nat.le_of_ble_eq_true rfl, Nat.le_of_ble_eq_true rfl⟩ rfl hl.1 rfl (Nat.le_of_ble_eq_true rfl) dX3_get_8 ⟨Nat.le_of_ble_eq_true rfl, Nat.le_of_ble_eq_true rfl⟩) hG (fun r_8 u_8 H locs hr_8 hG => ?_)
    subst hr_8
    refine lv_if_eq (tgt := 27) hx hb dX3_get_11 (by decide) (fun c_11 => ?_) (fun c_11 => ?_)
    · have c_11 := sl_bF c_11
      refine lv_iconst (v := (-1)) hx hb dX3_get_27 (by decide) ?_
      exact sl_ri (v := (-1)) hC hr hG () (by show _ = sl_tg T x y; rw [sl_tg, if_neg (fun w => by rw [c_11] at w; cases w.2)]) rfl (Nat.le_of_ble_eq_true rfl) (Nat.le_of_ble_eq_true rfl) dX3_get_28
    · have c_11 := sl_bT c_11
      refine lv_aload_n hx hb dX3_get_14 rfl (lv_at hl 0 rfl) ?_
      refine sl_get (C := RX3) (T := TX3) (N := 1) hC hG kt ht rfl la_3 0 (by decide) lk_RX3_9 rfl rfl dX3_get_15 ?_
      refine lv_iload_n hx hb dX3_get_18 rfl (lv_at hl 1 rfl) ?_
      refine lv_iconst (v := 4) hx hb dX3_get_19 (by decide) ?_
      refine lv_imul hx hb dX3_get_20 ?_
      refine lv_iload_n hx hb dX3_get_21 rfl (lv_at hl 2 rfl) ?_
      refine lv_iadd hx hb dX3_get_22 ?_
      refine sl_ialdN hC hG ka ha (j := 4 * x.toNatClampNeg + y.toNatClampNeg) (sl_tix c_4 c_11) (sl_til c_4 c_11) (by omega) dX3_get_23 ?_
      refine lv_goto (tgt := 28) hx hb dX3_get_24 (by decide) ?_
      exact sl_ri (v := T (4 * x.toNatClampNeg + y.toNatClampNeg)) hC hr hG () (by show _ = sl_tg T x y; rw [sl_tg, if_pos ⟨c_4, c_11⟩]) rfl (Nat.le_of_ble_eq_true rfl) (Nat.le_of_ble_eq_true rfl) dX3_get_28
set_option maxHeartbeats 4000000 in
set_option maxRecDepth 100000 in
theorem kX3_set (l : Launch) (Γ : sl_G) (g : sl_W) (kt ka a b : Nat) (T : Nat → Int32) (ht : g kt = some (a, .inr (3, [.ref b]))) (ha : g ka = some (b, .inl (Γ.2.1 0, 16, .inl T))) (x y z : Int32) : Met l yX3_set [Cond.code yX3_set cX3_set 4 none] ({ frames := 1, cells := 0, slots := 0, locals := 20 } : Room) (va_Pc [.ref a, .int x, .int y, .int z] (sl_B Γ g)) (sl_Qv Γ (fun (_ : Unit) => True) (fun _ => sl_up g ka (b, .inl (Γ.2.1 0, 16, .inl (sl_ts T x y z))))) 0 0 (sl_A Γ) := by
  refine sl_ent (by decide) (Nat.le_of_ble_eq_true rfl) ?_
  intro p e s m below meth c ls hC hr hin hG hl
  have hx := hC.1
  have hb := hC.2.1
  have hl : lv_has ls 4 [(0, .ref a), (1, .int x), (2, .int y), (3, .int z)] := hl
  refine lv_iload_n hx hb dX3_set_0 rfl (lv_at hl 1 rfl) ?_
  refine sl_calli (sl_runSN (As := [.int x]) (rest := []) hC hG (kX4_isStream l Γ g x) mi_X4_isStream lk_RX3_21 rfl rfl ⟨Nat.le_of_ble_eq_true rfl, Nat.le_of_ble_eq_true rfl⟩ rfl hl.1 rfl (Nat.le_of_ble_eq_true rfl) dX3_set_1 ⟨Nat.le_of_ble_eq_true rfl, Nat.le_of_ble_eq_true rfl⟩) hG (fun r_1 u_1 H locs hr_1 hG => ?_)
  subst hr_1
  refine lv_if_eq (tgt := 25) hx hb dX3_set_4 (by decide) (fun c_4 => ?_) (fun c_4 => ?_)
  · have c_4 := sl_bF c_4
    exact sl_rv hC hr hG () trivial (by show sl_up g ka (b, .inl (Γ.2.1 0, 16, .inl (sl_ts T x y z))) = _; rw [sl_ts, if_neg (fun w => by rw [c_4] at w; cases w.1)]; exact sl_up_same ha) (Nat.le_of_ble_eq_true rfl) (Nat.le_of_ble_eq_true rfl) dX3_set_25
  · have c_4 := sl_bT c_4
    refine lv_iload_n hx hb dX3_set_7 rfl (lv_at hl 2 rfl) ?_
    refine sl_calli (sl_runSN (As := [.int y]) (rest := []) hC hG (kX4_isPointerNumber l Γ g y) mi_X4_isPointerNumber lk_RX3_25 rfl rfl ⟨Nat.le_of_ble_eq_true rfl, Nat.le_of_ble_eq_true rfl⟩ rfl hl.1 rfl (Nat.le_of_ble_eq_true rfl) dX3_set_8 ⟨Nat.le_of_ble_eq_true rfl, Nat.le_of_ble_eq_true rfl⟩) hG (fun r_8 u_8 H locs hr_8 hG => ?_)
    subst hr_8
    refine lv_if_eq (tgt := 25) hx hb dX3_set_11 (by decide) (fun c_11 => ?_) (fun c_11 => ?_)
    · have c_11 := sl_bF c_11
      exact sl_rv hC hr hG () trivial (by show sl_up g ka (b, .inl (Γ.2.1 0, 16, .inl (sl_ts T x y z))) = _; rw [sl_ts, if_neg (fun w => by rw [c_11] at w; cases w.2)]; exact sl_up_same ha) (Nat.le_of_ble_eq_true rfl) (Nat.le_of_ble_eq_true rfl) dX3_set_25
    · have c_11 := sl_bT c_11
      refine lv_aload_n hx hb dX3_set_14 rfl (lv_at hl 0 rfl) ?_
      refine sl_get (C := RX3) (T := TX3) (N := 1) hC hG kt ht rfl la_3 0 (by decide) lk_RX3_9 rfl rfl dX3_set_15 ?_
      refine lv_iload_n hx hb dX3_set_18 rfl (lv_at hl 1 rfl) ?_
      refine lv_iconst (v := 4) hx hb dX3_set_19 (by decide) ?_
      refine lv_imul hx hb dX3_set_20 ?_
      refine lv_iload_n hx hb dX3_set_21 rfl (lv_at hl 2 rfl) ?_
      refine lv_iadd hx hb dX3_set_22 ?_
      refine lv_iload_n hx hb dX3_set_23 rfl (lv_at hl 3 rfl) ?_
      refine sl_iastN hC hG ka ha (j := 4 * x.toNatClampNeg + y.toNatClampNeg) (sl_tix c_4 c_11) (sl_til c_4 c_11) (by omega) dX3_set_24 (fun H locs hG => ?_)
      have hG : sl_I Γ (sl_up g ka (b, .inl (Γ.2.1 0, 16, .inl (upd T (4 * x.toNatClampNeg + y.toNatClampNeg) z)))) s H locs := hG
      exact sl_rv hC hr hG () trivial (by show sl_up g ka (b, .inl (Γ.2.1 0, 16, .inl (sl_ts T x y z))) = _; rw [sl_ts, if_pos ⟨c_4, c_11⟩]) (Nat.le_of_ble_eq_true rfl) (Nat.le_of_ble_eq_true rfl) dX3_set_25
set_option maxHeartbeats 4000000 in
set_option maxRecDepth 100000 in
theorem kX3_clear (l : Launch) (Γ : sl_G) (g : sl_W) (kt ka a b : Nat) (T : Nat → Int32) (ht : g kt = some (a, .inr (3, [.ref b]))) (ha : g ka = some (b, .inl (Γ.2.1 0, 16, .inl T))) : Met l yX3_clear [Cond.code yX3_clear cX3_clear 1 none] ({ frames := 1, cells := 0, slots := 0, locals := 23 } : Room) (va_Pc [.ref a] (sl_B Γ g)) (sl_Qv Γ (fun (_ : Unit) => True) (fun _ => sl_up g ka (b, .inl (Γ.2.1 0, 16, .inl (fun _ => (-1)))))) 0 0 (sl_A Γ) := by
  refine sl_ent (by decide) (Nat.le_of_ble_eq_true rfl) ?_
  intro p e s m below meth c ls hC hr hin hG hl
  have hx := hC.1
  have hb := hC.2.1
  have hl : lv_has ls 1 [(0, .ref a)] := hl
  refine lv_aload_n hx hb dX3_clear_0 rfl (lv_at hl 0 rfl) ?_
  refine sl_get (C := RX3) (T := TX3) (N := 1) hC hG kt ht rfl la_3 0 (by decide) lk_RX3_9 rfl rfl dX3_clear_1 ?_
  refine lv_iconst (v := (-1)) hx hb dX3_clear_4 (by decide) ?_
  refine sl_callv (sl_runS (As := [.ref b, .int (-1)]) (rest := []) hC hG (kJ7_fill_53178 l Γ g ka b 16 T ha (by omega) (-1)) mi_J7_fill_53178 lk_RX3_15 rfl rfl ⟨Nat.le_of_ble_eq_true rfl, Nat.le_of_ble_eq_true rfl⟩ rfl hl.1 rfl (Nat.le_of_ble_eq_true rfl) dX3_clear_5 ⟨Nat.le_of_ble_eq_true rfl, Nat.le_of_ble_eq_true rfl⟩) hG (fun u_5 H locs hr_5 hG => ?_)
  have hG : sl_I Γ (sl_up g ka (b, .inl (Γ.2.1 0, 16, .inl (fun _ => (-1))))) s H locs := hG
  exact sl_rv hC hr hG () trivial rfl (Nat.le_of_ble_eq_true rfl) (Nat.le_of_ble_eq_true rfl) dX3_clear_8
theorem sl_push1 {T : Nat → Int32} {ss z : Int32} {k : Nat} (h : sl_has ss (nI k) = true) : upd (upd (upd (upd (sl_tp T ss z k) (4 * k + 3) (sl_tp T ss z k (4 * k + 2))) (4 * k + 2) (upd (sl_tp T ss z k) (4 * k + 3) (sl_tp T ss z k (4 * k + 2)) (4 * k + 1))) (4 * k + 1) (upd (upd (sl_tp T ss z k) (4 * k + 3) (sl_tp T ss z k (4 * k + 2))) (4 * k + 2) (upd (sl_tp T ss z k) (4 * k + 3) (sl_tp T ss z k (4 * k + 2)) (4 * k + 1)) (4 * k))) (4 * k) z = sl_tp T ss z (k + 1) := by
  rw [sl_tp, if_pos h, sl_t1, pk_un (k := 4 * k + 3) (j := 4 * k + 1) (by omega), pk_un (k := 4 * k + 2) (j := 4 * k) (by omega), pk_un (k := 4 * k + 3) (j := 4 * k) (by omega)]
theorem sl_push0 {T : Nat → Int32} {ss z : Int32} {k : Nat} (h : sl_has ss (nI k) = false) : sl_tp T ss z k = sl_tp T ss z (k + 1) := by
  rw [sl_tp, if_neg (fun w => by rw [h] at w; cases w)]
set_option maxHeartbeats 4000000 in
set_option maxRecDepth 100000 in
theorem kX3_push (l : Launch) (Γ : sl_G) (g : sl_W) (kt ka a b : Nat) (T : Nat → Int32) (ht : g kt = some (a, .inr (3, [.ref b]))) (ha : g ka = some (b, .inl (Γ.2.1 0, 16, .inl T))) (hne : kt ≠ ka) (ss z : Int32) : Met l yX3_push [Cond.code yX3_push cX3_push 5 none] ({ frames := 2, cells := 0, slots := 0, locals := 43 } : Room) (va_Pc [.ref a, .int ss, .int z] (sl_B Γ g)) (sl_Qv Γ (fun (_ : Unit) => True) (fun _ => sl_up g ka (b, .inl (Γ.2.1 0, 16, .inl (sl_tp T ss z 4))))) 0 0 (sl_A Γ) := by
  refine sl_ent (by decide) (Nat.le_of_ble_eq_true rfl) ?_
  intro p e s m below meth c ls hC hr hin hG hl
  have hx := hC.1
  have hb := hC.2.1
  have hl : lv_has ls 5 [(0, .ref a), (1, .int ss), (2, .int z)] := hl
  refine lv_iconst (v := 0) hx hb dX3_push_0 (by decide) ?_
  refine lv_istore_n (lv' := [(3, .int 0), (0, .ref a), (1, .int ss), (2, .int z)]) hx hb dX3_push_1 rfl hl (by decide) rfl (fun ls hl => ?_)
  have loop_2 : ∀ (n k : Nat), k ≤ 4 → 4 + 1 ≤ k + n → ∀ (H : Heap) (locs : List Loc), sl_I Γ (sl_up g ka (b, .inl (Γ.2.1 0, 16, .inl (sl_tp T ss z k)))) s H locs → ∀ (ls : Array Slot), lv_has ls 5 [(0, .ref a), (1, .int ss), (2, .int z), (3, .int (nI k))] → W p l e ({ frames := 2, cells := 0, slots := 0, locals := 43 } : Room) s m ([.ref a, .int ss, .int z] : List Value).toArray below meth c H locs 0 0 (MQ below (sl_Qv Γ (fun (_ : Unit) => True) (fun _ => sl_up g ka (b, .inl (Γ.2.1 0, 16, .inl (sl_tp T ss z 4))))) ([.ref a, .int ss, .int z] : List Value).toArray s 0 0 (sl_A Γ)) (F0 m 2 ls []) := by
    intro n
    induction n with
    | zero =>
      intro k  h1 h2
      exact absurd h2 (by omega)
    | succ n ih_2 =>
      intro k  hk_2 hn_2  H locs hG ls hl
      refine lv_iload_n hx hb dX3_push_2 rfl (lv_at hl 3 rfl) ?_
      refine lv_iconst (v := 4) hx hb dX3_push_3 (by decide) ?_
      refine lv_icmp_ge (tgt := 58) hx hb dX3_push_4 (by decide) (fun c_4 => ?_) (fun c_4 => ?_)
      · have n_4 : 4 ≤ k := (nI_leI (a := 4) (b := k) (by omega) (by omega)).mp c_4
        have hk9 : k = 4 := by omega
        subst hk9
        exact sl_rv hC hr hG () trivial rfl (Nat.le_of_ble_eq_true rfl) (Nat.le_of_ble_eq_true rfl) dX3_push_58
      · have n_4 : ¬ (4 ≤ k) := fun z => c_4 ((nI_leI (a := 4) (b := k) (by omega) (by omega)).mpr z)
        refine lv_iload_n hx hb dX3_push_7 rfl (lv_at hl 3 rfl) ?_
        refine lv_iload_n hx hb dX3_push_8 rfl (lv_at hl 1 rfl) ?_
        refine sl_calli (sl_runSN (As := [.int (nI k), .int ss]) (rest := []) hC hG (kX4_isIn l Γ (sl_up g ka (b, .inl (Γ.2.1 0, 16, .inl (sl_tp T ss z k)))) (nI k) ss) mi_X4_isIn lk_RX3_28 rfl rfl ⟨Nat.le_of_ble_eq_true rfl, Nat.le_of_ble_eq_true rfl⟩ rfl hl.1 rfl (Nat.le_of_ble_eq_true rfl) dX3_push_9 ⟨Nat.le_of_ble_eq_true rfl, Nat.le_of_ble_eq_true rfl⟩) hG (fun r_9 u_9 H locs hr_9 hG => ?_)
        subst hr_9
        refine lv_if_eq (tgt := 52) hx hb dX3_push_12 (by decide) (fun c_12 => ?_) (fun c_12 => ?_)
        · have c_12 := sl_bF c_12
          refine lv_iinc (v := nI (k + 1)) (lv' := [(3, .int (nI (k + 1))), (0, .ref a), (1, .int ss), (2, .int z)]) hx hb dX3_push_52 hl (k := 3) rfl (nI_1 k) (by decide) rfl (fun ls hl => ?_)
          refine lv_goto (tgt := 2) hx hb dX3_push_55 (by decide) ?_
          rw [sl_push0 (T := T) (z := z) c_12] at hG
          exact ih_2 (k + 1) (by omega) (by omega) _ _ hG _ (lv_sub hl [1, 2, 3, 0] rfl)
        · have c_12 := sl_bT c_12
          refine lv_iconst (v := 3) hx hb dX3_push_15 (by decide) ?_
          refine lv_istore (lv' := [(4, .int 3), (0, .ref a), (1, .int ss), (2, .int z), (3, .int (nI k))]) hx hb dX3_push_16 hl (by decide) rfl (fun ls hl => ?_)
          refine lv_iload hx hb dX3_push_18 (lv_at hl 0 rfl) ?_
          refine lv_if_le (tgt := 45) hx hb dX3_push_20 (by decide) (fun c_20 => ?_) (fun c_20 => ?_)
          · exact absurd c_20 (by decide)
          · refine lv_aload_n hx hb dX3_push_23 rfl (lv_at hl 1 rfl) ?_
            refine lv_iload_n hx hb dX3_push_24 rfl (lv_at hl 4 rfl) ?_
            refine lv_iload hx hb dX3_push_25 (lv_at hl 0 rfl) ?_
            refine lv_aload_n hx hb dX3_push_27 rfl (lv_at hl 1 rfl) ?_
            refine lv_iload_n hx hb dX3_push_28 rfl (lv_at hl 4 rfl) ?_
            refine lv_iload hx hb dX3_push_29 (lv_at hl 0 rfl) ?_
            refine lv_iconst (v := 1) hx hb dX3_push_31 (by decide) ?_
            refine lv_isub hx hb dX3_push_32 ?_
            refine sl_topi (y := 2) (by decide) ?_
            refine sl_calli (sl_runV (As := [.int (nI k), .int 2]) (rest := [.int 3, .int (nI k), .ref a]) hC hG (kX3_get l Γ (sl_up g ka (b, .inl (Γ.2.1 0, 16, .inl (sl_tp T ss z k)))) kt ka a b (sl_tp T ss z k) (sl_up_to (by omega) ht) (sl_up_s _ _ _) (nI k) 2) mi_X3_get lk_RX3_32 kt (sl_up_to (by omega) ht) rfl rfl rfl ⟨Nat.le_of_ble_eq_true rfl, Nat.le_of_ble_eq_true rfl⟩ rfl hl.1 rfl (Nat.le_of_ble_eq_true rfl) dX3_push_33 ⟨Nat.le_of_ble_eq_true rfl, Nat.le_of_ble_eq_true rfl⟩) hG (fun r_33 u_33 H locs hr_33 hG => ?_)
            subst hr_33
            refine sl_topi (y := (sl_tp T ss z k) (4 * k + 2)) (sl_tgN (sl_tp T ss z k) (a := k) (b := 2) (by omega) (by omega)) ?_
            refine sl_callv (sl_runV (As := [.int (nI k), .int 3, .int ((sl_tp T ss z k) (4 * k + 2))]) (rest := []) hC hG (kX3_set l Γ (sl_up g ka (b, .inl (Γ.2.1 0, 16, .inl (sl_tp T ss z k)))) kt ka a b (sl_tp T ss z k) (sl_up_to (by omega) ht) (sl_up_s _ _ _) (nI k) 3 ((sl_tp T ss z k) (4 * k + 2))) mi_X3_set lk_RX3_36 kt (sl_up_to (by omega) ht) rfl rfl rfl ⟨Nat.le_of_ble_eq_true rfl, Nat.le_of_ble_eq_true rfl⟩ rfl hl.1 rfl (Nat.le_of_ble_eq_true rfl) dX3_push_36 ⟨Nat.le_of_ble_eq_true rfl, Nat.le_of_ble_eq_true rfl⟩) hG (fun u_36 H locs hr_36 hG => ?_)
            have hG : sl_I Γ (sl_up (sl_up g ka (b, .inl (Γ.2.1 0, 16, .inl (sl_tp T ss z k)))) ka (b, .inl (Γ.2.1 0, 16, .inl (sl_ts (sl_tp T ss z k) (nI k) 3 ((sl_tp T ss z k) (4 * k + 2)))))) s H locs := hG
            rw [show sl_ts (sl_tp T ss z k) (nI k) 3 ((sl_tp T ss z k) (4 * k + 2)) = upd (sl_tp T ss z k) (4 * k + 3) ((sl_tp T ss z k) (4 * k + 2)) from sl_tsN (sl_tp T ss z k) (a := k) (b := 3) ((sl_tp T ss z k) (4 * k + 2)) (by omega) (by omega)] at hG
            refine lv_iinc (v := 2) (lv' := [(4, .int 2), (0, .ref a), (1, .int ss), (2, .int z), (3, .int (nI k))]) hx hb dX3_push_39 hl (k := 0) rfl (by decide) (by decide) rfl (fun ls hl => ?_)
            refine lv_goto (tgt := 18) hx hb dX3_push_42 (by decide) ?_
            refine lv_iload hx hb dX3_push_18 (lv_at hl 0 rfl) ?_
            refine lv_if_le (tgt := 45) hx hb dX3_push_20 (by decide) (fun c_20 => ?_) (fun c_20 => ?_)
            · exact absurd c_20 (by decide)
            · refine lv_aload_n hx hb dX3_push_23 rfl (lv_at hl 1 rfl) ?_
              refine lv_iload_n hx hb dX3_push_24 rfl (lv_at hl 4 rfl) ?_
              refine lv_iload hx hb dX3_push_25 (lv_at hl 0 rfl) ?_
              refine lv_aload_n hx hb dX3_push_27 rfl (lv_at hl 1 rfl) ?_
              refine lv_iload_n hx hb dX3_push_28 rfl (lv_at hl 4 rfl) ?_
              refine lv_iload hx hb dX3_push_29 (lv_at hl 0 rfl) ?_
              refine lv_iconst (v := 1) hx hb dX3_push_31 (by decide) ?_
              refine lv_isub hx hb dX3_push_32 ?_
              refine sl_topi (y := 1) (by decide) ?_
              refine sl_calli (sl_runV (As := [.int (nI k), .int 1]) (rest := [.int 2, .int (nI k), .ref a]) hC hG (kX3_get l Γ (sl_up (sl_up g ka (b, .inl (Γ.2.1 0, 16, .inl (sl_tp T ss z k)))) ka (b, .inl (Γ.2.1 0, 16, .inl (upd (sl_tp T ss z k) (4 * k + 3) ((sl_tp T ss z k) (4 * k + 2)))))) kt ka a b (upd (sl_tp T ss z k) (4 * k + 3) ((sl_tp T ss z k) (4 * k + 2))) (sl_up_to (by omega) (sl_up_to (by omega) ht)) (sl_up_s _ _ _) (nI k) 1) mi_X3_get lk_RX3_32 kt (sl_up_to (by omega) (sl_up_to (by omega) ht)) rfl rfl rfl ⟨Nat.le_of_ble_eq_true rfl, Nat.le_of_ble_eq_true rfl⟩ rfl hl.1 rfl (Nat.le_of_ble_eq_true rfl) dX3_push_33 ⟨Nat.le_of_ble_eq_true rfl, Nat.le_of_ble_eq_true rfl⟩) hG (fun r_33 u_33 H locs hr_33 hG => ?_)
              subst hr_33
              refine sl_topi (y := (upd (sl_tp T ss z k) (4 * k + 3) ((sl_tp T ss z k) (4 * k + 2))) (4 * k + 1)) (sl_tgN (upd (sl_tp T ss z k) (4 * k + 3) ((sl_tp T ss z k) (4 * k + 2))) (a := k) (b := 1) (by omega) (by omega)) ?_
              refine sl_callv (sl_runV (As := [.int (nI k), .int 2, .int ((upd (sl_tp T ss z k) (4 * k + 3) ((sl_tp T ss z k) (4 * k + 2))) (4 * k + 1))]) (rest := []) hC hG (kX3_set l Γ (sl_up (sl_up g ka (b, .inl (Γ.2.1 0, 16, .inl (sl_tp T ss z k)))) ka (b, .inl (Γ.2.1 0, 16, .inl (upd (sl_tp T ss z k) (4 * k + 3) ((sl_tp T ss z k) (4 * k + 2)))))) kt ka a b (upd (sl_tp T ss z k) (4 * k + 3) ((sl_tp T ss z k) (4 * k + 2))) (sl_up_to (by omega) (sl_up_to (by omega) ht)) (sl_up_s _ _ _) (nI k) 2 ((upd (sl_tp T ss z k) (4 * k + 3) ((sl_tp T ss z k) (4 * k + 2))) (4 * k + 1))) mi_X3_set lk_RX3_36 kt (sl_up_to (by omega) (sl_up_to (by omega) ht)) rfl rfl rfl ⟨Nat.le_of_ble_eq_true rfl, Nat.le_of_ble_eq_true rfl⟩ rfl hl.1 rfl (Nat.le_of_ble_eq_true rfl) dX3_push_36 ⟨Nat.le_of_ble_eq_true rfl, Nat.le_of_ble_eq_true rfl⟩) hG (fun u_36 H locs hr_36 hG => ?_)
              rw [sl_up_up] at hG
              have hG : sl_I Γ (sl_up (sl_up g ka (b, .inl (Γ.2.1 0, 16, .inl (sl_tp T ss z k)))) ka (b, .inl (Γ.2.1 0, 16, .inl (sl_ts (upd (sl_tp T ss z k) (4 * k + 3) ((sl_tp T ss z k) (4 * k + 2))) (nI k) 2 ((upd (sl_tp T ss z k) (4 * k + 3) ((sl_tp T ss z k) (4 * k + 2))) (4 * k + 1)))))) s H locs := hG
              rw [show sl_ts (upd (sl_tp T ss z k) (4 * k + 3) ((sl_tp T ss z k) (4 * k + 2))) (nI k) 2 ((upd (sl_tp T ss z k) (4 * k + 3) ((sl_tp T ss z k) (4 * k + 2))) (4 * k + 1)) = upd (upd (sl_tp T ss z k) (4 * k + 3) ((sl_tp T ss z k) (4 * k + 2))) (4 * k + 2) ((upd (sl_tp T ss z k) (4 * k + 3) ((sl_tp T ss z k) (4 * k + 2))) (4 * k + 1)) from sl_tsN (upd (sl_tp T ss z k) (4 * k + 3) ((sl_tp T ss z k) (4 * k + 2))) (a := k) (b := 2) ((upd (sl_tp T ss z k) (4 * k + 3) ((sl_tp T ss z k) (4 * k + 2))) (4 * k + 1)) (by omega) (by omega)] at hG
              refine lv_iinc (v := 1) (lv' := [(4, .int 1), (0, .ref a), (1, .int ss), (2, .int z), (3, .int (nI k))]) hx hb dX3_push_39 hl (k := 0) rfl (by decide) (by decide) rfl (fun ls hl => ?_)
              refine lv_goto (tgt := 18) hx hb dX3_push_42 (by decide) ?_
              refine lv_iload hx hb dX3_push_18 (lv_at hl 0 rfl) ?_
              refine lv_if_le (tgt := 45) hx hb dX3_push_20 (by decide) (fun c_20 => ?_) (fun c_20 => ?_)
              · exact absurd c_20 (by decide)
              · refine lv_aload_n hx hb dX3_push_23 rfl (lv_at hl 1 rfl) ?_
                refine lv_iload_n hx hb dX3_push_24 rfl (lv_at hl 4 rfl) ?_
                refine lv_iload hx hb dX3_push_25 (lv_at hl 0 rfl) ?_
                refine lv_aload_n hx hb dX3_push_27 rfl (lv_at hl 1 rfl) ?_
                refine lv_iload_n hx hb dX3_push_28 rfl (lv_at hl 4 rfl) ?_
                refine lv_iload hx hb dX3_push_29 (lv_at hl 0 rfl) ?_
                refine lv_iconst (v := 1) hx hb dX3_push_31 (by decide) ?_
                refine lv_isub hx hb dX3_push_32 ?_
                refine sl_topi (y := 0) (by decide) ?_
                refine sl_calli (sl_runV (As := [.int (nI k), .int 0]) (rest := [.int 1, .int (nI k), .ref a]) hC hG (kX3_get l Γ (sl_up (sl_up g ka (b, .inl (Γ.2.1 0, 16, .inl (sl_tp T ss z k)))) ka (b, .inl (Γ.2.1 0, 16, .inl (upd (upd (sl_tp T ss z k) (4 * k + 3) ((sl_tp T ss z k) (4 * k + 2))) (4 * k + 2) ((upd (sl_tp T ss z k) (4 * k + 3) ((sl_tp T ss z k) (4 * k + 2))) (4 * k + 1)))))) kt ka a b (upd (upd (sl_tp T ss z k) (4 * k + 3) ((sl_tp T ss z k) (4 * k + 2))) (4 * k + 2) ((upd (sl_tp T ss z k) (4 * k + 3) ((sl_tp T ss z k) (4 * k + 2))) (4 * k + 1))) (sl_up_to (by omega) (sl_up_to (by omega) ht)) (sl_up_s _ _ _) (nI k) 0) mi_X3_get lk_RX3_32 kt (sl_up_to (by omega) (sl_up_to (by omega) ht)) rfl rfl rfl ⟨Nat.le_of_ble_eq_true rfl, Nat.le_of_ble_eq_true rfl⟩ rfl hl.1 rfl (Nat.le_of_ble_eq_true rfl) dX3_push_33 ⟨Nat.le_of_ble_eq_true rfl, Nat.le_of_ble_eq_true rfl⟩) hG (fun r_33 u_33 H locs hr_33 hG => ?_)
                subst hr_33
                refine sl_topi (y := (upd (upd (sl_tp T ss z k) (4 * k + 3) ((sl_tp T ss z k) (4 * k + 2))) (4 * k + 2) ((upd (sl_tp T ss z k) (4 * k + 3) ((sl_tp T ss z k) (4 * k + 2))) (4 * k + 1))) (4 * k)) (sl_tgN (upd (upd (sl_tp T ss z k) (4 * k + 3) ((sl_tp T ss z k) (4 * k + 2))) (4 * k + 2) ((upd (sl_tp T ss z k) (4 * k + 3) ((sl_tp T ss z k) (4 * k + 2))) (4 * k + 1))) (a := k) (b := 0) (by omega) (by omega)) ?_
                refine sl_callv (sl_runV (As := [.int (nI k), .int 1, .int ((upd (upd (sl_tp T ss z k) (4 * k + 3) ((sl_tp T ss z k) (4 * k + 2))) (4 * k + 2) ((upd (sl_tp T ss z k) (4 * k + 3) ((sl_tp T ss z k) (4 * k + 2))) (4 * k + 1))) (4 * k))]) (rest := []) hC hG (kX3_set l Γ (sl_up (sl_up g ka (b, .inl (Γ.2.1 0, 16, .inl (sl_tp T ss z k)))) ka (b, .inl (Γ.2.1 0, 16, .inl (upd (upd (sl_tp T ss z k) (4 * k + 3) ((sl_tp T ss z k) (4 * k + 2))) (4 * k + 2) ((upd (sl_tp T ss z k) (4 * k + 3) ((sl_tp T ss z k) (4 * k + 2))) (4 * k + 1)))))) kt ka a b (upd (upd (sl_tp T ss z k) (4 * k + 3) ((sl_tp T ss z k) (4 * k + 2))) (4 * k + 2) ((upd (sl_tp T ss z k) (4 * k + 3) ((sl_tp T ss z k) (4 * k + 2))) (4 * k + 1))) (sl_up_to (by omega) (sl_up_to (by omega) ht)) (sl_up_s _ _ _) (nI k) 1 ((upd (upd (sl_tp T ss z k) (4 * k + 3) ((sl_tp T ss z k) (4 * k + 2))) (4 * k + 2) ((upd (sl_tp T ss z k) (4 * k + 3) ((sl_tp T ss z k) (4 * k + 2))) (4 * k + 1))) (4 * k))) mi_X3_set lk_RX3_36 kt (sl_up_to (by omega) (sl_up_to (by omega) ht)) rfl rfl rfl ⟨Nat.le_of_ble_eq_true rfl, Nat.le_of_ble_eq_true rfl⟩ rfl hl.1 rfl (Nat.le_of_ble_eq_true rfl) dX3_push_36 ⟨Nat.le_of_ble_eq_true rfl, Nat.le_of_ble_eq_true rfl⟩) hG (fun u_36 H locs hr_36 hG => ?_)
                rw [sl_up_up] at hG
                have hG : sl_I Γ (sl_up (sl_up g ka (b, .inl (Γ.2.1 0, 16, .inl (sl_tp T ss z k)))) ka (b, .inl (Γ.2.1 0, 16, .inl (sl_ts (upd (upd (sl_tp T ss z k) (4 * k + 3) ((sl_tp T ss z k) (4 * k + 2))) (4 * k + 2) ((upd (sl_tp T ss z k) (4 * k + 3) ((sl_tp T ss z k) (4 * k + 2))) (4 * k + 1))) (nI k) 1 ((upd (upd (sl_tp T ss z k) (4 * k + 3) ((sl_tp T ss z k) (4 * k + 2))) (4 * k + 2) ((upd (sl_tp T ss z k) (4 * k + 3) ((sl_tp T ss z k) (4 * k + 2))) (4 * k + 1))) (4 * k)))))) s H locs := hG
                rw [show sl_ts (upd (upd (sl_tp T ss z k) (4 * k + 3) ((sl_tp T ss z k) (4 * k + 2))) (4 * k + 2) ((upd (sl_tp T ss z k) (4 * k + 3) ((sl_tp T ss z k) (4 * k + 2))) (4 * k + 1))) (nI k) 1 ((upd (upd (sl_tp T ss z k) (4 * k + 3) ((sl_tp T ss z k) (4 * k + 2))) (4 * k + 2) ((upd (sl_tp T ss z k) (4 * k + 3) ((sl_tp T ss z k) (4 * k + 2))) (4 * k + 1))) (4 * k)) = upd (upd (upd (sl_tp T ss z k) (4 * k + 3) ((sl_tp T ss z k) (4 * k + 2))) (4 * k + 2) ((upd (sl_tp T ss z k) (4 * k + 3) ((sl_tp T ss z k) (4 * k + 2))) (4 * k + 1))) (4 * k + 1) ((upd (upd (sl_tp T ss z k) (4 * k + 3) ((sl_tp T ss z k) (4 * k + 2))) (4 * k + 2) ((upd (sl_tp T ss z k) (4 * k + 3) ((sl_tp T ss z k) (4 * k + 2))) (4 * k + 1))) (4 * k)) from sl_tsN (upd (upd (sl_tp T ss z k) (4 * k + 3) ((sl_tp T ss z k) (4 * k + 2))) (4 * k + 2) ((upd (sl_tp T ss z k) (4 * k + 3) ((sl_tp T ss z k) (4 * k + 2))) (4 * k + 1))) (a := k) (b := 1) ((upd (upd (sl_tp T ss z k) (4 * k + 3) ((sl_tp T ss z k) (4 * k + 2))) (4 * k + 2) ((upd (sl_tp T ss z k) (4 * k + 3) ((sl_tp T ss z k) (4 * k + 2))) (4 * k + 1))) (4 * k)) (by omega) (by omega)] at hG
                refine lv_iinc (v := 0) (lv' := [(4, .int 0), (0, .ref a), (1, .int ss), (2, .int z), (3, .int (nI k))]) hx hb dX3_push_39 hl (k := 0) rfl (by decide) (by decide) rfl (fun ls hl => ?_)
                refine lv_goto (tgt := 18) hx hb dX3_push_42 (by decide) ?_
                refine lv_iload hx hb dX3_push_18 (lv_at hl 0 rfl) ?_
                refine lv_if_le (tgt := 45) hx hb dX3_push_20 (by decide) (fun c_20 => ?_) (fun c_20 => ?_)
                · refine lv_aload_n hx hb dX3_push_45 rfl (lv_at hl 1 rfl) ?_
                  refine lv_iload_n hx hb dX3_push_46 rfl (lv_at hl 4 rfl) ?_
                  refine lv_iconst (v := 0) hx hb dX3_push_47 (by decide) ?_
                  refine lv_iload_n hx hb dX3_push_48 rfl (lv_at hl 3 rfl) ?_
                  refine sl_callv (sl_runV (As := [.int (nI k), .int 0, .int z]) (rest := []) hC hG (kX3_set l Γ (sl_up (sl_up g ka (b, .inl (Γ.2.1 0, 16, .inl (sl_tp T ss z k)))) ka (b, .inl (Γ.2.1 0, 16, .inl (upd (upd (upd (sl_tp T ss z k) (4 * k + 3) ((sl_tp T ss z k) (4 * k + 2))) (4 * k + 2) ((upd (sl_tp T ss z k) (4 * k + 3) ((sl_tp T ss z k) (4 * k + 2))) (4 * k + 1))) (4 * k + 1) ((upd (upd (sl_tp T ss z k) (4 * k + 3) ((sl_tp T ss z k) (4 * k + 2))) (4 * k + 2) ((upd (sl_tp T ss z k) (4 * k + 3) ((sl_tp T ss z k) (4 * k + 2))) (4 * k + 1))) (4 * k)))))) kt ka a b (upd (upd (upd (sl_tp T ss z k) (4 * k + 3) ((sl_tp T ss z k) (4 * k + 2))) (4 * k + 2) ((upd (sl_tp T ss z k) (4 * k + 3) ((sl_tp T ss z k) (4 * k + 2))) (4 * k + 1))) (4 * k + 1) ((upd (upd (sl_tp T ss z k) (4 * k + 3) ((sl_tp T ss z k) (4 * k + 2))) (4 * k + 2) ((upd (sl_tp T ss z k) (4 * k + 3) ((sl_tp T ss z k) (4 * k + 2))) (4 * k + 1))) (4 * k))) (sl_up_to (by omega) (sl_up_to (by omega) ht)) (sl_up_s _ _ _) (nI k) 0 z) mi_X3_set lk_RX3_36 kt (sl_up_to (by omega) (sl_up_to (by omega) ht)) rfl rfl rfl ⟨Nat.le_of_ble_eq_true rfl, Nat.le_of_ble_eq_true rfl⟩ rfl hl.1 rfl (Nat.le_of_ble_eq_true rfl) dX3_push_49 ⟨Nat.le_of_ble_eq_true rfl, Nat.le_of_ble_eq_true rfl⟩) hG (fun u_49 H locs hr_49 hG => ?_)
                  rw [sl_up_up] at hG
                  have hG : sl_I Γ (sl_up (sl_up g ka (b, .inl (Γ.2.1 0, 16, .inl (sl_tp T ss z k)))) ka (b, .inl (Γ.2.1 0, 16, .inl (sl_ts (upd (upd (upd (sl_tp T ss z k) (4 * k + 3) ((sl_tp T ss z k) (4 * k + 2))) (4 * k + 2) ((upd (sl_tp T ss z k) (4 * k + 3) ((sl_tp T ss z k) (4 * k + 2))) (4 * k + 1))) (4 * k + 1) ((upd (upd (sl_tp T ss z k) (4 * k + 3) ((sl_tp T ss z k) (4 * k + 2))) (4 * k + 2) ((upd (sl_tp T ss z k) (4 * k + 3) ((sl_tp T ss z k) (4 * k + 2))) (4 * k + 1))) (4 * k))) (nI k) 0 z)))) s H locs := hG
                  rw [show sl_ts (upd (upd (upd (sl_tp T ss z k) (4 * k + 3) ((sl_tp T ss z k) (4 * k + 2))) (4 * k + 2) ((upd (sl_tp T ss z k) (4 * k + 3) ((sl_tp T ss z k) (4 * k + 2))) (4 * k + 1))) (4 * k + 1) ((upd (upd (sl_tp T ss z k) (4 * k + 3) ((sl_tp T ss z k) (4 * k + 2))) (4 * k + 2) ((upd (sl_tp T ss z k) (4 * k + 3) ((sl_tp T ss z k) (4 * k + 2))) (4 * k + 1))) (4 * k))) (nI k) 0 z = upd (upd (upd (upd (sl_tp T ss z k) (4 * k + 3) ((sl_tp T ss z k) (4 * k + 2))) (4 * k + 2) ((upd (sl_tp T ss z k) (4 * k + 3) ((sl_tp T ss z k) (4 * k + 2))) (4 * k + 1))) (4 * k + 1) ((upd (upd (sl_tp T ss z k) (4 * k + 3) ((sl_tp T ss z k) (4 * k + 2))) (4 * k + 2) ((upd (sl_tp T ss z k) (4 * k + 3) ((sl_tp T ss z k) (4 * k + 2))) (4 * k + 1))) (4 * k))) (4 * k) z from sl_tsN (upd (upd (upd (sl_tp T ss z k) (4 * k + 3) ((sl_tp T ss z k) (4 * k + 2))) (4 * k + 2) ((upd (sl_tp T ss z k) (4 * k + 3) ((sl_tp T ss z k) (4 * k + 2))) (4 * k + 1))) (4 * k + 1) ((upd (upd (sl_tp T ss z k) (4 * k + 3) ((sl_tp T ss z k) (4 * k + 2))) (4 * k + 2) ((upd (sl_tp T ss z k) (4 * k + 3) ((sl_tp T ss z k) (4 * k + 2))) (4 * k + 1))) (4 * k))) (a := k) (b := 0) z (by omega) (by omega)] at hG
                  refine lv_iinc (v := nI (k + 1)) (lv' := [(3, .int (nI (k + 1))), (4, .int 0), (0, .ref a), (1, .int ss), (2, .int z)]) hx hb dX3_push_52 hl (k := 4) rfl (nI_1 k) (by decide) rfl (fun ls hl => ?_)
                  refine lv_goto (tgt := 2) hx hb dX3_push_55 (by decide) ?_
                  rw [sl_up_up] at hG
                  rw [sl_push1 (T := T) (ss := ss) (z := z) c_12] at hG
                  exact ih_2 (k + 1) (by omega) (by omega) _ _ hG _ (lv_sub hl [2, 3, 4, 0] rfl)
                · exact absurd c_20 (by decide)
  rw [← sl_up_same ha] at hG
  exact loop_2 (4 + 1) 0 (by omega) (by omega) _ _ hG _ (lv_sub hl [1, 2, 3, 0] rfl)

