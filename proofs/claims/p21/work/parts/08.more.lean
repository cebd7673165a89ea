/-! more rows: places as numbers; truth as a number -/
def sl_bi (b : Bool) : Int32 := if b then 1 else 0
theorem sl_bF {b : Bool} (h : sl_bi b = 0) : b = false := by cases b; rfl; exact absurd h (by decide)
theorem sl_bT {b : Bool} (h : ¬ sl_bi b = 0) : b = true := by cases b; exact absurd rfl h; rfl
theorem sl_nb (b : Bool) : narrow .boolean (.int (sl_bi b)) = .int (sl_bi b) := by cases b <;> rfl
theorem sl_fb (b : Bool) : fits .boolean (.int (sl_bi b)) = true := by cases b <;> rfl
theorem sl_vb (b : Bool) : vp_nar .boolean (sl_bi b) = sl_bi b := by cases b <;> rfl
theorem sl_leI {a b : Int32} : a ≤ b ↔ a.toInt ≤ b.toInt := Int32.le_iff_toInt_le
theorem sl_ltI {a b : Int32} : a < b ↔ a.toInt < b.toInt := Int32.lt_iff_toInt_lt
theorem sl_i0 : (0 : Int32).toInt = 0 := rfl
theorem sl_i1 : (1 : Int32).toInt = 1 := rfl
theorem sl_i2 : (2 : Int32).toInt = 2 := rfl
theorem sl_i3 : (3 : Int32).toInt = 3 := rfl
theorem sl_i4 : (4 : Int32).toInt = 4 := rfl
theorem sl_i15 : (15 : Int32).toInt = 15 := by decide
theorem sl_i119 : (119 : Int32).toInt = 119 := by decide
theorem sl_i120 : (120 : Int32).toInt = 120 := by decide
theorem sl_i1000 : (1000 : Int32).toInt = 1000 := by decide
theorem sl_im1000 : (-1000 : Int32).toInt = -1000 := by decide
theorem sl_im1 : (-1 : Int32).toInt = -1 := by decide
theorem sl_im2 : (-2 : Int32).toInt = -2 := by decide
def sl_in (v lo hi : Int32) : Bool := decide (lo ≤ v) && decide (v ≤ hi)
theorem sl_in_t {v lo hi : Int32} (h1 : lo.toInt ≤ v.toInt) (h2 : v.toInt ≤ hi.toInt) : sl_in v lo hi = true := by simp [sl_in, sl_leI, h1, h2]
theorem sl_in_f {v lo hi : Int32} (h : v.toInt < lo.toInt ∨ hi.toInt < v.toInt) : sl_in v lo hi = false := by
  rw [sl_in, Bool.and_eq_false_iff, decide_eq_false_iff_not, decide_eq_false_iff_not, sl_leI, sl_leI]
  omega
theorem sl_in_iff {v lo hi : Int32} : sl_in v lo hi = true ↔ lo.toInt ≤ v.toInt ∧ v.toInt ≤ hi.toInt := by simp [sl_in, sl_leI]
theorem sl_in_iff' {v lo hi : Int32} : sl_in v lo hi = false ↔ v.toInt < lo.toInt ∨ hi.toInt < v.toInt := by
  cases h : sl_in v lo hi
  · refine ⟨fun _ => ?_, fun _ => rfl⟩
    by_cases h1 : lo.toInt ≤ v.toInt
    · by_cases h2 : v.toInt ≤ hi.toInt
      · rw [sl_in_t h1 h2] at h; cases h
      · omega
    · omega
  · rw [sl_in_iff] at h
    exact ⟨fun z => (by cases z), fun z => (by omega)⟩
theorem sl_nat {v : Int32} {n : Nat} (h1 : 0 ≤ v.toInt) (h2 : v.toInt ≤ n) (hn : n < 2 ^ 31) : ∃ j : Nat, j ≤ n ∧ v = nI j := by
  refine ⟨v.toInt.toNat, by omega, ?_⟩
  rw [← Int32.toInt_inj, nI_toInt (by omega)]
  omega
theorem sl_inN {v : Int32} {hi : Int32} {n : Nat} (h : sl_in v 0 hi = true) (hn : hi.toInt = n) (hn2 : n < 2 ^ 31) : ∃ j : Nat, j ≤ n ∧ v = nI j := by
  rw [sl_in_iff, sl_i0, hn] at h
  exact sl_nat h.1 h.2 hn2
theorem sl_nIin {j : Nat} {hi : Int32} {n : Nat} (hn : hi.toInt = n) (h : j ≤ n) (hn2 : n < 2 ^ 31) : sl_in (nI j) 0 hi = true := sl_in_t (by rw [nI_toInt (by omega), sl_i0]; omega) (by rw [nI_toInt (by omega), hn]; omega)
theorem sl_mul (a b : Nat) : nI a * nI b = nI (a * b) := pk_mul a b
theorem sl_up_same {g : sl_W} {k : Nat} {q : Nat × va_E} (h : g k = some q) : sl_up g k q = g := by
  funext j
  by_cases hj : j = k
  · rw [hj, sl_up_s, h]
  · exact sl_up_n g q hj
theorem sl_up_up (g : sl_W) (k : Nat) (p q : Nat × va_E) : sl_up (sl_up g k p) k q = sl_up g k q := by
  funext j
  by_cases hj : j = k
  · rw [hj, sl_up_s, sl_up_s]
  · rw [sl_up_n _ _ hj, sl_up_n _ _ hj, sl_up_n _ _ hj]
section SLM
variable {p : Program} {l : Launch} {e : Env} {R : Room} {s : State} {m : MethodId} {args : Array Value} {below : List Frame} {meth : Method} {c : Code} {H : Heap} {locs : List Loc} {cells slots : Nat} {Q : State → Prop}
variable {cc : ByteArray} {nL pc : Nat} {ls : Array Slot} {rest st0 : List Value} {Γ : sl_G} {own : String} {g : sl_W}
theorem sl_topi {x y : Int32} (h : x = y) (kk : W p l e R s m args below meth c H locs cells slots Q (F0 m pc ls (.int y :: rest))) : W p l e R s m args below meth c H locs cells slots Q (F0 m pc ls (.int x :: rest)) := by rw [h]; exact kk
theorem sl_ialdN (hC : sl_C Γ p s m meth c cc nL own) (hG : sl_I Γ g s H locs) (k : Nat) {a n : Nat} {f : Nat → Int32} (he : g k = some (a, .inl (Γ.2.1 0, n, .inl f))) {i : Int32} {j : Nat} (hi : i = nI j) (hj : j < n) (hn : n ≤ 65536) (hdg : decode cc pc = .ok (.iaload, 1))
    (kk : W p l e R s m args below meth c H locs cells slots Q (F0 m (pc + 1) ls (.int (f j) :: rest))) : W p l e R s m args below meth c H locs cells slots Q (F0 m pc ls (.int i :: .ref a :: rest)) := by
  subst hi
  refine sl_iald hC hG k he (vp_in_nI hj (by omega)) hdg ?_
  rw [nI_clamp (by omega)]
  exact kk
theorem sl_zaldN (hC : sl_C Γ p s m meth c cc nL own) (hG : sl_I Γ g s H locs) (k : Nat) {a n : Nat} {f : Nat → Int32} (he : g k = some (a, .inl (Γ.2.1 1, n, .inl f))) {i : Int32} {j : Nat} (hi : i = nI j) (hj : j < n) (hn : n ≤ 65536) (hdg : decode cc pc = .ok (.baload, 1))
    (kk : W p l e R s m args below meth c H locs cells slots Q (F0 m (pc + 1) ls (.int (f j) :: rest))) : W p l e R s m args below meth c H locs cells slots Q (F0 m pc ls (.int i :: .ref a :: rest)) := by
  subst hi
  refine sl_zald hC hG k he (vp_in_nI hj (by omega)) hdg ?_
  rw [nI_clamp (by omega)]
  exact kk
theorem sl_aldqN (hC : sl_C Γ p s m meth c cc nL own) (hG : sl_I Γ g s H locs) (k : Nat) {a n : Nat} {f : Nat → Option Nat} (he : g k = some (a, .inl (Γ.2.1 2, n, .inr (.inr (.inr (.inr f)))))) {i : Int32} {j : Nat} (hi : i = nI j) (hj : j < n) (hn : n ≤ 65536) (hdg : decode cc pc = .ok (.aaload, 1))
    (kk : W p l e R s m args below meth c H locs cells slots Q (F0 m (pc + 1) ls (va_rf (f j) :: rest))) : W p l e R s m args below meth c H locs cells slots Q (F0 m pc ls (.int i :: .ref a :: rest)) := by
  subst hi
  refine sl_aldq hC hG k he (vp_in_nI hj (by omega)) hdg ?_
  rw [nI_clamp (by omega)]
  exact kk
theorem sl_iastN (hC : sl_C Γ p s m meth c cc nL own) (hG : sl_I Γ g s H locs) (k : Nat) {a n : Nat} {f : Nat → Int32} (he : g k = some (a, .inl (Γ.2.1 0, n, .inl f))) {i : Int32} {j : Nat} {x : Int32} (hi : i = nI j) (hj : j < n) (hn : n ≤ 65536) (hdg : decode cc pc = .ok (.iastore, 1))
    (kk : ∀ (H1 : Heap) (locs1 : List Loc), sl_I Γ (sl_up g k (a, .inl (Γ.2.1 0, n, .inl (upd f j x)))) s H1 locs1 → W p l e R s m args below meth c H1 locs1 cells slots Q (F0 m (pc + 1) ls rest)) : W p l e R s m args below meth c H locs cells slots Q (F0 m pc ls (.int x :: .int i :: .ref a :: rest)) := by
  subst hi
  refine sl_iast hC hG k he (vp_in_nI hj (by omega)) hdg ?_
  rw [nI_clamp (by omega)]
  exact kk
theorem sl_zastN (hC : sl_C Γ p s m meth c cc nL own) (hG : sl_I Γ g s H locs) (k : Nat) {a n : Nat} {f : Nat → Int32} (he : g k = some (a, .inl (Γ.2.1 1, n, .inl f))) {i : Int32} {j : Nat} {x : Int32} (hx : vp_nar .boolean x = x) (hi : i = nI j) (hj : j < n) (hn : n ≤ 65536) (hdg : decode cc pc = .ok (.bastore, 1))
    (kk : ∀ (H1 : Heap) (locs1 : List Loc), sl_I Γ (sl_up g k (a, .inl (Γ.2.1 1, n, .inl (upd f j x)))) s H1 locs1 → W p l e R s m args below meth c H1 locs1 cells slots Q (F0 m (pc + 1) ls rest)) : W p l e R s m args below meth c H locs cells slots Q (F0 m pc ls (.int x :: .int i :: .ref a :: rest)) := by
  subst hi
  refine sl_zast hC hG k he hx (vp_in_nI hj (by omega)) hdg ?_
  rw [nI_clamp (by omega)]
  exact kk
theorem sl_astqN (hC : sl_C Γ p s m meth c cc nL own) (hG : sl_I Γ g s H locs) (k k2 : Nat) {a n v : Nat} {vs : List Value} {f : Nat → Option Nat} (he : g k = some (a, .inl (Γ.2.1 2, n, .inr (.inr (.inr (.inr f)))))) (hv : g k2 = some (v, .inr (1, vs))) {i : Int32} {j : Nat} (hi : i = nI j) (hj : j < n) (hn : n ≤ 65536) (hdg : decode cc pc = .ok (.aastore, 1))
    (kk : ∀ (H1 : Heap) (locs1 : List Loc), sl_I Γ (sl_up g k (a, .inl (Γ.2.1 2, n, .inr (.inr (.inr (.inr (va_up f j (some v)))))))) s H1 locs1 → W p l e R s m args below meth c H1 locs1 cells slots Q (F0 m (pc + 1) ls rest)) : W p l e R s m args below meth c H locs cells slots Q (F0 m pc ls (.ref v :: .int i :: .ref a :: rest)) := by
  subst hi
  refine sl_astq hC hG k k2 he hv (vp_in_nI hj (by omega)) hdg ?_
  rw [nI_clamp (by omega)]
  exact kk
end SLM
theorem sl_f0 : ∀ j, j < 1 → defaultValue (tyX0 j) = vp_V [.null] j := fun j hj => by rcases (show j = 0 by omega) with rfl <;> rfl
theorem sl_f1 : ∀ j, j < 8 → defaultValue (tyX1 j) = vp_V [.int 0, .int 0, .int 0, .int 0, .int 0, .int 0, .null, .int 0] j := fun j hj => by rcases (show j = 0 ∨ j = 1 ∨ j = 2 ∨ j = 3 ∨ j = 4 ∨ j = 5 ∨ j = 6 ∨ j = 7 by omega) with rfl | rfl | rfl | rfl | rfl | rfl | rfl | rfl <;> rfl
theorem sl_f2 : ∀ j, j < 3 → defaultValue (tyX2 j) = vp_V [.null, .null, .int 0] j := fun j hj => by rcases (show j = 0 ∨ j = 1 ∨ j = 2 by omega) with rfl | rfl | rfl <;> rfl
theorem sl_f3 : ∀ j, j < 1 → defaultValue (tyX3 j) = vp_V [.null] j := fun j hj => by rcases (show j = 0 by omega) with rfl <;> rfl
theorem sl_f4 : ∀ j, j < 8 → defaultValue (tyX4 j) = vp_V [.null, .null, .null, .null, .int 0, .int 0, .int 0, .int 0] j := fun j hj => by rcases (show j = 0 ∨ j = 1 ∨ j = 2 ∨ j = 3 ∨ j = 4 ∨ j = 5 ∨ j = 6 ∨ j = 7 by omega) with rfl | rfl | rfl | rfl | rfl | rfl | rfl | rfl <;> rfl
