/-! plain facts of the state -/
/-! the reference's state -/
/-- what is sure of the numbers: cells hold -2, -1 or a token; positions, versions, steps, pointers lie where they lie -/
def sl_wf (n tl : Nat) (C : Nat → Int32) (E : Nat → sl_Ent) : Prop :=
  n ≤ 150 ∧ tl ≤ 120 ∧ (∀ i, i < 360 → C i = -1 ∨ C i = -2 ∨ ∃ t, t < n ∧ C i = nI t) ∧
  (∀ t, t < n → (∃ q, q < 120 ∧ (E t).1 = nI q) ∧ (∃ v, v ≤ 120 ∧ (E t).2.2.2.2.2.1 = nI v) ∧ ((E t).2.2.2.2.2.2.2 = -1 ∨ ∃ k, k ≤ 3 ∧ (E t).2.2.2.2.2.2.2 = nI k) ∧ 0 ≤ (E t).2.2.2.2.1.toInt ∧ (E t).2.2.2.2.1.toInt ≤ 15) ∧ ∀ i, n ≤ i → (E i).2.2.2.2.2.2.2 = 0
theorem sl_tok_ex {n : Nat} {x : Int32} (hn : n ≤ 150) (h : (sl_tok n x).isSome = true) : ∃ t, t < n ∧ x = nI t ∧ sl_tok n x = some t := by
  rcases sl_opt (sl_tok n x) with e | ⟨t, e⟩
  · rw [e] at h; cases h
  · exact ⟨t, sl_tok_lt e, sl_tok_eq hn e, e⟩
theorem sl_tok_in {n : Nat} {x : Int32} (hn : n ≤ 150) : sl_in x 0 (nI n - 1) = (sl_tok n x).isSome := by
  have e : (nI n - 1).toInt = (n : Int) - 1 := by
    cases n with
    | zero => rfl
    | succ n => rw [nI_pred, nI_toInt (by omega)]; omega
  by_cases h : 0 ≤ x.toInt ∧ x.toInt < n
  · rw [sl_in_t (by rw [sl_i0]; exact h.1) (by rw [e]; omega), sl_tok, if_pos h]; rfl
  · rw [sl_in_f (by rw [sl_i0, e]; omega), sl_tok, if_neg h]; rfl
theorem sl_ch_eq {lo : Bool} {tl n : Nat} (ht : tl ≤ 120) (hn : n ≤ 150) : (lo || decide (tl = 120) || decide (n = 150)) = sl_ch lo tl n := by
  rw [sl_ch, decide_eq_decide.mpr (by omega : tl = 120 ↔ 120 ≤ tl), decide_eq_decide.mpr (by omega : n = 150 ↔ 150 ≤ n)]
/-- a cell names an entry with the stream -/
def sl_hc (n : Nat) (E : Nat → sl_Ent) (z x : Int32) : Bool := match sl_tok n z with
  | none => false
  | some t => sl_has (E t).2.2.1 x
theorem sl_hc_0 {n : Nat} {E : Nat → sl_Ent} {z x : Int32} (h : sl_tok n z = none) : sl_hc n E z x = false := by rw [sl_hc, h]
theorem sl_hc_1 {n t : Nat} {E : Nat → sl_Ent} {z x : Int32} (h : sl_tok n z = some t) : sl_hc n E z x = sl_has (E t).2.2.1 x := by rw [sl_hc, h]
theorem sl_ge0 {z : Int32} : ¬ z < 0 ↔ 0 ≤ z.toInt := by rw [sl_ltI, sl_i0]; omega
/-- a cell: junk, empty, or a token -/
def sl_ce (n : Nat) (z : Int32) : Prop := z = -1 ∨ z = -2 ∨ ∃ t, t < n ∧ z = nI t
theorem sl_ce_neg {n : Nat} {z : Int32} (hn : n ≤ 150) (h : sl_ce n z) (hz : z < 0) : sl_tok n z = none := sl_tok_neg (by rw [sl_ltI, sl_i0] at hz; exact hz)
theorem sl_ce_pos {n : Nat} {z : Int32} (hn : n ≤ 150) (h : sl_ce n z) (hz : ¬ z < 0) : ∃ t, t < n ∧ z = nI t ∧ sl_tok n z = some t := by
  rcases h with e | e | ⟨t, ht, e⟩
  · exact absurd (by rw [e]; decide) hz
  · exact absurd (by rw [e]; decide) hz
  · exact ⟨t, ht, e, by rw [e]; exact sl_tokN ht hn⟩
theorem sl_tok_isS {n : Nat} {z : Int32} (hn : n ≤ 150) (h : sl_ce n z) : (sl_tok n z).isSome = !decide (z < 0) := by
  by_cases hz : z < 0
  · rw [sl_ce_neg hn h hz, decide_eq_true hz]; rfl
  · obtain ⟨t, -, -, e⟩ := sl_ce_pos hn h hz
    rw [e, decide_eq_false hz]; rfl
/-! the reference's calls: the simple ones, and handing out -/
theorem sl_up_mid2 (g : sl_W) {a b : Nat} (x y z : Nat × va_E) (h : a ≠ b) : sl_up (sl_up (sl_up g a x) b y) a z = sl_up (sl_up g a z) b y := by
  rw [sl_up_mid, sl_up_comm g y z (Ne.symm h)]
/-- the pointers' row while a token's are laid -/
def sl_pn (Q : Nat → Int32) (n : Nat) (X : Nat → Int32) (k : Nat) : Nat → Int32 := fun j => if 16 * n ≤ j ∧ j < 16 * n + 4 * k then X (j - 16 * n) else Q j
theorem sl_pn_0 (Q : Nat → Int32) (n : Nat) (X : Nat → Int32) : Q = sl_pn Q n X 0 := by
  funext j
  rw [sl_pn, if_neg (by omega)]
theorem sl_pn_4 {Q X : Nat → Int32} {n k : Nat} {x0 x1 x2 x3 : Int32} (h0 : x0 = X (4 * k + 0)) (h1 : x1 = X (4 * k + 1)) (h2 : x2 = X (4 * k + 2)) (h3 : x3 = X (4 * k + 3)) : upd (upd (upd (upd (sl_pn Q n X k) (16 * n + 4 * k + 0) x0) (16 * n + 4 * k + 1) x1) (16 * n + 4 * k + 2) x2) (16 * n + 4 * k + 3) x3 = sl_pn Q n X (k + 1) := by
  subst h0 h1 h2 h3
  funext j
  by_cases e3 : j = 16 * n + 4 * k + 3
  · subst e3; rw [pk_us, sl_pn, if_pos (by omega)]; congr 1; omega
  · rw [pk_un e3]
    by_cases e2 : j = 16 * n + 4 * k + 2
    · subst e2; rw [pk_us, sl_pn, if_pos (by omega)]; congr 1; omega
    · rw [pk_un e2]
      by_cases e1 : j = 16 * n + 4 * k + 1
      · subst e1; rw [pk_us, sl_pn, if_pos (by omega)]; congr 1; omega
      · rw [pk_un e1]
        by_cases e0 : j = 16 * n + 4 * k + 0
        · subst e0; rw [pk_us, sl_pn, if_pos (by omega)]; congr 1; omega
        · rw [pk_un e0, sl_pn, sl_pn]
          by_cases h : 16 * n ≤ j ∧ j < 16 * n + 4 * k
          · rw [if_pos h, if_pos (by omega)]
          · rw [if_neg h, if_neg (by omega)]
theorem sl_tp_keep (T : Nat → Int32) (ss z : Int32) : ∀ (k j : Nat), 4 * k ≤ j → sl_tp T ss z k j = T j
  | 0, j, _ => rfl
  | k + 1, j, h => by
    rw [sl_tp]
    split
    · rw [sl_t1, pk_un (by omega), pk_un (by omega), pk_un (by omega), pk_un (by omega)]
      exact sl_tp_keep T ss z k j (by omega)
    · exact sl_tp_keep T ss z k j (by omega)
theorem sl_tc_in {T : Nat → Int32} {ss : Int32} {k i : Nat} (hk : k < 4) (hi : i < 4) : sl_tc T ss 4 (4 * k + i) = if sl_has ss (nI k) = true then T (4 * k + i) else -1 := by
  rw [sl_tc, show (4 * k + i) / 4 = k by omega]
  by_cases h : sl_has ss (nI k) = true
  · rw [if_pos ⟨by omega, h⟩, if_pos h]
  · rw [if_neg (fun w => h w.2), if_neg h]
theorem sl_pn_y {T : Nat → Int32} {ss z : Int32} {k i : Nat} (hk : k < 4) (hi : i < 4) (h : ss >>> (nI k &&& 31) &&& 1 = 1) : sl_tp T ss z k (4 * k + i) = sl_tc T ss 4 (4 * k + i) := by
  rw [sl_tc_in hk hi, if_pos (by rw [sl_has]; exact decide_eq_true h), sl_tp_keep T ss z k _ (by omega)]
theorem sl_pn_n {T : Nat → Int32} {ss : Int32} {k i : Nat} (hk : k < 4) (hi : i < 4) (h : ¬ ss >>> (nI k &&& 31) &&& 1 = 1) : -1 = sl_tc T ss 4 (4 * k + i) := by
  rw [sl_tc_in hk hi, if_neg (by rw [sl_has, decide_eq_false h]; decide)]
theorem sl_tp_y {T : Nat → Int32} {ss z : Int32} {k : Nat} (h : ss >>> (nI k &&& 31) &&& 1 = 1) : sl_t1 (sl_tp T ss z k) k z = sl_tp T ss z (k + 1) := by
  rw [sl_tp, if_pos (by rw [sl_has]; exact decide_eq_true h)]
theorem sl_tp_n {T : Nat → Int32} {ss z : Int32} {k : Nat} (h : ¬ ss >>> (nI k &&& 31) &&& 1 = 1) : sl_tp T ss z k = sl_tp T ss z (k + 1) := by
  rw [sl_tp, if_neg (by rw [sl_has, decide_eq_false h]; decide)]
theorem sl_updE (E : Nat → sl_Ent) (n : Nat) (x : sl_Ent) (f : sl_Ent → Int32) : upd (fun i => f (E i)) n (f x) = fun i => f (sl_eu E n x i) := by
  funext i
  by_cases e : i = n
  · subst e; rw [pk_us, sl_eu, if_pos rfl]
  · rw [pk_un e, sl_eu, if_neg e]
theorem sl_updP (E : Nat → sl_Ent) (n : Nat) (x : sl_Ent) : sl_pn (fun j => (E (j / 16)).2.2.2.2.2.2.1 (j % 16)) n x.2.2.2.2.2.2.1 4 = fun j => (sl_eu E n x (j / 16)).2.2.2.2.2.2.1 (j % 16) := by
  funext j
  rw [sl_pn, sl_eu]
  by_cases h : 16 * n ≤ j ∧ j < 16 * n + 4 * 4
  · rw [if_pos h, if_pos (by omega), show j - 16 * n = j % 16 by omega]
  · rw [if_neg h, if_neg (by omega)]
theorem sl_ptr (t a b : Nat) (ha : a < 4) (hb : b < 4) (E : Nat → sl_Ent) : sl_tg (E t).2.2.2.2.2.2.1 (nI a) (nI b) = (E ((16 * t + 4 * a + b) / 16)).2.2.2.2.2.2.1 ((16 * t + 4 * a + b) % 16) := by
  rw [sl_tgN _ ha hb, show (16 * t + 4 * a + b) / 16 = t by omega, show (16 * t + 4 * a + b) % 16 = 4 * a + b by omega]
theorem sl_ch_f {lo : Bool} {tl n : Nat} (h : sl_ch lo tl n = false) : lo = false ∧ tl < 120 ∧ n < 150 := by
  rw [sl_ch, Bool.or_eq_false_iff, Bool.or_eq_false_iff, decide_eq_false_iff_not, decide_eq_false_iff_not] at h
  exact ⟨h.1.1, by omega, by omega⟩
/-! the reference's calls: take, takeIf, write, fill, latest -/
theorem sl_upd_id (f : Nat → Int32) (k : Nat) : upd f k (f k) = f := by
  funext j
  by_cases e : j = k
  · rw [e, pk_us]
  · rw [pk_un e]
theorem sl_hc_hs (n : Nat) (C : Nat → Int32) (E : Nat → sl_Ent) (x : Int32) (q : Nat) : sl_hc n E (C q) x = sl_hs n C E x q := by
  rcases sl_opt (sl_tok n (C q)) with h | ⟨t, h⟩
  · rw [sl_hc_0 h, sl_hs_0 h]
  · rw [sl_hc_1 h, sl_hs_1 h]
theorem sl_ch_lo {lo : Bool} {tl n : Nat} (h : lo = true) : sl_ch lo tl n = true := by rw [sl_ch, h]; rfl
theorem sl_es_ne {E : Nat → sl_Ent} {t i : Nat} {v : Int32} (h : i ≠ t) : sl_es E t v i = E i := if_neg h
theorem sl_es_at (E : Nat → sl_Ent) (t : Nat) (v : Int32) : sl_es E t v t = ((E t).1, (E t).2.1, (E t).2.2.1, (E t).2.2.2.1, (E t).2.2.2.2.1, (E t).2.2.2.2.2.1, (E t).2.2.2.2.2.2.1, v) := if_pos rfl
theorem sl_es_f {α : Type} (E : Nat → sl_Ent) (t : Nat) (v : Int32) (f : sl_Ent → α) (hf : ∀ x1 x2 x3 x4 x5 x6 x7 x8 y, f (x1, x2, x3, x4, x5, x6, x7, x8) = f (x1, x2, x3, x4, x5, x6, x7, y)) (i : Nat) : f (E i) = f (sl_es E t v i) := by
  by_cases e : i = t
  · subst e
    rw [sl_es_at]
    exact hf _ _ _ _ _ _ _ _ _
  · rw [sl_es_ne e]
def sl_mf (C : Nat → Int32) (b : Nat) (v : Int32) : Nat → Int32 := upd (upd (upd C b v) (120 + b) v) (240 + b) v
theorem sl_ce_upd {n : Nat} {C : Nat → Int32} {k : Nat} {v : Int32} (h : ∀ i, i < 360 → sl_ce n (C i)) (hv : sl_ce n v) : ∀ i, i < 360 → sl_ce n (upd C k v i) := by
  intro i hi
  by_cases e : i = k
  · rw [e, pk_us]; exact hv
  · rw [pk_un e]; exact h i hi
/-- what the reference writes is what the class writes -/
theorem sl_cp_eq (C : Nat → Int32) {a b : Nat} (ha : a < 3) (hb : b < 120) (x : Int32) : (if sl_cg C (nI a) (nI b) = -1 then C else sl_cp C (nI a) (nI b) x) = upd C (120 * a + b) (if C (120 * a + b) = -2 then x else C (120 * a + b)) := by
  rw [sl_cgN C ha hb, sl_cpN C x ha hb]
  by_cases h1 : C (120 * a + b) = -1
  · rw [if_pos h1, if_neg (by rw [h1]; decide), sl_upd_id]
  · rw [if_neg h1]
    by_cases h2 : C (120 * a + b) = -2
    · rw [if_pos h2, if_pos h2]
    · rw [if_neg h2, if_neg h2, sl_upd_id]
theorem sl_hv {ver : Int32} {tl : Nat} (h : sl_in ver 0 (nI tl) = true) (ht : tl ≤ 120) : ∃ v, v ≤ 120 ∧ ver = nI v := by
  obtain ⟨v, h1, h2⟩ := sl_inN (n := tl) h (nI_toInt (by omega)) (by omega)
  exact ⟨v, by omega, h2⟩
/-! the reference's calls: latest, seal -/
theorem sl_and2 {a b : Bool} (h : (a && b) = true) : b = true := by cases a <;> cases b <;> simp_all
theorem sl_and1 {a b : Bool} (h : (a && b) = true) : a = true := by cases a <;> cases b <;> simp_all
theorem sl_cwz (C : Nat → Int32) (b : Nat) : sl_cw C b 3 = 0 ↔ C b = -2 ∧ C (120 + b) = -2 ∧ C (240 + b) = -2 := by
  have e : sl_cw C b 3 = 0 + (if C (120 * 0 + b) = -2 then 0 else 1) + (if C (120 * 1 + b) = -2 then 0 else 1) + (if C (120 * 2 + b) = -2 then 0 else 1) := rfl
  rw [e, show 120 * 0 + b = b by omega, show 120 * 1 + b = 120 + b by omega, show 120 * 2 + b = 240 + b by omega]
  by_cases h1 : C b = -2 <;> by_cases h2 : C (120 + b) = -2 <;> by_cases h3 : C (240 + b) = -2 <;> simp [h1, h2, h3]
/-- the reference's row of the latest places, made anew: at a position, for the first so many streams -/
def sl_sP (n : Nat) (C : Nat → Int32) (E : Nat → sl_Ent) (b j : Nat) : Nat → Int32 := match sl_tok n (C b) with
  | none => sl_sT n C E b
  | some t => sl_tp (sl_sT n C E b) (E t).2.2.1 (nI b) j
theorem sl_sP_0 (n : Nat) (C : Nat → Int32) (E : Nat → sl_Ent) (b : Nat) : sl_sT n C E b = sl_sP n C E b 0 := by
  rw [sl_sP]
  split <;> rfl
theorem sl_sP_4 (n : Nat) (C : Nat → Int32) (E : Nat → sl_Ent) (b : Nat) : sl_sP n C E b 4 = sl_sT n C E (b + 1) := by
  rcases sl_opt (sl_tok n (C b)) with e | ⟨t, e⟩
  · simp only [sl_sP, sl_sT, e]
  · simp only [sl_sP, sl_sT, e]
theorem sl_sP_t {n : Nat} {C : Nat → Int32} {E : Nat → sl_Ent} {b j : Nat} (h : sl_hc n E (C b) (nI j) = true) : sl_t1 (sl_sP n C E b j) j (nI b) = sl_sP n C E b (j + 1) := by
  rcases sl_opt (sl_tok n (C b)) with e | ⟨t, e⟩
  · rw [sl_hc_0 e] at h; cases h
  · rw [sl_hc_1 e] at h
    simp only [sl_sP, e]
    rw [sl_tp, if_pos h]
theorem sl_sP_f {n : Nat} {C : Nat → Int32} {E : Nat → sl_Ent} {b j : Nat} (h : sl_hc n E (C b) (nI j) = false) : sl_sP n C E b j = sl_sP n C E b (j + 1) := by
  rcases sl_opt (sl_tok n (C b)) with e | ⟨t, e⟩
  · simp only [sl_sP, e]
  · rw [sl_hc_1 e] at h
    simp only [sl_sP, e]
    rw [sl_tp, if_neg (by rw [h]; decide)]
theorem sl_nn {p : Prop} (h : ¬ ¬ p) : p := Classical.byContradiction h
/-! the reference's fold -/
theorem sl_has_and : ∀ a, a < 16 → ∀ b, b < 16 → (¬ (nI a &&& nI b = 0) ↔ ∃ s, s < 4 ∧ sl_has (nI a) (nI s) = true ∧ sl_has (nI b) (nI s) = true) := by decide +kernel
/-- the sets of the tokens are sets -/
def sl_ST (n : Nat) (E : Nat → sl_Ent) : Prop := ∀ t, t < n → ∃ a, a < 16 ∧ (E t).2.2.1 = nI a
/-- an entry at a position shares a stream with those read -/
def sl_is (n : Nat) (C : Nat → Int32) (E : Nat → sl_Ent) (rd : Int32) (q : Nat) : Bool := match sl_tok n (C q) with
  | none => false
  | some t => decide (¬ ((E t).2.2.1 &&& rd = 0))
theorem sl_is_1 {n t : Nat} {C : Nat → Int32} {E : Nat → sl_Ent} {rd : Int32} {q : Nat} (h : sl_tok n (C q) = some t) : sl_is n C E rd q = decide (¬ ((E t).2.2.1 &&& rd = 0)) := by rw [sl_is, h]
/-- nothing that took effect, from v on and ahead of q, shares a stream with those read -/
def sl_iq (n : Nat) (C : Nat → Int32) (E : Nat → sl_Ent) (rd : Int32) (v : Nat) : Nat → Bool
  | 0 => true
  | q + 1 => sl_iq n C E rd v q && !(decide (v ≤ q) && sl_ev n C E q && sl_is n C E rd q)
theorem sl_iq_v (n : Nat) (C : Nat → Int32) (E : Nat → sl_Ent) (rd : Int32) (v : Nat) : ∀ q, q ≤ v → sl_iq n C E rd v q = true
  | 0, _ => rfl
  | q + 1, h => by rw [sl_iq, sl_iq_v n C E rd v q (by omega), decide_eq_false (by omega)]; rfl
theorem sl_iq_iff (n : Nat) (C : Nat → Int32) (E : Nat → sl_Ent) (rd : Int32) (v : Nat) : ∀ k, sl_iq n C E rd v k = true ↔ ∀ q, q < k → v ≤ q → sl_ev n C E q = true → sl_is n C E rd q = false
  | 0 => ⟨fun _ q h => absurd h (Nat.not_lt_zero q), fun _ => rfl⟩
  | k + 1 => by
    rw [sl_iq, Bool.and_eq_true, sl_iq_iff n C E rd v k]
    constructor
    · intro ⟨h1, h2⟩ q hq hv he
      by_cases e : q = k
      · subst e
        rw [decide_eq_true hv, he] at h2
        cases hs : sl_is n C E rd q
        · rfl
        · rw [hs] at h2; cases h2
      · exact h1 q (by omega) hv he
    · intro h
      refine ⟨fun q hq => h q (by omega), ?_⟩
      by_cases hv : v ≤ k
      · cases he : sl_ev n C E k
        · rw [decide_eq_true hv]; rfl
        · rw [decide_eq_true hv, h k (by omega) hv he]; rfl
      · rw [decide_eq_false hv]; rfl
theorem sl_nIlt {a b : Nat} (ha : a < 2 ^ 31) (hb : b < 2 ^ 31) : nI a < nI b ↔ a < b := nI_ltI ha hb
theorem sl_fX_lt {n : Nat} {C : Nat → Int32} {E : Nat → sl_Ent} {v s : Nat} (hv : v ≤ 120) (hs : s < 4) : ∀ k, k ≤ 120 → (sl_fX n C E k s < nI v ↔ ∀ q, q < k → v ≤ q → sl_ev n C E q = true → sl_hs n C E (nI s) q = false)
  | 0, _ => by
    refine ⟨fun _ q h => absurd h (Nat.not_lt_zero q), fun _ => ?_⟩
    show (-1 : Int32) < nI v
    rw [sl_ltI, nI_toInt (by omega), show (-1 : Int32).toInt = -1 from rfl]; omega
  | k + 1, hk => by
    have ih := sl_fX_lt (n := n) (C := C) (E := E) hv hs k (by omega)
    have old : sl_fX n C E (k + 1) s = sl_fX n C E k s → (v ≤ k → sl_ev n C E k = true → sl_hs n C E (nI s) k = false) → (sl_fX n C E (k + 1) s < nI v ↔ ∀ q, q < k + 1 → v ≤ q → sl_ev n C E q = true → sl_hs n C E (nI s) q = false) := by
      intro e h0
      rw [e, ih]
      constructor
      · intro h q hq
        by_cases e : q = k
        · subst e; exact h0
        · exact h q (by omega)
      · intro h q hq; exact h q (by omega)
    rcases sl_opt (sl_tok n (C k)) with e | ⟨t, e⟩
    · exact old (by rw [sl_fX_0 e]) (fun _ h => by rw [sl_ev_0 e] at h; cases h)
    · cases hu : sl_un (sl_fX n C E k) (E t).2.2.2.2.1 (E t).2.2.2.2.2.1 4
      · exact old (by rw [sl_fX_1 e, if_neg (by rw [hu]; decide)]) (fun _ h => by rw [sl_ev_1 e, hu] at h; cases h)
      · cases hh : sl_has (E t).2.2.1 (nI s)
        · exact old (by rw [sl_fX_1 e, if_pos hu, sl_nc, if_neg (by rw [hh]; simp)]) (fun _ _ => by rw [sl_hs_1 e, hh])
        · have e1 : sl_fX n C E (k + 1) s = nI k := by rw [sl_fX_1 e, if_pos hu, sl_nc, if_pos ⟨hs, hh⟩]
          rw [e1, sl_nIlt (by omega) (by omega)]
          constructor
          · intro h q hq hv2; exact absurd hv2 (by omega)
          · intro h
            have hv3 : ¬ v ≤ k := fun hv3 => by
              have := h k (by omega) hv3 (by rw [sl_ev_1 e, hu])
              rw [sl_hs_1 e, hh] at this; cases this
            omega
theorem sl_un_iff (X : Nat → Int32) (ss ver : Int32) : ∀ k, sl_un X ss ver k = true ↔ ∀ s, s < k → sl_has ss (nI s) = true → X s < ver
  | 0 => ⟨fun _ s h => absurd h (Nat.not_lt_zero s), fun _ => rfl⟩
  | k + 1 => by
    rw [sl_un, Bool.and_eq_true, sl_un_iff X ss ver k, Bool.or_eq_true, decide_eq_true_iff]
    constructor
    · intro ⟨h1, h2⟩ s hs hh
      by_cases e : s = k
      · subst e
        rcases h2 with h2 | h2
        · rw [hh] at h2; cases h2
        · exact h2
      · exact h1 s (by omega) hh
    · intro h
      refine ⟨fun s hs => h s (by omega), ?_⟩
      cases hh : sl_has ss (nI k)
      · exact Or.inl rfl
      · exact Or.inr (h k (by omega) hh)
theorem sl_ev_iq {n t v k : Nat} {C : Nat → Int32} {E : Nat → sl_Ent} (hST : sl_ST n E) (hk : k ≤ 120) (htok : sl_tok n (C k) = some t) (hr1 : 0 ≤ (E t).2.2.2.2.1.toInt) (hr2 : (E t).2.2.2.2.1.toInt ≤ 15) (hv : v ≤ 120) (ev : (E t).2.2.2.2.2.1 = nI v) : sl_ev n C E k = sl_iq n C E (E t).2.2.2.2.1 v k := by
  obtain ⟨r, hr, er⟩ := sl_nat (v := (E t).2.2.2.2.1) (n := 15) hr1 (by omega) (by omega)
  rw [Bool.eq_iff_iff, sl_ev_1 htok, sl_un_iff, sl_iq_iff, er, ev]
  constructor
  · intro h q hq hvq he
    rcases sl_opt (sl_tok n (C q)) with e | ⟨t2, e⟩
    · rw [sl_ev_0 e] at he; cases he
    · obtain ⟨a, ha, ea⟩ := hST t2 (sl_tok_lt e)
      rw [sl_is_1 e, decide_eq_false_iff_not, ea, sl_has_and a ha r (by omega)]
      rintro ⟨s, hs, h1, h2⟩
      have h3 := (sl_fX_lt hv hs k hk).mp (h s hs h2) q hq hvq he
      rw [sl_hs_1 e, ea, h1] at h3; cases h3
  · intro h s hs hh
    rw [sl_fX_lt hv hs k hk]
    intro q hq hvq he
    have h3 := h q hq hvq he
    rcases sl_opt (sl_tok n (C q)) with e | ⟨t2, e⟩
    · rw [sl_ev_0 e] at he; cases he
    · obtain ⟨a, ha, ea⟩ := hST t2 (sl_tok_lt e)
      rw [sl_is_1 e, decide_eq_false_iff_not, ea, sl_has_and a ha r (by omega)] at h3
      rw [sl_hs_1 e, ea]
      cases h4 : sl_has (nI a) (nI s)
      · rfl
      · exact absurd ⟨s, hs, h4, hh⟩ h3
theorem sl_ev_rd {n t k : Nat} {C : Nat → Int32} {E : Nat → sl_Ent} (htok : sl_tok n (C k) = some t) (hr : (E t).2.2.2.2.1 = 0) : sl_ev n C E k = true := by
  rw [sl_ev_1 htok, sl_un_iff, hr]
  intro s hs hh
  exact absurd hh (by rcases (by omega : s = 0 ∨ s = 1 ∨ s = 2 ∨ s = 3) with e | e | e | e <;> subst e <;> decide)
theorem sl_le0 {z : Int32} (h : z ≤ 0) (h1 : 0 ≤ z.toInt) : z = 0 := by
  rw [sl_leI, sl_i0] at h
  exact Int32.toInt_inj.mp (by rw [sl_i0]; omega)
theorem sl_ev_tok {n q : Nat} {C : Nat → Int32} {E : Nat → sl_Ent} (hn : n ≤ 150) (h : sl_ev n C E q = true) : ∃ t, t < n ∧ C q = nI t ∧ sl_tok n (C q) = some t := by
  rcases sl_opt (sl_tok n (C q)) with e | ⟨t, e⟩
  · rw [sl_ev_0 e] at h; cases h
  · exact ⟨t, sl_tok_lt e, sl_tok_eq hn e, e⟩
theorem sl_iq_s {n q v : Nat} {C : Nat → Int32} {E : Nat → sl_Ent} {rd : Int32} {b : Bool} (hv : v ≤ q) (h : (sl_iq n C E rd v q && !(sl_ev n C E q && sl_is n C E rd q)) = b) : sl_bi b = sl_bi (sl_iq n C E rd v (q + 1)) := by
  rw [sl_iq, decide_eq_true hv, Bool.true_and, h]
theorem sl_fw {n k : Nat} {C : Nat → Int32} {E : Nat → sl_Ent} {F : Nat → Int32} (h1 : ∀ q, q < k → F q = sl_bi (sl_ev n C E q)) (h2 : F k = sl_bi (sl_ev n C E k)) : ∀ q, q < k + 1 → F q = sl_bi (sl_ev n C E q) := by
  intro q hq
  by_cases e : q = k
  · rw [e]; exact h2
  · exact h1 q (by omega)
theorem sl_fu {n k : Nat} {C : Nat → Int32} {E : Nat → sl_Ent} {F : Nat → Int32} {z : Int32} (h1 : ∀ q, q < k → F q = sl_bi (sl_ev n C E q)) (h2 : z = sl_bi (sl_ev n C E k)) : ∀ q, q < k + 1 → upd F k z q = sl_bi (sl_ev n C E q) := sl_fw (fun q hq => (pk_un (by omega)).trans (h1 q hq)) (pk_us.trans h2)
theorem sl_iq_x {n q k v : Nat} {C : Nat → Int32} {E : Nat → sl_Ent} {rd : Int32} (h : k ≤ q) (hv : v ≤ q) (hq : q ≤ v ∨ q ≤ k) : sl_iq n C E rd v q = sl_iq n C E rd v k := by
  by_cases e : q = k
  · rw [e]
  · rw [sl_iq_v _ _ _ _ _ q (by omega), sl_iq_v _ _ _ _ _ k (by omega)]
theorem sl_vs_0 {n k : Nat} {C : Nat → Int32} {E : Nat → sl_Ent} {x : Int32} (h : sl_ev n C E k = false) : sl_vs n C E x k + 0 = sl_vs n C E x (k + 1) := by
  rw [sl_vs, Int32.add_zero]
  split
  · rcases sl_opt (sl_tok n (C k)) with e | ⟨t, e⟩
    · rw [sl_am_0 e, Int32.add_zero]
    · rw [sl_am_1 e, if_neg (by rw [h]; decide), Int32.add_zero]
  · rfl
theorem sl_vs_n {n k : Nat} {C : Nat → Int32} {E : Nat → sl_Ent} {x : Int32} (h : sl_hc n E (C k) x = false) : sl_vs n C E x k + 0 = sl_vs n C E x (k + 1) := by
  rw [sl_vs, Int32.add_zero, if_neg (by rw [← sl_hc_hs, h]; decide)]
theorem sl_vs_1 {n k t : Nat} {C : Nat → Int32} {E : Nat → sl_Ent} {x : Int32} (e : sl_tok n (C k) = some t) (h : sl_ev n C E k = true) (h2 : sl_hc n E (C k) x = true) : sl_vs n C E x k + (E t).2.2.2.1 = sl_vs n C E x (k + 1) := by
  rw [sl_vs, if_pos (by rw [← sl_hc_hs]; exact h2), sl_am_1 e, if_pos h]
theorem sl_kin {x : Int32} {k : Nat} (hk : k ≤ 120) (h : sl_in x 0 (nI k - 1) = true) : ∃ b, b < k ∧ x = nI b := by
  cases k with
  | zero =>
    have h1 := sl_in_iff.mp h
    rw [sl_i0, show (nI 0 - 1 : Int32).toInt = -1 from rfl] at h1
    omega
  | succ k =>
    rw [nI_pred] at h
    obtain ⟨b, h1, h2⟩ := sl_inN (n := k) h (nI_toInt (by omega)) (by omega)
    exact ⟨b, by omega, h2⟩
theorem sl_kin0 {x : Int32} {k : Nat} (hk : k ≤ 120) (h : sl_in x 0 (nI k - 1) = false) : ¬ (0 ≤ x.toInt ∧ x.toInt < k) := by
  have h1 := sl_in_iff'.mp h
  cases k with
  | zero => omega
  | succ k =>
    rw [nI_pred, sl_i0, nI_toInt (by omega)] at h1
    omega
/-! the reference's constructor -/
def sl_ml (l : List Nat) : Nat → Nat := fun k => l.getD k 0
