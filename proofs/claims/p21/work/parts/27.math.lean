/-! the class and the reference answer alike: plain facts -/
theorem sl_ef_em (C : Nat → Int32) : ∀ m q, sl_ef C m ≤ q → q < m → sl_cw C q 3 = 0
  | 0, q, _, h => absurd h (Nat.not_lt_zero q)
  | m + 1, q, h1, h2 => by
    rw [sl_ef] at h1
    by_cases e : sl_cw C m 3 = 0
    · rw [if_pos e] at h1
      by_cases e2 : q = m
      · subst e2; exact e
      · exact sl_ef_em C m q h1 (by omega)
    · rw [if_neg e] at h1; omega
theorem sl_sT_ef {n : Nat} {C : Nat → Int32} {E : Nat → sl_Ent} : ∀ d, sl_ef C 120 + d ≤ 120 → sl_sT n C E (sl_ef C 120 + d) = sl_sT n C E (sl_ef C 120)
  | 0, _ => rfl
  | d + 1, h => by
    rw [show sl_ef C 120 + (d + 1) = (sl_ef C 120 + d) + 1 from rfl, sl_sT_0, sl_sT_ef d (by omega)]
    rw [((sl_cwz C _).mp (sl_ef_em C 120 (sl_ef C 120 + d) (by omega) (by omega))).1]
    exact sl_tok_m2 n
theorem sl_sT_120 (n : Nat) (C : Nat → Int32) (E : Nat → sl_Ent) : sl_sT n C E 120 = sl_sT n C E (sl_ef C 120) := by
  have h := sl_ef_le C 120
  rw [← sl_sT_ef (n := n) (C := C) (E := E) (120 - sl_ef C 120) (by omega), show sl_ef C 120 + (120 - sl_ef C 120) = 120 by omega]
theorem sl_cp_v {C : Nat → Int32} {a b : Nat} (ha : a < 3) (hb : b < 120) {v : Int32} (h : C (120 * a + b) = -2 ∨ C (120 * a + b) = v) : sl_cp C (nI a) (nI b) v = upd C (120 * a + b) v := by
  rw [sl_cpN C v ha hb]
  rcases h with h | h
  · rw [if_pos h]
  · by_cases e : C (120 * a + b) = -2
    · rw [if_pos e]
    · rw [if_neg e, ← h, sl_upd_id]
theorem sl_cf_mf {C : Nat → Int32} {b : Nat} {v : Int32} (hb : b < 120) (h0 : C b = -2 ∨ C b = v) (h1 : C (120 + b) = -2 ∨ C (120 + b) = v) (h2 : C (240 + b) = -2 ∨ C (240 + b) = v) : sl_cf C b v = sl_mf C b v := by
  have e0 : sl_cp C (nI 0) (nI b) v = upd C b v := by
    have h := sl_cp_v (C := C) (a := 0) (by omega) hb (v := v) (by rw [show 120 * 0 + b = b by omega]; exact h0)
    rwa [show 120 * 0 + b = b by omega] at h
  have e1 : sl_cp (upd C b v) (nI 1) (nI b) v = upd (upd C b v) (120 + b) v := by
    have h := sl_cp_v (C := upd C b v) (a := 1) (by omega) hb (v := v) (by rw [show 120 * 1 + b = 120 + b by omega, pk_un (by omega)]; exact h1)
    rwa [show 120 * 1 + b = 120 + b by omega] at h
  have e2 : sl_cp (upd (upd C b v) (120 + b) v) (nI 2) (nI b) v = upd (upd (upd C b v) (120 + b) v) (240 + b) v := by
    have h := sl_cp_v (C := upd (upd C b v) (120 + b) v) (a := 2) (by omega) hb (v := v) (by rw [show 120 * 2 + b = 240 + b by omega, pk_un (by omega), pk_un (by omega)]; exact h2)
    rwa [show 120 * 2 + b = 240 + b by omega] at h
  rw [sl_cf, sl_mf, show (0 : Int32) = nI 0 from rfl, show (1 : Int32) = nI 1 from rfl, show (2 : Int32) = nI 2 from rfl, e0, e1, e2]
/-! a row of four latest places -/
def sl_RI (Pot Snd : Nat → Prop) (p : Nat) (z0 z1 z2 z3 : Int) : Prop :=
  (-1 ≤ z0 ∧ z0 < p ∧ (-1 ≤ z1 ∧ (z1 < z0 ∨ (z0 = -1 ∧ z1 = -1))) ∧ (-1 ≤ z2 ∧ (z2 < z1 ∨ (z1 = -1 ∧ z2 = -1))) ∧ (-1 ≤ z3 ∧ (z3 < z2 ∨ (z2 = -1 ∧ z3 = -1)))) ∧
  (∀ q : Nat, q < p → Pot q → (q : Int) = z0 ∨ (q : Int) = z1 ∨ (q : Int) = z2 ∨ (q : Int) ≤ z3) ∧
  (∀ q : Nat, ((q : Int) = z0 ∨ (q : Int) = z1 ∨ (q : Int) = z2 ∨ (q : Int) = z3) → Snd q)
theorem sl_RI.push {Pot Snd Pot' Snd' : Nat → Prop} {p : Nat} {z0 z1 z2 z3 : Int} (h : sl_RI Pot Snd p z0 z1 z2 z3) (h1 : ∀ q, q < p → Pot' q → Pot q) (h2 : ∀ q, q < p → Snd q → Snd' q) (h3 : Snd' p) : sl_RI Pot' Snd' (p + 1) (p : Int) z0 z1 z2 := by
  obtain ⟨⟨a1, a2, a3, a4, a5⟩, b, c⟩ := h
  refine ⟨⟨by omega, by omega, by omega, by omega, by omega⟩, fun q hq hp => ?_, fun q hq => ?_⟩
  · by_cases e : q = p
    · exact Or.inl (by omega)
    · have := b q (by omega) (h1 q (by omega) hp); omega
  · by_cases e : q = p
    · subst e; exact h3
    · exact h2 q (by omega) (c q (by omega))
theorem sl_RI.skip {Pot Snd Pot' Snd' : Nat → Prop} {p : Nat} {z0 z1 z2 z3 : Int} (h : sl_RI Pot Snd p z0 z1 z2 z3) (h1 : ∀ q, q < p → Pot' q → Pot q) (h2 : ∀ q, q < p → Snd q → Snd' q) (h3 : ¬ Pot' p) : sl_RI Pot' Snd' (p + 1) z0 z1 z2 z3 := by
  obtain ⟨⟨a1, a2, a3, a4, a5⟩, b, c⟩ := h
  refine ⟨⟨by omega, by omega, by omega, by omega, by omega⟩, fun q hq hp => ?_, fun q hq => ?_⟩
  · by_cases e : q = p
    · subst e; exact absurd hp h3
    · exact b q (by omega) (h1 q (by omega) hp)
  · exact h2 q (by omega) (c q hq)
theorem sl_RI.mono {Pot Snd Pot' Snd' : Nat → Prop} {p : Nat} {z0 z1 z2 z3 : Int} (h : sl_RI Pot Snd p z0 z1 z2 z3) (h1 : ∀ q, q < p → Pot' q → Pot q) (h2 : ∀ q, q < p → Snd q → Snd' q) : sl_RI Pot' Snd' p z0 z1 z2 z3 := by
  obtain ⟨⟨a1, a2, a3, a4, a5⟩, b, c⟩ := h
  exact ⟨⟨a1, a2, a3, a4, a5⟩, fun q hq hp => b q hq (h1 q hq hp), fun q hq => h2 q (by omega) (c q hq)⟩
theorem sl_RI.zero (Pot Snd : Nat → Prop) : sl_RI Pot Snd 0 (-1) (-1) (-1) (-1) :=
  ⟨⟨by omega, by omega, by omega, by omega, by omega⟩, fun q hq => absurd hq (Nat.not_lt_zero q), fun q hq => by omega⟩
/-- whose a place is: what lies in its first cell, or a token of this epoch -/
def sl_own (n : Nat) (ep : Int32) (C : Nat → Int32) (E : Nat → sl_Ent) (q u : Nat) : Prop := u < n ∧ (E u).1 = nI q ∧ (C q = nI u ∨ (E u).2.1 = ep)
def sl_Pot (n : Nat) (ep : Int32) (C : Nat → Int32) (E : Nat → sl_Ent) (k q : Nat) : Prop := ∃ u, sl_own n ep C E q u ∧ sl_has (E u).2.2.1 (nI k) = true
def sl_Snd (n : Nat) (ep : Int32) (C : Nat → Int32) (E : Nat → sl_Ent) (k q : Nat) : Prop := ∀ u, sl_own n ep C E q u → sl_has (E u).2.2.1 (nI k) = true
def sl_row (n : Nat) (ep : Int32) (C : Nat → Int32) (E : Nat → sl_Ent) (k p : Nat) (X : Nat → Int32) : Prop :=
  sl_RI (sl_Pot n ep C E k) (sl_Snd n ep C E k) p (X (4 * k + 0)).toInt (X (4 * k + 1)).toInt (X (4 * k + 2)).toInt (X (4 * k + 3)).toInt
theorem sl_Pot_m {n n' : Nat} {ep ep' : Int32} {C C' : Nat → Int32} {E E' : Nat → sl_Ent} {k q : Nat} (ho : ∀ u, sl_own n' ep' C' E' q u → sl_own n ep C E q u ∧ (E' u).2.2.1 = (E u).2.2.1) (h : sl_Pot n' ep' C' E' k q) : sl_Pot n ep C E k q := by
  obtain ⟨u, h1, h2⟩ := h
  exact ⟨u, (ho u h1).1, by rw [← (ho u h1).2]; exact h2⟩
theorem sl_Snd_m {n n' : Nat} {ep ep' : Int32} {C C' : Nat → Int32} {E E' : Nat → sl_Ent} {k q : Nat} (ho : ∀ u, sl_own n' ep' C' E' q u → sl_own n ep C E q u ∧ (E' u).2.2.1 = (E u).2.2.1) (h : sl_Snd n ep C E k q) : sl_Snd n' ep' C' E' k q := by
  intro u hu
  rw [(ho u hu).2]
  exact h u (ho u hu).1
theorem sl_row_m {n n' : Nat} {ep ep' : Int32} {C C' : Nat → Int32} {E E' : Nat → sl_Ent} {k p : Nat} {X : Nat → Int32} (h : sl_row n ep C E k p X) (ho : ∀ q, q < p → ∀ u, sl_own n' ep' C' E' q u → sl_own n ep C E q u ∧ (E' u).2.2.1 = (E u).2.2.1) : sl_row n' ep' C' E' k p X :=
  sl_RI.mono h (fun q hq => sl_Pot_m (ho q hq)) (fun q hq => sl_Snd_m (ho q hq))
/-- the trail when a place has been handed out -/
theorem sl_tp_in {T : Nat → Int32} {ss z : Int32} {k : Nat} (hk : k < 4) (i : Nat) (hi : i < 4) : sl_tp T ss z 4 (4 * k + i) = if sl_has ss (nI k) = true then (if i = 0 then z else T (4 * k + (i - 1))) else T (4 * k + i) := by
  have step : ∀ m, m ≤ 4 → sl_tp T ss z m (4 * k + i) = if k < m ∧ sl_has ss (nI k) = true then (if i = 0 then z else T (4 * k + (i - 1))) else T (4 * k + i) := by
    intro m
    induction m with
    | zero => intro _; rw [if_neg (by omega)]; rfl
    | succ m ih =>
      intro hm
      have ih := ih (by omega)
      rw [sl_tp]
      by_cases e : m = k
      · subst e
        by_cases hh : sl_has ss (nI m) = true
        · rw [if_pos hh, if_pos ⟨by omega, hh⟩, sl_t1]
          rcases (by omega : i = 0 ∨ i = 1 ∨ i = 2 ∨ i = 3) with e | e | e | e <;> subst e
          · rw [if_pos rfl]; exact pk_us
          · rw [if_neg (by omega), pk_un (by omega), pk_us]; exact sl_tp_keep T ss z m _ (by omega)
          · rw [if_neg (by omega), pk_un (by omega), pk_un (by omega), pk_us]; exact sl_tp_keep T ss z m _ (by omega)
          · rw [if_neg (by omega), pk_un (by omega), pk_un (by omega), pk_un (by omega), pk_us]; exact sl_tp_keep T ss z m _ (by omega)
        · rw [if_neg hh, if_neg (fun w => hh w.2), ih, if_neg (fun w => hh w.2)]
      · have e2 : (if k < m + 1 ∧ sl_has ss (nI k) = true then (if i = 0 then z else T (4 * k + (i - 1))) else T (4 * k + i)) = (if k < m ∧ sl_has ss (nI k) = true then (if i = 0 then z else T (4 * k + (i - 1))) else T (4 * k + i)) := by
          by_cases h2 : k < m ∧ sl_has ss (nI k) = true
          · rw [if_pos h2, if_pos ⟨by omega, h2.2⟩]
          · rw [if_neg h2, if_neg (fun w => h2 ⟨by omega, w.2⟩)]
        rw [e2, ← ih]
        split
        · rw [sl_t1, pk_un (by omega), pk_un (by omega), pk_un (by omega), pk_un (by omega)]
        · rfl
  rw [step 4 (by omega)]
  by_cases h : sl_has ss (nI k) = true
  · rw [if_pos ⟨hk, h⟩, if_pos h]
  · rw [if_neg (fun w => h w.2), if_neg h]
theorem sl_row_push {n n' : Nat} {ep ep' : Int32} {C C' : Nat → Int32} {E E' : Nat → sl_Ent} {k p : Nat} {T : Nat → Int32} {ss : Int32} (hk : k < 4) (hp : p < 120) (h : sl_row n ep C E k p T) (ho : ∀ q, q < p → ∀ u, sl_own n' ep' C' E' q u → sl_own n ep C E q u ∧ (E' u).2.2.1 = (E u).2.2.1)
    (hs : sl_has ss (nI k) = true → sl_Snd n' ep' C' E' k p) (hn : sl_has ss (nI k) = false → ¬ sl_Pot n' ep' C' E' k p) : sl_row n' ep' C' E' k (p + 1) (sl_tp T ss (nI p) 4) := by
  rw [sl_row, sl_tp_in hk 0 (by omega), sl_tp_in hk 1 (by omega), sl_tp_in hk 2 (by omega), sl_tp_in hk 3 (by omega)]
  by_cases hh : sl_has ss (nI k) = true
  · rw [if_pos hh, if_pos hh, if_pos hh, if_pos hh, if_pos rfl, if_neg (by omega), if_neg (by omega), if_neg (by omega), nI_toInt (by omega)]
    exact sl_RI.push h (fun q hq => sl_Pot_m (ho q hq)) (fun q hq => sl_Snd_m (ho q hq)) (hs hh)
  · rw [if_neg hh, if_neg hh, if_neg hh, if_neg hh]
    exact sl_RI.skip h (fun q hq => sl_Pot_m (ho q hq)) (fun q hq => sl_Snd_m (ho q hq)) (hn (by cases h9 : sl_has ss (nI k); rfl; exact absurd h9 hh))

