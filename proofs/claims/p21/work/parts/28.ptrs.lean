/-! the value by pointers is the value -/
theorem sl_la_cut {n : Nat} {C : Nat → Int32} {E : Nat → sl_Ent} {x : Int32} {a : Nat} : ∀ d, (∀ q, a ≤ q → q < a + d → sl_hs n C E x q = false) → sl_la n C E x (a + d) = sl_la n C E x a
  | 0, _ => rfl
  | d + 1, h => by
    rw [show a + (d + 1) = (a + d) + 1 from rfl, sl_la, if_neg (by rw [h (a + d) (by omega) (by omega)]; decide)]
    exact sl_la_cut d (fun q h1 h2 => h q h1 (by omega))
theorem sl_vs_cut {n : Nat} {C : Nat → Int32} {E : Nat → sl_Ent} {x : Int32} {a : Nat} : ∀ d, (∀ q, a ≤ q → q < a + d → sl_hs n C E x q = false) → sl_vs n C E x (a + d) = sl_vs n C E x a
  | 0, _ => rfl
  | d + 1, h => by
    rw [show a + (d + 1) = (a + d) + 1 from rfl, sl_vs, if_neg (by rw [h (a + d) (by omega) (by omega)]; decide)]
    exact sl_vs_cut d (fun q h1 h2 => h q h1 (by omega))
theorem sl_la_no {n : Nat} {C : Nat → Int32} {E : Nat → sl_Ent} {x : Int32} {b : Nat} (h : ∀ q, q < b → sl_hs n C E x q = false) : sl_la n C E x b = -1 := by
  have := sl_la_cut (n := n) (C := C) (E := E) (x := x) (a := 0) b (fun q _ h2 => h q (by omega))
  rw [Nat.zero_add] at this
  rw [this]; rfl
theorem sl_vs_no {n : Nat} {C : Nat → Int32} {E : Nat → sl_Ent} {x : Int32} {b : Nat} (h : ∀ q, q < b → sl_hs n C E x q = false) : sl_vs n C E x b = 0 := by
  have := sl_vs_cut (n := n) (C := C) (E := E) (x := x) (a := 0) b (fun q _ h2 => h q (by omega))
  rw [Nat.zero_add] at this
  rw [this]; rfl
theorem sl_la_yes {n : Nat} {C : Nat → Int32} {E : Nat → sl_Ent} {x : Int32} {q b : Nat} (hq : q < b) (hh : sl_hs n C E x q = true) (h : ∀ r, q < r → r < b → sl_hs n C E x r = false) : sl_la n C E x b = nI q := by
  have := sl_la_cut (n := n) (C := C) (E := E) (x := x) (a := q + 1) (b - (q + 1)) (fun r h1 h2 => h r (by omega) (by omega))
  rw [show q + 1 + (b - (q + 1)) = b by omega] at this
  rw [this, sl_la, if_pos hh]
theorem sl_vs_yes {n : Nat} {C : Nat → Int32} {E : Nat → sl_Ent} {x : Int32} {q b : Nat} (hq : q < b) (hh : sl_hs n C E x q = true) (h : ∀ r, q < r → r < b → sl_hs n C E x r = false) : sl_vs n C E x b = sl_vs n C E x q + sl_am n C E q := by
  have := sl_vs_cut (n := n) (C := C) (E := E) (x := x) (a := q + 1) (b - (q + 1)) (fun r h1 h2 => h r (by omega) (by omega))
  rw [show q + 1 + (b - (q + 1)) = b by omega] at this
  rw [this, sl_vs, if_pos hh]
/-- the latest one ahead, or none -/
theorem sl_lats (n : Nat) (C : Nat → Int32) (E : Nat → sl_Ent) (x : Int32) : ∀ b, (∀ q, q < b → sl_hs n C E x q = false) ∨ ∃ q, q < b ∧ sl_hs n C E x q = true ∧ ∀ r, q < r → r < b → sl_hs n C E x r = false
  | 0 => Or.inl (fun q h => absurd h (Nat.not_lt_zero q))
  | b + 1 => by
    cases hb : sl_hs n C E x b
    · rcases sl_lats n C E x b with h | ⟨q, h1, h2, h3⟩
      · refine Or.inl (fun q hq => ?_)
        by_cases e : q = b
        · rw [e]; exact hb
        · exact h q (by omega)
      · refine Or.inr ⟨q, by omega, h2, fun r hr hr2 => ?_⟩
        by_cases e : r = b
        · rw [e]; exact hb
        · exact h3 r hr (by omega)
    · exact Or.inr ⟨b, by omega, hb, fun r h1 h2 => absurd h1 (by omega)⟩
theorem sl_vp_vs {n : Nat} {C : Nat → Int32} {E : Nat → sl_Ent} {j : Nat} (hpq : ∀ q, q < 120 → sl_hs n C E (nI j) q = true → sl_pq n C E j q = sl_la n C E (nI j) q) : ∀ f b acc, b ≤ f → b ≤ 120 → sl_vp n C E j f (sl_la n C E (nI j) b) acc = acc + sl_vs n C E (nI j) b
  | 0, b, acc, h, _ => by
    have e : b = 0 := by omega
    subst e
    rw [sl_vp]
    exact (Int32.add_zero acc).symm
  | f + 1, b, acc, h, h2 => by
    rw [sl_vp]
    rcases sl_lats n C E (nI j) b with hn | ⟨q, h3, h4, h5⟩
    · rw [sl_la_no hn, if_pos rfl, sl_vs_no hn, Int32.add_zero]
    · rw [sl_la_yes h3 h4 h5, sl_vs_yes h3 h4 h5, if_neg (fun w => absurd (congrArg Int32.toInt w) (by rw [nI_toInt (by omega), show (-1 : Int32).toInt = -1 from rfl]; omega)), nI_clamp (by omega), hpq q (by omega) h4, sl_vp_vs hpq f q _ (by omega) (by omega), Int32.add_assoc, Int32.add_comm (sl_am n C E q)]
theorem sl_zN {x : Int32} {p : Nat} (hp : p ≤ 120) (h1 : -1 ≤ x.toInt) (h2 : x.toInt < p) : x = -1 ∨ ∃ q, q < p ∧ x = nI q := by
  by_cases e : x.toInt = -1
  · exact Or.inl (Int32.toInt_inj.mp (by rw [e]; rfl))
  · obtain ⟨q, h3, h4⟩ := sl_nat (v := x) (n := p) (by omega) (by omega) (by omega)
    refine Or.inr ⟨q, ?_, h4⟩
    rw [h4, nI_toInt (by omega)] at h2
    omega
theorem sl_m1I : (-1 : Int32).toInt = -1 := rfl
theorem sl_hs_own {n : Nat} {ep : Int32} {C : Nat → Int32} {E : Nat → sl_Ent} {q k : Nat} (hn : n ≤ 150) (hpl : ∀ u, u < n → C q = nI u → (E u).1 = nI q) (h : sl_hs n C E (nI k) q = true) : sl_Pot n ep C E k q := by
  rcases sl_opt (sl_tok n (C q)) with e | ⟨u, e⟩
  · rw [sl_hs_0 e] at h; cases h
  · rw [sl_hs_1 e] at h
    exact ⟨u, ⟨sl_tok_lt e, hpl u (sl_tok_lt e) (sl_tok_eq hn e), Or.inl (sl_tok_eq hn e)⟩, h⟩
theorem sl_hs_snd {n : Nat} {ep : Int32} {C : Nat → Int32} {E : Nat → sl_Ent} {q k u : Nat} (hn : n ≤ 150) (hpl : ∀ u, u < n → C q = nI u → (E u).1 = nI q) (hs : sl_Snd n ep C E k q) (e : sl_tok n (C q) = some u) : sl_hs n C E (nI k) q = true := by
  rw [sl_hs_1 e]
  exact hs u ⟨sl_tok_lt e, hpl u (sl_tok_lt e) (sl_tok_eq hn e), Or.inl (sl_tok_eq hn e)⟩
theorem sl_pb_la {n : Nat} {ep : Int32} {C : Nat → Int32} {E : Nat → sl_Ent} {k p t : Nat} (hn : n ≤ 150) (hp : p < 120) (hpl : ∀ q, q < 120 → ∀ u, u < n → C q = nI u → (E u).1 = nI q) (h : sl_row n ep C E k p (E t).2.2.2.2.2.2.1) : sl_pb n C E k t = sl_la n C E (nI k) p := by
  obtain ⟨⟨a1, a2, ⟨a3, a4⟩, ⟨a5, a6⟩, ⟨a7, a8⟩⟩, cov, snd⟩ := h
  have cov : ∀ q : Nat, q < p → sl_hs n C E (nI k) q = true → _ := fun q hq hh => cov q hq (sl_hs_own hn (hpl q (by omega)) hh)
  -- a pointer that is not -1
  have one : ∀ (x : Int32), -1 ≤ x.toInt → x.toInt < p → ((∀ q : Nat, (q : Int) = x.toInt → sl_Snd n ep C E k q)) → (x = -1 ∧ x.toInt = -1) ∨ (x ≠ -1 ∧ ∃ q : Nat, q < p ∧ x = nI q ∧ x.toInt = q ∧ ((sl_ta n C x).isSome = true → sl_hs n C E (nI k) q = true) ∧ (¬ (sl_ta n C x).isSome = true → sl_hs n C E (nI k) q = false)) := by
    intro x h1 h2 h3
    rcases sl_zN (by omega) h1 h2 with e | ⟨q, h4, e⟩
    · exact Or.inl ⟨e, by rw [e]; rfl⟩
    · have e2 : x.toInt = q := by rw [e, nI_toInt (by omega)]
      refine Or.inr ⟨fun w => ?_, q, h4, e, e2, fun h5 => ?_, fun h5 => ?_⟩
      · rw [w, sl_m1I] at e2; omega
      · rw [e, sl_ta, sl_cg0 C (by omega)] at h5
        rcases sl_opt (sl_tok n (C q)) with e3 | ⟨u, e3⟩
        · rw [e3] at h5; cases h5
        · exact sl_hs_snd hn (hpl q (by omega)) (h3 q e2.symm) e3
      · rw [e, sl_ta, sl_cg0 C (by omega)] at h5
        rcases sl_opt (sl_tok n (C q)) with e3 | ⟨u, e3⟩
        · exact sl_hs_0 e3
        · rw [e3] at h5; exact absurd rfl h5
  rw [sl_pb]
  have no : ∀ {P : Prop}, (sl_hs n C E (nI k) = fun _ => false) → P → P := fun _ h => h
  rcases one _ a1 a2 (fun q hq => snd q (Or.inl hq)) with ⟨e0, z0⟩ | ⟨n0, q0, l0, e0, z0, t0, f0⟩
  · rw [if_pos e0]
    refine (sl_la_no (fun q hq => ?_)).symm
    cases hh : sl_hs n C E (nI k) q
    · rfl
    · have := cov q hq hh; omega
  · rw [if_neg n0]
    by_cases s0 : (sl_ta n C ((E t).2.2.2.2.2.2.1 (4 * k + 0))).isSome = true
    · rw [if_pos s0, e0]
      refine (sl_la_yes l0 (t0 s0) (fun r hr hr2 => ?_)).symm
      cases hh : sl_hs n C E (nI k) r
      · rfl
      · have := cov r hr2 hh; omega
    · rw [if_neg s0]
      have f0 := f0 s0
      have cov : ∀ q : Nat, q < p → sl_hs n C E (nI k) q = true → (q : Int) = ((E t).2.2.2.2.2.2.1 (4 * k + 1)).toInt ∨ (q : Int) = ((E t).2.2.2.2.2.2.1 (4 * k + 2)).toInt ∨ (q : Int) ≤ ((E t).2.2.2.2.2.2.1 (4 * k + 3)).toInt := fun q hq hh => by
        have h9 : q ≠ q0 := fun w => by rw [w, f0] at hh; cases hh
        have := cov q hq hh; omega
      rcases one _ a3 (by omega) (fun q hq => snd q (Or.inr (Or.inl hq))) with ⟨e1, z1⟩ | ⟨n1, q1, l1, e1, z1, t1, f1⟩
      · rw [if_pos e1]
        refine (sl_la_no (fun q hq => ?_)).symm
        cases hh : sl_hs n C E (nI k) q
        · rfl
        · have := cov q hq hh; omega
      · rw [if_neg n1]
        by_cases s1 : (sl_ta n C ((E t).2.2.2.2.2.2.1 (4 * k + 1))).isSome = true
        · rw [if_pos s1, e1]
          refine (sl_la_yes l1 (t1 s1) (fun r hr hr2 => ?_)).symm
          cases hh : sl_hs n C E (nI k) r
          · rfl
          · have := cov r hr2 hh; omega
        · rw [if_neg s1]
          have f1 := f1 s1
          have cov : ∀ q : Nat, q < p → sl_hs n C E (nI k) q = true → (q : Int) = ((E t).2.2.2.2.2.2.1 (4 * k + 2)).toInt ∨ (q : Int) ≤ ((E t).2.2.2.2.2.2.1 (4 * k + 3)).toInt := fun q hq hh => by
            have h9 : q ≠ q1 := fun w => by rw [w, f1] at hh; cases hh
            have := cov q hq hh; omega
          rcases one _ a5 (by omega) (fun q hq => snd q (Or.inr (Or.inr (Or.inl hq)))) with ⟨e2, z2⟩ | ⟨n2, q2, l2, e2, z2, t2, f2⟩
          · rw [if_pos e2]
            refine (sl_la_no (fun q hq => ?_)).symm
            cases hh : sl_hs n C E (nI k) q
            · rfl
            · have := cov q hq hh; omega
          · rw [if_neg n2]
            by_cases s2 : (sl_ta n C ((E t).2.2.2.2.2.2.1 (4 * k + 2))).isSome = true
            · rw [if_pos s2, e2]
              refine (sl_la_yes l2 (t2 s2) (fun r hr hr2 => ?_)).symm
              cases hh : sl_hs n C E (nI k) r
              · rfl
              · have := cov r hr2 hh; omega
            · rw [if_neg s2]
              have f2 := f2 s2
              have cov : ∀ q : Nat, q < p → sl_hs n C E (nI k) q = true → (q : Int) ≤ ((E t).2.2.2.2.2.2.1 (4 * k + 3)).toInt := fun q hq hh => by
                have h9 : q ≠ q2 := fun w => by rw [w, f2] at hh; cases hh
                have := cov q hq hh; omega
              rcases one _ a7 (by omega) (fun q hq => snd q (Or.inr (Or.inr (Or.inr hq)))) with ⟨e3, z3⟩ | ⟨n3, q3, l3, e3, z3, t3, f3⟩
              · rw [if_pos e3]
                refine (sl_la_no (fun q hq => ?_)).symm
                cases hh : sl_hs n C E (nI k) q
                · rfl
                · have := cov q hq hh; omega
              · rw [if_neg n3]
                by_cases s3 : (sl_ta n C ((E t).2.2.2.2.2.2.1 (4 * k + 3))).isSome = true
                · rw [if_pos s3, e3]
                  refine (sl_la_yes l3 (t3 s3) (fun r hr hr2 => ?_)).symm
                  cases hh : sl_hs n C E (nI k) r
                  · rfl
                  · have := cov r hr2 hh; omega
                · rw [if_neg s3, e3, nI_clamp (by omega)]
                  have f3 := f3 s3
                  have := sl_la_cut (n := n) (C := C) (E := E) (x := nI k) (a := q3) (p - q3) (fun r h1 h2 => by
                    cases hh : sl_hs n C E (nI k) r
                    · rfl
                    · have h8 := cov r (by omega) hh
                      have h9 : r = q3 := by omega
                      rw [h9, f3] at hh; cases hh)
                  rw [show q3 + (p - q3) = p by omega] at this
                  exact this.symm

