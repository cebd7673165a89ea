/-! what stays true: fill, seal, take -/
theorem sl_wh_iff {C : Nat → Int32} {b : Nat} : sl_wh C b = false ↔ C b = -2 ∨ C (120 + b) = -2 ∨ C (240 + b) = -2 := by
  rw [sl_wh]
  by_cases h1 : C b = -2 <;> by_cases h2 : C (120 + b) = -2 <;> by_cases h3 : C (240 + b) = -2 <;> simp [h1, h2, h3]
/-- what a position holds that is not whole -/
theorem sl_J.fillv {n e : Nat} {ep : Int32} {tl : Nat} {T C : Nat → Int32} {E : Nat → sl_Ent} (h : sl_J n e ep tl T C E) (hw : sl_wf n tl C E) {b : Nat} (hb : b < 120) (hwh : sl_wh C b = false) :
    (C b = -2 ∧ C (120 + b) = -2 ∧ C (240 + b) = -2 ∧ (if (sl_tok n (C b)).isSome = true then C b else -1) = -1) ∨
    ∃ t, t < n ∧ C b = nI t ∧ (if (sl_tok n (C b)).isSome = true then C b else -1) = nI t ∧ (C (120 + b) = nI t ∨ C (120 + b) = -2) ∧ (C (240 + b) = nI t ∨ C (240 + b) = -2) := by
  have hn := hw.1
  obtain ⟨j1, j2, j3⟩ := h.jp b hb
  rcases hw.2.2.1 b (by omega) with e | e | ⟨t, ht, e⟩
  · obtain ⟨c1, c2⟩ := j3 e
    exfalso
    rcases sl_wh_iff.mp hwh with w | w | w
    · rw [e] at w; exact absurd w (by decide)
    · rw [c1] at w; exact absurd w (by decide)
    · rw [c2] at w; exact absurd w (by decide)
  · left
    rw [e] at j1
    have c1 : C (120 + b) = -2 := j1.elim id id
    rw [c1] at j2
    have c2 : C (240 + b) = -2 := j2.elim id id
    refine ⟨e, c1, c2, ?_⟩
    rw [e, sl_tok_m2]; rfl
  · right
    refine ⟨t, ht, e, by rw [e, sl_tokN ht hn]; rfl, by rw [← e]; exact j1, ?_⟩
    rcases j2 with j2 | j2
    · rw [j2, ← e]; exact j1
    · exact Or.inr j2
theorem sl_J.cf {n e : Nat} {ep : Int32} {tl : Nat} {T C : Nat → Int32} {E : Nat → sl_Ent} (h : sl_J n e ep tl T C E) (hw : sl_wf n tl C E) {b : Nat} (hb : b < 120) (hwh : sl_wh C b = false) :
    sl_cf C b (if (sl_tok n (C b)).isSome = true then C b else -1) = sl_mf C b (if (sl_tok n (C b)).isSome = true then C b else -1) := by
  rcases h.fillv hw hb hwh with ⟨c0, c1, c2, -⟩ | ⟨t, ht, c0, ev, c1, c2⟩
  · exact sl_cf_mf hb (Or.inl c0) (Or.inl c1) (Or.inl c2)
  · rw [ev]; exact sl_cf_mf hb (Or.inr c0) c1.symm c2.symm
theorem sl_mf_0 (C : Nat → Int32) (b : Nat) (v : Int32) (hb : b < 120) : sl_mf C b v b = v := by rw [sl_mf, pk_un (by omega), pk_un (by omega), pk_us]
theorem sl_mf_1 (C : Nat → Int32) (b : Nat) (v : Int32) : sl_mf C b v (120 + b) = v := by rw [sl_mf, pk_un (by omega), pk_us]
theorem sl_mf_2 (C : Nat → Int32) (b : Nat) (v : Int32) : sl_mf C b v (240 + b) = v := by rw [sl_mf, pk_us]
theorem sl_mf_n {C : Nat → Int32} {b i : Nat} {v : Int32} (h0 : i ≠ b) (h1 : i ≠ 120 + b) (h2 : i ≠ 240 + b) : sl_mf C b v i = C i := by rw [sl_mf, pk_un h2, pk_un h1, pk_un h0]
theorem sl_J.fill {n e : Nat} {ep : Int32} {tl : Nat} {T C : Nat → Int32} {E : Nat → sl_Ent} (h : sl_J n e ep tl T C E) (hw : sl_wf n tl C E) {b : Nat} (hb : b < 120) (hbt : b < tl) (hwh : sl_wh C b = false) :
    sl_J n e ep tl T (sl_mf C b (if (sl_tok n (C b)).isSome = true then C b else -1)) E := by
  have hn := hw.1
  have htl := hw.2.1
  have key : ∃ v, (if (sl_tok n (C b)).isSome = true then C b else -1) = v ∧ ((v = -1 ∧ C b = -2 ∧ C (120 + b) = -2 ∧ C (240 + b) = -2) ∨ ∃ t, t < n ∧ v = nI t ∧ C b = nI t) := by
    rcases h.fillv hw hb hwh with ⟨c0, c1, c2, ev⟩ | ⟨t, ht, c0, ev, -, -⟩
    · exact ⟨-1, ev, Or.inl ⟨rfl, c0, c1, c2⟩⟩
    · exact ⟨nI t, ev, Or.inr ⟨t, ht, rfl, c0⟩⟩
  obtain ⟨v, ev, hv⟩ := key
  rw [ev]
  have v2 : ∀ u, u < n → v = nI u → C b = nI u := by
    intro u hu w
    rcases hv with ⟨e1, -⟩ | ⟨t, ht, e1, e2⟩
    · rw [e1] at w; exact absurd w.symm (sl_ne1 (a := u) (by omega))
    · rw [e2, ← e1, w]
  refine h.same htl (fun _ => rfl) (fun _ => rfl) (fun _ => rfl) (fun _ => rfl) (fun q hq => ?_) (fun i hi u hu w => ?_) (fun q h1 h2 => ?_) (fun u hu hce => ?_) (fun q u hq hu hpu w => ?_)
  · by_cases e : q = b
    · subst e
      rw [sl_JP, sl_mf_0 C q v hq, sl_mf_1, sl_mf_2]
      exact ⟨Or.inl rfl, Or.inl rfl, fun w => ⟨w, w⟩⟩
    · rw [sl_JP, sl_mf_n (by omega) (by omega) (by omega), sl_mf_n (by omega) (by omega) (by omega), sl_mf_n (by omega) (by omega) (by omega)]
      exact h.jp q hq
  · by_cases e : i = b ∨ i = 120 + b ∨ i = 240 + b
    · have w2 : v = nI u := by
        rcases e with e | e | e
        · rw [e, sl_mf_0 C b v hb] at w; exact w
        · rw [e, sl_mf_1] at w; exact w
        · rw [e, sl_mf_2] at w; exact w
      have := h.pl b (by omega) u hu (v2 u hu w2)
      rw [this]
      congr 1; omega
    · rw [sl_mf_n (by omega) (by omega) (by omega)] at w
      exact h.pl i hi u hu w
  · rw [sl_mf_n (by omega) (by omega) (by omega), sl_mf_n (by omega) (by omega) (by omega), sl_mf_n (by omega) (by omega) (by omega)]
    exact h.em q h1 h2
  · obtain ⟨p, hp, ep1, hc⟩ := h.cu u hu hce
    refine ⟨p, hp, ep1, ?_⟩
    by_cases e : p = b
    · subst e
      rw [sl_JC, sl_mf_0 C p v hb, sl_mf_1, sl_mf_2]
      rcases hv with ⟨e1, c0, -⟩ | ⟨t, ht, e1, c0⟩
      · exact Or.inl ⟨e1, e1, e1⟩
      · refine Or.inr (Or.inl ?_)
        have e2 : v = nI u := by
          rcases hc with hc | hc | ⟨k, h1, h2, h3, h4⟩
          · rw [hc.1] at c0; exact absurd c0.symm (sl_ne1 (a := t) (by omega))
          · rw [e1, ← c0]; exact hc.1
          · by_cases ek : k = 0
            · have := h4 0 (by omega) (by omega)
              rw [show 120 * 0 + p = p by omega, c0] at this
              exact absurd this (sl_ne2 (a := t) (by omega))
            · have := h3 0 (by omega)
              rw [show 120 * 0 + p = p by omega] at this
              rw [e1, ← c0]; exact this
        exact ⟨e2, e2, e2⟩
    · exact sl_JC_c hc (fun r hr => sl_mf_n (by omega) (by omega) (by omega))
  · by_cases e : q = b
    · rw [e, sl_mf_0 C b v hb] at w
      rw [e]; exact Or.inl (v2 u hu w)
    · rw [sl_mf_n (by omega) (by omega) (by omega)] at w
      exact Or.inl w
/-- seal keeps it -/
theorem sl_J.seal {n e : Nat} {ep : Int32} {tl : Nat} {T C : Nat → Int32} {E : Nat → sl_Ent} (h : sl_J n e ep tl T C E) (hw : sl_wf n tl C E) (he : e < 100000) :
    sl_J n (e + 1) (ep + 1) (sl_ef C 120) (sl_sT n C E (sl_ef C 120)) C E := by
  have hn := hw.1
  have no : ∀ t, t < n → ¬ (E t).2.1 = ep + 1 := by
    intro t ht w
    obtain ⟨a, ha, ea⟩ := h.es t ht
    rw [h.ep, nI_1, ea] at w
    have := sl_nIne (a := a) (b := e + 1) (by omega) (by omega) w
    omega
  have hpl : ∀ q, q < 120 → ∀ u, u < n → C q = nI u → (E u).1 = nI q := by
    intro q hq u hu w
    have := h.pl q (by omega) u hu w
    rwa [show q % 120 = q by omega] at this
  have own : ∀ q u, sl_own n (ep + 1) C E q u → C q = nI u := fun q u ho => ho.2.2.elim id (fun w => absurd w (no u ho.1))
  have sub : ∀ q u, sl_own n (ep + 1) C E q u → sl_own n ep C E q u ∧ (E u).2.2.1 = (E u).2.2.1 := fun q u ho => ⟨⟨ho.1, ho.2.1, Or.inl (own q u ho)⟩, rfl⟩
  have rows : ∀ m, m ≤ 120 → ∀ k, k < 4 → sl_row n (ep + 1) C E k m (sl_sT n C E m) := by
    intro m
    induction m with
    | zero => intro _ k _; exact sl_row_0 _ _ _ _ k
    | succ m ih =>
      intro hm k hk
      have ih := ih (by omega) k hk
      rcases sl_opt (sl_tok n (C m)) with e1 | ⟨u, e1⟩
      · rw [sl_sT_0 e1]
        refine sl_RI.skip ih (fun _ _ w => w) (fun _ _ w => w) ?_
        rintro ⟨u, ho, -⟩
        rw [own m u ho, sl_tokN ho.1 hn] at e1; cases e1
      · rw [sl_sT_1 e1]
        have e2 := sl_tok_eq hn e1
        have uni : ∀ u', sl_own n (ep + 1) C E m u' → u' = u := by
          intro u' ho
          have h1 := own m u' ho
          have h2 := sl_tok_lt e1
          have h3 := ho.1
          rw [e2] at h1
          exact (sl_nIne (a := u) (b := u') (by omega) (by omega) h1).symm
        refine sl_row_push hk (by omega) ih (fun q hq u' ho => ⟨ho, rfl⟩) (fun hh u' ho => ?_) (fun hh => ?_)
        · rw [uni u' ho]; exact hh
        · rintro ⟨u', ho, h3⟩
          rw [uni u' ho, hh] at h3; cases h3
  have hef := sl_ef_le C 120
  refine ⟨by rw [h.ep, nI_1], fun t ht => ?_, h.jp, h.pl, fun p h1 h2 => (sl_cwz C p).mp (sl_ef_em C 120 p h1 h2), fun t ht w => absurd w (no t ht), fun t t' ht _ w => absurd w (no t ht), h.st, h.pt, fun k hk => rows _ hef k hk, fun t p hp ho k hk hh => ?_⟩
  · obtain ⟨a, ha, ea⟩ := h.es t ht
    exact ⟨a, by omega, ea⟩
  · exact sl_row_m (h.ro t p hp (sub p t ho).1 k hk hh) (fun q _ u => sub q u)
/-- a row's places -/
theorem sl_row_in {n : Nat} {ep : Int32} {C : Nat → Int32} {E : Nat → sl_Ent} {k p : Nat} {X : Nat → Int32} (hp : p ≤ 120) (h : sl_row n ep C E k p X) {i : Nat} (hi : i < 4) : X (4 * k + i) = -1 ∨ ∃ q, q < p ∧ X (4 * k + i) = nI q := by
  obtain ⟨⟨a1, a2, a3, a4, a5⟩, -, -⟩ := h
  rcases (by omega : i = 0 ∨ i = 1 ∨ i = 2 ∨ i = 3) with e | e | e | e <;> subst e
  · exact sl_zN hp a1 a2
  · exact sl_zN hp a3.1 (by omega)
  · exact sl_zN hp a4.1 (by omega)
  · exact sl_zN hp a5.1 (by omega)
/-- take keeps it -/
theorem sl_J.take {n e : Nat} {ep : Int32} {tl : Nat} {T C : Nat → Int32} {E : Nat → sl_Ent} (h : sl_J n e ep tl T C E) (hw : sl_wf n tl C E) (hn : n < 150) (htl : tl < 120) {ss am rd ver : Int32} (hss : ∃ a, a < 16 ∧ ss = nI a) :
    sl_J (n + 1) e ep (tl + 1) (sl_tp T ss (nI tl) 4) C (sl_eu E n (nI tl, ep, ss, am, rd, ver, sl_tc T ss 4, 0)) := by
  have en : sl_eu E n (nI tl, ep, ss, am, rd, ver, sl_tc T ss 4, 0) n = (nI tl, ep, ss, am, rd, ver, sl_tc T ss 4, 0) := if_pos rfl
  have eo : ∀ u, u < n → sl_eu E n (nI tl, ep, ss, am, rd, ver, sl_tc T ss 4, 0) u = E u := fun u hu => if_neg (by omega)
  have cn : ∀ i, i < 360 → C i ≠ nI n := by
    intro i hi w
    rcases hw.2.2.1 i hi with e1 | e1 | ⟨u, hu, e1⟩
    · rw [e1] at w; exact absurd w.symm (sl_ne1 (a := n) (by omega))
    · rw [e1] at w; exact absurd w.symm (sl_ne2 (a := n) (by omega))
    · rw [e1] at w
      have := sl_nIne (a := u) (b := n) (by omega) (by omega) w
      omega
  have own : ∀ q, q < 120 → ∀ u, sl_own (n + 1) ep C (sl_eu E n (nI tl, ep, ss, am, rd, ver, sl_tc T ss 4, 0)) q u → (u = n ∧ q = tl) ∨ (u < n ∧ q < tl ∧ sl_own n ep C E q u) := by
    intro q hq u ⟨h1, h2, h3⟩
    by_cases e1 : u = n
    · subst e1
      rw [en] at h2
      exact Or.inl ⟨rfl, (sl_nIne (a := tl) (b := q) (by omega) (by omega) h2).symm⟩
    · have hu : u < n := by omega
      rw [eo u hu] at h2 h3
      refine Or.inr ⟨hu, ?_, hu, h2, h3⟩
      rcases h3 with h3 | h3
      · refine Classical.byContradiction (fun w => ?_)
        have := (h.em q (by omega) hq).1
        rw [h3] at this
        exact absurd this (sl_ne2 (a := u) (by omega))
      · obtain ⟨p, hp, ep1, -⟩ := h.cu u hu h3
        rw [h2] at ep1
        have := sl_nIne (a := q) (b := p) (by omega) (by omega) ep1
        omega
  have sub : ∀ q, q < tl → ∀ u, sl_own (n + 1) ep C (sl_eu E n (nI tl, ep, ss, am, rd, ver, sl_tc T ss 4, 0)) q u → sl_own n ep C E q u ∧ (sl_eu E n (nI tl, ep, ss, am, rd, ver, sl_tc T ss 4, 0) u).2.2.1 = (E u).2.2.1 := by
    intro q hq u ho
    rcases own q (by omega) u ho with ⟨-, h1⟩ | ⟨h1, -, h2⟩
    · omega
    · exact ⟨h2, by rw [eo u h1]⟩
  refine ⟨h.ep, fun t ht => ?_, h.jp, fun i hi u hu w => ?_, fun p h1 h2 => h.em p (by omega) h2, fun t ht w => ?_, fun t t' ht ht' w w' w2 => ?_, fun t ht => ?_, fun t ht j hj => ?_, fun k hk => ?_, fun t p hp ho k hk hh => ?_⟩
  · by_cases e1 : t = n
    · rw [e1, en]; exact ⟨e, by omega, h.ep⟩
    · rw [eo t (by omega)]; exact h.es t (by omega)
  · by_cases e1 : u = n
    · rw [e1] at w; exact absurd w (cn i hi)
    · rw [eo u (by omega)]; exact h.pl i hi u (by omega) w
  · by_cases e1 : t = n
    · rw [e1, en]
      obtain ⟨c0, c1, c2⟩ := h.em tl (by omega) htl
      refine ⟨tl, by omega, rfl, Or.inr (Or.inr ⟨0, by omega, rfl, fun r hr => absurd hr (Nat.not_lt_zero r), fun r _ hr => ?_⟩)⟩
      rcases (by omega : r = 0 ∨ r = 1 ∨ r = 2) with e2 | e2 | e2 <;> subst e2
      · rw [show 120 * 0 + tl = tl by omega]; exact c0
      · rw [show 120 * 1 + tl = 120 + tl by omega]; exact c1
      · rw [show 120 * 2 + tl = 240 + tl by omega]; exact c2
    · rw [eo t (by omega)] at w ⊢
      obtain ⟨p, hp, h1, h2⟩ := h.cu t (by omega) w
      exact ⟨p, by omega, h1, h2⟩
  · by_cases e1 : t = n
    · by_cases e2 : t' = n
      · rw [e1, e2]
      · rw [e1, en, eo t' (by omega)] at w2
        rw [eo t' (by omega)] at w'
        obtain ⟨p, hp, h1, -⟩ := h.cu t' (by omega) w'
        rw [h1] at w2
        have := sl_nIne (a := tl) (b := p) (by omega) (by omega) w2
        omega
    · by_cases e2 : t' = n
      · rw [e2, en, eo t (by omega)] at w2
        rw [eo t (by omega)] at w
        obtain ⟨p, hp, h1, -⟩ := h.cu t (by omega) w
        rw [h1] at w2
        have := sl_nIne (a := p) (b := tl) (by omega) (by omega) w2
        omega
      · rw [eo t (by omega)] at w w2
        rw [eo t' (by omega)] at w' w2
        exact h.di t t' (by omega) (by omega) w w' w2
  · by_cases e1 : t = n
    · rw [e1, en]; exact hss
    · rw [eo t (by omega)]; exact h.st t (by omega)
  · by_cases e1 : t = n
    · rw [e1, en]
      show sl_tc T ss 4 j = -1 ∨ _
      have e2 : j = 4 * (j / 4) + j % 4 := by omega
      rw [e2, sl_tc_in (by omega) (by omega)]
      split
      · rcases sl_row_in (by omega) (h.tr (j / 4) (by omega)) (i := j % 4) (by omega) with w | ⟨q, hq, w⟩
        · exact Or.inl w
        · exact Or.inr ⟨q, tl, rfl, hq, htl, by show sl_tc T ss 4 _ = _; rw [sl_tc_in (by omega) (by omega)]; rename_i hh; rw [if_pos hh]; exact w⟩
      · exact Or.inl rfl
    · rw [eo t (by omega)]; exact h.pt t (by omega) j hj
  · refine sl_row_push hk htl (h.tr k hk) sub (fun hh u ho => ?_) (fun hh => ?_)
    · rcases own tl htl u ho with ⟨h1, -⟩ | ⟨-, h1, -⟩
      · rw [h1, en]; exact hh
      · omega
    · rintro ⟨u, ho, h3⟩
      rcases own tl htl u ho with ⟨h1, -⟩ | ⟨-, h1, -⟩
      · rw [h1, en] at h3
        rw [show sl_has ss (nI k) = true from h3] at hh; cases hh
      · omega
  · rcases own p hp t ho with ⟨h1, h2⟩ | ⟨h1, h2, h3⟩
    · subst h1 h2
      rw [en] at hh ⊢
      have := sl_row_m (h.tr k hk) sub
      show sl_row _ _ _ _ k p (sl_tc T ss 4)
      rw [sl_row, sl_tc_in hk (by omega), sl_tc_in hk (by omega), sl_tc_in hk (by omega), sl_tc_in hk (by omega), if_pos hh, if_pos hh, if_pos hh, if_pos hh]
      exact this
    · rw [eo t h1] at hh ⊢
      exact sl_row_m (h.ro t p hp h3 k hk hh) (fun q hq => sub q (by omega))
/-- what valueByPointers asks of the pointers -/
theorem sl_J.hP {n e : Nat} {ep : Int32} {tl : Nat} {T C : Nat → Int32} {E : Nat → sl_Ent} (h : sl_J n e ep tl T C E) : ∀ t, t < n → ∀ j, j < 16 → sl_pt ((E t).2.2.2.2.2.2.1 j) := by
  intro t ht j hj
  rcases h.pt t ht j hj with w | ⟨q, p, -, h1, h2, w⟩
  · exact Or.inl w
  · exact Or.inr ⟨q, by omega, w⟩
theorem sl_J.hPP {n e : Nat} {ep : Int32} {tl : Nat} {T C : Nat → Int32} {E : Nat → sl_Ent} (h : sl_J n e ep tl T C E) (hw : sl_wf n tl C E) : sl_PP n C E := by
  intro q t hq htok j hj
  have hn := hw.1
  have ht := sl_tok_lt htok
  have h1 := h.pl q (by omega) t ht (sl_tok_eq hn htok)
  rcases h.pt t ht j hj with w | ⟨q', p, h2, h3, h4, w⟩
  · exact Or.inl w
  · rw [h2] at h1
    have := sl_nIne (a := p) (b := q % 120) (by omega) (by omega) h1
    exact Or.inr ⟨q', by omega, w⟩
theorem sl_J.vp {n e : Nat} {ep : Int32} {tl : Nat} {T C : Nat → Int32} {E : Nat → sl_Ent} (h : sl_J n e ep tl T C E) (hw : sl_wf n tl C E) {j b : Nat} (hj : j < 4) (hb : b ≤ 120) : sl_vp n C E j 120 (sl_la n C E (nI j) b) 0 = sl_vs n C E (nI j) b := by
  have hn := hw.1
  have hpl : ∀ q, q < 120 → ∀ u, u < n → C q = nI u → (E u).1 = nI q := by
    intro q hq u hu w
    have := h.pl q (by omega) u hu w
    rwa [show q % 120 = q by omega] at this
  rw [sl_vp_vs (fun q hq hh => ?_) 120 b 0 hb hb, Int32.zero_add]
  rcases sl_opt (sl_tok n (C q)) with e1 | ⟨t, e1⟩
  · rw [sl_hs_0 e1] at hh; cases hh
  · rw [sl_hs_1 e1] at hh
    rw [sl_pq_1 e1]
    exact sl_pb_la hn hq hpl (h.ro t q hq ⟨sl_tok_lt e1, hpl q hq t (sl_tok_lt e1) (sl_tok_eq hn e1), Or.inl (sl_tok_eq hn e1)⟩ j hj hh)

