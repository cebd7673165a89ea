/-! what stays true from call to call -/
def sl_JP (C : Nat → Int32) (p : Nat) : Prop := (C (120 + p) = C p ∨ C (120 + p) = -2) ∧ (C (240 + p) = C (120 + p) ∨ C (240 + p) = -2) ∧ (C p = -1 → C (120 + p) = -1 ∧ C (240 + p) = -1)
def sl_JC (C : Nat → Int32) (p t : Nat) (v : Int32) : Prop := (C p = -1 ∧ C (120 + p) = -1 ∧ C (240 + p) = -1) ∨ (C p = nI t ∧ C (120 + p) = nI t ∧ C (240 + p) = nI t) ∨
  ∃ k, k ≤ 3 ∧ v = nI k ∧ (∀ r, r < k → C (120 * r + p) = nI t) ∧ ∀ r, k ≤ r → r < 3 → C (120 * r + p) = -2
def sl_J (n e : Nat) (ep : Int32) (tl : Nat) (T C : Nat → Int32) (E : Nat → sl_Ent) : Prop :=
  (ep = nI e) ∧
  (∀ t, t < n → ∃ a, a ≤ e ∧ (E t).2.1 = nI a) ∧
  (∀ p, p < 120 → sl_JP C p) ∧
  (∀ i, i < 360 → ∀ u, u < n → C i = nI u → (E u).1 = nI (i % 120)) ∧
  (∀ p, tl ≤ p → p < 120 → C p = -2 ∧ C (120 + p) = -2 ∧ C (240 + p) = -2) ∧
  (∀ t, t < n → (E t).2.1 = ep → ∃ p, p < tl ∧ (E t).1 = nI p ∧ sl_JC C p t (E t).2.2.2.2.2.2.2) ∧
  (∀ t t', t < n → t' < n → (E t).2.1 = ep → (E t').2.1 = ep → (E t).1 = (E t').1 → t = t') ∧
  (sl_ST n E) ∧
  (∀ t, t < n → ∀ j, j < 16 → (E t).2.2.2.2.2.2.1 j = -1 ∨ ∃ q p, (E t).1 = nI p ∧ q < p ∧ p < 120 ∧ (E t).2.2.2.2.2.2.1 j = nI q) ∧
  (∀ k, k < 4 → sl_row n ep C E k tl T) ∧
  (∀ t p, p < 120 → sl_own n ep C E p t → ∀ k, k < 4 → sl_has (E t).2.2.1 (nI k) = true → sl_row n ep C E k p (E t).2.2.2.2.2.2.1)
theorem sl_J.ep {n e : Nat} {ep : Int32} {tl : Nat} {T C : Nat → Int32} {E : Nat → sl_Ent} (h : sl_J n e ep tl T C E) : ep = nI e := h.1
theorem sl_J.es {n e : Nat} {ep : Int32} {tl : Nat} {T C : Nat → Int32} {E : Nat → sl_Ent} (h : sl_J n e ep tl T C E) : ∀ t, t < n → ∃ a, a ≤ e ∧ (E t).2.1 = nI a := h.2.1
theorem sl_J.jp {n e : Nat} {ep : Int32} {tl : Nat} {T C : Nat → Int32} {E : Nat → sl_Ent} (h : sl_J n e ep tl T C E) : ∀ p, p < 120 → sl_JP C p := h.2.2.1
theorem sl_J.pl {n e : Nat} {ep : Int32} {tl : Nat} {T C : Nat → Int32} {E : Nat → sl_Ent} (h : sl_J n e ep tl T C E) : ∀ i, i < 360 → ∀ u, u < n → C i = nI u → (E u).1 = nI (i % 120) := h.2.2.2.1
theorem sl_J.em {n e : Nat} {ep : Int32} {tl : Nat} {T C : Nat → Int32} {E : Nat → sl_Ent} (h : sl_J n e ep tl T C E) : ∀ p, tl ≤ p → p < 120 → C p = -2 ∧ C (120 + p) = -2 ∧ C (240 + p) = -2 := h.2.2.2.2.1
theorem sl_J.cu {n e : Nat} {ep : Int32} {tl : Nat} {T C : Nat → Int32} {E : Nat → sl_Ent} (h : sl_J n e ep tl T C E) : ∀ t, t < n → (E t).2.1 = ep → ∃ p, p < tl ∧ (E t).1 = nI p ∧ sl_JC C p t (E t).2.2.2.2.2.2.2 := h.2.2.2.2.2.1
theorem sl_J.di {n e : Nat} {ep : Int32} {tl : Nat} {T C : Nat → Int32} {E : Nat → sl_Ent} (h : sl_J n e ep tl T C E) : ∀ t t', t < n → t' < n → (E t).2.1 = ep → (E t').2.1 = ep → (E t).1 = (E t').1 → t = t' := h.2.2.2.2.2.2.1
theorem sl_J.st {n e : Nat} {ep : Int32} {tl : Nat} {T C : Nat → Int32} {E : Nat → sl_Ent} (h : sl_J n e ep tl T C E) : sl_ST n E := h.2.2.2.2.2.2.2.1
theorem sl_J.pt {n e : Nat} {ep : Int32} {tl : Nat} {T C : Nat → Int32} {E : Nat → sl_Ent} (h : sl_J n e ep tl T C E) : ∀ t, t < n → ∀ j, j < 16 → (E t).2.2.2.2.2.2.1 j = -1 ∨ ∃ q p, (E t).1 = nI p ∧ q < p ∧ p < 120 ∧ (E t).2.2.2.2.2.2.1 j = nI q := h.2.2.2.2.2.2.2.2.1
theorem sl_J.tr {n e : Nat} {ep : Int32} {tl : Nat} {T C : Nat → Int32} {E : Nat → sl_Ent} (h : sl_J n e ep tl T C E) : ∀ k, k < 4 → sl_row n ep C E k tl T := h.2.2.2.2.2.2.2.2.2.1
theorem sl_J.ro {n e : Nat} {ep : Int32} {tl : Nat} {T C : Nat → Int32} {E : Nat → sl_Ent} (h : sl_J n e ep tl T C E) : ∀ t p, p < 120 → sl_own n ep C E p t → ∀ k, k < 4 → sl_has (E t).2.2.1 (nI k) = true → sl_row n ep C E k p (E t).2.2.2.2.2.2.1 := h.2.2.2.2.2.2.2.2.2.2
theorem sl_row_0 (n : Nat) (ep : Int32) (C : Nat → Int32) (E : Nat → sl_Ent) (k : Nat) : sl_row n ep C E k 0 (fun _ => -1) := sl_RI.zero _ _
theorem sl_J_0 : sl_J 0 0 0 0 (fun _ => -1) (fun _ => -2) sl_E0 :=
  ⟨rfl,
  fun t h => absurd h (Nat.not_lt_zero t),
  fun p _ => ⟨Or.inl rfl, Or.inl rfl, fun h => absurd (show (-2 : Int32) = -1 from h) (by decide)⟩,
  fun i _ u h => absurd h (Nat.not_lt_zero u),
  fun p _ _ => ⟨rfl, rfl, rfl⟩,
  fun t h => absurd h (Nat.not_lt_zero t),
  fun t _ h => absurd h (Nat.not_lt_zero t),
  fun t h => absurd h (Nat.not_lt_zero t),
  fun t h => absurd h (Nat.not_lt_zero t),
  fun k _ => sl_row_0 _ _ _ _ k,
  fun t p _ h => absurd h.1 (Nat.not_lt_zero t)⟩
theorem sl_nIne {a b : Nat} (ha : a < 2 ^ 31) (hb : b < 2 ^ 31) (h : nI a = nI b) : a = b := (nI_eq ha hb).mp h
theorem sl_ne2 {a : Nat} (ha : a < 2 ^ 31) : nI a ≠ -2 := fun w => by
  have := congrArg Int32.toInt w
  rw [nI_toInt ha, show (-2 : Int32).toInt = -2 from rfl] at this; omega
theorem sl_ne1 {a : Nat} (ha : a < 2 ^ 31) : nI a ≠ -1 := fun w => by
  have := congrArg Int32.toInt w
  rw [nI_toInt ha, show (-1 : Int32).toInt = -1 from rfl] at this; omega
theorem sl_JC_c {C C' : Nat → Int32} {p t : Nat} {v : Int32} (h : sl_JC C p t v) (hc : ∀ r, r < 3 → C' (120 * r + p) = C (120 * r + p)) : sl_JC C' p t v := by
  have c0 : C' p = C p := by have := hc 0 (by omega); rwa [show 120 * 0 + p = p by omega] at this
  have c1 : C' (120 + p) = C (120 + p) := by have := hc 1 (by omega); rwa [show 120 * 1 + p = 120 + p by omega] at this
  have c2 : C' (240 + p) = C (240 + p) := by have := hc 2 (by omega); rwa [show 120 * 2 + p = 240 + p by omega] at this
  rcases h with h | h | ⟨k, h1, h2, h3, h4⟩
  · exact Or.inl ⟨by rw [c0]; exact h.1, by rw [c1]; exact h.2.1, by rw [c2]; exact h.2.2⟩
  · exact Or.inr (Or.inl ⟨by rw [c0]; exact h.1, by rw [c1]; exact h.2.1, by rw [c2]; exact h.2.2⟩)
  · exact Or.inr (Or.inr ⟨k, h1, h2, fun r hr => by rw [hc r (by omega)]; exact h3 r hr, fun r hr hr2 => by rw [hc r hr2]; exact h4 r hr hr2⟩)
/-- a call that writes cells and steps alone -/
theorem sl_J.same {n e : Nat} {ep : Int32} {tl : Nat} {T C C' : Nat → Int32} {E E' : Nat → sl_Ent} (h : sl_J n e ep tl T C E) (htl : tl ≤ 120)
    (f1 : ∀ u, (E' u).1 = (E u).1) (f2 : ∀ u, (E' u).2.1 = (E u).2.1) (f3 : ∀ u, (E' u).2.2.1 = (E u).2.2.1) (f7 : ∀ u, (E' u).2.2.2.2.2.2.1 = (E u).2.2.2.2.2.2.1)
    (hjp : ∀ p, p < 120 → sl_JP C' p) (hpl : ∀ i, i < 360 → ∀ u, u < n → C' i = nI u → (E u).1 = nI (i % 120))
    (hem : ∀ p, tl ≤ p → p < 120 → C' p = -2 ∧ C' (120 + p) = -2 ∧ C' (240 + p) = -2)
    (hcu : ∀ t, t < n → (E t).2.1 = ep → ∃ p, p < tl ∧ (E t).1 = nI p ∧ sl_JC C' p t (E' t).2.2.2.2.2.2.2)
    (ho : ∀ q u, q < 120 → u < n → (E u).1 = nI q → C' q = nI u → C q = nI u ∨ (E u).2.1 = ep) : sl_J n e ep tl T C' E' := by
  have own : ∀ q, q < 120 → ∀ u, sl_own n ep C' E' q u → sl_own n ep C E q u ∧ (E' u).2.2.1 = (E u).2.2.1 := by
    intro q hq u ⟨h1, h2, h3⟩
    rw [f1] at h2
    rw [f2] at h3
    exact ⟨⟨h1, h2, h3.elim (fun w => ho q u hq h1 h2 w) Or.inr⟩, f3 u⟩
  exact ⟨h.ep,
    fun t ht => by rw [f2]; exact h.es t ht,
    hjp,
    fun i hi u hu w => by rw [f1]; exact hpl i hi u hu w,
    hem,
    fun t ht w => by rw [f1]; rw [f2] at w; exact hcu t ht w,
    fun t t' ht ht' w w' w2 => by rw [f2] at w w'; rw [f1, f1] at w2; exact h.di t t' ht ht' w w' w2,
    fun t ht => by rw [f3]; exact h.st t ht,
    fun t ht j hj => by rw [f7, f1]; exact h.pt t ht j hj,
    fun k hk => sl_row_m (h.tr k hk) (fun q hq => own q (by omega)),
    fun t p hp w k hk hh => by
      rw [f7]; rw [f3] at hh
      exact sl_row_m (h.ro t p hp (own p hp t w).1 k hk hh) (fun q hq => own q (by omega))⟩
theorem sl_es_1 (E : Nat → sl_Ent) (t : Nat) (v : Int32) (u : Nat) : (sl_es E t v u).1 = (E u).1 := (sl_es_f E t v (fun x => x.1) (fun _ _ _ _ _ _ _ _ _ => rfl) u).symm
theorem sl_es_2 (E : Nat → sl_Ent) (t : Nat) (v : Int32) (u : Nat) : (sl_es E t v u).2.1 = (E u).2.1 := (sl_es_f E t v (fun x => x.2.1) (fun _ _ _ _ _ _ _ _ _ => rfl) u).symm
theorem sl_es_3 (E : Nat → sl_Ent) (t : Nat) (v : Int32) (u : Nat) : (sl_es E t v u).2.2.1 = (E u).2.2.1 := (sl_es_f E t v (fun x => x.2.2.1) (fun _ _ _ _ _ _ _ _ _ => rfl) u).symm
theorem sl_es_7 (E : Nat → sl_Ent) (t : Nat) (v : Int32) (u : Nat) : (sl_es E t v u).2.2.2.2.2.2.1 = (E u).2.2.2.2.2.2.1 := (sl_es_f E t v (fun x => x.2.2.2.2.2.2.1) (fun _ _ _ _ _ _ _ _ _ => rfl) u).symm
theorem sl_cp_eq0 {C : Nat → Int32} {k p : Nat} {x y z : Int32} (ek : y = nI k) (ep : z = nI p) (hk : k < 3) (hp : p < 120) : (if sl_cg C y z = -1 then C else sl_cp C y z x) = upd C (120 * k + p) (if C (120 * k + p) = -2 then x else C (120 * k + p)) := by
  rw [ek, ep]; exact sl_cp_eq C hk hp x
/-- write keeps it -/
theorem sl_J.write {n e : Nat} {ep : Int32} {tl : Nat} {T C : Nat → Int32} {E : Nat → sl_Ent} (h : sl_J n e ep tl T C E) (hw : sl_wf n tl C E) {t : Nat} (ht : t < n) (hb : ¬ ((E t).2.2.2.2.2.2.2 = -1 ∨ (E t).2.2.2.2.2.2.2 = 3 ∨ ¬ (E t).2.1 = ep)) :
    sl_J n e ep tl T (if sl_cg C (E t).2.2.2.2.2.2.2 (E t).1 = -1 then C else sl_cp C (E t).2.2.2.2.2.2.2 (E t).1 (nI t)) (sl_es E t (if sl_cg C (E t).2.2.2.2.2.2.2 (E t).1 = -1 then -1 else (E t).2.2.2.2.2.2.2 + 1)) := by
  have hcur : (E t).2.1 = ep := Classical.byContradiction (fun w => hb (Or.inr (Or.inr w)))
  obtain ⟨k, hk3, ek⟩ := (hw.2.2.2.1 t ht).2.2.1.elim (fun w => absurd (Or.inl w) hb) id
  have hk : k < 3 := by
    have : k ≠ 3 := fun w => hb (Or.inr (Or.inl (by rw [ek, w]; rfl)))
    omega
  obtain ⟨p, hp, ep1, hc⟩ := h.cu t ht hcur
  have hn := hw.1
  have htl := hw.2.1
  rw [sl_cp_eq0 ek ep1 hk (by omega : p < 120)]
  rw [ek, ep1, sl_cgN C hk (by omega)]
  have oth : ∀ u, u < n → u ≠ t → (E u).2.1 = ep → ∃ q, q < tl ∧ q ≠ p ∧ (E u).1 = nI q ∧ sl_JC C q u (E u).2.2.2.2.2.2.2 := by
    intro u hu hne hce
    obtain ⟨q, h1, h2, h3⟩ := h.cu u hu hce
    exact ⟨q, h1, fun w => hne (h.di u t hu ht hce hcur (by rw [h2, ep1, w])), h2, h3⟩
  rcases hc with ⟨c0, c1, c2⟩ | ⟨c0, c1, c2⟩ | ⟨k', hk', ek', hlo, hhi⟩
  · -- junk
    have ec : C (120 * k + p) = -1 := by
      rcases (by omega : k = 0 ∨ k = 1 ∨ k = 2) with e | e | e <;> subst e
      · rw [show 120 * 0 + p = p by omega]; exact c0
      · rw [show 120 * 1 + p = 120 + p by omega]; exact c1
      · rw [show 120 * 2 + p = 240 + p by omega]; exact c2
    rw [if_pos ec, if_neg (by rw [ec]; decide), sl_upd_id]
    refine h.same htl (sl_es_1 E t _) (sl_es_2 E t _) (sl_es_3 E t _) (sl_es_7 E t _) h.jp h.pl h.em (fun u hu hce => ?_) (fun q u _ _ _ w => Or.inl w)
    by_cases e : u = t
    · subst e; exact ⟨p, hp, ep1, Or.inl ⟨c0, c1, c2⟩⟩
    · obtain ⟨q, h1, -, h2, h3⟩ := oth u hu e hce
      rw [sl_es_ne e]; exact ⟨q, h1, h2, h3⟩
  · -- filled
    have ec : C (120 * k + p) = nI t := by
      rcases (by omega : k = 0 ∨ k = 1 ∨ k = 2) with e | e | e <;> subst e
      · rw [show 120 * 0 + p = p by omega]; exact c0
      · rw [show 120 * 1 + p = 120 + p by omega]; exact c1
      · rw [show 120 * 2 + p = 240 + p by omega]; exact c2
    rw [if_neg (by rw [ec]; exact sl_ne2 (a := t) (by omega)), if_neg (by rw [ec]; exact sl_ne1 (a := t) (by omega)), sl_upd_id]
    refine h.same htl (sl_es_1 E t _) (sl_es_2 E t _) (sl_es_3 E t _) (sl_es_7 E t _) h.jp h.pl h.em (fun u hu hce => ?_) (fun q u _ _ _ w => Or.inl w)
    by_cases e : u = t
    · subst e; exact ⟨p, hp, ep1, Or.inr (Or.inl ⟨c0, c1, c2⟩)⟩
    · obtain ⟨q, h1, -, h2, h3⟩ := oth u hu e hce
      rw [sl_es_ne e]; exact ⟨q, h1, h2, h3⟩
  · -- the next cell
    have e9 : k' = k := sl_nIne (a := k') (b := k) (by omega) (by omega) (by rw [← ek', ek])
    subst e9
    have ec : C (120 * k' + p) = -2 := hhi k' (by omega) hk
    rw [if_pos ec, if_neg (by rw [ec]; decide), nI_1]
    have un : ∀ i, i ≠ 120 * k' + p → upd C (120 * k' + p) (nI t) i = C i := fun i hi => pk_un hi
    refine h.same htl (sl_es_1 E t _) (sl_es_2 E t _) (sl_es_3 E t _) (sl_es_7 E t _) (fun q hq => ?_) (fun i hi u hu w => ?_) (fun q h1 h2 => ?_) (fun u hu hce => ?_) (fun q u hq hu hpu w => ?_)
    · by_cases e : q = p
      · subst e
        have g0 := hlo 0; have g1 := hlo 1
        have g2 := hhi 0; have g3 := hhi 1; have g4 := hhi 2
        rw [show 120 * 0 + q = q by omega] at g0 g2
        rw [show 120 * 1 + q = 120 + q by omega] at g1 g3
        rw [show 120 * 2 + q = 240 + q by omega] at g4
        rcases (by omega : k' = 0 ∨ k' = 1 ∨ k' = 2) with e | e | e <;> subst e
        · rw [show 120 * 0 + q = q by omega] at un ⊢
          rw [sl_JP, un (120 + q) (by omega), un (240 + q) (by omega), pk_us, g3 (by omega) (by omega), g4 (by omega) (by omega)]
          exact ⟨Or.inr rfl, Or.inr rfl, fun w => absurd w (sl_ne1 (a := t) (by omega))⟩
        · rw [show 120 * 1 + q = 120 + q by omega] at un ⊢
          rw [sl_JP, un q (by omega), un (240 + q) (by omega), pk_us, g0 (by omega), g4 (by omega) (by omega)]
          exact ⟨Or.inl rfl, Or.inr rfl, fun w => absurd w (sl_ne1 (a := t) (by omega))⟩
        · rw [show 120 * 2 + q = 240 + q by omega] at un ⊢
          rw [sl_JP, un q (by omega), un (120 + q) (by omega), pk_us, g0 (by omega), g1 (by omega)]
          exact ⟨Or.inl rfl, Or.inl rfl, fun w => absurd w (sl_ne1 (a := t) (by omega))⟩
      · rw [sl_JP, un _ (by omega), un _ (by omega), un _ (by omega)]
        exact h.jp q hq
    · by_cases e : i = 120 * k' + p
      · subst e
        rw [pk_us] at w
        rw [← sl_nIne (by omega) (by omega) w, ep1]
        congr 1; omega
      · rw [un i e] at w; exact h.pl i hi u hu w
    · rw [un _ (by omega), un _ (by omega), un _ (by omega)]; exact h.em q h1 h2
    · by_cases e : u = t
      · subst e
        refine ⟨p, hp, ep1, Or.inr (Or.inr ⟨k' + 1, by omega, by rw [sl_es_at], fun r hr => ?_, fun r hr hr2 => ?_⟩)⟩
        · by_cases e : r = k'
          · rw [e, pk_us]
          · rw [un _ (by omega)]; exact hlo r (by omega)
        · rw [un _ (by omega)]; exact hhi r (by omega) hr2
      · obtain ⟨q, h1, hne, h2, h3⟩ := oth u hu e hce
        rw [sl_es_ne e]
        exact ⟨q, h1, h2, sl_JC_c h3 (fun r hr => un _ (by omega))⟩
    · by_cases e : q = 120 * k' + p
      · rw [e, pk_us] at w
        exact Or.inr (by rw [← sl_nIne (by omega) (by omega) w]; exact hcur)
      · rw [un q e] at w; exact Or.inl w

