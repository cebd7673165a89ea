/-! the class and the reference, call by call -/
/-- where the law stands between two calls -/
def sl_LT (Γ : sl_G) (α μ : Nat → Nat) (ao e : Nat) (th : Int32) (f : Nat → Int64) (w : sl_W) : Prop :=
  ∃ (β : Nat → Nat × Nat × Nat) (n : Nat) (ep : Int32) (tl : Nat) (lo : Bool) (T C : Nat → Int32) (E : Nat → sl_Ent), sl_Cls Γ α β n ep tl lo T C E w ∧ sl_Mdl Γ μ n ep tl lo T C E th w ∧ sl_J n e ep tl T C E ∧ w 40 = some (ao, .inl (Γ.2.1 3, 1, .inr (.inl f)))
def sl_AG (Γ : sl_G) (α μ : Nat → Nat) (ao e : Nat) (r r' : Int32) (w2 : sl_W) : Prop :=
  ∃ (th : Int32) (f : Nat → Int64), sl_LT Γ α μ ao e th f w2 ∧ r = th ∧ (th = 0 → f 0 = r'.toInt64)
theorem sl_Mdl.wf {Γ : sl_G} {μ : Nat → Nat} {n : Nat} {ep : Int32} {tl : Nat} {lo : Bool} {T C : Nat → Int32} {E : Nat → sl_Ent} {th : Int32} {g : sl_W} (h : sl_Mdl Γ μ n ep tl lo T C E th g) : sl_wf n tl C E := by
  obtain ⟨h20, h21, h22, h23, h24, h25, h26, h27, h28, h29, h30, ⟨F, h31⟩, hw⟩ := h
  exact hw
theorem sl_Wr.md {Γ : sl_G} {g : sl_W} {ao : Nat} {P : Int32 → sl_W → Prop} {A1 A2 : Prop} {r : Int32} {w : sl_W} (h : sl_Wr Γ g ao P A1 A2 r w) : ∀ k, 20 ≤ k → k < 32 → w k = g k := by
  intro k h1 h2
  rcases h with ⟨-, v, f, u, -, hf, rfl, -⟩ | ⟨-, -, rfl⟩ | ⟨-, -, rfl⟩
  · exact (sl_up_n _ _ (by omega)).trans (hf k (by omega) (by omega))
  · rfl
  · rfl
theorem sl_ag_no {Γ : sl_G} {α μ : Nat → Nat} {β : Nat → Nat × Nat × Nat} {n e : Nat} {ep : Int32} {tl : Nat} {lo : Bool} {T C : Nat → Int32} {E : Nat → sl_Ent} {g : sl_W} (hK : sl_Cls Γ α β n ep tl lo T C E g) (hJ : sl_J n e ep tl T C E) (hw : sl_wf n tl C E) {ao : Nat} {fo : Nat → Int64} (h40 : g 40 = some (ao, .inl (Γ.2.1 3, 1, .inr (.inl fo)))) {th2 : Int32} {r r' : Int32} {w2 : sl_W} (hM : sl_Mdl Γ μ n ep tl lo T C E th2 w2) (hfm : sl_fm g w2) (hr : r = th2) (hne : th2 ≠ 0) : sl_AG Γ α μ ao e r r' w2 :=
  ⟨th2, fo, ⟨β, n, ep, tl, lo, T, C, E, hK.cg (fun k hk => hfm k (by omega)), hM, hJ, (hfm 40 (by omega)).trans h40⟩, hr, fun h => absurd h hne⟩
theorem sl_ag_ok {Γ : sl_G} {α μ : Nat → Nat} {β : Nat → Nat × Nat × Nat} {n e : Nat} {ep : Int32} {tl : Nat} {lo : Bool} {T C : Nat → Int32} {E : Nat → sl_Ent} {u : sl_W} (hK : sl_Cls Γ α β n ep tl lo T C E u) (hJ : sl_J n e ep tl T C E) {ao : Nat} {f : Nat → Int64} {w2 : sl_W} {v r' : Int32}
    (hM : sl_Mdl Γ μ n ep tl lo T C E 0 w2) (hfm : sl_fm (sl_up u 40 (ao, .inl (Γ.2.1 3, 1, .inr (.inl f)))) w2) (hf : f 0 = v.toInt64) (hv : v = r') : sl_AG Γ α μ ao e 0 r' w2 :=
  ⟨0, f, ⟨β, n, ep, tl, lo, T, C, E, hK.cg (fun k hk => (hfm k (by omega)).trans (sl_up_n _ _ (by omega))), hM, hJ, (hfm 40 (by omega)).trans (sl_up_s _ _ _)⟩, rfl, fun _ => by rw [hf, hv]⟩
theorem sl_tf {b : Bool} {p : Prop} (h1 : b = true) (h2 : b = false) : p := absurd (h1.symm.trans h2) (by decide)
theorem sl_k2_set {ss am : Int32} (h : sl_k2 ss am = true) : ∃ a, a < 16 ∧ ss = nI a := by
  have h1 := sl_in_iff.mp (sl_and1 h)
  rw [sl_i1, sl_i15] at h1
  obtain ⟨a, h2, h3⟩ := sl_nat (v := ss) (n := 15) (by omega) (by omega) (by omega)
  exact ⟨a, by omega, h3⟩
theorem sl_k4_set {lo : Bool} {tl : Nat} {ss am rd ver : Int32} (h : sl_k4 lo tl ss am rd ver = true) : ∃ a, a < 16 ∧ ss = nI a := by
  have h1 := sl_in_iff.mp (sl_and1 (sl_and1 (sl_and1 h)))
  rw [sl_i1, sl_i15] at h1
  obtain ⟨a, h2, h3⟩ := sl_nat (v := ss) (n := 15) (by omega) (by omega) (by omega)
  exact ⟨a, by omega, h3⟩
theorem sl_tok2 {n : Nat} {x : Int32} {t t2 : Nat} (h1 : sl_tok n x = some t) (h2 : sl_tok n x = some t2) : t2 = t := Option.some.inj (h2.symm.trans h1)
theorem sl_tokn {n : Nat} {x : Int32} {t : Nat} {p : Prop} (h1 : sl_tok n x = some t) (h2 : sl_tok n x = none) : p := by rw [h1] at h2; cases h2
theorem sl_toks {n : Nat} {x : Int32} {t : Nat} {p : Prop} (h1 : sl_tok n x = some t) (h2 : (sl_tok n x).isSome = false) : p := by rw [h1] at h2; cases h2
theorem sl_10 : (1 : Int32) ≠ 0 := by decide
theorem sl_20 : (2 : Int32) ≠ 0 := by decide
theorem sl_ag_take {Γ : sl_G} {α μ : Nat → Nat} {β : Nat → Nat × Nat × Nat} {n e : Nat} {ep : Int32} {tl : Nat} {lo : Bool} {T C : Nat → Int32} {E : Nat → sl_Ent} {g : sl_W} (hK : sl_Cls Γ α β n ep tl lo T C E g) (hJ : sl_J n e ep tl T C E) (hw : sl_wf n tl C E) {ao : Nat} {fo : Nat → Int64} (h40 : g 40 = some (ao, .inl (Γ.2.1 3, 1, .inr (.inl fo)))) {ss am : Int32} {r r' : Int32} {w w2 : sl_W} (hr : sl_Wr Γ g ao (fun v w => ∃ β9, sl_k2 ss am = true ∧ sl_ch lo tl n = false ∧ v = nI n ∧ sl_Cls Γ α β9 (n + 1) ep (tl + 1) lo (sl_tp T ss (nI tl) 4) C (sl_eu E n (nI tl, ep, ss, am, 0, 0, sl_tc T ss 4, 0)) w) (sl_k2 ss am = false) (sl_k2 ss am = true ∧ sl_ch lo tl n = true) r w) (hm : (fun r w' => (((sl_k2 ss am = true ∧ sl_ch lo tl n = false ∧ r = nI n) ∧ sl_Mdl Γ μ (n + 1) ep (tl + 1) lo (sl_tp T ss (nI tl) 4) C (sl_eu E n (nI tl, ep, ss, am, 0, 0, sl_tc T ss 4, 0)) 0 w') ∨ (sl_k2 ss am = true ∧ sl_ch lo tl n = true ∧ sl_Mdl Γ μ n ep tl lo T C E 2 w') ∨ (sl_k2 ss am = false ∧ sl_Mdl Γ μ n ep tl lo T C E 1 w')) ∧ sl_fm w w') r' w2) : sl_AG Γ α μ ao e r r' w2 := by
  obtain ⟨hm, hfm⟩ := hm
  rcases hr with ⟨rfl, v, f, u, hP, hfr, rfl, hf⟩ | ⟨rfl, hA, rfl⟩ | ⟨rfl, hA, rfl⟩
  · obtain ⟨β9, q1, q2, q3, hK9⟩ := hP
    rcases hm with ⟨⟨k1, k2, k3⟩, m⟩ | ⟨k1, k2, m⟩ | ⟨k1, m⟩
    · obtain ⟨-, a1, a2⟩ := sl_ch_f q2
      exact sl_ag_ok hK9 (hJ.take hw a2 a1 (sl_k2_set q1)) m hfm hf (q3.trans k3.symm)
    · exact sl_tf k2 q2
    · exact sl_tf q1 k1
  · rcases hm with ⟨⟨k1, k2, k3⟩, m⟩ | ⟨k1, k2, m⟩ | ⟨k1, m⟩
    · exact sl_tf k1 hA
    · exact sl_tf k1 hA
    · exact sl_ag_no hK hJ hw h40 m hfm rfl sl_10
  · rcases hm with ⟨⟨k1, k2, k3⟩, m⟩ | ⟨k1, k2, m⟩ | ⟨k1, m⟩
    · exact sl_tf hA.2 k2
    · exact sl_ag_no hK hJ hw h40 m hfm rfl sl_20
    · exact sl_tf hA.1 k1
theorem sl_ag_takeIf {Γ : sl_G} {α μ : Nat → Nat} {β : Nat → Nat × Nat × Nat} {n e : Nat} {ep : Int32} {tl : Nat} {lo : Bool} {T C : Nat → Int32} {E : Nat → sl_Ent} {g : sl_W} (hK : sl_Cls Γ α β n ep tl lo T C E g) (hJ : sl_J n e ep tl T C E) (hw : sl_wf n tl C E) {ao : Nat} {fo : Nat → Int64} (h40 : g 40 = some (ao, .inl (Γ.2.1 3, 1, .inr (.inl fo)))) {ss am rd ver : Int32} {r r' : Int32} {w w2 : sl_W} (hr : sl_Wr Γ g ao (fun v w => ∃ β9, sl_k4 lo tl ss am rd ver = true ∧ sl_ch lo tl n = false ∧ v = nI n ∧ sl_Cls Γ α β9 (n + 1) ep (tl + 1) lo (sl_tp T ss (nI tl) 4) C (sl_eu E n (nI tl, ep, ss, am, rd, ver, sl_tc T ss 4, 0)) w) (sl_k4 lo tl ss am rd ver = false) (sl_k4 lo tl ss am rd ver = true ∧ sl_ch lo tl n = true) r w) (hm : (fun r w' => (((sl_k4 lo tl ss am rd ver = true ∧ sl_ch lo tl n = false ∧ r = nI n) ∧ sl_Mdl Γ μ (n + 1) ep (tl + 1) lo (sl_tp T ss (nI tl) 4) C (sl_eu E n (nI tl, ep, ss, am, rd, ver, sl_tc T ss 4, 0)) 0 w') ∨ (sl_k4 lo tl ss am rd ver = true ∧ sl_ch lo tl n = true ∧ sl_Mdl Γ μ n ep tl lo T C E 2 w') ∨ (sl_k4 lo tl ss am rd ver = false ∧ sl_Mdl Γ μ n ep tl lo T C E 1 w')) ∧ sl_fm w w') r' w2) : sl_AG Γ α μ ao e r r' w2 := by
  obtain ⟨hm, hfm⟩ := hm
  rcases hr with ⟨rfl, v, f, u, hP, hfr, rfl, hf⟩ | ⟨rfl, hA, rfl⟩ | ⟨rfl, hA, rfl⟩
  · obtain ⟨β9, q1, q2, q3, hK9⟩ := hP
    rcases hm with ⟨⟨k1, k2, k3⟩, m⟩ | ⟨k1, k2, m⟩ | ⟨k1, m⟩
    · obtain ⟨-, a1, a2⟩ := sl_ch_f q2
      exact sl_ag_ok hK9 (hJ.take hw a2 a1 (sl_k4_set q1)) m hfm hf (q3.trans k3.symm)
    · exact sl_tf k2 q2
    · exact sl_tf q1 k1
  · rcases hm with ⟨⟨k1, k2, k3⟩, m⟩ | ⟨k1, k2, m⟩ | ⟨k1, m⟩
    · exact sl_tf k1 hA
    · exact sl_tf k1 hA
    · exact sl_ag_no hK hJ hw h40 m hfm rfl sl_10
  · rcases hm with ⟨⟨k1, k2, k3⟩, m⟩ | ⟨k1, k2, m⟩ | ⟨k1, m⟩
    · exact sl_tf hA.2 k2
    · exact sl_ag_no hK hJ hw h40 m hfm rfl sl_20
    · exact sl_tf hA.1 k1
theorem sl_ag_lose {Γ : sl_G} {α μ : Nat → Nat} {β : Nat → Nat × Nat × Nat} {n e : Nat} {ep : Int32} {tl : Nat} {lo : Bool} {T C : Nat → Int32} {E : Nat → sl_Ent} {g : sl_W} (hK : sl_Cls Γ α β n ep tl lo T C E g) (hJ : sl_J n e ep tl T C E) (hw : sl_wf n tl C E) {ao : Nat} {fo : Nat → Int64} (h40 : g 40 = some (ao, .inl (Γ.2.1 3, 1, .inr (.inl fo)))) {r r' : Int32} {w w2 : sl_W} (hr : sl_Wr Γ g ao (fun v w => lo = false ∧ v = nI tl ∧ sl_Cls Γ α β n ep tl true T C E w) (lo = true) (False) r w) (hm : (fun r w' => ((lo = false ∧ r = nI tl) ∧ sl_Mdl Γ μ n ep tl true T C E 0 w' ∨ lo = true ∧ sl_Mdl Γ μ n ep tl true T C E 1 w') ∧ sl_fm w w') r' w2) : sl_AG Γ α μ ao e r r' w2 := by
  obtain ⟨hm, hfm⟩ := hm
  rcases hr with ⟨rfl, v, f, u, hP, hfr, rfl, hf⟩ | ⟨rfl, hA, rfl⟩ | ⟨rfl, hA, rfl⟩
  · obtain ⟨q1, q2, hK9⟩ := hP
    rcases hm with ⟨⟨k1, k2⟩, m⟩ | ⟨k1, m⟩
    · exact sl_ag_ok hK9 hJ m hfm hf (q2.trans k2.symm)
    · exact sl_tf k1 q1
  · rcases hm with ⟨⟨k1, k2⟩, m⟩ | ⟨k1, m⟩
    · exact sl_tf hA k1
    · subst hA
      exact sl_ag_no hK hJ hw h40 m hfm rfl sl_10
  · exact hA.elim
theorem sl_ag_write {Γ : sl_G} {α μ : Nat → Nat} {β : Nat → Nat × Nat × Nat} {n e : Nat} {ep : Int32} {tl : Nat} {lo : Bool} {T C : Nat → Int32} {E : Nat → sl_Ent} {g : sl_W} (hK : sl_Cls Γ α β n ep tl lo T C E g) (hJ : sl_J n e ep tl T C E) (hw : sl_wf n tl C E) {ao : Nat} {fo : Nat → Int64} (h40 : g 40 = some (ao, .inl (Γ.2.1 3, 1, .inr (.inl fo)))) {x : Int32} {r r' : Int32} {w w2 : sl_W} (hr : sl_Wr Γ g ao (fun v w => ∃ t, sl_tok n x = some t ∧ ¬ ((E t).2.2.2.2.2.2.2 = -1 ∨ (E t).2.2.2.2.2.2.2 = 3 ∨ ¬ (E t).2.1 = ep) ∧ v = (if sl_cg C (E t).2.2.2.2.2.2.2 (E t).1 = -1 then -1 else (E t).2.2.2.2.2.2.2 + 1) ∧ sl_Cls Γ α β n ep tl lo T (if sl_cg C (E t).2.2.2.2.2.2.2 (E t).1 = -1 then C else sl_cp C (E t).2.2.2.2.2.2.2 (E t).1 x) (sl_es E t (if sl_cg C (E t).2.2.2.2.2.2.2 (E t).1 = -1 then -1 else (E t).2.2.2.2.2.2.2 + 1)) w) (sl_tok n x = none) (∃ t, sl_tok n x = some t ∧ ((E t).2.2.2.2.2.2.2 = -1 ∨ (E t).2.2.2.2.2.2.2 = 3 ∨ ¬ (E t).2.1 = ep)) r w) (hm : (fun r w' => ((∃ t, sl_tok n x = some t ∧ ¬ ((E t).2.2.2.2.2.2.2 = -1 ∨ (E t).2.2.2.2.2.2.2 = 3 ∨ ¬ (E t).2.1 = ep) ∧ r = (if sl_cg C (E t).2.2.2.2.2.2.2 (E t).1 = -1 then -1 else (E t).2.2.2.2.2.2.2 + 1) ∧ sl_Mdl Γ μ n ep tl lo T (if sl_cg C (E t).2.2.2.2.2.2.2 (E t).1 = -1 then C else sl_cp C (E t).2.2.2.2.2.2.2 (E t).1 x) (sl_es E t (if sl_cg C (E t).2.2.2.2.2.2.2 (E t).1 = -1 then -1 else (E t).2.2.2.2.2.2.2 + 1)) 0 w') ∨ (∃ t, sl_tok n x = some t ∧ ((E t).2.2.2.2.2.2.2 = -1 ∨ (E t).2.2.2.2.2.2.2 = 3 ∨ ¬ (E t).2.1 = ep) ∧ sl_Mdl Γ μ n ep tl lo T C E 2 w') ∨ ((sl_tok n x).isSome = false ∧ sl_Mdl Γ μ n ep tl lo T C E 1 w')) ∧ sl_fm w w') r' w2) : sl_AG Γ α μ ao e r r' w2 := by
  obtain ⟨hm, hfm⟩ := hm
  rcases hr with ⟨rfl, v, f, u, hP, hfr, rfl, hf⟩ | ⟨rfl, hA, rfl⟩ | ⟨rfl, hA, rfl⟩
  · obtain ⟨t, q1, q2, q3, hK9⟩ := hP
    rcases hm with ⟨t2, k1, k2, k3, m⟩ | ⟨t2, k1, k2, m⟩ | ⟨k1, m⟩
    · obtain rfl := sl_tok2 q1 k1
      obtain rfl := sl_tok_eq hw.1 q1
      exact sl_ag_ok hK9 (hJ.write hw (sl_tok_lt q1) q2) m hfm hf (q3.trans k3.symm)
    · obtain rfl := sl_tok2 q1 k1
      exact absurd k2 q2
    · exact sl_toks q1 k1
  · rcases hm with ⟨t2, k1, k2, k3, m⟩ | ⟨t2, k1, k2, m⟩ | ⟨k1, m⟩
    · exact sl_tokn k1 hA
    · exact sl_tokn k1 hA
    · exact sl_ag_no hK hJ hw h40 m hfm rfl sl_10
  · rcases hm with ⟨t2, k1, k2, k3, m⟩ | ⟨t2, k1, k2, m⟩ | ⟨k1, m⟩
    · obtain ⟨t, q1, q2⟩ := hA
      obtain rfl := sl_tok2 q1 k1
      exact absurd q2 k2
    · exact sl_ag_no hK hJ hw h40 m hfm rfl sl_20
    · obtain ⟨t, q1, q2⟩ := hA
      exact sl_toks q1 k1
theorem sl_in_119 {x : Int32} {b : Nat} {p : Prop} (h : x = nI b) (hb : b < 120) (h2 : sl_in x 0 119 = false) : p := by
  rw [h] at h2
  exact sl_tf (sl_in_t (by rw [sl_i0, nI_toInt (by omega)]; omega) (by rw [sl_i119, nI_toInt (by omega)]; omega)) h2
theorem sl_or3 {lo : Bool} {tl b : Nat} {C : Nat → Int32} {p : Prop} (h1 : lo = false) (h2 : b < tl) (h3 : sl_wh C b = false) (h : lo = true ∨ tl ≤ b ∨ sl_wh C b = true) : p := by
  rcases h with h | h | h
  · exact sl_tf h h1
  · exact absurd h (by omega)
  · exact sl_tf h h3
theorem sl_ag_fill {Γ : sl_G} {α μ : Nat → Nat} {β : Nat → Nat × Nat × Nat} {n e : Nat} {ep : Int32} {tl : Nat} {lo : Bool} {T C : Nat → Int32} {E : Nat → sl_Ent} {g : sl_W} (hK : sl_Cls Γ α β n ep tl lo T C E g) (hJ : sl_J n e ep tl T C E) (hw : sl_wf n tl C E) {ao : Nat} {fo : Nat → Int64} (h40 : g 40 = some (ao, .inl (Γ.2.1 3, 1, .inr (.inl fo)))) {x : Int32} {r r' : Int32} {w w2 : sl_W} (hr : sl_Wr Γ g ao (fun v w => ∃ b, x = nI b ∧ b < 120 ∧ lo = false ∧ b < tl ∧ sl_wh C b = false ∧ v = sl_bi (sl_tok n (C b)).isSome ∧ sl_Cls Γ α β n ep tl lo T (sl_cf C b (if (sl_tok n (C b)).isSome = true then C b else -1)) E w) (sl_in x 0 119 = false) (∃ b, x = nI b ∧ b < 120 ∧ (lo = true ∨ tl ≤ b ∨ sl_wh C b = true)) r w) (hm : (fun r w' => ((∃ b, x = nI b ∧ b < 120 ∧ lo = false ∧ b < tl ∧ sl_wh C b = false ∧ r = sl_bi (sl_tok n (C b)).isSome ∧ sl_Mdl Γ μ n ep tl lo T (sl_mf C b (if (sl_tok n (C b)).isSome = true then C b else -1)) E 0 w') ∨ (∃ b, x = nI b ∧ b < 120 ∧ (lo = true ∨ tl ≤ b ∨ sl_wh C b = true) ∧ sl_Mdl Γ μ n ep tl lo T C E 2 w') ∨ (sl_in x 0 119 = false ∧ sl_Mdl Γ μ n ep tl lo T C E 1 w')) ∧ sl_fm w w') r' w2) : sl_AG Γ α μ ao e r r' w2 := by
  obtain ⟨hm, hfm⟩ := hm
  rcases hr with ⟨rfl, v, f, u, hP, hfr, rfl, hf⟩ | ⟨rfl, hA, rfl⟩ | ⟨rfl, hA, rfl⟩
  · obtain ⟨b, q1, q2, q3, q4, q5, q6, hK9⟩ := hP
    rcases hm with ⟨b2, j1, j2, j3, j4, j5, j6, m⟩ | ⟨b2, j1, j2, j3, m⟩ | ⟨k1, m⟩
    · have eb : b2 = b := sl_nIne (a := b2) (b := b) (by omega) (by omega) (j1.symm.trans q1)
      subst eb
      rw [hJ.cf hw q2 q5] at hK9
      exact sl_ag_ok hK9 (hJ.fill hw q2 q4 q5) m hfm hf (q6.trans j6.symm)
    · have eb : b2 = b := sl_nIne (a := b2) (b := b) (by omega) (by omega) (j1.symm.trans q1)
      subst eb
      exact sl_or3 q3 q4 q5 j3
    · exact sl_in_119 q1 q2 k1
  · rcases hm with ⟨b2, j1, j2, j3, j4, j5, j6, m⟩ | ⟨b2, j1, j2, j3, m⟩ | ⟨k1, m⟩
    · exact sl_in_119 j1 j2 hA
    · exact sl_in_119 j1 j2 hA
    · exact sl_ag_no hK hJ hw h40 m hfm rfl sl_10
  · rcases hm with ⟨b2, j1, j2, j3, j4, j5, j6, m⟩ | ⟨b2, j1, j2, j3, m⟩ | ⟨k1, m⟩
    · obtain ⟨b, q1, q2, q3⟩ := hA
      have eb : b2 = b := sl_nIne (a := b2) (b := b) (by omega) (by omega) (j1.symm.trans q1)
      subst eb
      exact sl_or3 j3 j4 j5 q3
    · exact sl_ag_no hK hJ hw h40 m hfm rfl sl_20
    · obtain ⟨b, q1, q2, q3⟩ := hA
      exact sl_in_119 q1 q2 k1
theorem sl_ag_positionOf {Γ : sl_G} {α μ : Nat → Nat} {β : Nat → Nat × Nat × Nat} {n e : Nat} {ep : Int32} {tl : Nat} {lo : Bool} {T C : Nat → Int32} {E : Nat → sl_Ent} {g : sl_W} (hK : sl_Cls Γ α β n ep tl lo T C E g) (hJ : sl_J n e ep tl T C E) (hw : sl_wf n tl C E) {ao : Nat} {fo : Nat → Int64} (h40 : g 40 = some (ao, .inl (Γ.2.1 3, 1, .inr (.inl fo)))) {x : Int32} {r r' : Int32} {w w2 : sl_W} (hr : sl_Wr Γ g ao (fun v w => (∃ t, sl_tok n x = some t ∧ v = (E t).1) ∧ sl_Cls Γ α β n ep tl lo T C E w) (sl_tok n x = none) (False) r w) (hm : (fun r w' => ((∃ t, sl_tok n x = some t ∧ r = (E t).1) ∧ sl_Mdl Γ μ n ep tl lo T C E 0 w' ∨ (sl_tok n x).isSome = false ∧ sl_Mdl Γ μ n ep tl lo T C E 1 w') ∧ sl_fm w w') r' w2) : sl_AG Γ α μ ao e r r' w2 := by
  obtain ⟨hm, hfm⟩ := hm
  rcases hr with ⟨rfl, v, f, u, hP, hfr, rfl, hf⟩ | ⟨rfl, hA, rfl⟩ | ⟨rfl, hA, rfl⟩
  · obtain ⟨⟨t, q1, q2⟩, hK9⟩ := hP
    rcases hm with ⟨⟨t2, k1, k2⟩, m⟩ | ⟨k1, m⟩
    · obtain rfl := sl_tok2 q1 k1
      exact sl_ag_ok hK9 hJ m hfm hf (q2.trans k2.symm)
    · exact sl_toks q1 k1
  · rcases hm with ⟨⟨t2, k1, k2⟩, m⟩ | ⟨k1, m⟩
    · exact sl_tokn k1 hA
    · exact sl_ag_no hK hJ hw h40 m hfm rfl sl_10
  · exact hA.elim
theorem sl_ag_stateOf {Γ : sl_G} {α μ : Nat → Nat} {β : Nat → Nat × Nat × Nat} {n e : Nat} {ep : Int32} {tl : Nat} {lo : Bool} {T C : Nat → Int32} {E : Nat → sl_Ent} {g : sl_W} (hK : sl_Cls Γ α β n ep tl lo T C E g) (hJ : sl_J n e ep tl T C E) (hw : sl_wf n tl C E) {ao : Nat} {fo : Nat → Int64} (h40 : g 40 = some (ao, .inl (Γ.2.1 3, 1, .inr (.inl fo)))) {x : Int32} {r r' : Int32} {w w2 : sl_W} (hr : sl_Wr Γ g ao (fun v w => (∃ t, sl_tok n x = some t ∧ v = (E t).2.2.2.2.2.2.2) ∧ sl_Cls Γ α β n ep tl lo T C E w) (sl_tok n x = none) (False) r w) (hm : (fun r w' => ((∃ t, sl_tok n x = some t ∧ r = (E t).2.2.2.2.2.2.2) ∧ sl_Mdl Γ μ n ep tl lo T C E 0 w' ∨ (sl_tok n x).isSome = false ∧ sl_Mdl Γ μ n ep tl lo T C E 1 w') ∧ sl_fm w w') r' w2) : sl_AG Γ α μ ao e r r' w2 := by
  obtain ⟨hm, hfm⟩ := hm
  rcases hr with ⟨rfl, v, f, u, hP, hfr, rfl, hf⟩ | ⟨rfl, hA, rfl⟩ | ⟨rfl, hA, rfl⟩
  · obtain ⟨⟨t, q1, q2⟩, hK9⟩ := hP
    rcases hm with ⟨⟨t2, k1, k2⟩, m⟩ | ⟨k1, m⟩
    · obtain rfl := sl_tok2 q1 k1
      exact sl_ag_ok hK9 hJ m hfm hf (q2.trans k2.symm)
    · exact sl_toks q1 k1
  · rcases hm with ⟨⟨t2, k1, k2⟩, m⟩ | ⟨k1, m⟩
    · exact sl_tokn k1 hA
    · exact sl_ag_no hK hJ hw h40 m hfm rfl sl_10
  · exact hA.elim
theorem sl_ag_pointer {Γ : sl_G} {α μ : Nat → Nat} {β : Nat → Nat × Nat × Nat} {n e : Nat} {ep : Int32} {tl : Nat} {lo : Bool} {T C : Nat → Int32} {E : Nat → sl_Ent} {g : sl_W} (hK : sl_Cls Γ α β n ep tl lo T C E g) (hJ : sl_J n e ep tl T C E) (hw : sl_wf n tl C E) {ao : Nat} {fo : Nat → Int64} (h40 : g 40 = some (ao, .inl (Γ.2.1 3, 1, .inr (.inl fo)))) {x y z : Int32} {r r' : Int32} {w w2 : sl_W} (hr : sl_Wr Γ g ao (fun v w => (∃ t, sl_tok n x = some t ∧ (sl_in y 0 3 && sl_in z 0 3) = true ∧ v = sl_tg (E t).2.2.2.2.2.2.1 y z) ∧ sl_Cls Γ α β n ep tl lo T C E w) ((sl_tok n x = none ∨ (sl_in y 0 3 && sl_in z 0 3) = false)) (False) r w) (hm : (fun r w' => ((∃ t, sl_tok n x = some t ∧ (sl_in y 0 3 && sl_in z 0 3) = true ∧ r = sl_tg (E t).2.2.2.2.2.2.1 y z) ∧ sl_Mdl Γ μ n ep tl lo T C E 0 w' ∨ ((sl_tok n x).isSome = false ∨ (sl_in y 0 3 && sl_in z 0 3) = false) ∧ sl_Mdl Γ μ n ep tl lo T C E 1 w') ∧ sl_fm w w') r' w2) : sl_AG Γ α μ ao e r r' w2 := by
  obtain ⟨hm, hfm⟩ := hm
  rcases hr with ⟨rfl, v, f, u, hP, hfr, rfl, hf⟩ | ⟨rfl, hA, rfl⟩ | ⟨rfl, hA, rfl⟩
  · obtain ⟨⟨t, q1, q2, q3⟩, hK9⟩ := hP
    rcases hm with ⟨⟨t2, k1, k2, k3⟩, m⟩ | ⟨k1, m⟩
    · obtain rfl := sl_tok2 q1 k1
      exact sl_ag_ok hK9 hJ m hfm hf (q3.trans k3.symm)
    · exact k1.elim (fun z => sl_toks q1 z) (fun z => sl_tf q2 z)
  · rcases hm with ⟨⟨t2, k1, k2, k3⟩, m⟩ | ⟨k1, m⟩
    · exact hA.elim (fun z => sl_tokn k1 z) (fun z => sl_tf k2 z)
    · exact sl_ag_no hK hJ hw h40 m hfm rfl sl_10
  · exact hA.elim
theorem sl_ag_cellAt {Γ : sl_G} {α μ : Nat → Nat} {β : Nat → Nat × Nat × Nat} {n e : Nat} {ep : Int32} {tl : Nat} {lo : Bool} {T C : Nat → Int32} {E : Nat → sl_Ent} {g : sl_W} (hK : sl_Cls Γ α β n ep tl lo T C E g) (hJ : sl_J n e ep tl T C E) (hw : sl_wf n tl C E) {ao : Nat} {fo : Nat → Int64} (h40 : g 40 = some (ao, .inl (Γ.2.1 3, 1, .inr (.inl fo)))) {x y : Int32} {r r' : Int32} {w w2 : sl_W} (hr : sl_Wr Γ g ao (fun v w => ((sl_in x 0 2 && sl_in y 0 119) = true ∧ v = sl_cg C x y) ∧ sl_Cls Γ α β n ep tl lo T C E w) ((sl_in x 0 2 && sl_in y 0 119) = false) (False) r w) (hm : (fun r w' => (((sl_in x 0 2 && sl_in y 0 119) = true ∧ r = sl_cg C x y) ∧ sl_Mdl Γ μ n ep tl lo T C E 0 w' ∨ (sl_in x 0 2 && sl_in y 0 119) = false ∧ sl_Mdl Γ μ n ep tl lo T C E 1 w') ∧ sl_fm w w') r' w2) : sl_AG Γ α μ ao e r r' w2 := by
  obtain ⟨hm, hfm⟩ := hm
  rcases hr with ⟨rfl, v, f, u, hP, hfr, rfl, hf⟩ | ⟨rfl, hA, rfl⟩ | ⟨rfl, hA, rfl⟩
  · obtain ⟨⟨q1, q2⟩, hK9⟩ := hP
    rcases hm with ⟨⟨k1, k2⟩, m⟩ | ⟨k1, m⟩
    · exact sl_ag_ok hK9 hJ m hfm hf (q2.trans k2.symm)
    · exact sl_tf q1 k1
  · rcases hm with ⟨⟨k1, k2⟩, m⟩ | ⟨k1, m⟩
    · exact sl_tf k1 hA
    · exact sl_ag_no hK hJ hw h40 m hfm rfl sl_10
  · exact hA.elim
theorem sl_ag_value {Γ : sl_G} {α μ : Nat → Nat} {β : Nat → Nat × Nat × Nat} {n e : Nat} {ep : Int32} {tl : Nat} {lo : Bool} {T C : Nat → Int32} {E : Nat → sl_Ent} {g : sl_W} (hK : sl_Cls Γ α β n ep tl lo T C E g) (hJ : sl_J n e ep tl T C E) (hw : sl_wf n tl C E) {ao : Nat} {fo : Nat → Int64} (h40 : g 40 = some (ao, .inl (Γ.2.1 3, 1, .inr (.inl fo)))) {x y : Int32} {r r' : Int32} {w w2 : sl_W} (hr : sl_Wr Γ g ao (fun v w => ((sl_in x 0 3 && sl_in y 0 (nI (sl_kn C))) = true ∧ v = sl_vs n C E x y.toNatClampNeg) ∧ sl_Cls Γ α β n ep tl lo T C E w) ((sl_in x 0 3 && sl_in y 0 (nI (sl_kn C))) = false) (False) r w) (hm : (fun r w' => (((sl_in x 0 3 && sl_in y 0 (nI (sl_kn C))) = true ∧ r = sl_vs n C E x y.toNatClampNeg) ∧ sl_Mdl Γ μ n ep tl lo T C E 0 w' ∨ (sl_in x 0 3 && sl_in y 0 (nI (sl_kn C))) = false ∧ sl_Mdl Γ μ n ep tl lo T C E 1 w') ∧ sl_fm w w') r' w2) : sl_AG Γ α μ ao e r r' w2 := by
  obtain ⟨hm, hfm⟩ := hm
  rcases hr with ⟨rfl, v, f, u, hP, hfr, rfl, hf⟩ | ⟨rfl, hA, rfl⟩ | ⟨rfl, hA, rfl⟩
  · obtain ⟨⟨q1, q2⟩, hK9⟩ := hP
    rcases hm with ⟨⟨k1, k2⟩, m⟩ | ⟨k1, m⟩
    · exact sl_ag_ok hK9 hJ m hfm hf (q2.trans k2.symm)
    · exact sl_tf q1 k1
  · rcases hm with ⟨⟨k1, k2⟩, m⟩ | ⟨k1, m⟩
    · exact sl_tf k1 hA
    · exact sl_ag_no hK hJ hw h40 m hfm rfl sl_10
  · exact hA.elim
theorem sl_ag_latest {Γ : sl_G} {α μ : Nat → Nat} {β : Nat → Nat × Nat × Nat} {n e : Nat} {ep : Int32} {tl : Nat} {lo : Bool} {T C : Nat → Int32} {E : Nat → sl_Ent} {g : sl_W} (hK : sl_Cls Γ α β n ep tl lo T C E g) (hJ : sl_J n e ep tl T C E) (hw : sl_wf n tl C E) {ao : Nat} {fo : Nat → Int64} (h40 : g 40 = some (ao, .inl (Γ.2.1 3, 1, .inr (.inl fo)))) {x y : Int32} {r r' : Int32} {w w2 : sl_W} (hr : sl_Wr Γ g ao (fun v w => ((sl_in x 0 3 && sl_in y 0 (nI (sl_kn C))) = true ∧ v = sl_la n C E x y.toNatClampNeg) ∧ sl_Cls Γ α β n ep tl lo T C E w) ((sl_in x 0 3 && sl_in y 0 (nI (sl_kn C))) = false) (False) r w) (hm : (fun r w' => (((sl_in x 0 3 && sl_in y 0 (nI (sl_kn C))) = true ∧ r = sl_la n C E x y.toNatClampNeg) ∧ sl_Mdl Γ μ n ep tl lo T C E 0 w' ∨ (sl_in x 0 3 && sl_in y 0 (nI (sl_kn C))) = false ∧ sl_Mdl Γ μ n ep tl lo T C E 1 w') ∧ sl_fm w w') r' w2) : sl_AG Γ α μ ao e r r' w2 := by
  obtain ⟨hm, hfm⟩ := hm
  rcases hr with ⟨rfl, v, f, u, hP, hfr, rfl, hf⟩ | ⟨rfl, hA, rfl⟩ | ⟨rfl, hA, rfl⟩
  · obtain ⟨⟨q1, q2⟩, hK9⟩ := hP
    rcases hm with ⟨⟨k1, k2⟩, m⟩ | ⟨k1, m⟩
    · exact sl_ag_ok hK9 hJ m hfm hf (q2.trans k2.symm)
    · exact sl_tf q1 k1
  · rcases hm with ⟨⟨k1, k2⟩, m⟩ | ⟨k1, m⟩
    · exact sl_tf k1 hA
    · exact sl_ag_no hK hJ hw h40 m hfm rfl sl_10
  · exact hA.elim
theorem sl_ag_valueByPointers {Γ : sl_G} {α μ : Nat → Nat} {β : Nat → Nat × Nat × Nat} {n e : Nat} {ep : Int32} {tl : Nat} {lo : Bool} {T C : Nat → Int32} {E : Nat → sl_Ent} {g : sl_W} (hK : sl_Cls Γ α β n ep tl lo T C E g) (hJ : sl_J n e ep tl T C E) (hw : sl_wf n tl C E) {ao : Nat} {fo : Nat → Int64} (h40 : g 40 = some (ao, .inl (Γ.2.1 3, 1, .inr (.inl fo)))) {x y : Int32} {r r' : Int32} {w w2 : sl_W} (hr : sl_Wr Γ g ao (fun v w => (∃ j0, x = nI j0 ∧ j0 < 4 ∧ (sl_in x 0 3 && sl_in y 0 (nI (sl_kn C))) = true ∧ v = sl_vp n C E j0 120 (sl_la n C E x y.toNatClampNeg) 0) ∧ sl_Cls Γ α β n ep tl lo T C E w) ((sl_in x 0 3 && sl_in y 0 (nI (sl_kn C))) = false) (False) r w) (hm : (fun r w' => (((sl_in x 0 3 && sl_in y 0 (nI (sl_kn C))) = true ∧ r = sl_vs n C E x y.toNatClampNeg) ∧ sl_Mdl Γ μ n ep tl lo T C E 0 w' ∨ (sl_in x 0 3 && sl_in y 0 (nI (sl_kn C))) = false ∧ sl_Mdl Γ μ n ep tl lo T C E 1 w') ∧ sl_fm w w') r' w2) : sl_AG Γ α μ ao e r r' w2 := by
  obtain ⟨hm, hfm⟩ := hm
  rcases hr with ⟨rfl, v, f, u, hP, hfr, rfl, hf⟩ | ⟨rfl, hA, rfl⟩ | ⟨rfl, hA, rfl⟩
  · obtain ⟨⟨j0, q0, q4, q1, q2⟩, hK9⟩ := hP
    rcases hm with ⟨⟨k1, k2⟩, m⟩ | ⟨k1, m⟩
    · have hkn := sl_kn_le C
      obtain ⟨b, hb9, rfl⟩ := sl_inN (n := sl_kn C) (sl_and2 q1) (nI_toInt (by omega)) (by omega)
      subst q0
      rw [nI_clamp (by omega)] at q2 k2
      rw [hJ.vp hw q4 (by omega)] at q2
      exact sl_ag_ok hK9 hJ m hfm hf (q2.trans k2.symm)
    · exact sl_tf q1 k1
  · rcases hm with ⟨⟨k1, k2⟩, m⟩ | ⟨k1, m⟩
    · exact sl_tf k1 hA
    · exact sl_ag_no hK hJ hw h40 m hfm rfl sl_10
  · exact hA.elim
theorem sl_ag_takesEffect {Γ : sl_G} {α μ : Nat → Nat} {β : Nat → Nat × Nat × Nat} {n e : Nat} {ep : Int32} {tl : Nat} {lo : Bool} {T C : Nat → Int32} {E : Nat → sl_Ent} {g : sl_W} (hK : sl_Cls Γ α β n ep tl lo T C E g) (hJ : sl_J n e ep tl T C E) (hw : sl_wf n tl C E) {ao : Nat} {fo : Nat → Int64} (h40 : g 40 = some (ao, .inl (Γ.2.1 3, 1, .inr (.inl fo)))) {x : Int32} {r r' : Int32} {w w2 : sl_W} (hr : sl_Wr Γ g ao (fun v w => (∃ b, x = nI b ∧ b < sl_kn C ∧ v = sl_bi (sl_ev n C E b)) ∧ sl_Cls Γ α β n ep tl lo T C E w) (¬ (0 ≤ x.toInt ∧ x.toInt < sl_kn C)) (False) r w) (hm : (fun r w' => ((∃ b, x = nI b ∧ b < sl_kn C ∧ r = sl_bi (sl_ev n C E b)) ∧ sl_Mdl Γ μ n ep tl lo T C E 0 w' ∨ ¬ (0 ≤ x.toInt ∧ x.toInt < sl_kn C) ∧ sl_Mdl Γ μ n ep tl lo T C E 1 w') ∧ sl_fm w w') r' w2) : sl_AG Γ α μ ao e r r' w2 := by
  obtain ⟨hm, hfm⟩ := hm
  rcases hr with ⟨rfl, v, f, u, hP, hfr, rfl, hf⟩ | ⟨rfl, hA, rfl⟩ | ⟨rfl, hA, rfl⟩
  · have hkn := sl_kn_le C
    obtain ⟨⟨b, q1, q2, q3⟩, hK9⟩ := hP
    rcases hm with ⟨⟨b2, j1, j2, j3⟩, m⟩ | ⟨k1, m⟩
    · have eb : b2 = b := sl_nIne (a := b2) (b := b) (by omega) (by omega) (j1.symm.trans q1)
      subst eb
      exact sl_ag_ok hK9 hJ m hfm hf (q3.trans j3.symm)
    · exact absurd ⟨by rw [q1, nI_toInt (by omega)]; omega, by rw [q1, nI_toInt (by omega)]; omega⟩ k1
  · rcases hm with ⟨⟨b2, j1, j2, j3⟩, m⟩ | ⟨k1, m⟩
    · have hkn := sl_kn_le C
      exact absurd ⟨by rw [j1, nI_toInt (by omega)]; omega, by rw [j1, nI_toInt (by omega)]; omega⟩ hA
    · exact sl_ag_no hK hJ hw h40 m hfm rfl sl_10
  · exact hA.elim
