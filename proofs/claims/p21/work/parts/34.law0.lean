/-! p21: its law's small methods; what the class's calls keep of the numbers -/
theorem sl_Cls.cg {Γ : sl_G} {α : Nat → Nat} {β : Nat → Nat × Nat × Nat} {n : Nat} {ep : Int32} {tl : Nat} {lo : Bool} {T C : Nat → Int32} {E : Nat → sl_Ent} {g g' : sl_W} (h : sl_Cls Γ α β n ep tl lo T C E g) (hg : ∀ k, (k < 9 ∨ 100 ≤ k) → g' k = g k) : sl_Cls Γ α β n ep tl lo T C E g' := by
  obtain ⟨h0, h1, h2, h3, h4, h5, ⟨F, X, fd, h6, h7, h8⟩, hE, hN, hn, ht⟩ := h
  exact ⟨(hg 0 (by omega)).trans h0, (hg 1 (by omega)).trans h1, (hg 2 (by omega)).trans h2, (hg 3 (by omega)).trans h3, (hg 4 (by omega)).trans h4, (hg 5 (by omega)).trans h5, ⟨F, X, fd, (hg 6 (by omega)).trans h6, (hg 7 (by omega)).trans h7, (hg 8 (by omega)).trans h8⟩, hE.mono (fun k hk => hg k (Or.inr hk)), fun k hk => (hg k (by omega)).trans (hN k hk), hn, ht⟩
/-- a method that throws nothing here -/
theorem sl_nox {l : Launch} {y : MethodName} {ws : List Cond} {rm : Room} {Pc : Array Value → State → Prop} {Qc : Array Value → State → Outcome → State → Prop} {Γ : sl_G} {g : sl_W} {xp : String → Prop} {mc ms : Nat} {free : Addr → Prop} (h : vx_Met l y ws rm Pc Qc (sl_X Γ g xp) mc ms free) (hx : ∀ E, ¬ xp E) : Met l y ws rm Pc Qc mc ms free := by
  intro p e ha hc hk s m args below hf hfit hP hK
  obtain ⟨n, o, h1, h2, h3, hQ⟩ := h p e ha hc hk s m args below hf hfit hP hK
  refine ⟨n, o, h1, h2, h3, ?_⟩
  rcases hQ with hQ | ⟨q, ho, E, ce, L, hX, _⟩
  · exact hQ
  · obtain ⟨-, -, hb, -⟩ := hX
    exact absurd hb.1 (hx E)
/-- the script, beside the world -/
def lp_B (Γ : sl_G) (g : sl_W) (b L : Nat) (xs : Nat → Int32) (U : State) : Prop := sl_B Γ g U ∧ va_X b L xs U U.heap ∧ b < U.heap.size
set_option maxHeartbeats 4000000 in
set_option maxRecDepth 100000 in
theorem kL_cell (l : Launch) (Γ : sl_G) (g : sl_W) (b L : Nat) (xs : Nat → Int32) (hL : L ≤ 260) (hz : ¬ sl_A Γ b) (j : Nat) (hj : j < 1000) : Met l yL_cell [Cond.code yL_cell cL_cell 2 (some .int)] ({ frames := 0, cells := 0, slots := 0, locals := 0 } : Room) (va_Pc [.ref b, .int (nI j)] (lp_B Γ g b L xs)) (sl_Qi Γ (fun _ (_ : Unit) => True) (fun _ => g)) 0 0 (sl_A Γ) := by
  refine Met.ofW (cc := cL_cell) (maxL := 2) (ret := some .int) (by decide) rfl ?_
  intro p e s m args below meth c s₁ B hml hv
  obtain ⟨rfl, ⟨h0, hH, hV, hZ⟩, hX, hbl⟩ := hv
  have hl := lv_entry [.ref b, .int (nI j)] (n := 2) (Nat.le_of_ble_eq_true rfl)
  rw [lg_entry_eq]
  generalize (lg_sl ([.ref b, .int (nI j)]) ++ List.replicate (2 - (lg_sl ([.ref b, .int (nI j)])).length) Slot.unset).toArray = ls at hl ⊢
  have hC : sl_C Γ p s m meth c cL_cell 2 RL := ⟨B.exec, B.bytes, hml, findClass_of_methodNamed B.named, B.notSynchronized, h0, hV, hZ⟩
  have hr := B.returns
  have hG : sl_I Γ g s s.heap [] := ⟨hH, va_S.rf⟩
  have hx := hC.1
  have hb := hC.2.1
  have hl : lv_has ls 2 [(0, .ref b), (1, .int (nI j))] := hl
  refine lv_iload_n hx hb dL_cell_0 rfl (lv_at hl 1 rfl) ?_
  refine lv_aload_n hx hb dL_cell_1 rfl (lv_at hl 0 rfl) ?_
  refine va_slen hx hb hX hbl hz hG.2 dL_cell_2 ?_
  refine lv_icmp_ge (tgt := 12) hx hb dL_cell_3 (by decide) (fun c_3 => ?_) (fun c_3 => ?_)
  · refine lv_sipush (v := 7919) hx hb dL_cell_12 (by decide) ?_
    refine lv_iload_n hx hb dL_cell_15 rfl (lv_at hl 1 rfl) ?_
    refine lv_iconst (v := 3) hx hb dL_cell_16 (by decide) ?_
    refine lv_iadd hx hb dL_cell_17 ?_
    refine lv_imul hx hb dL_cell_18 ?_
    refine lv_iload_n hx hb dL_cell_19 rfl (lv_at hl 1 rfl) ?_
    refine lv_bipush (v := 11) hx hb dL_cell_20 (by decide) ?_
    refine lv_iadd hx hb dL_cell_22 ?_
    refine lv_imul hx hb dL_cell_23 ?_
    exact sl_ri hC hr hG () trivial rfl (Nat.le_of_ble_eq_true rfl) (Nat.le_of_ble_eq_true rfl) dL_cell_24
  · have hlt : j < L := by
      have h6 : ¬ (Int32.ofNat L ≤ nI j) := c_3
      rw [sl_leI, show Int32.ofNat L = nI L from rfl, nI_toInt (by omega), nI_toInt (by omega)] at h6
      omega
    refine lv_aload_n hx hb dL_cell_6 rfl (lv_at hl 0 rfl) ?_
    refine lv_iload_n hx hb dL_cell_7 rfl (lv_at hl 1 rfl) ?_
    refine va_sld hx hb hX hbl hz hG.2 (i := nI j) (vp_in_nI (by omega) (by omega)) dL_cell_8 ?_
    refine lv_goto (tgt := 24) hx hb dL_cell_9 (by decide) ?_
    exact sl_ri hC hr hG () trivial rfl (Nat.le_of_ble_eq_true rfl) (Nat.le_of_ble_eq_true rfl) dL_cell_24
section LPC
variable {p : Program} {l : Launch} {e : Env} {R : Room} {s : State} {m : MethodId} {args : Array Value} {below : List Frame} {meth : Method} {c : Code} {H : Heap} {locs : List Loc} {cells slots : Nat} {Q : State → Prop}
variable {cc : ByteArray} {nL pc : Nat} {ls : Array Slot} {rest st0 : List Value} {Γ : sl_G} {own : String} {g : sl_W}
theorem lp_preS {b L : Nat} {xs : Nat → Int32} {As : List Value} (hC : sl_C Γ p s m meth c cc nL own) (hG : sl_I Γ g s H locs) (hX : va_X b L xs s s.heap) (hbl : b < s.heap.size) (hz : ¬ sl_A Γ b) : PreS s H (va_Pc As (lp_B Γ g b L xs)) As := by
  refine ⟨?_, ?_⟩
  · intro a U fr mk ⟨h0, h1, h2, h3⟩
    exact ⟨h0, (sl_blind a U fr mk ⟨h0, h1⟩).2, va_X.moved (U := U.calling fr mk a) (Vm.Alike.refl U.vm) h2, h3⟩
  · intro U hU hW
    have h1 := sl_pre hC hG As U hU hW
    subst hU
    exact ⟨h1.1, h1.2, va_X.kept (va_X.moved hW.alike hX) (hG.2.2.1 b hbl hz), Nat.lt_of_lt_of_le hbl hG.2.1⟩
theorem lp_runC {y : MethodName} {bytes : ByteArray} {maxL mc ms n index : Nat} {ret : Option FieldType} {rm : Room} {Qc : Array Value → State → Outcome → State → Prop} {As : List Value} {b L : Nat} {xs : Nat → Int32} (hC : sl_C Γ p s m meth c cc nL own) (hG : sl_I Γ g s H locs) (hX : va_X b L xs s s.heap) (hbl : b < s.heap.size) (hz : ¬ sl_A Γ b) (hM : Met l y [Cond.code y bytes maxL ret] rm (va_Pc As (lp_B Γ g b L xs)) Qc mc ms (sl_A Γ)) (hm : sl_ms y bytes maxL ret n) (w1 : Cond.methodLink own index y ∈ lw_tbl) (hrc : rm.cells = mc) (hrs : rm.slots = ms) (hR : rm.frames + 1 ≤ R.frames ∧ 8 + (maxL + 11) + rm.locals ≤ R.locals) (hn : As.length = n) (hsz : ls.size = nL) (hst : st0 = As.reverse ++ rest) (hW : (rest.map fun v => v.category).sum ≤ 8) (hdg : decode cc pc = .ok (.invokestatic index, 3)) (hf : cells + mc ≤ R.cells ∧ slots + ms ≤ R.slots) :
    va_Run p l e R s m args below meth c H locs cells slots mc ms (F0 m pc ls st0) rest (Qc As.toArray) (sl_A Γ) :=
  va_runS (sl_fix hC) hM ⟨sl_cB hC hm.1 hm.2.2.1 hm.2.2.2 w1 hrc hrs hR, sl_tab hC hm.2.1 rfl⟩ (lp_preS hC hG hX hbl hz) rfl hn hsz hst (lv_room hW) hdg hf
end LPC
theorem lp_c7 : Cond.constant RL 7 2147483647 ∈ lw_tbl := List.mem_of_getElem? (i := 394) (by decide +kernel)
theorem lp_nn (v : Int32) : 0 ≤ (v &&& 2147483647).toInt := by
  have h : (v &&& 2147483647).toBitVec.toNat ≤ 2147483647 := by
    rw [Int32.toBitVec_and, BitVec.toNat_and]
    exact Nat.le_trans Nat.and_le_right (by decide)
  have h2 : (v &&& 2147483647).toInt = ((v &&& 2147483647).toBitVec.toNat : Int) := BitVec.toInt_eq_toNat_of_lt (by omega)
  omega
theorem lp_rem {x : Int32} {k : Nat} (h0 : 0 ≤ x.toInt) (hk : 0 < k) (hk2 : k < 2 ^ 31) : ∃ j, j < k ∧ x - x / nI k * nI k = nI j := by
  rw [irem_eq_mod]
  have h1 : (x % nI k).toInt = x.toInt.tmod (k : Int) := by rw [Int32.toInt_mod, nI_toInt hk2]
  have h2 : 0 ≤ x.toInt.tmod (k : Int) := Int.tmod_nonneg _ h0
  have h3 : x.toInt.tmod (k : Int) < (k : Int) := Int.tmod_lt_of_pos _ (by omega)
  obtain ⟨j, hj, ej⟩ := sl_nat (v := x % nI k) (n := k - 1) (by omega) (by omega) (by omega)
  exact ⟨j, by omega, ej⟩
set_option maxHeartbeats 4000000 in
set_option maxRecDepth 100000 in
theorem kL_low (l : Launch) (Γ : sl_G) (g : sl_W) (v z : Int32) (k : Nat) (hz : z = nI k) (hk : 0 < k) (hk2 : k < 2 ^ 31) : Met l yL_low [Cond.code yL_low cL_low 2 (some .int)] ({ frames := 0, cells := 0, slots := 0, locals := 0 } : Room) (va_Pc [.int v, .int z] (sl_B Γ g)) (sl_Qi Γ (fun r (_ : Unit) => ∃ j, j < k ∧ r = nI j) (fun _ => g)) 0 0 (sl_A Γ) := by
  subst hz
  refine sl_ent (by decide) (Nat.le_of_ble_eq_true rfl) ?_
  intro p e s m below meth c ls hC hr hin hG hl
  have hx := hC.1
  have hb := hC.2.1
  have hl : lv_has ls 2 [(0, .int v), (1, .int (nI k))] := hl
  refine lv_iload_n hx hb dL_low_0 rfl (lv_at hl 0 rfl) ?_
  refine lv_ldc hx hb hC.2.2.2.1 (sl_tab hC lp_c7 rfl) dL_low_1 ?_
  refine lv_iand hx hb dL_low_3 ?_
  refine lv_iload_n hx hb dL_low_4 rfl (lv_at hl 1 rfl) ?_
  refine lv_irem hx hb dL_low_5 (fun w => ?_) ?_
  · have := congrArg Int32.toInt w
    rw [nI_toInt hk2, sl_i0] at this; omega
  exact sl_ri hC hr hG () (lp_rem (lp_nn v) hk hk2) rfl (Nat.le_of_ble_eq_true rfl) (Nat.le_of_ble_eq_true rfl) dL_low_6
/-- the numbers stay in their bounds: a token is handed out; written; a position is filled -/
theorem lp_wf_take {n tl : Nat} {C : Nat → Int32} {E : Nat → sl_Ent} (hw : sl_wf n tl C E) (hn : n < 150) (ht : tl < 120) {ep ss am rd ver : Int32} {P : Nat → Int32} (hr : 0 ≤ rd.toInt ∧ rd.toInt ≤ 15) (hv : ∃ v, v ≤ 120 ∧ ver = nI v) : sl_wf (n + 1) (tl + 1) C (sl_eu E n (nI tl, ep, ss, am, rd, ver, P, 0)) := by
  obtain ⟨h1, h2, h3, h4, h5⟩ := hw
  have en : sl_eu E n (nI tl, ep, ss, am, rd, ver, P, 0) n = (nI tl, ep, ss, am, rd, ver, P, 0) := if_pos rfl
  have eo : ∀ u, u ≠ n → sl_eu E n (nI tl, ep, ss, am, rd, ver, P, 0) u = E u := fun u hu => if_neg hu
  refine ⟨by omega, by omega, fun i hi => ?_, fun t ht9 => ?_, fun i hi => ?_⟩
  · rcases h3 i hi with e | e | ⟨t, a, b⟩
    · exact Or.inl e
    · exact Or.inr (Or.inl e)
    · exact Or.inr (Or.inr ⟨t, by omega, b⟩)
  · by_cases e : t = n
    · rw [e, en]
      exact ⟨⟨tl, ht, rfl⟩, hv, Or.inr ⟨0, by omega, rfl⟩, hr⟩
    · rw [eo t e]
      exact h4 t (by omega)
  · rw [eo i (by omega)]
    exact h5 i (by omega)
theorem lp_wf_write {n tl : Nat} {C : Nat → Int32} {E : Nat → sl_Ent} (hw : sl_wf n tl C E) {t : Nat} (ht : t < n) (hb : ¬ ((E t).2.2.2.2.2.2.2 = -1 ∨ (E t).2.2.2.2.2.2.2 = 3)) :
    sl_wf n tl (if sl_cg C (E t).2.2.2.2.2.2.2 (E t).1 = -1 then C else sl_cp C (E t).2.2.2.2.2.2.2 (E t).1 (nI t)) (sl_es E t (if sl_cg C (E t).2.2.2.2.2.2.2 (E t).1 = -1 then -1 else (E t).2.2.2.2.2.2.2 + 1)) := by
  obtain ⟨h1, h2, h3, h4, h5⟩ := hw
  obtain ⟨k, hk3, ek⟩ := (h4 t ht).2.2.1.elim (fun w => absurd (Or.inl w) hb) id
  have hk : k < 3 := by
    have : k ≠ 3 := fun w => hb (Or.inr (by rw [ek, w]; rfl))
    omega
  refine ⟨h1, h2, fun i hi => ?_, fun u hu => ?_, fun i hi => ?_⟩
  · have key : (if sl_cg C (E t).2.2.2.2.2.2.2 (E t).1 = -1 then C else sl_cp C (E t).2.2.2.2.2.2.2 (E t).1 (nI t)) i = C i ∨ (if sl_cg C (E t).2.2.2.2.2.2.2 (E t).1 = -1 then C else sl_cp C (E t).2.2.2.2.2.2.2 (E t).1 (nI t)) i = nI t := by
      split
      · exact Or.inl rfl
      · rw [sl_cp]
        split
        · by_cases e : i = 120 * (E t).2.2.2.2.2.2.2.toNatClampNeg + (E t).1.toNatClampNeg
          · rw [e, pk_us]; exact Or.inr rfl
          · rw [pk_un e]; exact Or.inl rfl
        · exact Or.inl rfl
    rcases key with w | w
    · rw [w]; exact h3 i hi
    · rw [w]; exact Or.inr (Or.inr ⟨t, ht, rfl⟩)
  · by_cases e : u = t
    · subst e
      rw [sl_es_at]
      refine ⟨(h4 u hu).1, (h4 u hu).2.1, ?_, (h4 u hu).2.2.2⟩
      show (if _ then (-1 : Int32) else _) = -1 ∨ _
      split
      · exact Or.inl rfl
      · exact Or.inr ⟨k + 1, by omega, by rw [ek, nI_1]⟩
    · rw [sl_es_ne e]
      exact h4 u hu
  · rw [sl_es_ne (by omega)]
    exact h5 i hi
theorem lp_cp_or (C : Nat → Int32) (r p v : Int32) (i : Nat) : sl_cp C r p v i = C i ∨ sl_cp C r p v i = v := by
  rw [sl_cp]
  split
  · by_cases e : i = 120 * r.toNatClampNeg + p.toNatClampNeg
    · rw [e, pk_us]; exact Or.inr rfl
    · rw [pk_un e]; exact Or.inl rfl
  · exact Or.inl rfl
theorem lp_wf_fill {n tl : Nat} {C : Nat → Int32} {E : Nat → sl_Ent} (hw : sl_wf n tl C E) {b : Nat} (hb : b < 120) : sl_wf n tl (sl_cf C b (if (sl_tok n (C b)).isSome = true then C b else -1)) E := by
  obtain ⟨h1, h2, h3, h4, h5⟩ := hw
  refine ⟨h1, h2, fun i hi => ?_, h4, h5⟩
  generalize hv : (if (sl_tok n (C b)).isSome = true then C b else -1) = v
  have hv2 : v = -1 ∨ v = -2 ∨ ∃ t, t < n ∧ v = nI t := by
    rw [← hv]
    split
    · exact h3 b (by omega)
    · exact Or.inl rfl
  have key : sl_cf C b v i = C i ∨ sl_cf C b v i = v := by
    rw [sl_cf]
    rcases lp_cp_or (sl_cp (sl_cp C 0 (nI b) v) 1 (nI b) v) 2 (nI b) v i with e | e
    · rw [e]
      rcases lp_cp_or (sl_cp C 0 (nI b) v) 1 (nI b) v i with e | e
      · rw [e]
        exact lp_cp_or C 0 (nI b) v i
      · exact Or.inr e
    · exact Or.inr e
  rcases key with w | w
  · rw [w]; exact h3 i hi
  · rw [w]; exact hv2
theorem lp_wf_seal {n tl tl2 : Nat} {C : Nat → Int32} {E : Nat → sl_Ent} (hw : sl_wf n tl C E) (h : tl2 ≤ 120) : sl_wf n tl2 C E := ⟨hw.1, h, hw.2.2⟩
/-- behind the last written cell, known, ahead of the tail -/
theorem lp_ef_le {C : Nat → Int32} {tl : Nat} (hem : ∀ p, tl ≤ p → p < 120 → C p = -2 ∧ C (120 + p) = -2 ∧ C (240 + p) = -2) : ∀ m, m ≤ 120 → sl_ef C m ≤ tl
  | 0, _ => Nat.zero_le _
  | m + 1, hm => by
    rw [sl_ef]
    split
    · exact lp_ef_le hem m (by omega)
    · rename_i h
      by_cases e : tl ≤ m
      · exact absurd ((sl_cwz C m).mpr (hem m e (by omega))) h
      · omega
theorem lp_kn_le {C : Nat → Int32} {tl : Nat} (htl : tl ≤ 120) (hem : ∀ p, tl ≤ p → p < 120 → C p = -2 ∧ C (120 + p) = -2 ∧ C (240 + p) = -2) : sl_kn C ≤ tl := by
  refine Nat.le_of_not_lt (fun h => ?_)
  have h1 : tl < 120 := Nat.lt_of_lt_of_le h (sl_kn_le C)
  have h2 := sl_kf_wh C 120 tl h
  have h3 := (hem tl (Nat.le_refl _) h1).1
  have h4 := sl_wh_iff.mpr (Or.inl h3)
  rw [h4] at h2
  cases h2
/-- a known position holds the same on all replicas, and is not empty -/
theorem lp_kn_same {n e : Nat} {ep : Int32} {tl : Nat} {T C : Nat → Int32} {E : Nat → sl_Ent} (h : sl_J n e ep tl T C E) {p : Nat} (hp : p < sl_kn C) : C (120 + p) = C p ∧ C (240 + p) = C p ∧ ¬ C p = -2 := by
  have h2 : sl_wh C p = true := sl_kf_wh C 120 p hp
  have h3 : ¬ (C p = -2 ∨ C (120 + p) = -2 ∨ C (240 + p) = -2) := fun w => by
    rw [sl_wh_iff.mpr w] at h2
    cases h2
  have h9 := sl_kn_le C
  obtain ⟨j1, j2, -⟩ := h.jp p (by omega)
  have a1 : C (120 + p) = C p := j1.elim id (fun w => absurd (Or.inr (Or.inl w)) h3)
  have a2 : C (240 + p) = C (120 + p) := j2.elim id (fun w => absurd (Or.inr (Or.inr w)) h3)
  exact ⟨a1, a2.trans a1, fun w => h3 (Or.inl w)⟩
theorem lp_cg1 (C : Nat → Int32) {b : Nat} (hb : b < 120) : sl_cg C 1 (nI b) = C (120 + b) := sl_cgN C (a := 1) (b := b) (by omega) hb
theorem lp_cg2 (C : Nat → Int32) {b : Nat} (hb : b < 120) : sl_cg C 2 (nI b) = C (240 + b) := sl_cgN C (a := 2) (b := b) (by omega) hb
