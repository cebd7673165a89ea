/-! THE BASE: worlds by labels; what a method's start knows; rows for reads, writes, calls, returns and throws in these words. -/
abbrev sl_W : Type := Nat → Option (Nat × va_E)
def sl_up (g : sl_W) (k : Nat) (q : Nat × va_E) : sl_W := fun j => if j = k then some q else g j
theorem sl_up_s (g : sl_W) (k : Nat) (q : Nat × va_E) : sl_up g k q k = some q := by simp [sl_up]
theorem sl_up_n (g : sl_W) {k j : Nat} (q : Nat × va_E) (h : j ≠ k) : sl_up g k q j = g j := by simp [sl_up, h]
theorem sl_up_to {g : sl_W} {k j : Nat} {q : Nat × va_E} {x : Option (Nat × va_E)} (h : j ≠ k) (hg : g j = x) : sl_up g k q j = x := (sl_up_n g q h).trans hg
/-- the classes' numbers, the array classes' numbers (0: int, 1: boolean, 2: entries, 3: long), the first address that may be written -/
abbrev sl_G : Type := va_G × (Nat → ClassId) × Nat
abbrev sl_tys (Γ : sl_G) : List (ClassId × FieldType) := [(Γ.2.1 0, .int), (Γ.2.1 1, .boolean), (Γ.2.1 2, .object "SharedLog$Entry")]
def sl_A (Γ : sl_G) : Nat → Prop := fun q => Γ.2.2 ≤ q
/-- the heap holds the world -/
def sl_H (Γ : sl_G) (g : sl_W) (H : Heap) : Prop := (∀ (k : Nat) (q : Nat × va_E), g k = some q → va_at Γ.1 vwCl q H) ∧ (∀ (i j : Nat) (p q : Nat × va_E), g i = some p → g j = some q → p.1 = q.1 → i = j) ∧ ∀ (k : Nat) (q : Nat × va_E), g k = some q → Γ.2.2 ≤ q.1
/-- a word of the tables that stays, however warm the tables get -/
def sl_ok : Cond → Bool
  | .fieldLinkNest .. => true
  | .methodLinkNest .. => true
  | .castable .. => true
  | .declares .. => true
  | w => goodWord w
theorem sl_ok_warm {w : Cond} (h : sl_ok w = true) {s U : State} (hW : s.WarmedH U.vm) (hz : va_Nw w s) : va_Nw w U := by
  cases w <;> first | exact va_Nw.warmF hW hz | exact va_Nw.warmM hW hz | exact va_Nw.warmC hW hz | exact va_Nw.warmD hW hz | exact word_at hW (good_of_word h) hz
theorem sl_ok_of {w : Cond} (h : sl_ok w = true) {A : Array Value} {U : State} (hz : w.before A U = true) : va_Nw w U := by
  cases w <;> first | exact va_Nw.of rfl hz | exact word_at (State.WarmedH.refl U) (good_of_word h) hz
theorem sl_ok_use {w : Cond} (h : sl_ok w = true) {A : Array Value} {U : State} (hz : va_Nw w U) : w.before A U = true := by
  cases w <;> first | exact va_Nw.use rfl hz | exact word_at (State.WarmedH.refl U) (good_of_word h) hz
/-- the String constants that the class names, by their places -/
def sl_strs : List (String × Nat × String) := [("SharedLog", 59, "streams or amount is out of range"), ("SharedLog", 178, "the sequencer hands out nothing"), ("SharedLog", 68, "streams, amount or read is out of range"), ("SharedLog", 70, "version is out of range"), ("SharedLog", 74, "the sequencer is lost"), ("SharedLog", 100, "no such token"), ("SharedLog", 107, "the token cannot write"), ("SharedLog", 123, "no such position"), ("SharedLog", 128, "the position cannot be filled"), ("SharedLog", 145, "no such replica or position"), ("SharedLog", 150, "not a known position"), ("SharedLog", 162, "no such stream or known position")]
/-- classes of exceptions that a row of a handler does not take -/
def sl_ncs : List (String × String) := []
/-- what the tables say -/
def sl_V (Γ : sl_G) (U : State) : Prop := va_K Γ.1 vwCl (sl_tys Γ) U ∧ (∀ w ∈ lw_tbl, sl_ok w = true → va_Nw w U) ∧ (∀ x ∈ sl_strs, ∃ a : Nat, vk_R x.1 x.2.1 x.2.2 a U) ∧ va_AO "SharedLog$Entry" U ∧ ∀ x ∈ sl_ncs, va_Nc x.1 x.2 U
theorem sl_V.warm {Γ : sl_G} {s U : State} (h : sl_V Γ s) (hW : s.WarmedH U.vm) : sl_V Γ U :=
  ⟨va_K.moved hW.alike h.1, fun w hw ho => sl_ok_warm ho hW (h.2.1 w hw ho), fun x hx => (h.2.2.1 x hx).imp fun _ ha => vk_R.warm hW ha, va_AO.moved hW.alike h.2.2.2.1, fun x hx => va_Nc.moved hW.alike (h.2.2.2.2 x hx)⟩
theorem sl_V.tab {Γ : sl_G} {s : State} {args : Array Value} (h : sl_V Γ s) {w : Cond} (hw : w ∈ lw_tbl) (ho : sl_ok w = true) : w.before args s = true := sl_ok_use ho (h.2.1 w hw ho)
/-- the two statics that an exception's constructor reads -/
def sl_Z (Γ : sl_G) (U : State) (H : Heap) : Prop := vx_Zq Bundle.tN "UNASSIGNED_STACK" Bundle.steD (sl_A Γ) U H ∧ vx_Zq Bundle.tN "SUPPRESSED_SENTINEL" Bundle.listD (sl_A Γ) U H
/-- a method's start -/
def sl_B (Γ : sl_G) (g : sl_W) (U : State) : Prop := Γ.2.2 ≤ U.heap.size ∧ sl_H Γ g U.heap ∧ sl_V Γ U ∧ sl_Z Γ U U.heap
theorem sl_blind {Γ : sl_G} {g : sl_W} {av : List Value} : FrameBlind (va_Pc av (sl_B Γ g)) := by
  intro a U fr mk ⟨h0, h1, h2, h3, h4⟩
  exact ⟨h0, h1, h2, sl_V.warm (U := U.calling fr mk a) h3 (State.WarmedH.refl U), vx_Zq.moved (U := U.calling fr mk a) (Vm.Alike.refl U.vm) h4.1, vx_Zq.moved (U := U.calling fr mk a) (Vm.Alike.refl U.vm) h4.2⟩
/-- within a method: what it stands in -/
def sl_C (Γ : sl_G) (p : Program) (s : State) (m : MethodId) (meth : Method) (c : Code) (cc : ByteArray) (nL : Nat) (own : String) : Prop :=
  p.tables.exec = Jvm.exec ∧ c.code = cc ∧ c.maxLocals = nL ∧ s.vm.findClass own = some m.cls ∧ meth.locks = false ∧ Γ.2.2 ≤ s.heap.size ∧ sl_V Γ s ∧ sl_Z Γ s s.heap
/-- within a method: the world now -/
def sl_I (Γ : sl_G) (g : sl_W) (s : State) (H : Heap) (locs : List Loc) : Prop := sl_H Γ g H ∧ va_S (sl_A Γ) s.heap H locs
theorem sl_pre {Γ : sl_G} {p : Program} {s : State} {m : MethodId} {meth : Method} {c : Code} {cc : ByteArray} {nL : Nat} {own : String} {g : sl_W} {H : Heap} {locs : List Loc} (hC : sl_C Γ p s m meth c cc nL own) (hG : sl_I Γ g s H locs) (av : List Value) : ∀ U : State, U.heap = H → s.WarmedH U.vm → va_Pc av (sl_B Γ g) av.toArray U := by
  intro U hU hW
  obtain ⟨-, -, -, -, -, hz, hV, hZ1, hZ2⟩ := hC
  obtain ⟨hH, hS⟩ := hG
  subst hU
  refine ⟨rfl, Nat.le_trans hz hS.1, hH, hV.warm hW, vx_Zq.kept (vx_Zq.moved hW.alike hZ1) hS.2.1, vx_Zq.kept (vx_Zq.moved hW.alike hZ2) hS.2.1⟩
/-! ===== rows ===== -/
section SLR
variable {p : Program} {l : Launch} {e : Env} {R : Room} {s : State} {m : MethodId} {args : Array Value} {below : List Frame} {meth : Method} {c : Code} {H : Heap} {locs : List Loc} {cells slots : Nat} {Q : State → Prop}
variable {cc : ByteArray} {nL pc : Nat} {ls : Array Slot} {rest st0 : List Value} {Γ : sl_G} {own : String} {g : sl_W}
theorem sl_one {k a : Nat} {x : va_E} (hG : sl_I Γ g s H locs) (he : g k = some (a, x)) : va_P Γ.1 vwCl [(a, x)] H := by
  intro i q hi
  match i, hi with
  | 0, hi => cases hi; exact hG.1.1 k _ he
  | i + 1, hi => simp at hi
theorem sl_oneD {k a : Nat} {x : va_E} (hG : sl_I Γ g s H locs) (he : g k = some (a, x)) : va_D (sl_A Γ) [(a, x)] := by
  refine ⟨fun i j p q hi hj _ => ?_, fun i q hi => ?_⟩
  · have h1 : i < 1 := (List.getElem?_eq_some_iff.mp hi).1
    have h2 : j < 1 := (List.getElem?_eq_some_iff.mp hj).1
    omega
  · match i, hi with
    | 0, hi => cases hi; exact hG.1.2.2 k _ he
    | i + 1, hi => simp at hi
theorem sl_up_H {k a : Nat} {x y : va_E} {H1 : Heap} (hG : sl_H Γ g H) (he : g k = some (a, x)) (hy : va_at Γ.1 vwCl (a, y) H1) (ho : ∀ q : Nat, q ≠ a → H1[q]? = H[q]?) : sl_H Γ (sl_up g k (a, y)) H1 := by
  obtain ⟨h1, h2, h3⟩ := hG
  refine ⟨fun j q hj => ?_, fun i j p q hi hj hpq => ?_, fun j q hj => ?_⟩
  · by_cases hjk : j = k
    · subst hjk
      rw [sl_up_s] at hj
      cases hj
      exact hy
    · rw [sl_up_n _ _ hjk] at hj
      exact (h1 j q hj).kept (ho q.1 fun e => hjk (h2 j k q _ hj he e))
  · have key : ∀ (i : Nat) (p : Nat × va_E), sl_up g k (a, y) i = some p → ∃ p', g i = some p' ∧ p'.1 = p.1 := by
      intro i p hi
      by_cases hik : i = k
      · subst hik
        rw [sl_up_s] at hi
        cases hi
        exact ⟨_, he, rfl⟩
      · rw [sl_up_n _ _ hik] at hi
        exact ⟨p, hi, rfl⟩
    obtain ⟨p', hp, ep⟩ := key i p hi
    obtain ⟨q', hq, eq⟩ := key j q hj
    exact h2 i j p' q' hp hq (by rw [ep, eq]; exact hpq)
  · by_cases hjk : j = k
    · subst hjk
      rw [sl_up_s] at hj
      cases hj
      exact h3 j (a, x) he
    · rw [sl_up_n _ _ hjk] at hj
      exact h3 j q hj
/-- a new cell at an address that the heap didn't have -/
theorem sl_new_H {k a : Nat} {y : va_E} {H1 : Heap} (hG : sl_H Γ g H) (hk : g k = none) (ha : H.size ≤ a) (hz : Γ.2.2 ≤ a) (hy : va_at Γ.1 vwCl (a, y) H1) (ho : ∀ q : Nat, q < H.size → H1[q]? = H[q]?) : sl_H Γ (sl_up g k (a, y)) H1 := by
  obtain ⟨h1, h2, h3⟩ := hG
  have lt : ∀ (j : Nat) (q : Nat × va_E), g j = some q → q.1 < H.size := fun j q hj => (h1 j q hj).lt
  refine ⟨fun j q hj => ?_, fun i j p q hi hj hpq => ?_, fun j q hj => ?_⟩
  · by_cases hjk : j = k
    · subst hjk
      rw [sl_up_s] at hj
      cases hj
      exact hy
    · rw [sl_up_n _ _ hjk] at hj
      exact (h1 j q hj).kept (ho q.1 (lt j q hj))
  · by_cases hik : i = k
    · by_cases hjk : j = k
      · rw [hik, hjk]
      · subst hik
        rw [sl_up_s] at hi
        cases hi
        rw [sl_up_n _ _ hjk] at hj
        have := lt j q hj
        omega
    · rw [sl_up_n _ _ hik] at hi
      by_cases hjk : j = k
      · subst hjk
        rw [sl_up_s] at hj
        cases hj
        have := lt i p hi
        omega
      · rw [sl_up_n _ _ hjk] at hj
        exact h2 i j p q hi hj hpq
  · by_cases hjk : j = k
    · subst hjk
      rw [sl_up_s] at hj
      cases hj
      exact hz
    · rw [sl_up_n _ _ hjk] at hj
      exact h3 j q hj
end SLR
section SLR2
variable {p : Program} {l : Launch} {e : Env} {R : Room} {s : State} {m : MethodId} {args : Array Value} {below : List Frame} {meth : Method} {c : Code} {H : Heap} {locs : List Loc} {cells slots : Nat} {Q : State → Prop}
variable {cc : ByteArray} {nL pc : Nat} {ls : Array Slot} {rest st0 : List Value} {Γ : sl_G} {own : String} {g : sl_W}
theorem sl_hK (hC : sl_C Γ p s m meth c cc nL own) : va_K Γ.1 vwCl (sl_tys Γ) s := hC.2.2.2.2.2.2.1.1
theorem sl_tab (hC : sl_C Γ p s m meth c cc nL own) {w : Cond} (hw : w ∈ lw_tbl) (ho : sl_ok w = true) : w.before args s = true := hC.2.2.2.2.2.2.1.tab hw ho
/-- a field is read -/
theorem sl_get (hC : sl_C Γ p s m meth c cc nL own) (hG : sl_I Γ g s H locs) (k : Nat) {a ci index N : Nat} {fs : List Value} {ref C : String} {T : u_T} (he : g k = some (a, .inr (ci, fs))) (hc : vwCl[ci]? = some (C, T, N)) (hin : ∀ w ∈ u_ws C T N, w ∈ lw_tbl ∧ sl_ok w = true) (i : Nat) (hi : i < N) (w1 : Cond.fieldLink own index ref (T i).2.1 (T i).2.2.1 ∈ lw_tbl) (hr : ref = (T i).1) {v : Value} (hv : fs[i]? = some v) (hdg : decode cc pc = .ok (.getfield index, 3))
    (kk : W p l e R s m args below meth c H locs cells slots Q (F0 m (pc + 3) ls (v :: rest))) : W p l e R s m args below meth c H locs cells slots Q (F0 m pc ls (.ref a :: rest)) :=
  va_get (Ts := u_ws C T N) hC.1 hC.2.1 (fun w hw => sl_tab hC (hin w hw).1 (hin w hw).2) (fun _ h => h) hC.2.2.2.1 (sl_hK hC) (sl_one hG he) 0 rfl hc i hi (sl_tab hC w1 rfl) (fun _ h => by rw [hr]; exact h) hv hdg kk
theorem sl_getN (hC : sl_C Γ p s m meth c cc nL own) (hG : sl_I Γ g s H locs) (k : Nat) {a ci index N : Nat} {fs : List Value} {ref C host : String} {T : u_T} (he : g k = some (a, .inr (ci, fs))) (hc : vwCl[ci]? = some (C, T, N)) (hin : ∀ w ∈ u_ws C T N, w ∈ lw_tbl ∧ sl_ok w = true) (i : Nat) (hi : i < N) (w1 : Cond.fieldLinkNest own index ref (T i).2.1 (T i).2.2.1 host ∈ lw_tbl) (hr : ref = (T i).1) {v : Value} (hv : fs[i]? = some v) (hdg : decode cc pc = .ok (.getfield index, 3))
    (kk : W p l e R s m args below meth c H locs cells slots Q (F0 m (pc + 3) ls (v :: rest))) : W p l e R s m args below meth c H locs cells slots Q (F0 m pc ls (.ref a :: rest)) :=
  va_getN (Ts := u_ws C T N) hC.1 hC.2.1 (fun w hw => sl_tab hC (hin w hw).1 (hin w hw).2) (fun _ h => h) hC.2.2.2.1 (sl_hK hC) (sl_one hG he) 0 rfl hc i hi (sl_tab hC w1 rfl) (fun _ h => by rw [hr]; exact h) hv hdg kk
theorem sl_apart {C : String} {T : u_T} {N ci : Nat} (hC : sl_C Γ p s m meth c cc nL own) (hin : ∀ w ∈ u_ws C T N, w ∈ lw_tbl ∧ sl_ok w = true) (ty : Nat → FieldType) (hty : ∀ k, k < N → parseFieldDescriptor (T k).2.2.1 = some (ty k)) (hnm : ∀ a, a < N → ∀ b, b < N → a ≠ b → (T a).2.1 ≠ (T b).2.1) (hc : vwCl[ci]? = some (C, T, N)) : ∀ x y, x < N → y < N → x ≠ y → (Γ.1.2 ci) x ≠ (Γ.1.2 ci) y :=
  va_apart (own := own) (Ts := u_ws C T N) (args := #[]) (fun w hw => sl_tab hC (hin w hw).1 (hin w hw).2) (fun _ h => h) ty hty hnm (sl_hK hC) hc
/-- a field is written -/
theorem sl_put (hC : sl_C Γ p s m meth c cc nL own) (hG : sl_I Γ g s H locs) (k : Nat) {a ci index N : Nat} {fs : List Value} {ref C : String} {T : u_T} (he : g k = some (a, .inr (ci, fs))) (hc : vwCl[ci]? = some (C, T, N)) (hin : ∀ w ∈ u_ws C T N, w ∈ lw_tbl ∧ sl_ok w = true) (ty0 : Nat → FieldType) (hty : ∀ k, k < N → parseFieldDescriptor (T k).2.2.1 = some (ty0 k)) (hnm : ∀ a, a < N → ∀ b, b < N → a ≠ b → (T a).2.1 ≠ (T b).2.1) (i : Nat) (hi : i < N) (w1 : Cond.fieldLink own index ref (T i).2.1 (T i).2.2.1 ∈ lw_tbl) (hr : ref = (T i).1) (hfin : (T i).2.2.2 = false) {ty : FieldType} {v : Value} (hd : parseFieldDescriptor (T i).2.2.1 = some ty) (hn : narrow ty v = v) (hfit : fits ty v = true) (hl : i < fs.length) (hdg : decode cc pc = .ok (.putfield index, 3))
    (kk : ∀ (H1 : Heap) (locs1 : List Loc), sl_I Γ (sl_up g k (a, .inr (ci, fs.set i v))) s H1 locs1 → W p l e R s m args below meth c H1 locs1 cells slots Q (F0 m (pc + 3) ls rest)) : W p l e R s m args below meth c H locs cells slots Q (F0 m pc ls (v :: .ref a :: rest)) := by
  have hap := sl_apart hC hin ty0 hty hnm hc
  obtain ⟨r, h1, cell, q1, q2, q3, q4⟩ := hG.1.1 k _ he
  have hr1 : r = (C, T, N) := Option.some.inj (h1.symm.trans hc)
  subst hr1
  obtain ⟨hS, hfc, kC, hkC, hkind⟩ := (sl_hK hC).1 ci _ hc
  obtain ⟨cf, kf, fi, f, hi9, hsl⟩ := hS i hi
  have hts : ∀ w ∈ u_ws C T N, w.before args s = true := fun w hw => sl_tab hC (hin w hw).1 (hin w hw).2
  have hlay := hts _ (u_in_lay hi)
  unfold u_lay at hlay
  rw [if_neg (by rw [hfin]; decide)] at hlay
  have hst := (u_facts hfc hkC (u_lays hts (fun _ h => h) hi) hi9).1
  have h6 := u_store hfc hkC hkind hlay hi9 hd hn hfit
  refine W.putK hC.1 hC.2.1 (f := f) ⟨hC.2.2.2.1, sl_tab hC w1 rfl, ⟨_, _, _, by rw [hr]; exact hi9⟩, hst⟩ (by rw [q2]; exact h6) q1 q3 (by rw [hsl]; exact k2_hasslot (q4 i hi)) rfl rfl hdg fun H' e1 e2 e3 => ?_
  rw [hsl] at e1 ⊢
  exact kk H' _ ⟨sl_up_H hG.1 he ⟨_, hc, t_OB.to (V := updV (vp_V fs) i v) ⟨_, e1, q2, q3, t_set q4 hap hi v⟩ (fun j _ => vp_updV_set hl v j)⟩ e3, hG.2.put e2 e3 (hG.1.2.2 k _ he)⟩
/-- a nest mate's field is written -/
theorem sl_putN (hC : sl_C Γ p s m meth c cc nL own) (hG : sl_I Γ g s H locs) (k : Nat) {a ci index N : Nat} {fs : List Value} {ref C host : String} {T : u_T} (he : g k = some (a, .inr (ci, fs))) (hc : vwCl[ci]? = some (C, T, N)) (hin : ∀ w ∈ u_ws C T N, w ∈ lw_tbl ∧ sl_ok w = true) (ty0 : Nat → FieldType) (hty : ∀ k, k < N → parseFieldDescriptor (T k).2.2.1 = some (ty0 k)) (hnm : ∀ a, a < N → ∀ b, b < N → a ≠ b → (T a).2.1 ≠ (T b).2.1) (i : Nat) (hi : i < N) (w1 : Cond.fieldLinkNest own index ref (T i).2.1 (T i).2.2.1 host ∈ lw_tbl) (hr : ref = (T i).1) (hfin : (T i).2.2.2 = false) {ty : FieldType} {v : Value} (hd : parseFieldDescriptor (T i).2.2.1 = some ty) (hn : narrow ty v = v) (hfit : fits ty v = true) (hl : i < fs.length) (hdg : decode cc pc = .ok (.putfield index, 3))
    (kk : ∀ (H1 : Heap) (locs1 : List Loc), sl_I Γ (sl_up g k (a, .inr (ci, fs.set i v))) s H1 locs1 → W p l e R s m args below meth c H1 locs1 cells slots Q (F0 m (pc + 3) ls rest)) : W p l e R s m args below meth c H locs cells slots Q (F0 m pc ls (v :: .ref a :: rest)) := by
  have hap := sl_apart hC hin ty0 hty hnm hc
  obtain ⟨r, h1, cell, q1, q2, q3, q4⟩ := hG.1.1 k _ he
  have hr1 : r = (C, T, N) := Option.some.inj (h1.symm.trans hc)
  subst hr1
  obtain ⟨hS, hfc, kC, hkC, hkind⟩ := (sl_hK hC).1 ci _ hc
  obtain ⟨cf, kf, fi, f, hi9, hsl⟩ := hS i hi
  have hts : ∀ w ∈ u_ws C T N, w.before args s = true := fun w hw => sl_tab hC (hin w hw).1 (hin w hw).2
  have hlay := hts _ (u_in_lay hi)
  unfold u_lay at hlay
  rw [if_neg (by rw [hfin]; decide)] at hlay
  have hst := (u_facts hfc hkC (u_lays hts (fun _ h => h) hi) hi9).1
  have h6 := u_store hfc hkC hkind hlay hi9 hd hn hfit
  refine va_WputK hC.1 hC.2.1 (f := f) hC.2.2.2.1 (sl_tab hC w1 rfl) (by rw [hr]; exact hi9) hst (by rw [q2]; exact h6) q1 q3 (by rw [hsl]; exact k2_hasslot (q4 i hi)) rfl rfl hdg fun H' e1 e2 e3 => ?_
  rw [hsl] at e1 ⊢
  exact kk H' _ ⟨sl_up_H hG.1 he ⟨_, hc, t_OB.to (V := updV (vp_V fs) i v) ⟨_, e1, q2, q3, t_set q4 hap hi v⟩ (fun j _ => vp_updV_set hl v j)⟩ e3, hG.2.put e2 e3 (hG.1.2.2 k _ he)⟩
/-- a final field is written, in a constructor -/
theorem sl_putF (hC : sl_C Γ p s m meth c cc nL own) (hG : sl_I Γ g s H locs) (k : Nat) {a ci index N : Nat} {fs : List Value} {ref C : String} {T : u_T} (he : g k = some (a, .inr (ci, fs))) (hc : vwCl[ci]? = some (C, T, N)) (hin : ∀ w ∈ u_ws C T N, w ∈ lw_tbl ∧ sl_ok w = true) (ty0 : Nat → FieldType) (hty : ∀ k, k < N → parseFieldDescriptor (T k).2.2.1 = some (ty0 k)) (hnm : ∀ a, a < N → ∀ b, b < N → a ≠ b → (T a).2.1 ≠ (T b).2.1) (i : Nat) (hi : i < N) (w1 : Cond.fieldLink own index ref (T i).2.1 (T i).2.2.1 ∈ lw_tbl) (hr : ref = (T i).1) (hfin : (T i).2.2.2 = true) (hin2 : meth.name = "<init>") (hdecl : (T i).1 = own) {ty : FieldType} {v : Value} (hd : parseFieldDescriptor (T i).2.2.1 = some ty) (hn : narrow ty v = v) (hfit : fits ty v = true) (hl : i < fs.length) (hdg : decode cc pc = .ok (.putfield index, 3))
    (kk : ∀ (H1 : Heap) (locs1 : List Loc), sl_I Γ (sl_up g k (a, .inr (ci, fs.set i v))) s H1 locs1 → W p l e R s m args below meth c H1 locs1 cells slots Q (F0 m (pc + 3) ls rest)) : W p l e R s m args below meth c H locs cells slots Q (F0 m pc ls (v :: .ref a :: rest)) := by
  have hap := sl_apart hC hin ty0 hty hnm hc
  have hown := hC.2.2.2.1
  obtain ⟨r, h1, cell, q1, q2, q3, q4⟩ := hG.1.1 k _ he
  have hr1 : r = (C, T, N) := Option.some.inj (h1.symm.trans hc)
  subst hr1
  obtain ⟨hS, hfc, kC, hkC, hkind⟩ := (sl_hK hC).1 ci _ hc
  obtain ⟨cf, kf, fi, f, hi9, hsl⟩ := hS i hi
  have hts : ∀ w ∈ u_ws C T N, w.before args s = true := fun w hw => sl_tab hC (hin w hw).1 (hin w hw).2
  have hlay := hts _ (u_in_lay hi)
  unfold u_lay at hlay
  rw [if_pos hfin] at hlay
  have hst := (u_facts hfc hkC (u_lays hts (fun _ h => h) hi) hi9).1
  have hcf : m.cls = cf := by
    obtain ⟨_, _, c', _, _, _, -, -, hf', -, -, -, hown2, -⟩ := Cond.laysFinal_spec hlay
    have e1 : c' = cf := by have := hi9.symm.trans hf'; simp at this; exact this.1.symm
    rw [hdecl] at hown2
    rw [← e1]; exact Option.some.inj (hown.symm.trans hown2)
  have h6 := u_fits hfc hkC hkind (Or.inr hlay) hi9 hd hn hfit
  refine W.putFinK hC.1 hC.2.1 hown (sl_tab hC w1 rfl) (by rw [hr]; exact hi9) hst hcf hin2 (by rw [q2]; exact h6) q1 q3 (by rw [hsl]; exact k2_hasslot (q4 i hi)) rfl rfl hdg fun H' e1 e2 e3 => ?_
  rw [hsl] at e1 ⊢
  exact kk H' _ ⟨sl_up_H hG.1 he ⟨_, hc, t_OB.to (V := updV (vp_V fs) i v) ⟨_, e1, q2, q3, t_set q4 hap hi v⟩ (fun j _ => vp_updV_set hl v j)⟩ e3, hG.2.put e2 e3 (hG.1.2.2 k _ he)⟩
/-- arrays are read -/
theorem sl_iald (hC : sl_C Γ p s m meth c cc nL own) (hG : sl_I Γ g s H locs) (k : Nat) {a n : Nat} {f : Nat → Int32} (he : g k = some (a, .inl (Γ.2.1 0, n, .inl f))) {i : Int32} (hin : vp_in i n) (hdg : decode cc pc = .ok (.iaload, 1))
    (kk : W p l e R s m args below meth c H locs cells slots Q (F0 m (pc + 1) ls (.int (f i.toNatClampNeg) :: rest))) : W p l e R s m args below meth c H locs cells slots Q (F0 m pc ls (.int i :: .ref a :: rest)) :=
  va_iald hC.1 hC.2.1 (sl_hK hC) (sl_one hG he) 0 0 rfl rfl hin hdg kk
theorem sl_zald (hC : sl_C Γ p s m meth c cc nL own) (hG : sl_I Γ g s H locs) (k : Nat) {a n : Nat} {f : Nat → Int32} (he : g k = some (a, .inl (Γ.2.1 1, n, .inl f))) {i : Int32} (hin : vp_in i n) (hdg : decode cc pc = .ok (.baload, 1))
    (kk : W p l e R s m args below meth c H locs cells slots Q (F0 m (pc + 1) ls (.int (f i.toNatClampNeg) :: rest))) : W p l e R s m args below meth c H locs cells slots Q (F0 m pc ls (.int i :: .ref a :: rest)) :=
  va_zald hC.1 hC.2.1 (sl_hK hC) (sl_one hG he) 0 1 rfl rfl hin hdg kk
theorem sl_aldq (hC : sl_C Γ p s m meth c cc nL own) (hG : sl_I Γ g s H locs) (k : Nat) {a n : Nat} {f : Nat → Option Nat} (he : g k = some (a, .inl (Γ.2.1 2, n, .inr (.inr (.inr (.inr f)))))) {i : Int32} (hin : vp_in i n) (hdg : decode cc pc = .ok (.aaload, 1))
    (kk : W p l e R s m args below meth c H locs cells slots Q (F0 m (pc + 1) ls (va_rf (f i.toNatClampNeg) :: rest))) : W p l e R s m args below meth c H locs cells slots Q (F0 m pc ls (.int i :: .ref a :: rest)) :=
  va_aldq hC.1 hC.2.1 (sl_hK hC) (sl_one hG he) 0 2 rfl rfl hin hdg kk
theorem sl_alen (hC : sl_C Γ p s m meth c cc nL own) (hG : sl_I Γ g s H locs) (k t0 : Nat) {a : Nat} {cA : ClassId} {x : vp_A} (he : g k = some (a, .inl (cA, x))) {ty : FieldType} (ht : (sl_tys Γ)[t0]? = some (cA, ty)) {v : Int32} (hv : Int32.ofNat x.1 = v) (hdg : decode cc pc = .ok (.arraylength, 1))
    (kk : W p l e R s m args below meth c H locs cells slots Q (F0 m (pc + 1) ls (.int v :: rest))) : W p l e R s m args below meth c H locs cells slots Q (F0 m pc ls (.ref a :: rest)) :=
  va_alen hC.1 hC.2.1 (sl_hK hC) (sl_one hG he) 0 t0 rfl ht hv hdg kk
/-- arrays are written -/
theorem sl_iast (hC : sl_C Γ p s m meth c cc nL own) (hG : sl_I Γ g s H locs) (k : Nat) {a n : Nat} {f : Nat → Int32} (he : g k = some (a, .inl (Γ.2.1 0, n, .inl f))) {i x : Int32} (hin : vp_in i n) (hdg : decode cc pc = .ok (.iastore, 1))
    (kk : ∀ (H1 : Heap) (locs1 : List Loc), sl_I Γ (sl_up g k (a, .inl (Γ.2.1 0, n, .inl (upd f i.toNatClampNeg x)))) s H1 locs1 → W p l e R s m args below meth c H1 locs1 cells slots Q (F0 m (pc + 1) ls rest)) : W p l e R s m args below meth c H locs cells slots Q (F0 m pc ls (.int x :: .int i :: .ref a :: rest)) := by
  refine W.iast hC.1 hC.2.1 (hG.1.1 k _ he) (((sl_hK hC).2 0 _ rfl).1 n (fun j => .int (f j))) (fun q => by cases q) (by show ¬ (i < 0 ∨ (arrV _ _ _).slots.size ≤ _); rw [arrV_size]; exact hin) rfl rfl hdg fun H1 e z oq => ?_
  refine kk H1 _ ⟨sl_up_H hG.1 he ?_ oq, hG.2.put z oq (hG.1.2.2 k _ he)⟩
  show H1[a]? = some (vp_cell _ _)
  rw [e, vp_cell_i, vp_cell_i, arrV_store]
  congr 2
  funext q
  by_cases hq : q = i.toNatClampNeg
  · subst hq
    simp [updV, upd]
  · simp [updV, upd, hq]
theorem sl_zast (hC : sl_C Γ p s m meth c cc nL own) (hG : sl_I Γ g s H locs) (k : Nat) {a n : Nat} {f : Nat → Int32} (he : g k = some (a, .inl (Γ.2.1 1, n, .inl f))) {i x : Int32} (hx : vp_nar .boolean x = x) (hin : vp_in i n) (hdg : decode cc pc = .ok (.bastore, 1))
    (kk : ∀ (H1 : Heap) (locs1 : List Loc), sl_I Γ (sl_up g k (a, .inl (Γ.2.1 1, n, .inl (upd f i.toNatClampNeg x)))) s H1 locs1 → W p l e R s m args below meth c H1 locs1 cells slots Q (F0 m (pc + 1) ls rest)) : W p l e R s m args below meth c H locs cells slots Q (F0 m pc ls (.int x :: .int i :: .ref a :: rest)) := by
  refine W.zast hC.1 hC.2.1 (hG.1.1 k _ he) (((sl_hK hC).2 1 _ rfl).1 n (fun j => .int (f j))) (fun q => by cases q) (by show ¬ (i < 0 ∨ (arrV _ _ _).slots.size ≤ _); rw [arrV_size]; exact hin) rfl rfl hdg fun H1 e z oq => ?_
  refine kk H1 _ ⟨sl_up_H hG.1 he ?_ oq, hG.2.put z oq (hG.1.2.2 k _ he)⟩
  show H1[a]? = some (vp_cell _ _)
  rw [e, vp_cell_i, vp_cell_i, arrV_store]
  congr 2
  funext q
  by_cases hq : q = i.toNatClampNeg
  · subst hq
    have h9 : narrow .boolean (.int x) = .int x := by
      have h8 : narrow .boolean (.int x) = .int (vp_nar .boolean x) := by first | rfl | simp [vp_nar, narrow]
      rw [h8, hx]
    first
      | simp [updV, upd, h9]
      | (simp [updV, upd]; exact h9)
  · simp [updV, upd, hq]
theorem sl_astq (hC : sl_C Γ p s m meth c cc nL own) (hG : sl_I Γ g s H locs) (k k2 : Nat) {a n v : Nat} {vs : List Value} {f : Nat → Option Nat} (he : g k = some (a, .inl (Γ.2.1 2, n, .inr (.inr (.inr (.inr f)))))) (hv : g k2 = some (v, .inr (1, vs))) {i : Int32} (hin : vp_in i n) (hdg : decode cc pc = .ok (.aastore, 1))
    (kk : ∀ (H1 : Heap) (locs1 : List Loc), sl_I Γ (sl_up g k (a, .inl (Γ.2.1 2, n, .inr (.inr (.inr (.inr (va_up f i.toNatClampNeg (some v)))))))) s H1 locs1 → W p l e R s m args below meth c H1 locs1 cells slots Q (F0 m (pc + 1) ls rest)) : W p l e R s m args below meth c H locs cells slots Q (F0 m pc ls (.ref v :: .int i :: .ref a :: rest)) := by
  have hlt : i.toNatClampNeg < n := Nat.not_le.mp fun q => hin (Or.inr q)
  have h0 : ¬ i < 0 := fun q => hin (Or.inl q)
  obtain ⟨r', hr', cellV, g1, g2, g3, -⟩ := hG.1.1 k2 _ hv
  have hcls := ((sl_hK hC).1 1 (RX1, TX1, 8) rfl).2
  obtain ⟨kA, comp, k1, k2, k3, -⟩ := ((sl_hK hC).2 2 _ rfl).2
  have hcomp : comp = Γ.1.1 1 := Option.some.inj (k3.symm.trans hcls.1)
  subst hcomp
  obtain ⟨kC, hkC, -⟩ := hcls.2
  refine W.aast hC.1 hC.2.1 (hG.1.1 k _ he) (fun q h => by cases h) (fun h => by cases h) k1 k2 rfl hkC ⟨h0, by show _ < (arrV _ _ _).slots.size; rw [arrV_size]; exact hlt⟩ g1 (fun q h => by rw [g3] at h; cases h) (by rw [g2]; exact hkC) (by rw [g2]; exact va_assign hcls) rfl rfl hdg fun H1 e z oq => ?_
  refine kk H1 _ ⟨sl_up_H hG.1 he ?_ oq, hG.2.put z oq (hG.1.2.2 k _ he)⟩
  show H1[a]? = some (vp_cell _ _)
  rw [e, vp_cell_q, vp_cell_q, arrV_store]
  congr 2
  funext q
  by_cases hq : q = i.toNatClampNeg
  · subst hq
    simp [updV, va_up, va_rf]
  · simp [updV, va_up, hq]
/-- new cells, at a label that is free -/
theorem sl_grow {H1 : Heap} {locs : List Loc} {k : Nat} {y : va_E} (hC : sl_C Γ p s m meth c cc nL own) (hG : sl_I Γ g s H locs) (hk : g k = none) (hy : va_at Γ.1 vwCl (H.size, y) H1) (hs : H.size ≤ H1.size) (ho : ∀ q : Nat, q < H.size → H1[q]? = H[q]?) : sl_I Γ (sl_up g k (H.size, y)) s H1 locs :=
  ⟨sl_new_H hG.1 hk (Nat.le_refl _) (Nat.le_trans hC.2.2.2.2.2.1 hG.2.1) hy ho, ⟨Nat.le_trans hG.2.1 hs, fun q h1 h2 => (ho q (Nat.lt_of_lt_of_le h1 hG.2.1)).trans (hG.2.2.1 q h1 h2), hG.2.2.2⟩⟩
theorem sl_new (hC : sl_C Γ p s m meth c cc nL own) (hG : sl_I Γ g s H locs) (k : Nat) (hk : g k = none) {ci index N : Nat} {C : String} {T : u_T} (hc : vwCl[ci]? = some (C, T, N)) (hin : ∀ w ∈ u_ws C T N, w ∈ lw_tbl ∧ sl_ok w = true) (ty0 : Nat → FieldType) (hty : ∀ k, k < N → parseFieldDescriptor (T k).2.2.1 = some (ty0 k)) {fs : List Value} (hfs : ∀ j, j < N → defaultValue (ty0 j) = vp_V fs j) (w1 : Cond.classLink own index C ∈ lw_tbl) (w2 : Cond.instantiable C N ∈ lw_tbl) (w3 : Cond.initialized C ∈ lw_tbl) (hcells : cells + 1 ≤ R.cells) (hslots : slots + N ≤ R.slots) (hdg : decode cc pc = .ok (.new index, 3))
    (kk : ∀ (q : Nat) (H1 : Heap), sl_I Γ (sl_up g k (q, .inr (ci, fs))) s H1 locs → W p l e R s m args below meth c H1 locs (cells + 1) (slots + N) Q (F0 m (pc + 3) ls (.ref q :: rest))) : W p l e R s m args below meth c H locs cells slots Q (F0 m pc ls rest) := by
  have hKn := (sl_hK hC).1 ci _ hc
  refine W.newcK hC.1 hC.2.1 hC.2.2.2.1 (sl_tab hC w1 rfl) (sl_tab hC w2 rfl) (sl_tab hC w3 rfl) rfl hdg hcells hslots hKn.2.1 rfl fun H1 kC hkC e1 z1 o1 => ?_
  refine kk H.size H1 (sl_grow hC hG hk ⟨_, hc, (u_born (args := args) (ws := u_ws C T N) ty0 (fun w hw => sl_tab hC (hin w hw).1 (hin w hw).2) (fun _ h => h) hKn hkC e1 hty).to hfs⟩ (by omega) o1)
theorem sl_newa (hC : sl_C Γ p s m meth c cc nL own) (hG : sl_I Γ g s H locs) (k t0 : Nat) (hk : g k = none) {atype : ArrayType} {ty : FieldType} {cA0 : ClassId} (w1 : Cond.arrayClass (newarray.typeOf atype) ∈ lw_tbl) (hty : newarray.typeOf atype = ty) (ht : (sl_tys Γ)[t0]? = some (cA0, ty)) {n : Int32} {N' : Nat} {a0 : vp_A} (ha : ∀ cA : ClassId, vp_cell cA a0 = arrV cA N' (fun _ => defaultValue ty)) (hn : ¬ n < 0) (hN : n.toNatClampNeg = N') (hbytes : N' * componentBytes ty ≤ 536870912) (hcells : cells + 1 ≤ R.cells) (hslots : slots + N' ≤ R.slots) (hdg : decode cc pc = .ok (.newarray atype, 2))
    (kk : ∀ (q : Nat) (H1 : Heap), sl_I Γ (sl_up g k (q, .inl (cA0, a0))) s H1 locs → W p l e R s m args below meth c H1 locs (cells + 1) (slots + N') Q (F0 m (pc + 2) ls (.ref q :: rest))) : W p l e R s m args below meth c H locs cells slots Q (F0 m pc ls (.int n :: rest)) := by
  subst hty
  refine va_newaK hC.1 hC.2.1 (sl_tab hC w1 rfl) rfl hdg rfl hn hN hbytes hcells hslots rfl fun H1 cA e1 z1 o1 hAr hNm => ?_
  have hnm : s.vm.findClass ("[" ++ (newarray.typeOf atype).toString) = some cA0 := by
    have h9 := ((sl_hK hC).2 t0 _ ht).2
    cases atype <;> exact h9
  have hcA : cA = cA0 := Option.some.inj (hNm.symm.trans hnm)
  subst hcA
  refine kk H.size H1 (sl_grow hC hG hk ?_ (by omega) o1)
  show H1[H.size]? = some (vp_cell _ _)
  rw [ha]
  exact e1
theorem sl_newq (hC : sl_C Γ p s m meth c cc nL own) (hG : sl_I Γ g s H locs) (k : Nat) (hk : g k = none) {index : Nat} (w1 : Cond.classLink own index "SharedLog$Entry" ∈ lw_tbl) {n : Int32} {N' : Nat} (hn : ¬ n < 0) (hN : n.toNatClampNeg = N') (hbytes : N' * 4 ≤ 536870912) (hcells : cells + 1 ≤ R.cells) (hslots : slots + N' ≤ R.slots) (hdg : decode cc pc = .ok (.anewarray index, 3))
    (kk : ∀ (q : Nat) (H1 : Heap), sl_I Γ (sl_up g k (q, .inl (Γ.2.1 2, N', .inr (.inr (.inr (.inr (fun _ => none))))))) s H1 locs → W p l e R s m args below meth c H1 locs (cells + 1) (slots + N') Q (F0 m (pc + 3) ls (.ref q :: rest))) : W p l e R s m args below meth c H locs cells slots Q (F0 m pc ls (.int n :: rest)) := by
  subst hN
  refine W.anew hC.1 hC.2.1 hC.2.2.2.1 (sl_tab hC w1 rfl) (va_AO.use hC.2.2.2.2.2.2.1.2.2.2.1) rfl hdg rfl hn hbytes hcells hslots fun cA kA comp f1 f2 f3 f4 => ?_
  have hnm : s.vm.findClass ("[" ++ (FieldType.object "SharedLog$Entry").toString) = some (Γ.2.1 2) := by
    obtain ⟨_, _, _, _, _, h9⟩ := ((sl_hK hC).2 2 _ rfl).2
    exact h9
  have hcA : cA = Γ.2.1 2 := Option.some.inj (f1.symm.trans hnm)
  subst hcA
  generalize hH1 : H.push ({ cls := Γ.2.1 2, slots := Array.replicate n.toNatClampNeg .null, vm := .none } : Cell) = H1
  have z1 : H1.size = H.size + 1 := by rw [← hH1, Array.size_push]
  have e1 : H1[H.size]? = some (arrV (Γ.2.1 2) n.toNatClampNeg (fun _ => .null)) := by rw [← hH1, Array.getElem?_push_size, ← arrV_new]
  have o1 : ∀ q : Nat, q < H.size → H1[q]? = H[q]? := fun q hq => by rw [← hH1, Array.getElem?_push, if_neg (Nat.ne_of_lt hq)]
  refine kk H.size H1 (sl_grow hC hG hk ?_ (by omega) o1)
  show H1[H.size]? = some (vp_cell _ _)
  rw [vp_cell_q]
  exact e1
theorem sl_top {v w : Value} (h : v = w) (kk : W p l e R s m args below meth c H locs cells slots Q (F0 m pc ls (w :: rest))) : W p l e R s m args below meth c H locs cells slots Q (F0 m pc ls (v :: rest)) := by
  rw [h]; exact kk
end SLR2

