/-! calls, returns, the entry of a method -/
def sl_mok (y : MethodName) (n : Nat) : Prop := y.cls ≠ "java/lang/invoke/MethodHandle" ∧ y.cls ≠ "java/lang/invoke/VarHandle" ∧ (parseMethodDescriptor y.desc).map (fun d => d.parameters.length) = some n
def sl_mv (y : MethodName) (bytes : ByteArray) (maxL : Nat) (ret : Option FieldType) (n : Nat) : Prop := sl_mok y n ∧ Cond.instanceMethod y ∈ lw_tbl ∧ Cond.code y bytes maxL ret ∈ lw_tbl ∧ Cond.initialized y.cls ∈ lw_tbl ∧ Cond.selects y.cls y y ∈ lw_tbl
def sl_mi (y : MethodName) (bytes : ByteArray) (maxL : Nat) (n : Nat) : Prop := sl_mok y n ∧ Cond.instanceMethod y ∈ lw_tbl ∧ Cond.code y bytes maxL none ∈ lw_tbl ∧ Cond.initialized y.cls ∈ lw_tbl ∧ y.name = "<init>"
def sl_ms (y : MethodName) (bytes : ByteArray) (maxL : Nat) (ret : Option FieldType) (n : Nat) : Prop := sl_mok y n ∧ Cond.static y ∈ lw_tbl ∧ Cond.code y bytes maxL ret ∈ lw_tbl ∧ Cond.initialized y.cls ∈ lw_tbl
def sl_mw (y : MethodName) (bytes : ByteArray) (maxL : Nat) (ret : Option FieldType) (hh : List (Nat × Nat × Nat × Nat)) (n : Nat) : Prop := sl_mok y n ∧ Cond.static y ∈ lw_tbl ∧ Cond.codeWith y bytes maxL ret hh ∈ lw_tbl ∧ Cond.initialized y.cls ∈ lw_tbl
theorem sl_gi {w : Cond} (h : goodWord w = true) : GoodIn [w] [w] := fun x hx => ⟨hx, good_of_word (by rw [List.mem_singleton.mp hx]; exact h)⟩
section SLC
variable {p : Program} {l : Launch} {e : Env} {R : Room} {s : State} {m : MethodId} {args : Array Value} {below : List Frame} {meth : Method} {c : Code} {H : Heap} {locs : List Loc} {cells slots : Nat} {Q : State → Prop}
variable {cc : ByteArray} {nL pc : Nat} {ls : Array Slot} {rest st0 : List Value} {Γ : sl_G} {own : String} {g : sl_W}
variable {y : MethodName} {bytes : ByteArray} {maxL mc ms n index : Nat} {ret : Option FieldType} {rm : Room} {Qc : Array Value → State → Outcome → State → Prop} {b : Addr} {As : List Value} {host : String}
theorem sl_word (hC : sl_C Γ p s m meth c cc nL own) {w : Cond} (hw : w ∈ lw_tbl) (ho : sl_ok w = true) : ∀ x ∈ [w], x.before args s = true := fun x hx => by rw [List.mem_singleton.mp hx]; exact sl_tab hC hw ho
theorem sl_cB (hC : sl_C Γ p s m meth c cc nL own) (hm : sl_mok y n) (w2 : Cond.code y bytes maxL ret ∈ lw_tbl) (w3 : Cond.initialized y.cls ∈ lw_tbl) (w1 : Cond.methodLink own index y ∈ lw_tbl) (hrc : rm.cells = mc) (hrs : rm.slots = ms) (hR : rm.frames + 1 ≤ R.frames ∧ 8 + (maxL + 11) + rm.locals ≤ R.locals) : CallB R s args own index y bytes maxL ret [Cond.code y bytes maxL ret] rm mc ms n :=
  callB_of (Ts := [Cond.code y bytes maxL ret]) n (sl_word hC w2 rfl) (sl_gi rfl) rfl hrc hrs (sl_tab hC w3 rfl) (sl_tab hC w1 rfl) hm hR
theorem sl_cN (hC : sl_C Γ p s m meth c cc nL own) (hm : sl_mok y n) (w2 : Cond.code y bytes maxL ret ∈ lw_tbl) (w3 : Cond.initialized y.cls ∈ lw_tbl) (w1 : Cond.methodLinkNest own index y host ∈ lw_tbl) (hrc : rm.cells = mc) (hrs : rm.slots = ms) (hR : rm.frames + 1 ≤ R.frames ∧ 8 + (maxL + 11) + rm.locals ≤ R.locals) : va_CN R s args own index y host bytes maxL ret [Cond.code y bytes maxL ret] rm mc ms n :=
  va_cnB (Ts := [Cond.code y bytes maxL ret]) n (sl_word hC w2 rfl) (sl_gi rfl) rfl hrc hrs (hC.2.2.2.2.2.2.1.2.1 _ w1 rfl) (sl_tab hC w3 rfl) hm hR
theorem sl_fix (hC : sl_C Γ p s m meth c cc nL own) : CallFix p m c cc nL s args [] own := ⟨hC.1, hC.2.1, hC.2.2.1, hC.2.2.2.1, fun w h => nomatch h⟩
theorem sl_preS (hC : sl_C Γ p s m meth c cc nL own) (hG : sl_I Γ g s H locs) : PreS s H (va_Pc As (sl_B Γ g)) As := ⟨sl_blind, sl_pre hC hG As⟩
theorem sl_preV (hC : sl_C Γ p s m meth c cc nL own) (hG : sl_I Γ g s H locs) {k ci N : Nat} {fs : List Value} {C : String} {T : u_T} (he : g k = some (b, .inr (ci, fs))) (hc : vwCl[ci]? = some (C, T, N)) : PreV s H C b (va_Pc (.ref b :: As) (sl_B Γ g)) As :=
  ⟨sl_blind, va_recv (sl_hK hC) (sl_one hG he) (q0 := 0) hc rfl, sl_pre hC hG (.ref b :: As)⟩
/-- calls of instance methods, static ones, constructors; the same of nest mates -/
theorem sl_runV (hC : sl_C Γ p s m meth c cc nL own) (hG : sl_I Γ g s H locs) (hM : Met l y [Cond.code y bytes maxL ret] rm (va_Pc (.ref b :: As) (sl_B Γ g)) Qc mc ms (sl_A Γ)) (hm : sl_mv y bytes maxL ret n) (w1 : Cond.methodLink own index y ∈ lw_tbl) (k : Nat) {ci N : Nat} {fs : List Value} {T : u_T} (he : g k = some (b, .inr (ci, fs))) (hc : vwCl[ci]? = some (y.cls, T, N)) (hrc : rm.cells = mc) (hrs : rm.slots = ms) (hR : rm.frames + 1 ≤ R.frames ∧ 8 + (maxL + 11) + rm.locals ≤ R.locals) (hn : As.length = n) (hsz : ls.size = nL) (hst : st0 = As.reverse ++ .ref b :: rest) (hW : (rest.map fun v => v.category).sum ≤ 8) (hdg : decode cc pc = .ok (.invokevirtual index, 3)) (hf : cells + mc ≤ R.cells ∧ slots + ms ≤ R.slots) :
    va_Run p l e R s m args below meth c H locs cells slots mc ms (F0 m pc ls st0) rest (Qc (Value.ref b :: As).toArray) (sl_A Γ) :=
  va_runV (sl_fix hC) hM ⟨sl_cB hC hm.1 hm.2.2.1 hm.2.2.2.1 w1 hrc hrs hR, sl_tab hC hm.2.1 rfl, sl_tab hC hm.2.2.2.2 rfl⟩ (sl_preV hC hG he hc) rfl hn hsz hst (lv_room hW) hdg hf
theorem sl_runVN (hC : sl_C Γ p s m meth c cc nL own) (hG : sl_I Γ g s H locs) (hM : Met l y [Cond.code y bytes maxL ret] rm (va_Pc (.ref b :: As) (sl_B Γ g)) Qc mc ms (sl_A Γ)) (hm : sl_mv y bytes maxL ret n) (w1 : Cond.methodLinkNest own index y host ∈ lw_tbl) (k : Nat) {ci N : Nat} {fs : List Value} {T : u_T} (he : g k = some (b, .inr (ci, fs))) (hc : vwCl[ci]? = some (y.cls, T, N)) (hrc : rm.cells = mc) (hrs : rm.slots = ms) (hR : rm.frames + 1 ≤ R.frames ∧ 8 + (maxL + 11) + rm.locals ≤ R.locals) (hn : As.length = n) (hsz : ls.size = nL) (hst : st0 = As.reverse ++ .ref b :: rest) (hW : (rest.map fun v => v.category).sum ≤ 8) (hdg : decode cc pc = .ok (.invokevirtual index, 3)) (hf : cells + mc ≤ R.cells ∧ slots + ms ≤ R.slots) :
    va_Run p l e R s m args below meth c H locs cells slots mc ms (F0 m pc ls st0) rest (Qc (Value.ref b :: As).toArray) (sl_A Γ) :=
  va_runVN (sl_fix hC) hM ⟨sl_cN hC hm.1 hm.2.2.1 hm.2.2.2.1 w1 hrc hrs hR, sl_tab hC hm.2.1 rfl, sl_tab hC hm.2.2.2.2 rfl⟩ (sl_preV hC hG he hc) rfl hn hsz hst (lv_room hW) hdg hf
theorem sl_runS (hC : sl_C Γ p s m meth c cc nL own) (hG : sl_I Γ g s H locs) (hM : Met l y [Cond.code y bytes maxL ret] rm (va_Pc As (sl_B Γ g)) Qc mc ms (sl_A Γ)) (hm : sl_ms y bytes maxL ret n) (w1 : Cond.methodLink own index y ∈ lw_tbl) (hrc : rm.cells = mc) (hrs : rm.slots = ms) (hR : rm.frames + 1 ≤ R.frames ∧ 8 + (maxL + 11) + rm.locals ≤ R.locals) (hn : As.length = n) (hsz : ls.size = nL) (hst : st0 = As.reverse ++ rest) (hW : (rest.map fun v => v.category).sum ≤ 8) (hdg : decode cc pc = .ok (.invokestatic index, 3)) (hf : cells + mc ≤ R.cells ∧ slots + ms ≤ R.slots) :
    va_Run p l e R s m args below meth c H locs cells slots mc ms (F0 m pc ls st0) rest (Qc As.toArray) (sl_A Γ) :=
  va_runS (sl_fix hC) hM ⟨sl_cB hC hm.1 hm.2.2.1 hm.2.2.2 w1 hrc hrs hR, sl_tab hC hm.2.1 rfl⟩ (sl_preS hC hG) rfl hn hsz hst (lv_room hW) hdg hf
theorem sl_runSN (hC : sl_C Γ p s m meth c cc nL own) (hG : sl_I Γ g s H locs) (hM : Met l y [Cond.code y bytes maxL ret] rm (va_Pc As (sl_B Γ g)) Qc mc ms (sl_A Γ)) (hm : sl_ms y bytes maxL ret n) (w1 : Cond.methodLinkNest own index y host ∈ lw_tbl) (hrc : rm.cells = mc) (hrs : rm.slots = ms) (hR : rm.frames + 1 ≤ R.frames ∧ 8 + (maxL + 11) + rm.locals ≤ R.locals) (hn : As.length = n) (hsz : ls.size = nL) (hst : st0 = As.reverse ++ rest) (hW : (rest.map fun v => v.category).sum ≤ 8) (hdg : decode cc pc = .ok (.invokestatic index, 3)) (hf : cells + mc ≤ R.cells ∧ slots + ms ≤ R.slots) :
    va_Run p l e R s m args below meth c H locs cells slots mc ms (F0 m pc ls st0) rest (Qc As.toArray) (sl_A Γ) :=
  va_runSN (sl_fix hC) hM ⟨sl_cN hC hm.1 hm.2.2.1 hm.2.2.2 w1 hrc hrs hR, sl_tab hC hm.2.1 rfl, trivial⟩ (sl_preS hC hG) rfl hn hsz hst (lv_room hW) hdg hf
theorem sl_runI (hC : sl_C Γ p s m meth c cc nL own) (hG : sl_I Γ g s H locs) (hM : Met l y [Cond.code y bytes maxL none] rm (va_Pc (.ref b :: As) (sl_B Γ g)) Qc mc ms (sl_A Γ)) (hm : sl_mi y bytes maxL n) (w1 : Cond.methodLink own index y ∈ lw_tbl) (hrc : rm.cells = mc) (hrs : rm.slots = ms) (hR : rm.frames + 1 ≤ R.frames ∧ 8 + (maxL + 11) + rm.locals ≤ R.locals) (hn : As.length = n) (hsz : ls.size = nL) (hst : st0 = As.reverse ++ .ref b :: rest) (hW : (rest.map fun v => v.category).sum ≤ 8) (hdg : decode cc pc = .ok (.invokespecial index, 3)) (hf : cells + mc ≤ R.cells ∧ slots + ms ≤ R.slots) :
    va_Run p l e R s m args below meth c H locs cells slots mc ms (F0 m pc ls st0) rest (Qc (Value.ref b :: As).toArray) (sl_A Γ) :=
  va_runI (sl_fix hC) hM ⟨sl_cB hC hm.1 hm.2.2.1 hm.2.2.2.1 w1 hrc hrs hR, hm.2.2.2.2, sl_tab hC hm.2.1 rfl⟩ (sl_preS hC hG) rfl hn hsz hst (lv_room hW) hdg hf
theorem sl_runIN (hC : sl_C Γ p s m meth c cc nL own) (hG : sl_I Γ g s H locs) (hM : Met l y [Cond.code y bytes maxL none] rm (va_Pc (.ref b :: As) (sl_B Γ g)) Qc mc ms (sl_A Γ)) (hm : sl_mi y bytes maxL n) (w1 : Cond.methodLinkNest own index y host ∈ lw_tbl) (hrc : rm.cells = mc) (hrs : rm.slots = ms) (hR : rm.frames + 1 ≤ R.frames ∧ 8 + (maxL + 11) + rm.locals ≤ R.locals) (hn : As.length = n) (hsz : ls.size = nL) (hst : st0 = As.reverse ++ .ref b :: rest) (hW : (rest.map fun v => v.category).sum ≤ 8) (hdg : decode cc pc = .ok (.invokespecial index, 3)) (hf : cells + mc ≤ R.cells ∧ slots + ms ≤ R.slots) :
    va_Run p l e R s m args below meth c H locs cells slots mc ms (F0 m pc ls st0) rest (Qc (Value.ref b :: As).toArray) (sl_A Γ) :=
  va_runIN (sl_fix hC) hM ⟨sl_cN hC hm.1 hm.2.2.1 hm.2.2.2.1 w1 hrc hrs hR, hm.2.2.2.2, sl_tab hC hm.2.1 rfl⟩ (sl_preS hC hG) rfl hn hsz hst (lv_room hW) hdg hf
end SLC
/-- answers: an int, nothing, a reference or null; the world then -/
abbrev sl_Qi (Γ : sl_G) {S : Type} (post : Int32 → S → Prop) (gg : S → sl_W) : Array Value → State → Outcome → State → Prop := va_Qi post (fun u t => sl_H Γ (gg u) t.heap) (sl_A Γ)
abbrev sl_Qv (Γ : sl_G) {S : Type} (post : S → Prop) (gg : S → sl_W) : Array Value → State → Outcome → State → Prop := va_Qv post (fun u t => sl_H Γ (gg u) t.heap) (sl_A Γ)
abbrev sl_Qq (Γ : sl_G) {S : Type} (post : Option Nat → S → Prop) (gg : S → sl_W) : Array Value → State → Outcome → State → Prop := va_Qq post (fun u t => sl_H Γ (gg u) t.heap) (sl_A Γ)
section SLD
variable {p : Program} {l : Launch} {e : Env} {R : Room} {s : State} {m : MethodId} {args a : Array Value} {below : List Frame} {meth : Method} {c : Code} {H : Heap} {locs : List Loc} {cells slots mc ms : Nat} {Q : State → Prop}
variable {cc : ByteArray} {nL pc : Nat} {ls : Array Slot} {rest st0 : List Value} {Γ : sl_G} {own : String} {g : sl_W} {S : Type} {gg : S → sl_W}
theorem sl_calli {post : Int32 → S → Prop} (hr : va_Run p l e R s m args below meth c H locs cells slots mc ms (F0 m pc ls st0) rest (sl_Qi Γ post gg a) (sl_A Γ)) (hG : sl_I Γ g s H locs)
    (kk : ∀ (r : Int32) (u : S) (H1 : Heap) (locs1 : List Loc), post r u → sl_I Γ (gg u) s H1 locs1 → W p l e R s m args below meth c H1 locs1 (cells + mc) (slots + ms) Q (F0 m (pc + 3) ls (.int r :: rest))) : W p l e R s m args below meth c H locs cells slots Q (F0 m pc ls st0) :=
  va_calli hr hG.2 (fun _ _ h => h) (fun _ h => h) (fun r u t H1 locs1 ht _ hp hB _ _ hS => kk r u H1 locs1 hp ⟨by rw [← ht]; exact hB, hS⟩)
theorem sl_callv {post : S → Prop} (hr : va_Run p l e R s m args below meth c H locs cells slots mc ms (F0 m pc ls st0) rest (sl_Qv Γ post gg a) (sl_A Γ)) (hG : sl_I Γ g s H locs)
    (kk : ∀ (u : S) (H1 : Heap) (locs1 : List Loc), post u → sl_I Γ (gg u) s H1 locs1 → W p l e R s m args below meth c H1 locs1 (cells + mc) (slots + ms) Q (F0 m (pc + 3) ls rest)) : W p l e R s m args below meth c H locs cells slots Q (F0 m pc ls st0) :=
  va_callv hr hG.2 (fun _ _ h => h) (fun _ h => h) (fun u t H1 locs1 ht _ hp hB _ _ hS => kk u H1 locs1 hp ⟨by rw [← ht]; exact hB, hS⟩)
theorem sl_callq {post : Option Nat → S → Prop} (hr : va_Run p l e R s m args below meth c H locs cells slots mc ms (F0 m pc ls st0) rest (sl_Qq Γ post gg a) (sl_A Γ)) (hG : sl_I Γ g s H locs)
    (kk : ∀ (r : Option Nat) (u : S) (H1 : Heap) (locs1 : List Loc), post r u → sl_I Γ (gg u) s H1 locs1 → W p l e R s m args below meth c H1 locs1 (cells + mc) (slots + ms) Q (F0 m (pc + 3) ls (va_rf r :: rest))) : W p l e R s m args below meth c H locs cells slots Q (F0 m pc ls st0) :=
  va_callq hr hG.2 (fun _ _ h => h) (fun _ h => h) (fun r u t H1 locs1 ht _ hp hB _ _ hS => kk r u H1 locs1 hp ⟨by rw [← ht]; exact hB, hS⟩)
theorem sl_ri {post : Int32 → S → Prop} {v : Int32} (hC : sl_C Γ p s m meth c cc nL own) (hr : meth.sig.returnType = some .int) (hG : sl_I Γ g s H locs) (u : S) (hp : post v u) (hgu : gg u = g) (hc : cells ≤ mc) (hs : slots ≤ ms) (hdg : decode cc pc = .ok (.ireturn, 1)) :
    W p l e R s m args below meth c H locs cells slots (MQ below (sl_Qi Γ post gg) args s mc ms (sl_A Γ)) (F0 m pc ls [.int v]) :=
  W.widen hc hs (W.iret hC.1 hC.2.1 hr (fun t ht hW => ⟨⟨v, u, rfl, hp, by show sl_H Γ (gg u) t.heap; rw [hgu, ht]; exact hG.1⟩, hG.2.F ht⟩) hG.2.2.2 hdg hC.2.2.2.2.1)
theorem sl_rz {post : Int32 → S → Prop} {v : Int32} (hC : sl_C Γ p s m meth c cc nL own) (hr : meth.sig.returnType = some .boolean) (hn : narrow .boolean (.int v) = .int v) (hG : sl_I Γ g s H locs) (u : S) (hp : post v u) (hgu : gg u = g) (hc : cells ≤ mc) (hs : slots ≤ ms) (hdg : decode cc pc = .ok (.ireturn, 1)) :
    W p l e R s m args below meth c H locs cells slots (MQ below (sl_Qi Γ post gg) args s mc ms (sl_A Γ)) (F0 m pc ls [.int v]) :=
  W.widen hc hs (W.zret hC.1 hC.2.1 hr hn (fun t ht hW => ⟨⟨v, u, rfl, hp, by show sl_H Γ (gg u) t.heap; rw [hgu, ht]; exact hG.1⟩, hG.2.F ht⟩) hG.2.2.2 hdg hC.2.2.2.2.1)
theorem sl_rv {post : S → Prop} (hC : sl_C Γ p s m meth c cc nL own) (hr : meth.sig.returnType = none) (hG : sl_I Γ g s H locs) (u : S) (hp : post u) (hgu : gg u = g) (hc : cells ≤ mc) (hs : slots ≤ ms) (hdg : decode cc pc = .ok (.return_, 1)) :
    W p l e R s m args below meth c H locs cells slots (MQ below (sl_Qv Γ post gg) args s mc ms (sl_A Γ)) (F0 m pc ls []) :=
  W.widen hc hs (W.vret hC.1 hC.2.1 hr (fun t ht hW => ⟨⟨u, rfl, hp, by show sl_H Γ (gg u) t.heap; rw [hgu, ht]; exact hG.1⟩, hG.2.F ht⟩) hG.2.2.2 hdg hC.2.2.2.2.1)
theorem sl_rq {post : Option Nat → S → Prop} {v : Option Nat} {nm : String} (hC : sl_C Γ p s m meth c cc nL own) (hr : meth.sig.returnType = some (.object nm)) (hG : sl_I Γ g s H locs) (u : S) (hp : post v u) (hgu : gg u = g) (hc : cells ≤ mc) (hs : slots ≤ ms) (hdg : decode cc pc = .ok (.areturn, 1)) :
    W p l e R s m args below meth c H locs cells slots (MQ below (sl_Qq Γ post gg) args s mc ms (sl_A Γ)) (F0 m pc ls [va_rf v]) :=
  W.widen hc hs (W.aret hC.1 hC.2.1 hr (Or.inl ⟨nm, rfl⟩) (va_rf_or v) (fun t ht hW => ⟨⟨v, u, rfl, hp, by show sl_H Γ (gg u) t.heap; rw [hgu, ht]; exact hG.1⟩, hG.2.F ht⟩) hG.2.2.2 hdg hC.2.2.2.2.1)
end SLD
/-- a method's body, from its entry: what is there -/
theorem sl_ent {Γ : sl_G} {l : Launch} {y : MethodName} {bytes : ByteArray} {maxL : Nat} {ret : Option FieldType} {rm : Room} {g : sl_W} {av : List Value} {Qc : Array Value → State → Outcome → State → Prop} {mc ms : Nat} (hy : plainName y.cls = true) (hL : (lg_sl av).length ≤ maxL)
    (body : ∀ (p : Program) (e : Env) (s : State) (m : MethodId) (below : List Frame) (meth : Method) (c : Code) (ls : Array Slot), sl_C Γ p s m meth c bytes maxL y.cls → meth.sig.returnType = ret → meth.name = y.name → sl_I Γ g s s.heap [] → lv_has ls maxL (lv_args 0 av) →
      W p l e rm s m av.toArray below meth c s.heap [] 0 0 (MQ below Qc av.toArray s mc ms (sl_A Γ)) (F0 m 0 ls [])) : Met l y [Cond.code y bytes maxL ret] rm (va_Pc av (sl_B Γ g)) Qc mc ms (sl_A Γ) := by
  refine Met.ofW (cc := bytes) (maxL := maxL) (ret := ret) hy rfl ?_
  intro p e s m args below meth c s₁ B hml hv
  obtain ⟨rfl, h0, hH, hV, hZ⟩ := hv
  have hl := lv_entry av (n := maxL) hL
  rw [lg_entry_eq]
  exact body p e s m below meth c _ ⟨B.exec, B.bytes, hml, findClass_of_methodNamed B.named, B.notSynchronized, h0, hV, hZ⟩ B.returns (name_of_methodNamed B.named B.method).1 ⟨hH, va_S.rf⟩ hl

