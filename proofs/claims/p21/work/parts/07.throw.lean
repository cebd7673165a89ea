/-! throws, and methods that may throw -/
def sl_xn : List String := ["java/lang/RuntimeException", "java/lang/Exception"]
theorem sl_hatA : ∀ w ∈ vx_atS RX4 61 "java/lang/IllegalArgumentException" sl_xn, w ∈ lw_tbl ∧ sl_ok w = true := by decide +kernel
theorem sl_hatS : ∀ w ∈ vx_atS RX4 76 "java/lang/IllegalStateException" sl_xn, w ∈ lw_tbl ∧ sl_ok w = true := by decide +kernel
theorem sl_hatO : ∀ w ∈ vx_atS RX4 102 "java/lang/IndexOutOfBoundsException" sl_xn, w ∈ lw_tbl ∧ sl_ok w = true := by decide +kernel
theorem sl_otA : ∀ w ∈ Cond.classLink RX4 57 "java/lang/IllegalArgumentException" :: Cond.initialized "java/lang/IllegalArgumentException" :: vx_atS RX4 61 "java/lang/IllegalArgumentException" sl_xn, vx_ot w = true := by decide +kernel
theorem sl_otS : ∀ w ∈ Cond.classLink RX4 72 "java/lang/IllegalStateException" :: Cond.initialized "java/lang/IllegalStateException" :: vx_atS RX4 76 "java/lang/IllegalStateException" sl_xn, vx_ot w = true := by decide +kernel
theorem sl_otO : ∀ w ∈ Cond.classLink RX4 98 "java/lang/IndexOutOfBoundsException" :: Cond.initialized "java/lang/IndexOutOfBoundsException" :: vx_atS RX4 102 "java/lang/IndexOutOfBoundsException" sl_xn, vx_ot w = true := by decide +kernel
/-- the world where a method throws: as it is -/
abbrev sl_X (Γ : sl_G) (g : sl_W) (xp : String → Prop) : String → State → State → Prop := vx_X (S := Unit) (fun _ => True) (fun E _ t => xp E ∧ sl_H Γ g t.heap) (sl_A Γ)
section SLT
variable {p : Program} {l : Launch} {e : Env} {R : Room} {s : State} {m : MethodId} {args a : Array Value} {below : List Frame} {meth : Method} {c : Code} {H : Heap} {locs : List Loc} {cells slots mc ms : Nat} {Q : State → Prop}
variable {cc : ByteArray} {nL pc : Nat} {ls : Array Slot} {rest st0 : List Value} {Γ : sl_G} {own : String} {g : sl_W} {Qc : Array Value → State → Outcome → State → Prop} {xp : String → Prop}
theorem sl_thr {cls text : String} {ik is ic : Nat} (hl : l.stackTraces = false) (hC : sl_C Γ p s m meth c cc nL own) (hG : sl_I Γ g s H locs) (hx : xp cls) (hcls : Bundle.fit cls = true)
    (hk : Cond.classLink own ik cls ∈ lw_tbl) (hini : Cond.initialized cls ∈ lw_tbl) (hstr : (own, is, text) ∈ sl_strs) (hat : ∀ w ∈ vx_atS own ic cls sl_xn, w ∈ lw_tbl ∧ sl_ok w = true) (hgood : ∀ w ∈ Cond.classLink own ik cls :: Cond.initialized cls :: vx_atS own ic cls sl_xn, vx_ot w = true)
    (hsize : ls.size = nL) (d0 : decode cc pc = .ok (.new ik, 3)) (d3 : decode cc (pc + 3) = .ok (.dup, 1)) (d4 : decode cc (pc + 4) = .ok (.ldc is, 2)) (d6 : decode cc (pc + 6) = .ok (.invokespecial ic, 3)) (d9 : decode cc (pc + 9) = .ok (.athrow, 1))
    (hno : ∀ x ∈ c.exceptionTable.toList, False) (hRframes : 5 < R.frames) (hRlocals : (rest.map fun v => v.category).sum + 82 ≤ R.locals) (hRcells : cells + 1 ≤ R.cells) (hRslots : slots + 6 ≤ R.slots) (hc : cells + 1 ≤ mc) (hs : slots + 6 ≤ ms) :
    W p l e R s m args below meth c H locs cells slots (vx_MQ below Qc (sl_X Γ g xp) args s mc ms (sl_A Γ)) (F0 m pc ls rest) := by
  obtain ⟨sa, hsa⟩ := hC.2.2.2.2.2.2.1.2.2.1 _ hstr
  refine vx_throwS (names := sl_xn) hC.1 hC.2.1 hl hC.2.2.2.1 hcls (by decide +kernel) (sl_tab hC hk rfl) (sl_tab hC hini rfl) hsa (fun w hw => sl_tab hC (hat w hw).1 (hat w hw).2) hgood hC.2.2.2.2.2.2.2.1 hC.2.2.2.2.2.2.2.2 hG.2 (by rw [hsize]; exact hC.2.2.1.symm) d0 d3 d4 d6 d9 (fun x hx => absurd (hno x hx) id) hRframes hRlocals hRcells hRslots hC.2.2.2.2.1 ?_ hG.2.2.2 hc hs
  intro t _ hz ho
  refine ⟨(), trivial, ⟨hx, ⟨fun k q hq => (hG.1.1 k q hq).kept (ho q.1 (hG.1.1 k q hq).lt), hG.1.2⟩⟩, Nat.le_trans hG.2.1 hz, fun q h1 h2 => ?_⟩
  rw [ho q (Nat.lt_of_lt_of_le h1 hG.2.1)]
  exact hG.2.2.1 q h1 h2
/-- a callee that returns or throws -/
theorem sl_runX {y : MethodName} {bytes : ByteArray} {maxL n index : Nat} {ret : Option FieldType} {rm : Room} {XC : String → State → State → Prop} {b : Addr} {As : List Value} (hC : sl_C Γ p s m meth c cc nL own) (hG : sl_I Γ g s H locs) (hM : vx_Met l y [Cond.code y bytes maxL ret] rm (va_Pc (.ref b :: As) (sl_B Γ g)) Qc XC mc ms (sl_A Γ)) (hm : sl_mv y bytes maxL ret n) (w1 : Cond.methodLink own index y ∈ lw_tbl) (k : Nat) {ci N : Nat} {fs : List Value} {T : u_T} (he : g k = some (b, .inr (ci, fs))) (hc : vwCl[ci]? = some (y.cls, T, N)) (hrc : rm.cells = mc) (hrs : rm.slots = ms) (hR : rm.frames + 1 ≤ R.frames ∧ 8 + (maxL + 11) + rm.locals ≤ R.locals) (hn : As.length = n) (hsz : ls.size = nL) (hst : st0 = As.reverse ++ .ref b :: rest) (hW : (rest.map fun v => v.category).sum ≤ 8) (hdg : decode cc pc = .ok (.invokevirtual index, 3)) (hf : cells + mc ≤ R.cells ∧ slots + ms ≤ R.slots) :
    vx_Run p l e R s m args below meth c H locs cells slots mc ms (F0 m pc ls st0) rest (Qc (Value.ref b :: As).toArray) XC (sl_A Γ) :=
  vx_runV (sl_fix hC) hM ⟨sl_cB hC hm.1 hm.2.2.1 hm.2.2.2.1 w1 hrc hrs hR, sl_tab hC hm.2.1 rfl, sl_tab hC hm.2.2.2.2 rfl⟩ (sl_preV hC hG he hc) rfl hn hsz hst (lv_room hW) hdg hf
theorem sl_callxi {S : Type} {gg : S → sl_W} {post : Int32 → S → Prop} {g2 : sl_W} (hr : vx_Run p l e R s m args below meth c H locs cells slots mc ms (F0 m pc ls st0) rest (sl_Qi Γ post gg a) (sl_X Γ g2 xp) (sl_A Γ)) (hG : sl_I Γ g s H locs)
    (kx : ∀ (E : String) (ce : Cell) (q9 : Addr) (H1 : Heap) (locs1 : List Loc), xp E → sl_I Γ g2 s H1 locs1 → H1[q9]? = some ce → ce.vm = .none → s.vm.findClass E = some ce.cls → vx_W p l e R s m args below meth c H1 locs1 (cells + mc) (slots + ms) Q (F0 m pc ls rest) q9)
    (kk : ∀ (r : Int32) (u : S) (H1 : Heap) (locs1 : List Loc), post r u → sl_I Γ (gg u) s H1 locs1 → W p l e R s m args below meth c H1 locs1 (cells + mc) (slots + ms) Q (F0 m (pc + 3) ls (.int r :: rest))) : W p l e R s m args below meth c H locs cells slots Q (F0 m pc ls st0) :=
  vx_calli hr hG.2 (fun _ _ h => h) (fun _ h => h) (fun _ _ h => h) (fun E ce q9 _ t H1 locs1 ht _ _ hB _ _ hS h1 h2 h3 => kx E ce q9 H1 locs1 hB.1 ⟨by rw [← ht]; exact hB.2, hS⟩ h1 h2 h3)
    (fun r u t H1 locs1 ht _ hp hB _ _ hS => kk r u H1 locs1 hp ⟨by rw [← ht]; exact hB, hS⟩)
/-- an exception of a callee goes on to the caller -/
theorem sl_outx {E : String} {ce : Cell} {q : Addr} (hC : sl_C Γ p s m meth c cc nL own) (hno : ∀ x ∈ c.exceptionTable.toList, False) (hG : sl_I Γ g s H locs) (hx : xp E) (hcell : H[q]? = some ce) (hv : ce.vm = .none) (hcl : s.vm.findClass E = some ce.cls) (hc : cells ≤ mc) (hs : slots ≤ ms) :
    vx_W p l e R s m args below meth c H locs cells slots (vx_MQ below Qc (sl_X Γ g xp) args s mc ms (sl_A Γ)) (F0 m pc ls rest) q :=
  vx_out (fun x hx => absurd (hno x hx) id) hC.2.2.2.2.1 hcell hv hcl (fun t ht _ => ⟨(), trivial, ⟨hx, by show sl_H Γ g t.heap; rw [ht]; exact hG.1⟩, hG.2.F ht⟩) hG.2.2.2 hc hs
/-- it is caught here by the first row of the table, or by the second -/
theorem sl_catch1 {E : String} {ce : Cell} {q : Addr} {x : ExceptionTableEntry} {suf : List ExceptionTableEntry} (hC : sl_C Γ p s m meth c cc nL own) (ht : c.exceptionTable.toList = x :: suf) (hx : covers x pc = true) (h0 : x.catchType ≠ 0) (w1 : Cond.classLink own x.catchType E ∈ lw_tbl) (w2 : Cond.castable E E ∈ lw_tbl) (hcell : H[q]? = some ce) (hv : ce.vm = .none) (hcl : s.vm.findClass E = some ce.cls)
    (kk : W p l e R s m args below meth c H locs cells slots Q (F0 m x.handlerPc ls [.ref q])) : vx_W p l e R s m args below meth c H locs cells slots Q (F0 m pc ls rest) q :=
  vx_catch hC.2.2.2.1 [] x suf ht (fun z hz => nomatch hz) hx h0 (sl_tab hC w1 rfl) (sl_tab hC w2 rfl) hcell hv hcl kk
theorem sl_catch2 {E E1 : String} {ce : Cell} {q : Addr} {x1 x : ExceptionTableEntry} {suf : List ExceptionTableEntry} (hC : sl_C Γ p s m meth c cc nL own) (ht : c.exceptionTable.toList = x1 :: x :: suf) (h1 : x1.catchType ≠ 0) (w0 : Cond.classLink own x1.catchType E1 ∈ lw_tbl) (hnc : (E, E1) ∈ sl_ncs) (hx : covers x pc = true) (h0 : x.catchType ≠ 0) (w1 : Cond.classLink own x.catchType E ∈ lw_tbl) (w2 : Cond.castable E E ∈ lw_tbl) (hcell : H[q]? = some ce) (hv : ce.vm = .none) (hcl : s.vm.findClass E = some ce.cls)
    (kk : W p l e R s m args below meth c H locs cells slots Q (F0 m x.handlerPc ls [.ref q])) : vx_W p l e R s m args below meth c H locs cells slots Q (F0 m pc ls rest) q :=
  vx_catch hC.2.2.2.1 [x1] x suf ht (fun z hz => by rw [List.mem_singleton.mp hz]; exact Or.inr ⟨h1, E1, sl_tab hC w0 rfl, hC.2.2.2.2.2.2.1.2.2.2.2 _ hnc⟩) hx h0 (sl_tab hC w1 rfl) (sl_tab hC w2 rfl) hcell hv hcl kk
end SLT
theorem sl_cw0 : Cond.castable "java/lang/IllegalArgumentException" "java/lang/IllegalArgumentException" ∈ lw_tbl := by decide +kernel
theorem sl_cw1 : Cond.castable "java/lang/IllegalStateException" "java/lang/IllegalStateException" ∈ lw_tbl := by decide +kernel
theorem sl_cw2 : Cond.castable "java/lang/IndexOutOfBoundsException" "java/lang/IndexOutOfBoundsException" ∈ lw_tbl := by decide +kernel
/-- a body that may throw, without a table; one with a table -/
theorem sl_entx {Γ : sl_G} {l : Launch} {y : MethodName} {bytes : ByteArray} {maxL : Nat} {ret : Option FieldType} {rm : Room} {g : sl_W} {av : List Value} {Qc : Array Value → State → Outcome → State → Prop} {XC : String → State → State → Prop} {mc ms : Nat} (hy : plainName y.cls = true) (hL : (lg_sl av).length ≤ maxL)
    (body : ∀ (p : Program) (e : Env) (s : State) (m : MethodId) (below : List Frame) (meth : Method) (c : Code) (ls : Array Slot), sl_C Γ p s m meth c bytes maxL y.cls → meth.sig.returnType = ret → (∀ x ∈ c.exceptionTable.toList, False) → sl_I Γ g s s.heap [] → lv_has ls maxL (lv_args 0 av) →
      W p l e rm s m av.toArray below meth c s.heap [] 0 0 (vx_MQ below Qc XC av.toArray s mc ms (sl_A Γ)) (F0 m 0 ls [])) : vx_Met l y [Cond.code y bytes maxL ret] rm (va_Pc av (sl_B Γ g)) Qc XC mc ms (sl_A Γ) := by
  refine vx_ofW (cc := bytes) (maxL := maxL) (ret := ret) hy rfl ?_
  intro p e s m args below meth c s₁ B hml hno hv
  obtain ⟨rfl, h0, hH, hV, hZ⟩ := hv
  have hl := lv_entry av (n := maxL) hL
  rw [lg_entry_eq]
  exact body p e s m below meth c _ ⟨B.exec, B.bytes, hml, findClass_of_methodNamed B.named, B.notSynchronized, h0, hV, hZ⟩ B.returns hno ⟨hH, va_S.rf⟩ hl
theorem sl_entw {Γ : sl_G} {l : Launch} {y : MethodName} {bytes : ByteArray} {maxL : Nat} {ret : Option FieldType} {hh : List (Nat × Nat × Nat × Nat)} {rm : Room} {g : sl_W} {av : List Value} {Qc : Array Value → State → Outcome → State → Prop} {mc ms : Nat} (hy : plainName y.cls = true) (hL : (lg_sl av).length ≤ maxL)
    (body : ∀ (p : Program) (e : Env) (s : State) (m : MethodId) (below : List Frame) (meth : Method) (c : Code) (ls : Array Slot), sl_C Γ p s m meth c bytes maxL y.cls → meth.sig.returnType = ret → c.exceptionTable.toList = tableOf hh → sl_I Γ g s s.heap [] → lv_has ls maxL (lv_args 0 av) →
      W p l e rm s m av.toArray below meth c s.heap [] 0 0 (MQ below Qc av.toArray s mc ms (sl_A Γ)) (F0 m 0 ls [])) : Met l y [Cond.codeWith y bytes maxL ret hh] rm (va_Pc av (sl_B Γ g)) Qc mc ms (sl_A Γ) := by
  refine va_MetW (cc := bytes) (maxL := maxL) (ret := ret) (hh := hh) hy rfl ?_
  intro p e s m args below meth c s₁ B hml hv
  obtain ⟨rfl, h0, hH, hV, hZ⟩ := hv
  have hl := lv_entry av (n := maxL) hL
  rw [lg_entry_eq]
  exact body p e s m below meth c _ ⟨B.exec, B.bytes, hml, findClass_of_methodNamed B.named, B.notSynchronized, h0, hV, hZ⟩ B.returns (vx_table (x := y) B (atoms_spec (ws := [Cond.codeWith y bytes maxL ret hh]) B.pre _ List.mem_cons_self)) ⟨hH, va_S.rf⟩ hl
section SLU
variable {p : Program} {l : Launch} {e : Env} {R : Room} {s : State} {m : MethodId} {args a : Array Value} {below : List Frame} {meth : Method} {c : Code} {H : Heap} {locs : List Loc} {cells slots mc ms : Nat} {Q : State → Prop}
variable {cc : ByteArray} {nL pc : Nat} {ls : Array Slot} {rest st0 : List Value} {Γ : sl_G} {own : String} {g : sl_W} {Qc : Array Value → State → Outcome → State → Prop}
/-- a static callee with a table -/
theorem sl_runSW {y : MethodName} {bytes : ByteArray} {maxL n index : Nat} {ret : Option FieldType} {hh : List (Nat × Nat × Nat × Nat)} {rm : Room} {As : List Value} (hC : sl_C Γ p s m meth c cc nL own) (hG : sl_I Γ g s H locs) (hM : Met l y [Cond.codeWith y bytes maxL ret hh] rm (va_Pc As (sl_B Γ g)) Qc mc ms (sl_A Γ)) (hm : sl_mw y bytes maxL ret hh n) (w1 : Cond.methodLink own index y ∈ lw_tbl) (hrc : rm.cells = mc) (hrs : rm.slots = ms) (hR : rm.frames + 1 ≤ R.frames ∧ 8 + (maxL + 11) + rm.locals ≤ R.locals) (hn : As.length = n) (hsz : ls.size = nL) (hst : st0 = As.reverse ++ rest) (hW : (rest.map fun v => v.category).sum ≤ 8) (hdg : decode cc pc = .ok (.invokestatic index, 3)) (hf : cells + mc ≤ R.cells ∧ slots + ms ≤ R.slots) :
    va_Run p l e R s m args below meth c H locs cells slots mc ms (F0 m pc ls st0) rest (Qc As.toArray) (sl_A Γ) := by
  refine vx_runSW (sl_fix hC) hM ⟨⟨hrc, hrs, hR.1, hR.2, pay_in (args := args) (big := [Cond.codeWith y bytes maxL ret hh]) (sl_word hC hm.2.2.1 rfl) (sl_gi rfl), List.mem_singleton.mpr rfl⟩, sl_tab hC hm.2.2.1 rfl, sl_tab hC hm.2.2.2 rfl, ⟨hm.1.1, hm.1.2.1⟩, fun sig h => ?_, sl_tab hC w1 rfl, sl_tab hC hm.2.1 rfl⟩ (sl_preS hC hG) rfl hn hsz hst (lv_room hW) hdg hf
  have h2 := hm.1.2.2
  rw [h] at h2
  exact (Option.some.inj h2).symm
end SLU

