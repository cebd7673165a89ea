section
-- ===== PART A: goes FIRST, ahead of the names: the tables' words, and 'selects' of the private methods out of them =====
/-- a private method of a class that the tables say can be made, by its rows of tables_1 -/
def lw_okq (q : MethodName × Nat) : Prop := (q.1.cls ≠ "java/lang/invoke/MethodHandle" ∧ q.1.cls ≠ "java/lang/invoke/VarHandle") ∧ Cond.instantiable q.1.cls q.2 ∈ tables_1 ∧ Cond.privateMethod q.1 ∈ tables_1 ∧ Cond.instanceMethod q.1 ∈ tables_1
theorem lw_p0 : lw_okq (⟨"java/lang/Throwable", "fillInStackTrace", "(I)Ljava/lang/Throwable;"⟩, 6) := ⟨⟨by decide +kernel, by decide +kernel⟩, List.mem_of_getElem? (i := 139) (by decide +kernel), List.mem_of_getElem? (i := 137) (by decide +kernel), List.mem_of_getElem? (i := 138) (by decide +kernel)⟩
theorem lw_p1 : lw_okq (⟨"SharedLog", "handOut", "(IIII)I"⟩, 8) := ⟨⟨by decide +kernel, by decide +kernel⟩, List.mem_of_getElem? (i := 14) (by decide +kernel), List.mem_of_getElem? (i := 169) (by decide +kernel), List.mem_of_getElem? (i := 170) (by decide +kernel)⟩
theorem lw_p2 : lw_okq (⟨"SharedLog$Trail", "copyFor", "(I)LSharedLog$Trail;"⟩, 1) := ⟨⟨by decide +kernel, by decide +kernel⟩, List.mem_of_getElem? (i := 38) (by decide +kernel), List.mem_of_getElem? (i := 189) (by decide +kernel), List.mem_of_getElem? (i := 190) (by decide +kernel)⟩
theorem lw_p3 : lw_okq (⟨"SharedLog$Trail", "get", "(II)I"⟩, 1) := ⟨⟨by decide +kernel, by decide +kernel⟩, List.mem_of_getElem? (i := 38) (by decide +kernel), List.mem_of_getElem? (i := 198) (by decide +kernel), List.mem_of_getElem? (i := 199) (by decide +kernel)⟩
theorem lw_p4 : lw_okq (⟨"SharedLog$Trail", "set", "(III)V"⟩, 1) := ⟨⟨by decide +kernel, by decide +kernel⟩, List.mem_of_getElem? (i := 38) (by decide +kernel), List.mem_of_getElem? (i := 208) (by decide +kernel), List.mem_of_getElem? (i := 209) (by decide +kernel)⟩
theorem lw_p5 : lw_okq (⟨"SharedLog$Trail", "push", "(II)V"⟩, 1) := ⟨⟨by decide +kernel, by decide +kernel⟩, List.mem_of_getElem? (i := 38) (by decide +kernel), List.mem_of_getElem? (i := 251) (by decide +kernel), List.mem_of_getElem? (i := 252) (by decide +kernel)⟩
theorem lw_p6 : lw_okq (⟨"SharedLog$Cells", "end", "()I"⟩, 1) := ⟨⟨by decide +kernel, by decide +kernel⟩, List.mem_of_getElem? (i := 24) (by decide +kernel), List.mem_of_getElem? (i := 270) (by decide +kernel), List.mem_of_getElem? (i := 271) (by decide +kernel)⟩
theorem lw_p7 : lw_okq (⟨"SharedLog$Cells", "countWritten", "(I)I"⟩, 1) := ⟨⟨by decide +kernel, by decide +kernel⟩, List.mem_of_getElem? (i := 24) (by decide +kernel), List.mem_of_getElem? (i := 274) (by decide +kernel), List.mem_of_getElem? (i := 275) (by decide +kernel)⟩
theorem lw_p8 : lw_okq (⟨"SharedLog$Cells", "get", "(II)I"⟩, 1) := ⟨⟨by decide +kernel, by decide +kernel⟩, List.mem_of_getElem? (i := 24) (by decide +kernel), List.mem_of_getElem? (i := 278) (by decide +kernel), List.mem_of_getElem? (i := 279) (by decide +kernel)⟩
theorem lw_p9 : lw_okq (⟨"SharedLog$Trail", "clear", "()V"⟩, 1) := ⟨⟨by decide +kernel, by decide +kernel⟩, List.mem_of_getElem? (i := 38) (by decide +kernel), List.mem_of_getElem? (i := 288) (by decide +kernel), List.mem_of_getElem? (i := 289) (by decide +kernel)⟩
theorem lw_p10 : lw_okq (⟨"SharedLog", "entryIn", "(I)LSharedLog$Entry;"⟩, 8) := ⟨⟨by decide +kernel, by decide +kernel⟩, List.mem_of_getElem? (i := 14) (by decide +kernel), List.mem_of_getElem? (i := 292) (by decide +kernel), List.mem_of_getElem? (i := 293) (by decide +kernel)⟩
theorem lw_p11 : lw_okq (⟨"SharedLog", "entryOf", "(I)LSharedLog$Entry;"⟩, 8) := ⟨⟨by decide +kernel, by decide +kernel⟩, List.mem_of_getElem? (i := 14) (by decide +kernel), List.mem_of_getElem? (i := 297) (by decide +kernel), List.mem_of_getElem? (i := 298) (by decide +kernel)⟩
theorem lw_p12 : lw_okq (⟨"SharedLog$Cells", "isComplete", "(I)Z"⟩, 1) := ⟨⟨by decide +kernel, by decide +kernel⟩, List.mem_of_getElem? (i := 24) (by decide +kernel), List.mem_of_getElem? (i := 322) (by decide +kernel), List.mem_of_getElem? (i := 323) (by decide +kernel)⟩
theorem lw_p13 : lw_okq (⟨"SharedLog$Cells", "put", "(III)V"⟩, 1) := ⟨⟨by decide +kernel, by decide +kernel⟩, List.mem_of_getElem? (i := 24) (by decide +kernel), List.mem_of_getElem? (i := 327) (by decide +kernel), List.mem_of_getElem? (i := 328) (by decide +kernel)⟩
theorem lw_p14 : lw_okq (⟨"SharedLog$Cells", "completeFromStart", "()I"⟩, 1) := ⟨⟨by decide +kernel, by decide +kernel⟩, List.mem_of_getElem? (i := 24) (by decide +kernel), List.mem_of_getElem? (i := 358) (by decide +kernel), List.mem_of_getElem? (i := 359) (by decide +kernel)⟩
theorem lw_p15 : lw_okq (⟨"SharedLog", "isEndOfKnown", "(I)Z"⟩, 8) := ⟨⟨by decide +kernel, by decide +kernel⟩, List.mem_of_getElem? (i := 14) (by decide +kernel), List.mem_of_getElem? (i := 381) (by decide +kernel), List.mem_of_getElem? (i := 382) (by decide +kernel)⟩
def lw_privs_1 : List (MethodName × Nat) := [(⟨"java/lang/Throwable", "fillInStackTrace", "(I)Ljava/lang/Throwable;"⟩, 6), (⟨"SharedLog", "handOut", "(IIII)I"⟩, 8), (⟨"SharedLog$Trail", "copyFor", "(I)LSharedLog$Trail;"⟩, 1), (⟨"SharedLog$Trail", "get", "(II)I"⟩, 1), (⟨"SharedLog$Trail", "set", "(III)V"⟩, 1), (⟨"SharedLog$Trail", "push", "(II)V"⟩, 1), (⟨"SharedLog$Cells", "end", "()I"⟩, 1), (⟨"SharedLog$Cells", "countWritten", "(I)I"⟩, 1), (⟨"SharedLog$Cells", "get", "(II)I"⟩, 1), (⟨"SharedLog$Trail", "clear", "()V"⟩, 1), (⟨"SharedLog", "entryIn", "(I)LSharedLog$Entry;"⟩, 8), (⟨"SharedLog", "entryOf", "(I)LSharedLog$Entry;"⟩, 8), (⟨"SharedLog$Cells", "isComplete", "(I)Z"⟩, 1), (⟨"SharedLog$Cells", "put", "(III)V"⟩, 1), (⟨"SharedLog$Cells", "completeFromStart", "()I"⟩, 1), (⟨"SharedLog", "isEndOfKnown", "(I)Z"⟩, 8)]
theorem lw_r1 : ∀ q ∈ lw_privs_1, lw_okq q := List.forall_mem_cons.mpr ⟨lw_p0, List.forall_mem_cons.mpr ⟨lw_p1, List.forall_mem_cons.mpr ⟨lw_p2, List.forall_mem_cons.mpr ⟨lw_p3, List.forall_mem_cons.mpr ⟨lw_p4, List.forall_mem_cons.mpr ⟨lw_p5, List.forall_mem_cons.mpr ⟨lw_p6, List.forall_mem_cons.mpr ⟨lw_p7, List.forall_mem_cons.mpr ⟨lw_p8, List.forall_mem_cons.mpr ⟨lw_p9, List.forall_mem_cons.mpr ⟨lw_p10, List.forall_mem_cons.mpr ⟨lw_p11, List.forall_mem_cons.mpr ⟨lw_p12, List.forall_mem_cons.mpr ⟨lw_p13, List.forall_mem_cons.mpr ⟨lw_p14, List.forall_mem_cons.mpr ⟨lw_p15, fun _ h => absurd h List.not_mem_nil⟩⟩⟩⟩⟩⟩⟩⟩⟩⟩⟩⟩⟩⟩⟩⟩
theorem lw_p16 : lw_okq (⟨"SharedLog", "foldUpTo", "(I)V"⟩, 8) := ⟨⟨by decide +kernel, by decide +kernel⟩, List.mem_of_getElem? (i := 14) (by decide +kernel), List.mem_of_getElem? (i := 386) (by decide +kernel), List.mem_of_getElem? (i := 387) (by decide +kernel)⟩
theorem lw_p17 : lw_okq (⟨"SharedLog$Fold", "restart", "()V"⟩, 3) := ⟨⟨by decide +kernel, by decide +kernel⟩, List.mem_of_getElem? (i := 49) (by decide +kernel), List.mem_of_getElem? (i := 390) (by decide +kernel), List.mem_of_getElem? (i := 391) (by decide +kernel)⟩
theorem lw_p18 : lw_okq (⟨"SharedLog$Fold", "add", "(LSharedLog$Entry;)V"⟩, 3) := ⟨⟨by decide +kernel, by decide +kernel⟩, List.mem_of_getElem? (i := 49) (by decide +kernel), List.mem_of_getElem? (i := 395) (by decide +kernel), List.mem_of_getElem? (i := 396) (by decide +kernel)⟩
theorem lw_p19 : lw_okq (⟨"SharedLog$Fold", "isUnchanged", "(II)Z"⟩, 3) := ⟨⟨by decide +kernel, by decide +kernel⟩, List.mem_of_getElem? (i := 49) (by decide +kernel), List.mem_of_getElem? (i := 399) (by decide +kernel), List.mem_of_getElem? (i := 400) (by decide +kernel)⟩
theorem lw_p20 : lw_okq (⟨"SharedLog$Fold", "noteChange", "(I)V"⟩, 3) := ⟨⟨by decide +kernel, by decide +kernel⟩, List.mem_of_getElem? (i := 49) (by decide +kernel), List.mem_of_getElem? (i := 404) (by decide +kernel), List.mem_of_getElem? (i := 405) (by decide +kernel)⟩
theorem lw_p21 : lw_okq (⟨"SharedLog", "holdsStream", "(II)Z"⟩, 8) := ⟨⟨by decide +kernel, by decide +kernel⟩, List.mem_of_getElem? (i := 14) (by decide +kernel), List.mem_of_getElem? (i := 408) (by decide +kernel), List.mem_of_getElem? (i := 409) (by decide +kernel)⟩
theorem lw_p22 : lw_okq (⟨"SharedLog", "effectOf", "(I)I"⟩, 8) := ⟨⟨by decide +kernel, by decide +kernel⟩, List.mem_of_getElem? (i := 14) (by decide +kernel), List.mem_of_getElem? (i := 413) (by decide +kernel), List.mem_of_getElem? (i := 414) (by decide +kernel)⟩
theorem lw_p23 : lw_okq (⟨"SharedLog$Fold", "hasEffect", "(I)Z"⟩, 3) := ⟨⟨by decide +kernel, by decide +kernel⟩, List.mem_of_getElem? (i := 49) (by decide +kernel), List.mem_of_getElem? (i := 417) (by decide +kernel), List.mem_of_getElem? (i := 418) (by decide +kernel)⟩
theorem lw_p24 : lw_okq (⟨"SharedLog", "latestAhead", "(II)I"⟩, 8) := ⟨⟨by decide +kernel, by decide +kernel⟩, List.mem_of_getElem? (i := 14) (by decide +kernel), List.mem_of_getElem? (i := 425) (by decide +kernel), List.mem_of_getElem? (i := 426) (by decide +kernel)⟩
theorem lw_p25 : lw_okq (⟨"SharedLog", "previousByPointers", "(II)I"⟩, 8) := ⟨⟨by decide +kernel, by decide +kernel⟩, List.mem_of_getElem? (i := 14) (by decide +kernel), List.mem_of_getElem? (i := 429) (by decide +kernel), List.mem_of_getElem? (i := 430) (by decide +kernel)⟩
def lw_privs_2 : List (MethodName × Nat) := [(⟨"SharedLog", "foldUpTo", "(I)V"⟩, 8), (⟨"SharedLog$Fold", "restart", "()V"⟩, 3), (⟨"SharedLog$Fold", "add", "(LSharedLog$Entry;)V"⟩, 3), (⟨"SharedLog$Fold", "isUnchanged", "(II)Z"⟩, 3), (⟨"SharedLog$Fold", "noteChange", "(I)V"⟩, 3), (⟨"SharedLog", "holdsStream", "(II)Z"⟩, 8), (⟨"SharedLog", "effectOf", "(I)I"⟩, 8), (⟨"SharedLog$Fold", "hasEffect", "(I)Z"⟩, 3), (⟨"SharedLog", "latestAhead", "(II)I"⟩, 8), (⟨"SharedLog", "previousByPointers", "(II)I"⟩, 8)]
theorem lw_r2 : ∀ q ∈ lw_privs_2, lw_okq q := List.forall_mem_cons.mpr ⟨lw_p16, List.forall_mem_cons.mpr ⟨lw_p17, List.forall_mem_cons.mpr ⟨lw_p18, List.forall_mem_cons.mpr ⟨lw_p19, List.forall_mem_cons.mpr ⟨lw_p20, List.forall_mem_cons.mpr ⟨lw_p21, List.forall_mem_cons.mpr ⟨lw_p22, List.forall_mem_cons.mpr ⟨lw_p23, List.forall_mem_cons.mpr ⟨lw_p24, List.forall_mem_cons.mpr ⟨lw_p25, fun _ h => absurd h List.not_mem_nil⟩⟩⟩⟩⟩⟩⟩⟩⟩⟩
def lw_privs : List (MethodName × Nat) := lw_privs_1 ++ (lw_privs_2)
def lw_tbl : List Cond := k2_sels lw_privs ++ tables_1
theorem lw_privs_ok : ∀ q ∈ lw_privs, lw_okq q := by
  show ∀ q ∈ lw_privs_1 ++ (lw_privs_2), lw_okq q
  exact List.forall_mem_append.mpr ⟨lw_r1, lw_r2⟩
end
section
/-! ===== BEGIN words of one list among another's, by their places ===== -/
theorem goodIn_r {big : List Cond} (ws : List Cond) (ps : List Nat) (hp : ws = ps.filterMap (fun i => big[i]?)) (h : ws.all goodWord = true) : GoodIn big ws := by
  intro w hw
  have h1 := List.all_eq_true.mp h w hw
  rw [hp] at hw
  obtain ⟨i, -, hi⟩ := List.mem_filterMap.mp hw
  have hm : w ∈ big := by first | exact List.mem_of_getElem? hi | exact List.getElem?_mem hi
  exact ⟨hm, good_of_word h1⟩
theorem goodIn_app {big a b : List Cond} (ha : GoodIn big a) (hb : GoodIn big b) : GoodIn big (a ++ b) := fun w h => (List.mem_append.mp h).elim (ha w) (hb w)
theorem goodIn_ca {big a b : List Cond} {c : Cond} (ha : GoodIn big (c :: a)) (hb : GoodIn big b) : GoodIn big (c :: (a ++ b)) := fun w h => (List.mem_cons.mp h).elim (fun e => ha w (List.mem_cons.mpr (Or.inl e))) (fun h => (List.mem_append.mp h).elim (fun h => ha w (List.mem_cons.mpr (Or.inr h))) (hb w))
theorem goodIn_sub {big ws : List Cond} (hm : ∀ w ∈ ws, w ∈ big) (h : ws.all goodWord = true) : GoodIn big ws := fun w hw => ⟨hm w hw, good_of_word (List.all_eq_true.mp h w hw)⟩
/-! ===== END ===== -/

/-! ===== BEGIN exceptions that leave a method, and their catching by the caller (launches without stack traces) ===== -/
section VXA
/-! The laws vx_back, vx_callV, vx_callS, vx_callSW, vx_throw0, vx_throwS follow proofs of the library, with one case more: JvmDerived/Free/Laws.lean (Back.of_free), Shelf42/LK1.lean (callV, callS), Shelf/KitTraced.lean (throwNew0V, throwNewS). -/
/-- where a method has thrown q: the class by its name, the cell, what was written, the world -/
def vx_T (XC : String → State → State → Prop) (st : State) (q : Addr) (t : State) (mc ms : Nat) (free : Addr → Prop) : Prop :=
  ∃ (E : String) (ce : Cell) (L : List Loc), XC E st t ∧ t.heap[q]? = some ce ∧ ce.vm = .none ∧ st.vm.findClass E = some ce.cls ∧ st.WarmedH t.vm ∧ st.sameButNew ({ t with vm := st.vm } : State) L mc ms ∧ ∀ z ∈ L, free z.base
def vx_Q (Qc : Array Value → State → Outcome → State → Prop) (XC : String → State → State → Prop) (mc ms : Nat) (free : Addr → Prop) : Array Value → State → Outcome → State → Prop := fun a st o t =>
  (Qc a st o t ∧ ∃ L, FrameEnd st o t L mc ms ∧ ∀ q ∈ L, free q.base) ∨ ∃ q, o = .threw q ∧ vx_T XC st q t mc ms free
/-- a callee that returns or throws -/
def vx_Met (l : Launch) (y : MethodName) (ws : List Cond) (rm : Room) (Pc : Array Value → State → Prop) (Qc : Array Value → State → Outcome → State → Prop) (XC : String → State → State → Prop) (mc ms : Nat) (free : Addr → Prop) : Prop :=
  MetFree l y (headSpec ws rm) Pc (fun _ _ _ _ _ => True) (vx_Q Qc XC mc ms free)
def vx_Post (XC : String → State → State → Prop) (mc ms : Nat) (free : Addr → Prop) : Pt → Array Value → Addr → Pt → Prop := fun A a q B =>
  ∃ (g : JFrame) (mk : MethodId) (t : State) (L : List Loc) (E : String) (ce : Cell), B.U.heap = t.heap ∧ B.U.vm = t.vm ∧ XC E (A.U.calling g mk a) t ∧ t.heap[q]? = some ce ∧ ce.vm = .none ∧ A.U.vm.findClass E = some ce.cls ∧ B.locs = A.locs ++ L ∧ (∀ z ∈ L, free z.base) ∧ B.cells = A.cells + mc ∧ B.slots = A.slots + ms
def vx_Back (l : Launch) (R : Room) (p : Program) (e : Env) (below : List Frame) (s : State) (sargs : Array Value) (y : MethodName) (len W9 : Nat)
    (Pre : Pt → Array Value → Prop) (Post : Pt → Array Value → Option Value → Pt → Prop) (PostX : Pt → Array Value → Addr → Pt → Prop) : Prop :=
  ∀ (m : MethodId) (meth : Method) (c : Code) (A : Pt) (g : JFrame) (ig : Instr) (mk : MethodId) (a : Array Value),
    Stand p l e R s m sargs below meth c A.U A.locs A.cells A.slots → g.method = m → g.locals.size = c.maxLocals → decode c.code g.pc = .ok (ig, len) →
    2 * g.monitorRoom + (g.stack.map fun v => v.category).sum ≤ W9 → A.U.methodNamed? y = some mk → Pre A a →
    (∃ (v : Option Value) (B : Pt), Stand p l e R s m sargs below meth c B.U B.locs B.cells B.slots ∧ Post A a v B ∧
      Steps p.tables e below (doInvoke e (A.U.setTop g) [] mk a).1 (B.U.setTop { g with pc := g.pc + len, stack := v.toList ++ g.stack })) ∨
    (∃ (q : Addr) (B : Pt), Stand p l e R s m sargs below meth c B.U B.locs B.cells B.slots ∧ PostX A a q B ∧
      Steps p.tables e below (doInvoke e (A.U.setTop g) [] mk a).1 ((B.U.setTop g).pushFrame (.throwing q)))
section Payer
variable {l : Launch} {R : Room} {p : Program} {e : Env} {below : List Frame} {s : State} {sargs : Array Value} {y : MethodName} {len W9 : Nat}
theorem vx_back {ws : List Cond} {rm : Room} {Pc : Array Value → State → Prop} {Qc : Array Value → State → Outcome → State → Prop} {XC : String → State → State → Prop} {mc ms : Nat} {free : Addr → Prop} {bytes : ByteArray} {maxL : Nat} {ret : Option FieldType}
    (hM : vx_Met l y ws rm Pc Qc XC mc ms free) (hblind : FrameBlind Pc) (hrc : rm.cells = mc) (hrs : rm.slots = ms)
    (hframes : rm.frames + 1 ≤ R.frames) (hlocals : W9 + (maxL + 11) + rm.locals ≤ R.locals)
    (hws : ∀ w ∈ ws, ∀ a' U, s.WarmedH U.vm → w.before a' U = true) (hcode : Cond.code y bytes maxL ret ∈ ws) (hinit : ∀ a' U, s.WarmedH U.vm → (Cond.initialized y.cls).before a' U = true) :
    vx_Back l R p e below s sargs y len W9 (PreOf R mc ms Pc) (PostOf Qc mc ms free) (vx_Post XC mc ms free) := by
  intro m meth c A g ig mk a X hg hsize hdg hW hn hp
  have h1 : (headSpec ws rm).pre.before a A.U = true := atoms_intro fun w hw => hws w hw _ _ X.warmed
  have h2 : (Cond.code y bytes maxL ret).before a A.U = true := hws _ hcode _ _ X.warmed
  have h3 : (Cond.initialized y.cls).before a A.U = true := hinit _ _ X.warmed
  have h4 : A.cells + (headSpec ws rm).room.cells ≤ R.cells := by rw [show (headSpec ws rm).room.cells = mc from hrc]; exact hp.1
  have h5 : A.slots + (headSpec ws rm).room.slots ≤ R.slots := by rw [show (headSpec ws rm).room.slots = ms from hrs]; exact hp.2.1
  have hPc : Pc a (A.U.calling g mk a) := hblind _ _ _ _ hp.2.2
  obtain ⟨U, Ls, c0, s0⟩ := A
  dsimp only [Pt.U, Pt.locs, Pt.cells, Pt.slots] at h1 h2 h3 h4 h5 X hn hPc ⊢
  obtain ⟨methY, cY, hmY, hcY, -, hlY, -, -, -, -⟩ := Cond.code_spec hn h2
  obtain ⟨kY, hkY, -⟩ := className_of_methodNamed hn
  have hinitY : kY.init = .initialized := Cond.initialized_spec (findClass_of_methodNamed hn) hkY h3
  have h : At U g.method c below := by rw [hg]; exact X.here
  have hlocals9 : W9 + (maxL + 11) + (headSpec ws rm).room.locals ≤ R.locals := hlocals
  have happ : (headSpec ws rm).appliesLoose y e.platform (U.calling g mk a) = true :=
    Spec.appliesLoose_calling (g := g) h hdg hn hkY hinitY
      (X.room_calling (g := g) (R' := (headSpec ws rm).room) hsize hmY hcY hframes (by rw [hlY]; omega) h4 h5) h1
  obtain ⟨mid, hmid⟩ := h.above
  have hfr : (U.setTop g).frames = (.java g :: mid) ++ below := by rw [State.frames_setTop' g h.top, hmid]; rfl
  obtain ⟨o, s₂, hsteps, -, hend, hq⟩ := Steps.callFree hM p X.admits X.cas X.clock (acts := []) hfr happ hPc trivial
  have hq' : vx_Q Qc XC mc ms free a (U.calling g mk a) o s₂ := hq
  rw [State.frames_setTop' g h.top] at hend
  obtain ⟨g₀, hg0⟩ := Option.isSome_iff_exists.mp h.top
  obtain ⟨r, hr⟩ := State.topJava?_eq_some.mp hg0
  have hr' : (({ U with heap := s₂.heap, slotsUsed := s₂.slotsUsed } : State).setVm s₂.vm).frames = .java g₀ :: r := hr
  rcases hq' with ⟨hqc, L, hfe, hL⟩ | ⟨q, rfl, E, ce, L, hx, hce, hcv, hcl, hW₂, hsm, hL⟩
  · obtain ⟨⟨v, rfl⟩, hW₂, e2, q2, q3, q4, q5, q6⟩ := id hfe
    have e3 : s₂ = ({ (U.calling g mk a).setFrames s₂.frames with heap := s₂.heap, slotsUsed := s₂.slotsUsed } : State).setVm s₂.vm := by
      have : s₂ = ({ s₂ with vm := (U.calling g mk a).vm } : State).setVm s₂.vm := rfl
      rw [e2] at this
      exact this
    obtain ⟨c₂, i₂, len₂, hc₂, hd₂, hf₂⟩ := hend
    have hW' : U.WarmedH s₂.vm := hW₂
    have hcc : c₂ = c := by
      have h1 : s₂.code? g.method = U.code? g.method := by
        rw [State.code?_eq, State.code?_eq, hW'.alike.method?]
      exact Option.some.inj (hc₂.symm.trans (h1.trans h.code))
    subst hcc
    have hlen : len₂ = len := by rw [hdg] at hd₂; cases hd₂; rfl
    subst hlen
    have hs₂ : s₂ = (({ U with heap := s₂.heap, slotsUsed := s₂.slotsUsed } : State).setVm s₂.vm).setTop { g with pc := g.pc + len₂, stack := v.toList ++ g.stack } := by
      refine e3.trans ?_
      rw [hf₂, State.calling_eq h.top, State.setFrames_setFrames, State.setTop_of_frames _ hr', hr]
      rfl
    have hsame : U.sameButNew ({ U with heap := s₂.heap, slotsUsed := s₂.slotsUsed } : State) L mc ms := by
      refine ⟨?_, q2, q3, q4, q5, q6⟩
      obtain ⟨t, ht, -⟩ := State.frames_cons hr
      show ({ U with heap := s₂.heap, slotsUsed := s₂.slotsUsed } : State) = { U.setFrames U.frames with heap := s₂.heap, slotsUsed := s₂.slotsUsed }
      rw [State.setFrames_self ht]
    subst hg
    refine Or.inl ⟨v, ⟨(({ U with heap := s₂.heap, slotsUsed := s₂.slotsUsed } : State).setVm s₂.vm), Ls ++ L, c0 + mc, s0 + ms⟩,
      ⟨X.admits, X.cas, X.clock, X.frames, X.room, X.hears, X.method, X.code, (X.here.setHeapUsed s₂.heap s₂.slotsUsed).setVm hW'.alike, X.tail, State.WarmedH.trans X.warmed hW', X.limits, X.bytes, X.same.trans (hsame.setVm s.vm)⟩,
      ⟨g, mk, s₂, L, rfl, rfl, hqc, rfl, hL, rfl, rfl⟩, ?_⟩
    show Steps p.tables e below _ ((({ U with heap := s₂.heap, slotsUsed := s₂.slotsUsed } : State).setVm s₂.vm).setTop { g with pc := g.pc + len₂, stack := v.toList ++ g.stack })
    rw [← hs₂]
    exact hsteps
  · obtain ⟨e2, q2, q3, q4, q5, q6⟩ := id hsm
    have e3 : s₂ = ({ (U.calling g mk a).setFrames s₂.frames with heap := s₂.heap, slotsUsed := s₂.slotsUsed } : State).setVm s₂.vm := by
      have : s₂ = ({ s₂ with vm := (U.calling g mk a).vm } : State).setVm s₂.vm := rfl
      rw [e2] at this
      exact this
    have hf₂ : s₂.frames = .throwing q :: .java g :: U.frames.tail := hend
    have hW' : U.WarmedH s₂.vm := hW₂
    have hs₂ : s₂ = ((({ U with heap := s₂.heap, slotsUsed := s₂.slotsUsed } : State).setVm s₂.vm).setTop g).pushFrame (.throwing q) := by
      refine e3.trans ?_
      rw [hf₂, State.calling_eq h.top, State.setFrames_setFrames, State.pushFrame, State.frames_setTop _ hr', State.setTop_of_frames _ hr', State.setFrames_setFrames, hr]
      rfl
    have hsame : U.sameButNew ({ U with heap := s₂.heap, slotsUsed := s₂.slotsUsed } : State) L mc ms := by
      refine ⟨?_, q2, q3, q4, q5, q6⟩
      obtain ⟨t, ht, -⟩ := State.frames_cons hr
      show ({ U with heap := s₂.heap, slotsUsed := s₂.slotsUsed } : State) = { U.setFrames U.frames with heap := s₂.heap, slotsUsed := s₂.slotsUsed }
      rw [State.setFrames_self ht]
    subst hg
    refine Or.inr ⟨q, ⟨(({ U with heap := s₂.heap, slotsUsed := s₂.slotsUsed } : State).setVm s₂.vm), Ls ++ L, c0 + mc, s0 + ms⟩,
      ⟨X.admits, X.cas, X.clock, X.frames, X.room, X.hears, X.method, X.code, (X.here.setHeapUsed s₂.heap s₂.slotsUsed).setVm hW'.alike, X.tail, State.WarmedH.trans X.warmed hW', X.limits, X.bytes, X.same.trans (hsame.setVm s.vm)⟩,
      ⟨g, mk, s₂, L, E, ce, rfl, rfl, hx, hce, hcv, hcl, rfl, hL, rfl, rfl⟩, ?_⟩
    show Steps p.tables e below _ (((({ U with heap := s₂.heap, slotsUsed := s₂.slotsUsed } : State).setVm s₂.vm).setTop g).pushFrame (.throwing q))
    rw [← hs₂]
    exact hsteps
end Payer
section Calls
variable {p : Program} {l : Launch} {e : Env} {R : Room} {s : State} {m : MethodId} {args : Array Value} {below : List Frame} {meth : Method} {c : Code} {T : State} {locs : List Loc} {cells slots : Nat}
theorem vx_callV (X : Stand p l e R s m args below meth c T locs cells slots) (hexec : p.tables.exec = Jvm.exec) {own C : String} {index : Nat} {y : MethodName} {bytes : ByteArray} {maxL : Nat} {ret : Option FieldType}
    (hown : s.vm.findClass own = some m.cls) (hlink : (Cond.methodLink own index y).before args s = true) (hinst : (Cond.instanceMethod y).before args s = true) (hsel : (Cond.selects C y y).before args s = true)
    (hcode : (Cond.code y bytes maxL ret).before args s = true) (hy : y.cls ≠ "java/lang/invoke/MethodHandle" ∧ y.cls ≠ "java/lang/invoke/VarHandle")
    {W9 : Nat} {Pre : Pt → Array Value → Prop} {Post : Pt → Array Value → Option Value → Pt → Prop} {PostX : Pt → Array Value → Addr → Pt → Prop} (hK : vx_Back l R p e below s args y 3 W9 Pre Post PostX)
    {b : Addr} {cellB : Cell} (hcell : T.heap[b]? = some cellB) (hobj : cellB.vm.isStatics = false) (hcls : s.vm.findClass C = some cellB.cls)
    {g : JFrame} (hg : g.method = m) (hsize : g.locals.size = c.maxLocals) {argsL rest : List Value} (hlen : ∀ sig, parseMethodDescriptor y.desc = some sig → argsL.length = sig.parameters.length)
    (hstack : g.stack = argsL.reverse ++ .ref b :: rest) (hW : 2 * g.monitorRoom + (rest.map fun v => v.category).sum ≤ W9) (hdg : decode c.code g.pc = .ok (.invokevirtual index, 3))
    (hpre : ∀ vm₁, s.WarmedH vm₁ → Pre ⟨T.setVm vm₁, locs, cells, slots⟩ (Value.ref b :: argsL).toArray) :
    (∃ (v : Option Value) (vm₁ : Vm) (B : Pt), s.WarmedH vm₁ ∧ Stand p l e R s m args below meth c B.U B.locs B.cells B.slots ∧ Post ⟨T.setVm vm₁, locs, cells, slots⟩ (Value.ref b :: argsL).toArray v B ∧
      ∀ target, Steps p.tables e below (B.U.setTop { g with pc := g.pc + 3, stack := v.toList ++ rest }) target → Steps p.tables e below (T.setTop g) target) ∨
    (∃ (q : Addr) (vm₁ : Vm) (B : Pt), s.WarmedH vm₁ ∧ Stand p l e R s m args below meth c B.U B.locs B.cells B.slots ∧ PostX ⟨T.setVm vm₁, locs, cells, slots⟩ (Value.ref b :: argsL).toArray q B ∧
      Steps p.tables e below (T.setTop g) ((B.U.setTop { g with stack := rest }).pushFrame (.throwing q))) := by
  obtain ⟨mk, methM, hnamed, hmethM, hstM, habM⟩ := Cond.instanceMethod_spec hinst
  obtain ⟨methM', cM, hmethM', -, -, -, -, -, -, hsigM⟩ := Cond.code_spec hnamed hcode
  cases hmethM.symm.trans hmethM'
  obtain ⟨c2, r2, m2, q1, q2, q3, q4, kP, hkP, hkPi⟩ := Cond.selects_spec hsel
  cases hcls.symm.trans q1
  cases (State.methodFound?_of_named hnamed hy).symm.trans q2
  cases hnamed.symm.trans q3
  have hselP : selectMethod e.platform s.vm cellB.cls mk = .method mk := by rw [Launch.admits_selectMethod X.admits]; exact q4
  obtain ⟨vm₁, X₁, hstep₁⟩ := X.invokevirtual hexec hown hlink hnamed hmethM hstM hkP hkPi hy (a := b) (cell := cellB) hcell
    (fun z h => by rw [h] at hobj; cases hobj) hselP hmethM habM hkP hkPi (g := g) hg (argsL := argsL) (rest := rest) (hlen _ hsigM) hstack hdg
  rcases hK m meth c ⟨T.setVm vm₁, locs, cells, slots⟩ { g with stack := rest } (.invokevirtual index) mk (Value.ref b :: argsL).toArray X₁ hg hsize hdg hW (X₁.named hnamed) (hpre vm₁ X₁.warmed) with ⟨v, B, X', hpost, hsteps⟩ | ⟨q, B, X', hpost, hsteps⟩
  · exact Or.inl ⟨v, vm₁, B, X₁.warmed, X', hpost, fun target h => hstep₁ _ fun acts => by rw [doInvoke_state]; exact hsteps.trans h⟩
  · exact Or.inr ⟨q, vm₁, B, X₁.warmed, X', hpost, hstep₁ _ fun acts => by rw [doInvoke_state]; exact hsteps⟩
theorem vx_callS (X : Stand p l e R s m args below meth c T locs cells slots) (hexec : p.tables.exec = Jvm.exec) {own : String} {index : Nat} {y : MethodName} {bytes : ByteArray} {maxL : Nat} {ret : Option FieldType}
    (hown : s.vm.findClass own = some m.cls) (hlink : (Cond.methodLink own index y).before args s = true) (hstat : (Cond.static y).before args s = true) (hinit : (Cond.initialized y.cls).before args s = true)
    (hcode : (Cond.code y bytes maxL ret).before args s = true) (hy : y.cls ≠ "java/lang/invoke/MethodHandle" ∧ y.cls ≠ "java/lang/invoke/VarHandle")
    {W9 : Nat} {Pre : Pt → Array Value → Prop} {Post : Pt → Array Value → Option Value → Pt → Prop} {PostX : Pt → Array Value → Addr → Pt → Prop} (hK : vx_Back l R p e below s args y 3 W9 Pre Post PostX)
    {g : JFrame} (hg : g.method = m) (hsize : g.locals.size = c.maxLocals) {argsL rest : List Value} (hlen : ∀ sig, parseMethodDescriptor y.desc = some sig → argsL.length = sig.parameters.length)
    (hstack : g.stack = argsL.reverse ++ rest) (hW : 2 * g.monitorRoom + (rest.map fun v => v.category).sum ≤ W9) (hdg : decode c.code g.pc = .ok (.invokestatic index, 3))
    (hpre : ∀ vm₁, s.WarmedH vm₁ → Pre ⟨T.setVm vm₁, locs, cells, slots⟩ argsL.toArray) :
    (∃ (v : Option Value) (vm₁ : Vm) (B : Pt), s.WarmedH vm₁ ∧ Stand p l e R s m args below meth c B.U B.locs B.cells B.slots ∧ Post ⟨T.setVm vm₁, locs, cells, slots⟩ argsL.toArray v B ∧
      ∀ target, Steps p.tables e below (B.U.setTop { g with pc := g.pc + 3, stack := v.toList ++ rest }) target → Steps p.tables e below (T.setTop g) target) ∨
    (∃ (q : Addr) (vm₁ : Vm) (B : Pt), s.WarmedH vm₁ ∧ Stand p l e R s m args below meth c B.U B.locs B.cells B.slots ∧ PostX ⟨T.setVm vm₁, locs, cells, slots⟩ argsL.toArray q B ∧
      Steps p.tables e below (T.setTop g) ((B.U.setTop { g with stack := rest }).pushFrame (.throwing q))) := by
  obtain ⟨mk, hnamed⟩ := Cond.code_named hcode
  obtain ⟨methM, cM, hmethM, -, -, -, -, -, -, hsigM⟩ := Cond.code_spec hnamed hcode
  have hstatic : methM.isStatic = true := Cond.static_spec hnamed hmethM hstat
  obtain ⟨kP, hkP, -⟩ := className_of_methodNamed hnamed
  have hinitP : kP.init = .initialized := Cond.initialized_spec (findClass_of_methodNamed hnamed) hkP hinit
  obtain ⟨vm₁, X₁, hstep₁⟩ := X.invokestatic hexec hown hlink hnamed hmethM hstatic hkP hinitP hy (g := g) hg (argsL := argsL) (rest := rest) (hlen _ hsigM) hstack hdg
  rcases hK m meth c ⟨T.setVm vm₁, locs, cells, slots⟩ { g with stack := rest } (.invokestatic index) mk argsL.toArray X₁ hg hsize hdg hW (X₁.named hnamed) (hpre vm₁ X₁.warmed) with ⟨v, B, X', hpost, hsteps⟩ | ⟨q, B, X', hpost, hsteps⟩
  · exact Or.inl ⟨v, vm₁, B, X₁.warmed, X', hpost, fun target h => hstep₁ _ fun acts => by rw [doInvoke_state]; exact hsteps.trans h⟩
  · exact Or.inr ⟨q, vm₁, B, X₁.warmed, X', hpost, hstep₁ _ fun acts => by rw [doInvoke_state]; exact hsteps⟩
end Calls
theorem vx_cls {s : State} {T : State} {vm₁ : Vm} {E : String} {k : ClassId} (hW : s.WarmedH vm₁) (h : (T.setVm vm₁).vm.findClass E = some k) : s.vm.findClass E = some k := by
  have h1 : vm₁.findClass E = some k := h
  rw [hW.alike.findClass] at h1
  exact h1
/-- the method's frame g, with q thrown over it -/
def vx_W (p : Program) (l : Launch) (e : Env) (R : Room) (s : State) (m : MethodId) (args : Array Value) (below : List Frame) (meth : Method) (c : Code) (H : Heap) (locs : List Loc) (cells slots : Nat) (Q : State → Prop) (g : JFrame) (q : Addr) : Prop :=
  ∀ T : State, T.heap = H → Stand p l e R s m args below meth c T locs cells slots → ∃ t, Steps p.tables e below ((T.setTop g).pushFrame (.throwing q)) t ∧ Q t
def vx_Run (p : Program) (l : Launch) (e : Env) (R : Room) (s : State) (m : MethodId) (args : Array Value) (below : List Frame) (meth : Method) (c : Code) (H : Heap) (locs : List Loc) (cells slots mc ms : Nat) (g : JFrame) (rest : List Value) (Qa : State → Outcome → State → Prop) (XC : String → State → State → Prop) (free : Addr → Prop) : Prop :=
  ∀ T : State, T.heap = H → Stand p l e R s m args below meth c T locs cells slots →
    (∃ (v : Option Value) (st₀ t T' : State) (L : List Loc), st₀.heap = H ∧ Stand p l e R s m args below meth c T' (locs ++ L) (cells + mc) (slots + ms) ∧ (∀ q ∈ L, free q.base) ∧ T'.heap = t.heap ∧ T'.vm = t.vm ∧ Qa st₀ (.returned v) t ∧
      Goes p e below T g T' { g with pc := g.pc + 3, stack := v.toList ++ rest }) ∨
    (∃ (q : Addr) (st₀ t T' : State) (L : List Loc) (E : String) (ce : Cell), st₀.heap = H ∧ Stand p l e R s m args below meth c T' (locs ++ L) (cells + mc) (slots + ms) ∧ (∀ z ∈ L, free z.base) ∧ T'.heap = t.heap ∧ T'.vm = t.vm ∧ XC E st₀ t ∧ t.heap[q]? = some ce ∧ ce.vm = .none ∧ s.vm.findClass E = some ce.cls ∧
      Steps p.tables e below (T.setTop g) ((T'.setTop { g with stack := rest }).pushFrame (.throwing q)))
def vx_X {S : Type} (px : S → Prop) (B : String → S → State → Prop) (A : Nat → Prop) : String → State → State → Prop := fun E st t => ∃ u : S, px u ∧ B E u t ∧ va_F A st t
section Runs
variable {p : Program} {l : Launch} {e : Env} {R : Room} {s : State} {m : MethodId} {args : Array Value} {below : List Frame} {meth : Method} {c : Code} {H : Heap} {locs : List Loc} {cells slots : Nat}
variable {y : MethodName} {bytes cc : ByteArray} {maxL nL mc ms n index : Nat} {ret : Option FieldType} {ws : List Cond} {rm : Room} {Pc : Array Value → State → Prop} {Qc : Array Value → State → Outcome → State → Prop} {XC : String → State → State → Prop} {free : Addr → Prop} {Ts : List Cond} {own C : String} {b : Addr} {As rest : List Value} {g : JFrame}
theorem vx_callBack (cb : CallB R s args own index y bytes maxL ret ws rm mc ms n) (hM : vx_Met l y ws rm Pc Qc XC mc ms free) (hbl : FrameBlind Pc) : vx_Back l R p e below s args y 3 8 (PreOf R mc ms Pc) (PostOf Qc mc ms free) (vx_Post XC mc ms free) := by
  obtain ⟨hrc, hrs, hfr, hlo, hws, hcw, -, hini, -⟩ := cb
  exact vx_back (bytes := bytes) (maxL := maxL) (ret := ret) hM hbl hrc hrs hfr hlo hws hcw (fun a' U hW => word_at hW (Or.inl (by first | rfl | simp [Cond.onTables, Cond.keeps, Cond.steady])) hini)
theorem vx_runV (S : CallFix p m c cc nL s args Ts own) (hM : vx_Met l y ws rm Pc Qc XC mc ms free) (cw : CallW R s args own C index y bytes maxL ret ws rm mc ms n) (hp : PreV s H C b Pc As)
    (hg : g.method = m) (hn : As.length = n) (hsize : g.locals.size = nL) (hstack : g.stack = As.reverse ++ .ref b :: rest) (hW : 2 * g.monitorRoom + (rest.map fun v => v.category).sum ≤ 8) (hdg : decode cc g.pc = .ok (.invokevirtual index, 3)) (hf : cells + mc ≤ R.cells ∧ slots + ms ≤ R.slots) :
    vx_Run p l e R s m args below meth c H locs cells slots mc ms g rest (Qc (Value.ref b :: As).toArray) XC free := by
  have hK : vx_Back l R p e below s args y 3 8 (PreOf R mc ms Pc) (PostOf Qc mc ms free) (vx_Post XC mc ms free) := vx_callBack cw.1 hM hp.1
  obtain ⟨⟨-, -, -, -, -, -, hcode, -, hy, hlen, hl⟩, hin, hse⟩ := cw
  obtain ⟨hx, hb, hml, ho, -⟩ := S
  obtain ⟨-, ⟨cellB, hcB, hoB, hclB⟩, hPc⟩ := hp
  intro T hT X
  rcases vx_callV X hx (C := C) (bytes := bytes) (maxL := maxL) (ret := ret) ho hl hin hse hcode hy hK (by rw [hT]; exact hcB) hoB hclB hg (hsize.trans hml.symm) (argsL := As) (rest := rest) (fun sig h => hn.trans (hlen sig h)) hstack hW (by rw [hb]; exact hdg)
    (fun vm₁ hW₁ => ⟨hf.1, hf.2, hPc (T.setVm vm₁) hT hW₁⟩) with ⟨v, vm₁, ⟨U', l2, c2, s2⟩, hW₁, X', ⟨g', mk, t, L, e1, e2, hq, h1, hL, h2, h3⟩, st⟩ | ⟨q, vm₁, ⟨U', l2, c2, s2⟩, hW₁, X', ⟨g', mk, t, L, E, ce, e1, e2, hq, hce, hcv, hcl, h1, hL, h2, h3⟩, st⟩
  · dsimp only [Pt.U, Pt.locs, Pt.cells, Pt.slots] at X' e1 e2 h1 h2 h3 st
    subst h1; subst h2; subst h3
    exact Or.inl ⟨v, (T.setVm vm₁).calling g' mk (Value.ref b :: As).toArray, t, U', L, hT, X', hL, e1, e2, hq, st⟩
  · dsimp only [Pt.U, Pt.locs, Pt.cells, Pt.slots] at X' e1 e2 h1 h2 h3 st hcl
    subst h1; subst h2; subst h3
    exact Or.inr ⟨q, (T.setVm vm₁).calling g' mk (Value.ref b :: As).toArray, t, U', L, E, ce, hT, X', hL, e1, e2, hq, hce, hcv, vx_cls hW₁ hcl, st⟩
theorem vx_runS (S : CallFix p m c cc nL s args Ts own) (hM : vx_Met l y ws rm Pc Qc XC mc ms free) (cw : CallB R s args own index y bytes maxL ret ws rm mc ms n ∧ (Cond.static y).before args s = true) (hp : PreS s H Pc As)
    (hg : g.method = m) (hn : As.length = n) (hsize : g.locals.size = nL) (hstack : g.stack = As.reverse ++ rest) (hW : 2 * g.monitorRoom + (rest.map fun v => v.category).sum ≤ 8) (hdg : decode cc g.pc = .ok (.invokestatic index, 3)) (hf : cells + mc ≤ R.cells ∧ slots + ms ≤ R.slots) :
    vx_Run p l e R s m args below meth c H locs cells slots mc ms g rest (Qc As.toArray) XC free := by
  have hK : vx_Back l R p e below s args y 3 8 (PreOf R mc ms Pc) (PostOf Qc mc ms free) (vx_Post XC mc ms free) := vx_callBack cw.1 hM hp.1
  obtain ⟨⟨-, -, -, -, -, -, hcode, hini, hy, hlen, hl⟩, hstt⟩ := cw
  obtain ⟨hx, hb, hml, ho, -⟩ := S
  intro T hT X
  rcases vx_callS X hx (bytes := bytes) (maxL := maxL) (ret := ret) ho hl hstt hini hcode hy hK hg (hsize.trans hml.symm) (argsL := As) (rest := rest) (fun sig h => hn.trans (hlen sig h)) hstack hW (by rw [hb]; exact hdg)
    (fun vm₁ hW₁ => ⟨hf.1, hf.2, hp.2 (T.setVm vm₁) hT hW₁⟩) with ⟨v, vm₁, ⟨U', l2, c2, s2⟩, hW₁, X', ⟨g', mk, t, L, e1, e2, hq, h1, hL, h2, h3⟩, st⟩ | ⟨q, vm₁, ⟨U', l2, c2, s2⟩, hW₁, X', ⟨g', mk, t, L, E, ce, e1, e2, hq, hce, hcv, hcl, h1, hL, h2, h3⟩, st⟩
  · dsimp only [Pt.U, Pt.locs, Pt.cells, Pt.slots] at X' e1 e2 h1 h2 h3 st
    subst h1; subst h2; subst h3
    exact Or.inl ⟨v, (T.setVm vm₁).calling g' mk As.toArray, t, U', L, hT, X', hL, e1, e2, hq, st⟩
  · dsimp only [Pt.U, Pt.locs, Pt.cells, Pt.slots] at X' e1 e2 h1 h2 h3 st hcl
    subst h1; subst h2; subst h3
    exact Or.inr ⟨q, (T.setVm vm₁).calling g' mk As.toArray, t, U', L, E, ce, hT, X', hL, e1, e2, hq, hce, hcv, vx_cls hW₁ hcl, st⟩
end Runs
section Rows
variable {p : Program} {l : Launch} {e : Env} {R : Room} {s : State} {m : MethodId} {args : Array Value} {below : List Frame} {meth : Method} {c : Code} {H : Heap} {locs : List Loc} {cells slots : Nat} {Q : State → Prop}
variable {mc ms : Nat} {free : Addr → Prop} {A0 A1 : Nat → Prop} {H0 : Heap} {a : Array Value} {pc : Nat} {ls : Array Slot} {st0 rest : List Value}
theorem vx_keep {st₀ t T' : State} {L : List Loc} (h0 : st₀.heap = H) (e1 : T'.heap = t.heap) (hS : va_S A0 H0 H locs) (hA : ∀ q, q < H.size → A1 q → A0 q) (hf : ∀ q, free q → A0 q) (hL : ∀ q ∈ L, free q.base) (hF : va_F A1 st₀ t) :
    H.size ≤ T'.heap.size ∧ (∀ q : Nat, q < H.size → ¬ A1 q → T'.heap[q]? = H[q]?) ∧ va_S A0 H0 T'.heap (locs ++ L) := by
  obtain ⟨hz, hk⟩ := hF
  rw [h0] at hz hk
  exact ⟨by rw [e1]; exact hz, fun q h1 h2 => by rw [e1]; exact hk q h1 h2,
    ⟨Nat.le_trans hS.1 (by rw [e1]; exact hz), fun q h1 h2 => by rw [e1, hk q (Nat.lt_of_lt_of_le h1 hS.1) (fun z => h2 (hA q (Nat.lt_of_lt_of_le h1 hS.1) z))]; exact hS.2.1 q h1 h2, fun q hq => by
      rcases List.mem_append.mp hq with h | h
      · exact hS.2.2 q h
      · exact hf _ (hL q h)⟩⟩
theorem vx_calli {S SX : Type} {post : Int32 → S → Prop} {px : SX → Prop} {B : S → State → Prop} {BX : String → SX → State → Prop} {AX : Nat → Prop} (hr : vx_Run p l e R s m args below meth c H locs cells slots mc ms (F0 m pc ls st0) rest (va_Qi post B A1 a) (vx_X px BX AX) free) (hS : va_S A0 H0 H locs) (hA : ∀ q, q < H.size → A1 q → A0 q) (hf : ∀ q, free q → A0 q) (hAX : ∀ q, q < H.size → AX q → A0 q)
    (kx : ∀ (E : String) (ce : Cell) (q9 : Addr) (u : SX) (t : State) (H1 : Heap) (locs1 : List Loc), t.heap = H1 → s.vm.Alike t.vm → px u → BX E u t → H.size ≤ H1.size → (∀ q : Nat, q < H.size → ¬ AX q → H1[q]? = H[q]?) → va_S A0 H0 H1 locs1 → H1[q9]? = some ce → ce.vm = .none → s.vm.findClass E = some ce.cls → vx_W p l e R s m args below meth c H1 locs1 (cells + mc) (slots + ms) Q (F0 m pc ls rest) q9)
    (kk : ∀ (r : Int32) (u : S) (t : State) (H1 : Heap) (locs1 : List Loc), t.heap = H1 → s.vm.Alike t.vm → post r u → B u t → H.size ≤ H1.size → (∀ q : Nat, q < H.size → ¬ A1 q → H1[q]? = H[q]?) → va_S A0 H0 H1 locs1 → W p l e R s m args below meth c H1 locs1 (cells + mc) (slots + ms) Q (F0 m (pc + 3) ls (.int r :: rest))) : W p l e R s m args below meth c H locs cells slots Q (F0 m pc ls st0) := by
  intro T hT X
  rcases hr T hT X with ⟨v, st₀, t, T', L, h0, X', hL, e1, e2, ⟨⟨r, u, hv, hp, hb⟩, hF⟩, st⟩ | ⟨q, st₀, t, T', L, E, ce, h0, X', hL, e1, e2, ⟨u, hp, hb, hF⟩, hce, hcv, hcl, st⟩
  · cases hv
    obtain ⟨k1, k2, k3⟩ := vx_keep h0 e1 hS hA hf hL hF
    obtain ⟨t2, a1, b1⟩ := kk r u t T'.heap (locs ++ L) e1.symm (by rw [← e2]; exact X'.warmed.alike) hp hb k1 k2 k3 T' rfl X'
    exact ⟨t2, st t2 a1, b1⟩
  · obtain ⟨k1, k2, k3⟩ := vx_keep h0 e1 hS hAX hf hL hF
    obtain ⟨t2, a1, b1⟩ := kx E ce q u t T'.heap (locs ++ L) e1.symm (by rw [← e2]; exact X'.warmed.alike) hp hb k1 k2 k3 (by rw [e1]; exact hce) hcv hcl T' rfl X'
    exact ⟨t2, st.trans a1, b1⟩
theorem vx_calll {S SX : Type} {post : Int64 → S → Prop} {px : SX → Prop} {B : S → State → Prop} {BX : String → SX → State → Prop} {AX : Nat → Prop} (hr : vx_Run p l e R s m args below meth c H locs cells slots mc ms (F0 m pc ls st0) rest (va_Ql post B A1 a) (vx_X px BX AX) free) (hS : va_S A0 H0 H locs) (hA : ∀ q, q < H.size → A1 q → A0 q) (hf : ∀ q, free q → A0 q) (hAX : ∀ q, q < H.size → AX q → A0 q)
    (kx : ∀ (E : String) (ce : Cell) (q9 : Addr) (u : SX) (t : State) (H1 : Heap) (locs1 : List Loc), t.heap = H1 → s.vm.Alike t.vm → px u → BX E u t → H.size ≤ H1.size → (∀ q : Nat, q < H.size → ¬ AX q → H1[q]? = H[q]?) → va_S A0 H0 H1 locs1 → H1[q9]? = some ce → ce.vm = .none → s.vm.findClass E = some ce.cls → vx_W p l e R s m args below meth c H1 locs1 (cells + mc) (slots + ms) Q (F0 m pc ls rest) q9)
    (kk : ∀ (r : Int64) (u : S) (t : State) (H1 : Heap) (locs1 : List Loc), t.heap = H1 → s.vm.Alike t.vm → post r u → B u t → H.size ≤ H1.size → (∀ q : Nat, q < H.size → ¬ A1 q → H1[q]? = H[q]?) → va_S A0 H0 H1 locs1 → W p l e R s m args below meth c H1 locs1 (cells + mc) (slots + ms) Q (F0 m (pc + 3) ls (.long r :: rest))) : W p l e R s m args below meth c H locs cells slots Q (F0 m pc ls st0) := by
  intro T hT X
  rcases hr T hT X with ⟨v, st₀, t, T', L, h0, X', hL, e1, e2, ⟨⟨r, u, hv, hp, hb⟩, hF⟩, st⟩ | ⟨q, st₀, t, T', L, E, ce, h0, X', hL, e1, e2, ⟨u, hp, hb, hF⟩, hce, hcv, hcl, st⟩
  · cases hv
    obtain ⟨k1, k2, k3⟩ := vx_keep h0 e1 hS hA hf hL hF
    obtain ⟨t2, a1, b1⟩ := kk r u t T'.heap (locs ++ L) e1.symm (by rw [← e2]; exact X'.warmed.alike) hp hb k1 k2 k3 T' rfl X'
    exact ⟨t2, st t2 a1, b1⟩
  · obtain ⟨k1, k2, k3⟩ := vx_keep h0 e1 hS hAX hf hL hF
    obtain ⟨t2, a1, b1⟩ := kx E ce q u t T'.heap (locs ++ L) e1.symm (by rw [← e2]; exact X'.warmed.alike) hp hb k1 k2 k3 (by rw [e1]; exact hce) hcv hcl T' rfl X'
    exact ⟨t2, st.trans a1, b1⟩
theorem vx_callf {S SX : Type} {post : UInt32 → S → Prop} {px : SX → Prop} {B : S → State → Prop} {BX : String → SX → State → Prop} {AX : Nat → Prop} (hr : vx_Run p l e R s m args below meth c H locs cells slots mc ms (F0 m pc ls st0) rest (va_Qf post B A1 a) (vx_X px BX AX) free) (hS : va_S A0 H0 H locs) (hA : ∀ q, q < H.size → A1 q → A0 q) (hf : ∀ q, free q → A0 q) (hAX : ∀ q, q < H.size → AX q → A0 q)
    (kx : ∀ (E : String) (ce : Cell) (q9 : Addr) (u : SX) (t : State) (H1 : Heap) (locs1 : List Loc), t.heap = H1 → s.vm.Alike t.vm → px u → BX E u t → H.size ≤ H1.size → (∀ q : Nat, q < H.size → ¬ AX q → H1[q]? = H[q]?) → va_S A0 H0 H1 locs1 → H1[q9]? = some ce → ce.vm = .none → s.vm.findClass E = some ce.cls → vx_W p l e R s m args below meth c H1 locs1 (cells + mc) (slots + ms) Q (F0 m pc ls rest) q9)
    (kk : ∀ (r : UInt32) (u : S) (t : State) (H1 : Heap) (locs1 : List Loc), t.heap = H1 → s.vm.Alike t.vm → post r u → B u t → H.size ≤ H1.size → (∀ q : Nat, q < H.size → ¬ A1 q → H1[q]? = H[q]?) → va_S A0 H0 H1 locs1 → W p l e R s m args below meth c H1 locs1 (cells + mc) (slots + ms) Q (F0 m (pc + 3) ls (.float r :: rest))) : W p l e R s m args below meth c H locs cells slots Q (F0 m pc ls st0) := by
  intro T hT X
  rcases hr T hT X with ⟨v, st₀, t, T', L, h0, X', hL, e1, e2, ⟨⟨r, u, hv, hp, hb⟩, hF⟩, st⟩ | ⟨q, st₀, t, T', L, E, ce, h0, X', hL, e1, e2, ⟨u, hp, hb, hF⟩, hce, hcv, hcl, st⟩
  · cases hv
    obtain ⟨k1, k2, k3⟩ := vx_keep h0 e1 hS hA hf hL hF
    obtain ⟨t2, a1, b1⟩ := kk r u t T'.heap (locs ++ L) e1.symm (by rw [← e2]; exact X'.warmed.alike) hp hb k1 k2 k3 T' rfl X'
    exact ⟨t2, st t2 a1, b1⟩
  · obtain ⟨k1, k2, k3⟩ := vx_keep h0 e1 hS hAX hf hL hF
    obtain ⟨t2, a1, b1⟩ := kx E ce q u t T'.heap (locs ++ L) e1.symm (by rw [← e2]; exact X'.warmed.alike) hp hb k1 k2 k3 (by rw [e1]; exact hce) hcv hcl T' rfl X'
    exact ⟨t2, st.trans a1, b1⟩
theorem vx_calld {S SX : Type} {post : UInt64 → S → Prop} {px : SX → Prop} {B : S → State → Prop} {BX : String → SX → State → Prop} {AX : Nat → Prop} (hr : vx_Run p l e R s m args below meth c H locs cells slots mc ms (F0 m pc ls st0) rest (va_Qd post B A1 a) (vx_X px BX AX) free) (hS : va_S A0 H0 H locs) (hA : ∀ q, q < H.size → A1 q → A0 q) (hf : ∀ q, free q → A0 q) (hAX : ∀ q, q < H.size → AX q → A0 q)
    (kx : ∀ (E : String) (ce : Cell) (q9 : Addr) (u : SX) (t : State) (H1 : Heap) (locs1 : List Loc), t.heap = H1 → s.vm.Alike t.vm → px u → BX E u t → H.size ≤ H1.size → (∀ q : Nat, q < H.size → ¬ AX q → H1[q]? = H[q]?) → va_S A0 H0 H1 locs1 → H1[q9]? = some ce → ce.vm = .none → s.vm.findClass E = some ce.cls → vx_W p l e R s m args below meth c H1 locs1 (cells + mc) (slots + ms) Q (F0 m pc ls rest) q9)
    (kk : ∀ (r : UInt64) (u : S) (t : State) (H1 : Heap) (locs1 : List Loc), t.heap = H1 → s.vm.Alike t.vm → post r u → B u t → H.size ≤ H1.size → (∀ q : Nat, q < H.size → ¬ A1 q → H1[q]? = H[q]?) → va_S A0 H0 H1 locs1 → W p l e R s m args below meth c H1 locs1 (cells + mc) (slots + ms) Q (F0 m (pc + 3) ls (.double r :: rest))) : W p l e R s m args below meth c H locs cells slots Q (F0 m pc ls st0) := by
  intro T hT X
  rcases hr T hT X with ⟨v, st₀, t, T', L, h0, X', hL, e1, e2, ⟨⟨r, u, hv, hp, hb⟩, hF⟩, st⟩ | ⟨q, st₀, t, T', L, E, ce, h0, X', hL, e1, e2, ⟨u, hp, hb, hF⟩, hce, hcv, hcl, st⟩
  · cases hv
    obtain ⟨k1, k2, k3⟩ := vx_keep h0 e1 hS hA hf hL hF
    obtain ⟨t2, a1, b1⟩ := kk r u t T'.heap (locs ++ L) e1.symm (by rw [← e2]; exact X'.warmed.alike) hp hb k1 k2 k3 T' rfl X'
    exact ⟨t2, st t2 a1, b1⟩
  · obtain ⟨k1, k2, k3⟩ := vx_keep h0 e1 hS hAX hf hL hF
    obtain ⟨t2, a1, b1⟩ := kx E ce q u t T'.heap (locs ++ L) e1.symm (by rw [← e2]; exact X'.warmed.alike) hp hb k1 k2 k3 (by rw [e1]; exact hce) hcv hcl T' rfl X'
    exact ⟨t2, st.trans a1, b1⟩
theorem vx_callv {S SX : Type} {post : S → Prop} {px : SX → Prop} {B : S → State → Prop} {BX : String → SX → State → Prop} {AX : Nat → Prop} (hr : vx_Run p l e R s m args below meth c H locs cells slots mc ms (F0 m pc ls st0) rest (va_Qv post B A1 a) (vx_X px BX AX) free) (hS : va_S A0 H0 H locs) (hA : ∀ q, q < H.size → A1 q → A0 q) (hf : ∀ q, free q → A0 q) (hAX : ∀ q, q < H.size → AX q → A0 q)
    (kx : ∀ (E : String) (ce : Cell) (q9 : Addr) (u : SX) (t : State) (H1 : Heap) (locs1 : List Loc), t.heap = H1 → s.vm.Alike t.vm → px u → BX E u t → H.size ≤ H1.size → (∀ q : Nat, q < H.size → ¬ AX q → H1[q]? = H[q]?) → va_S A0 H0 H1 locs1 → H1[q9]? = some ce → ce.vm = .none → s.vm.findClass E = some ce.cls → vx_W p l e R s m args below meth c H1 locs1 (cells + mc) (slots + ms) Q (F0 m pc ls rest) q9)
    (kk : ∀ (u : S) (t : State) (H1 : Heap) (locs1 : List Loc), t.heap = H1 → s.vm.Alike t.vm → post u → B u t → H.size ≤ H1.size → (∀ q : Nat, q < H.size → ¬ A1 q → H1[q]? = H[q]?) → va_S A0 H0 H1 locs1 → W p l e R s m args below meth c H1 locs1 (cells + mc) (slots + ms) Q (F0 m (pc + 3) ls (rest))) : W p l e R s m args below meth c H locs cells slots Q (F0 m pc ls st0) := by
  intro T hT X
  rcases hr T hT X with ⟨v, st₀, t, T', L, h0, X', hL, e1, e2, ⟨⟨u, hv, hp, hb⟩, hF⟩, st⟩ | ⟨q, st₀, t, T', L, E, ce, h0, X', hL, e1, e2, ⟨u, hp, hb, hF⟩, hce, hcv, hcl, st⟩
  · cases hv
    obtain ⟨k1, k2, k3⟩ := vx_keep h0 e1 hS hA hf hL hF
    obtain ⟨t2, a1, b1⟩ := kk u t T'.heap (locs ++ L) e1.symm (by rw [← e2]; exact X'.warmed.alike) hp hb k1 k2 k3 T' rfl X'
    exact ⟨t2, st t2 a1, b1⟩
  · obtain ⟨k1, k2, k3⟩ := vx_keep h0 e1 hS hAX hf hL hF
    obtain ⟨t2, a1, b1⟩ := kx E ce q u t T'.heap (locs ++ L) e1.symm (by rw [← e2]; exact X'.warmed.alike) hp hb k1 k2 k3 (by rw [e1]; exact hce) hcv hcl T' rfl X'
    exact ⟨t2, st.trans a1, b1⟩
/-- caught by the row x of this method's table; the rows ahead don't take it -/
theorem vx_catch {own name : String} {E : String} {ce : Cell} {q : Addr} (hown : s.vm.findClass own = some m.cls) (pre : List ExceptionTableEntry) (x : ExceptionTableEntry) (suf : List ExceptionTableEntry) (hsplit : c.exceptionTable.toList = pre ++ x :: suf)
    (hpass : ∀ z ∈ pre, covers z pc = false ∨ (z.catchType ≠ 0 ∧ ∃ nm : String, (Cond.classLink own z.catchType nm).before args s = true ∧ va_Nc E nm s)) (hx : covers x pc = true) (h0 : x.catchType ≠ 0)
    (hlink : (Cond.classLink own x.catchType name).before args s = true) (hcast : (Cond.castable E name).before args s = true) (hcell : H[q]? = some ce) (hv : ce.vm = .none) (hcl : s.vm.findClass E = some ce.cls)
    (kk : W p l e R s m args below meth c H locs cells slots Q (F0 m x.handlerPc ls [.ref q])) : vx_W p l e R s m args below meth c H locs cells slots Q (F0 m pc ls rest) q := by
  intro T hT X
  have hpl : e.platform.magicAccessors = ({} : Platform).magicAccessors := by rw [X.admits.platform]
  obtain ⟨c3, c4, hc3, hc4, hasg⟩ := Cond.castable_spec hcast
  cases Option.some.inj (hc3.symm.trans hcl)
  obtain ⟨c5, hc5, hcl5⟩ := Cond.classLink_spec hown hlink e.platform hpl
  cases Option.some.inj (hc4.symm.trans hc5)
  obtain ⟨vm', X', st⟩ := X.thenCaughtThrough q (g := F0 m pc ls rest) rfl (Steps.refl _) (by rw [hT]; exact hcell) (by rw [hv]; rfl) (by obtain ⟨k9, h9, -⟩ := Vm.findClass_spec hcl; exact ⟨k9, h9⟩) pre x suf hsplit
    (fun z hz => by
      rcases hpass z hz with h | ⟨hz0, nm, hl1, hn1⟩
      · exact Or.inl h
      · obtain ⟨c6, hc6, hcl6⟩ := Cond.classLink_spec hown hl1 e.platform hpl
        obtain ⟨a8, b8, h1, h2, h3⟩ := hn1
        cases Option.some.inj (h1.symm.trans hcl)
        cases Option.some.inj (h2.symm.trans hc6)
        exact Or.inr ⟨hz0, _, hcl6, h3⟩) hx (Or.inr ⟨h0, c4, hcl5, hasg⟩)
  obtain ⟨t, a1, b1⟩ := kk (T.setVm vm') hT X'
  exact ⟨t, st.trans a1, b1⟩
end Rows
section Ends
variable {p : Program} {l : Launch} {e : Env} {R : Room} {s : State} {m : MethodId} {args : Array Value} {below : List Frame} {meth : Method} {c : Code} {H : Heap} {locs : List Loc} {cells slots : Nat} {Q : State → Prop}
variable {mc ms : Nat} {free : Addr → Prop} {A0 A1 : Nat → Prop} {H0 : Heap} {a : Array Value} {ls : Array Slot} {st0 rest : List Value}
variable {Qc : Array Value → State → Outcome → State → Prop} {XC : String → State → State → Prop}
/-- what a body that may throw owes at its end -/
def vx_MQ (below : List Frame) (Qc : Array Value → State → Outcome → State → Prop) (XC : String → State → State → Prop) (a : Array Value) (s : State) (mc ms : Nat) (free : Addr → Prop) : State → Prop := fun t =>
  ∃ o, t.status = .running ∧ Ended t below o ∧ vx_Q Qc XC mc ms free a s o t
theorem vx_ret {g : JFrame} {mc ms : Nat} (k : W p l e R s m args below meth c H locs cells slots (MQ below Qc args s mc ms free) g) : W p l e R s m args below meth c H locs cells slots (vx_MQ below Qc XC args s mc ms free) g := by
  intro T hT X
  obtain ⟨t, a1, o, b1, b2, b3, b4⟩ := k T hT X
  exact ⟨t, a1, o, b1, b2, Or.inl ⟨b3, b4⟩⟩
/-- not caught here: it goes on to the caller -/
theorem vx_widen {g : JFrame} {q : Addr} {k n : Nat} (h1 : cells ≤ k) (h2 : slots ≤ n) (kk : vx_W p l e R s m args below meth c H locs k n Q g q) : vx_W p l e R s m args below meth c H locs cells slots Q g q := fun T hT X => kk T hT (stand_widen X h1 h2)
theorem vx_out {pc : Nat} {E : String} {ce : Cell} {q : Addr} {mc ms : Nat} (hout : ∀ x ∈ c.exceptionTable.toList, covers x pc = false) (hlocks : meth.locks = false) (hcell : H[q]? = some ce) (hv : ce.vm = .none) (hcl : s.vm.findClass E = some ce.cls)
    (hx : ∀ t : State, t.heap = H → s.vm.Alike t.vm → XC E s t) (hf : ∀ z ∈ locs, free z.base) (hc : cells ≤ mc) (hs : slots ≤ ms) :
    vx_W p l e R s m args below meth c H locs cells slots (vx_MQ below Qc XC args s mc ms free) (F0 m pc ls rest) q := by
  intro T hT X
  obtain ⟨st1, hrun, hend, hW, hsm⟩ := X.leaveThrown q (g := F0 m pc ls rest) rfl rfl rfl hout hlocks
  have hcell9 : (T.setFrames (.throwing q :: below)).heap[q]? = some ce := by
    show T.heap[q]? = some ce
    rw [hT]; exact hcell
  exact ⟨_, st1, .threw q, hrun, hend, Or.inr ⟨q, rfl, E, ce, locs, hx _ hT hW.alike, hcell9, hv, hcl, hW, hsm.mono hc hs, hf⟩⟩
theorem vx_frame {U : State} {k n : Nat} (h : s.sameButNew ({ U with vm := s.vm } : State) locs k n) : s.heap.size ≤ U.heap.size ∧ ∀ q : Nat, q < s.heap.size → (∀ z ∈ locs, z.base ≠ q) → U.heap[q]? = s.heap[q]? := by
  obtain ⟨-, h2, -, -, -, h6⟩ := h
  refine ⟨h2, fun q hq hz => ?_⟩
  obtain ⟨c9, e1, e2, e3, e4⟩ := h6 q _ (Array.getElem?_eq_getElem hq)
  have hs : c9.slots = (s.heap[q]).slots := Array.ext_getElem? fun i => e4 i fun hm => hz _ hm rfl
  have h9 : c9 = s.heap[q] := by
    rw [hs] at e2
    exact e2
  have e5 : U.heap[q]? = some c9 := e1
  rw [e5, h9, Array.getElem?_eq_getElem hq]
/-- the words of a throw but the four that speak of the heap -/
def vx_no (w : Cond) : Bool := decide (w ≠ .isRef (.static Bundle.tN "UNASSIGNED_STACK" Bundle.steD)) && decide (w ≠ .isRef (.static Bundle.tN "SUPPRESSED_SENTINEL" Bundle.listD)) && decide (w ≠ .laysStatic Bundle.tN "UNASSIGNED_STACK" Bundle.steD) && decide (w ≠ .laysStatic Bundle.tN "SUPPRESSED_SENTINEL" Bundle.listD)
def vx_at0 (own : String) (ic : Nat) (X : String) (names : List String) : List Cond := (Bundle.ownAtoms0 own ic X names).filter vx_no
def vx_atS (own : String) (ic : Nat) (X : String) (names : List String) : List Cond := (Bundle.ownAtoms own ic X names).filter vx_no
/-- a word that the tables alone decide, or a good one -/
def vx_ot (w : Cond) : Bool := w.onTables || goodWord w
theorem vx_ot_at {args a' : Array Value} {s U : State} {w : Cond} (hW : s.WarmedH U.vm) (hvm : s.vm = U.vm) (hg : vx_ot w = true) (h : w.before args s = true) : w.before a' U = true := by
  simp only [vx_ot, Bool.or_eq_true] at hg
  rcases hg with hg | hg
  · exact va_tabs hg hvm h
  · exact word_at hW (good_of_word hg) h
/-- a list's words: the good ones out of the method's own list, the others by premises of their own -/
theorem vx_hat {args : Array Value} {s : State} {L B : List Cond} (h1 : ∀ w ∈ L.filter goodWord, w.before args s = true) (h2 : ∀ w ∈ L.filter (fun w => !goodWord w), w ∈ B) (h3 : ∀ w ∈ B, w.before args s = true) : ∀ w ∈ L, w.before args s = true := by
  intro w hw
  by_cases g : goodWord w = true
  · exact h1 w (List.mem_filter.mpr ⟨hw, g⟩)
  · refine h3 w (h2 w (List.mem_filter.mpr ⟨hw, ?_⟩))
    show (!goodWord w) = true
    cases hgw : goodWord w
    · rfl
    · exact absurd hgw g
theorem vx_c {args : Array Value} {s : State} {w : Cond} {B : List Cond} (h : w.before args s = true) (t : ∀ w ∈ B, w.before args s = true) : ∀ w' ∈ w :: B, w'.before args s = true := fun w' h' => (List.mem_cons.mp h').elim (fun e => by rw [e]; exact h) (t w')
theorem vx_n {args : Array Value} {s : State} : ∀ w ∈ ([] : List Cond), w.before args s = true := fun _ h => nomatch h
theorem vx_own {args : Array Value} {s : State} {L : List Cond} (h1 : ∀ w ∈ L.filter vx_no, w.before args s = true)
    (hU : (Cond.isRef (.static Bundle.tN "UNASSIGNED_STACK" Bundle.steD)).before args s = true) (hN : (Cond.isRef (.static Bundle.tN "SUPPRESSED_SENTINEL" Bundle.listD)).before args s = true)
    (lU : (Cond.laysStatic Bundle.tN "UNASSIGNED_STACK" Bundle.steD).before args s = true) (lN : (Cond.laysStatic Bundle.tN "SUPPRESSED_SENTINEL" Bundle.listD).before args s = true) : ∀ w ∈ L, w.before args s = true := by
  intro w hw
  by_cases e1 : w = .isRef (.static Bundle.tN "UNASSIGNED_STACK" Bundle.steD)
  · rw [e1]; exact hU
  · by_cases e2 : w = .isRef (.static Bundle.tN "SUPPRESSED_SENTINEL" Bundle.listD)
    · rw [e2]; exact hN
    · by_cases e3 : w = .laysStatic Bundle.tN "UNASSIGNED_STACK" Bundle.steD
      · rw [e3]; exact lU
      · by_cases e4 : w = .laysStatic Bundle.tN "SUPPRESSED_SENTINEL" Bundle.listD
        · rw [e4]; exact lN
        · exact h1 w (List.mem_filter.mpr ⟨hw, by unfold vx_no; rw [decide_eq_true e1, decide_eq_true e2, decide_eq_true e3, decide_eq_true e4]; rfl⟩)
/-- where a static field lies, its class's statics cell in H -/
def vx_L (C n d : String) (A : Nat → Prop) (U : State) (H : Heap) : Prop := ∃ (c : ClassId) (k : Class) (i : Nat) (f : Field) (a : Nat) (cell : Cell), U.vm.findClass C = some c ∧ U.fieldFound? C n d = some (c, k, i, f) ∧ f.isStatic = true ∧ k.statics = some a ∧ H[a]? = some cell ∧ cell.vm.isStatics = true ∧ cell.cls = c ∧ f.slot < cell.slots.size ∧ k.staticTypes[f.slot]? = some f.type ∧ ¬ A a
theorem vx_L.moved {C n d : String} {A : Nat → Prop} {u U : State} {H : Heap} (hvm : u.vm.Alike U.vm) (h : vx_L C n d A u H) : vx_L C n d A U H := by
  obtain ⟨c, k, i, f, a, cell, h1, h2, h3, h4, h5, h6, h7, h8, h9, h10⟩ := h
  obtain ⟨k', hi', he⟩ := State.fieldFound?_setVm hvm h2
  exact ⟨c, k', i, f, a, cell, by rw [hvm.findClass]; exact h1, hi', h3, by rw [he]; exact h4, h5, h6, h7, h8, by rw [he]; exact h9, h10⟩
theorem vx_L.kept {C n d : String} {A : Nat → Prop} {U : State} {H H1 : Heap} (h : vx_L C n d A U H) (hq : ∀ a : Nat, a < H.size → ¬ A a → H1[a]? = H[a]?) : vx_L C n d A U H1 := by
  obtain ⟨c, k, i, f, a, cell, h1, h2, h3, h4, h5, h6, h7, h8, h9, h10⟩ := h
  exact ⟨c, k, i, f, a, cell, h1, h2, h3, h4, by rw [hq a (Array.getElem?_eq_some_iff.mp h5).1 h10]; exact h5, h6, h7, h8, h9, h10⟩
theorem vx_L.narrow {C n d : String} {A B : Nat → Prop} {U : State} {H : Heap} (h : vx_L C n d A U H) (hAB : ∀ q, B q → A q) : vx_L C n d B U H := by
  obtain ⟨c, k, i, f, a, cell, h1, h2, h3, h4, h5, h6, h7, h8, h9, h10⟩ := h
  exact ⟨c, k, i, f, a, cell, h1, h2, h3, h4, h5, h6, h7, h8, h9, fun z => h10 (hAB _ z)⟩
theorem vx_L.word {C n d : String} {A : Nat → Prop} {s : State} {args : Array Value} (h : vx_L C n d A s s.heap) : (Cond.laysStatic C n d).before args s = true := by
  obtain ⟨c, k, i, f, a, cell, h1, h2, h3, h4, h5, h6, h7, h8, h9, -⟩ := h
  show (Cond.laysStatic C n d).holds args s none s [] = true
  exact Cond.laysStatic_of h1 h2 h3 h4 h5 h6 h7 h8 h9
/-- .. and what it holds: null or some reference -/
def vx_Zq (C n d : String) (A : Nat → Prop) (U : State) (H : Heap) : Prop := va_Zq C n d A U H ∧ vx_L C n d A U H
theorem vx_Zq.moved {C n d : String} {A : Nat → Prop} {u U : State} {H : Heap} (hvm : u.vm.Alike U.vm) (h : vx_Zq C n d A u H) : vx_Zq C n d A U H := ⟨va_Zq.moved hvm h.1, vx_L.moved hvm h.2⟩
theorem vx_Zq.kept {C n d : String} {A : Nat → Prop} {U : State} {H H1 : Heap} (h : vx_Zq C n d A U H) (hq : ∀ a : Nat, a < H.size → ¬ A a → H1[a]? = H[a]?) : vx_Zq C n d A U H1 := ⟨va_Zq.kept h.1 hq, vx_L.kept h.2 hq⟩
theorem vx_Zq.narrow {C n d : String} {A B : Nat → Prop} {U : State} {H : Heap} (h : vx_Zq C n d A U H) (hAB : ∀ q, B q → A q) : vx_Zq C n d B U H := ⟨va_Zq.narrow h.1 hAB, vx_L.narrow h.2 hAB⟩
theorem vx_Zqof {args : Array Value} {s : State} {C n d : String} {A : Nat → Prop} (hl : (Cond.laysStatic C n d).before args s = true) (hini : (Cond.initialized C).before args s = true) (h : (Cond.isRef (.static C n d)).before args s = true) (hA : ∀ a : Nat, a < s.heap.size → ¬ A a) : vx_Zq C n d A s s.heap := by
  refine ⟨va_Zqof hl hini h hA, ?_⟩
  obtain ⟨c, k, i, f, a, cell, h1, h2, h3, h4, h5, h6, h7, h8, h9⟩ := Cond.laysStatic_spec hl
  exact ⟨c, k, i, f, a, cell, h1, h2, h3, h4, h5, h6, h7, h8, h9, hA a (Array.getElem?_eq_some_iff.mp h5).1⟩
theorem vx_isRef {C n d : String} {v : Value} {A : Nat → Prop} {s : State} {args : Array Value} (h : va_Z C n d v A s s.heap) (hv : v.isRef = true) : (Cond.isRef (.static C n d)).before args s = true := by
  obtain ⟨cf, kf, fi, f, a, cell, h1, h2, h3, h4, h5, h6, h7, -⟩ := h
  have he : (Term.static C n d).eval args s none [] s = some v := by
    simp [Term.eval, State.fieldNamed?, h1, h2, h4, h5, h6, h7]
  simp only [Cond.before, Cond.holds, Cond.value, he]
  cases v <;> simp_all [Value.isRef]
theorem vx_isRefq {C n d : String} {A : Nat → Prop} {s : State} {args : Array Value} (h : va_Zq C n d A s s.heap) : (Cond.isRef (.static C n d)).before args s = true := by
  rcases h with h | ⟨t, h⟩
  · exact vx_isRef h rfl
  · exact vx_isRef h rfl
/-- the same frame, seen from here: as if the method were called anew in this heap -/
theorem vx_rebase {T : State} (X : Stand p l e R s m args below meth c T locs cells slots) {R' : Room} (hf : R'.frames ≤ R.frames) (hl : R'.locals ≤ R.locals) (hc : cells + R'.cells ≤ R.cells) (hs : slots + R'.slots ≤ R.slots) :
    Stand p l e R' ((T.setVm s.vm).setFrames (.invoking m args :: below)) m args below meth c T [] 0 0 := by
  have htop : (T.setVm s.vm).topJava?.isSome := X.here.top
  have hF : ((T.setVm s.vm).setFrames (.invoking m args :: below)).frames = .invoking m args :: below := State.frames_setFrames _ (State.cur_lt_of_top htop)
  obtain ⟨g₀, hg0⟩ := Option.isSome_iff_exists.mp htop
  obtain ⟨r, hr⟩ := State.topJava?_eq_some.mp hg0
  have hl9 : e.platform.stackLimits (T.setVm s.vm).me = e.platform.stackLimits s.me := X.limits
  have hb9 : (T.setVm s.vm).me.stackBytes = s.me.stackBytes := X.bytes
  refine ⟨X.admits, X.cas, X.clock, hF, ?_, X.hears, X.method, X.code, X.here, X.tail, X.warmed, ?_, ?_, ?_⟩
  · have h := X.room
    have hU : ((T.setVm s.vm).setFrames (.invoking m args :: below)).localsInUse = s.localsInUse := by
      rw [State.localsInUse_invoking hF (meth := meth) (c := c) X.method X.code, State.localsInUse_invoking X.frames X.method X.code]
    simp only [State.hasRoom, Bool.and_eq_true, decide_eq_true_eq] at h ⊢
    obtain ⟨⟨⟨⟨h1, h2, h3, h4, h5, h6⟩, h7⟩, h8⟩, h9⟩ := h
    rw [X.frames, List.length_cons] at h2 h3
    have q1 := X.heapSize
    have q2 := X.used
    simp only [hF, hU, List.length_cons, State.stackLimits_setFrames, State.stackBytes_setFrames, hl9, hb9]
    refine ⟨⟨⟨⟨by omega, by omega, by omega, by omega, by omega, h6⟩, ?_⟩, ?_⟩, X.book⟩
    · show T.heap.size + R'.cells ≤ e.platform.maxCells
      omega
    · show T.slotsUsed + R'.slots ≤ e.platform.maxSlots
      omega
  · rw [State.stackLimits_setFrames]; rfl
  · rw [State.stackBytes_setFrames]; rfl
  · refine ⟨?_, Nat.le_refl _, Nat.le_refl _, ?_, ?_, fun a c9 h9 => ⟨c9, h9, rfl, rfl, fun _ _ => rfl⟩⟩
    · obtain ⟨t, ht, -⟩ := State.frames_cons hr
      show T.setVm s.vm = { ((T.setVm s.vm).setFrames (.invoking m args :: below)).setFrames (T.setVm s.vm).frames with heap := T.heap, slotsUsed := T.slotsUsed }
      rw [State.setFrames_setFrames, State.setFrames_self ht]
      rfl
    · show T.slotsUsed = T.slotsUsed + ((T.heap.toList.drop T.heap.size).map (·.slots.size)).sum
      rw [List.drop_eq_nil_of_le (Nat.le_of_eq Array.length_toList)]
      rfl
    · show ((T.heap.toList.drop T.heap.size).map (·.slots.size)).sum ≤ 0
      rw [List.drop_eq_nil_of_le (Nat.le_of_eq Array.length_toList)]
      exact Nat.le_refl _
/-- 'throw new E()': new; dup; invokespecial; athrow -/
theorem vx_throw0 {cc : ByteArray} {pc : Nat} (hexec : p.tables.exec = Jvm.exec) (hb : c.code = cc) (hl : l.stackTraces = false) {own cls : String} {names : List String} {ik ic mc ms : Nat} {A : Nat → Prop}
    (hown : s.vm.findClass own = some m.cls) (hcls : Bundle.fit cls = true) (hnames : ∀ n ∈ names, Bundle.fit n = true)
    (hk : (Cond.classLink own ik cls).before args s = true) (hini : (Cond.initialized cls).before args s = true) (hat : ∀ w ∈ vx_at0 own ic cls names, w.before args s = true)
    (hgood : ∀ w ∈ Cond.classLink own ik cls :: Cond.initialized cls :: vx_at0 own ic cls names, vx_ot w = true)
    (hU : vx_Zq Bundle.tN "UNASSIGNED_STACK" Bundle.steD A s s.heap) (hN : vx_Zq Bundle.tN "SUPPRESSED_SENTINEL" Bundle.listD A s s.heap) (hS : va_S A s.heap H locs) (hsize : ls.size = c.maxLocals)
    (d0 : decode cc pc = .ok (.new ik, 3)) (d3 : decode cc (pc + 3) = .ok (.dup, 1)) (d4 : decode cc (pc + 4) = .ok (.invokespecial ic, 3)) (d7 : decode cc (pc + 7) = .ok (.athrow, 1))
    (hout : ∀ x ∈ c.exceptionTable.toList, covers x (pc + 7) = false)
    (hRframes : names.length + 3 < R.frames) (hRlocals : (rest.map fun v => v.category).sum + (13 * (names.length + 1) + 42) ≤ R.locals) (hRcells : cells + 1 ≤ R.cells) (hRslots : slots + 6 ≤ R.slots) (hlocks : meth.locks = false)
    (hx : ∀ t : State, s.vm.Alike t.vm → H.size ≤ t.heap.size → (∀ q : Nat, q < H.size → t.heap[q]? = H[q]?) → XC cls s t)
    (hf : ∀ z ∈ locs, free z.base) (hc : cells + 1 ≤ mc) (hs : slots + 6 ≤ ms) :
    W p l e R s m args below meth c H locs cells slots (vx_MQ below Qc XC args s mc ms free) (F0 m pc ls rest) := by
  intro T hT X
  have htr : e.platform.stackTraces = false := (show e.platform.stackTraces = l.stackTraces by rw [X.admits.platform]).trans hl
  have Y := vx_rebase X (R' := { frames := R.frames, locals := R.locals, cells := 1, slots := 6 }) (Nat.le_refl _) (Nat.le_refl _) hRcells hRslots
  obtain ⟨s', hA⟩ : ∃ z, z = (T.setVm s.vm).setFrames (.invoking m args :: below) := ⟨_, rfl⟩
  rw [← hA] at Y
  have hvm : s'.vm = s.vm := by rw [hA]; rfl
  have hhp : s'.heap = H := by rw [hA]; exact hT
  have hW0 : s.WarmedH s'.vm := by rw [hvm]; exact State.WarmedH.refl s
  have hat' : ∀ w ∈ vx_at0 own ic cls names, w.before args s' = true := fun w hw => vx_ot_at hW0 hvm.symm (hgood w (List.mem_cons_of_mem _ (List.mem_cons_of_mem _ hw))) (hat w hw)
  have hk' : (Cond.classLink own ik cls).before args s' = true := vx_ot_at hW0 hvm.symm (hgood _ List.mem_cons_self) hk
  have hini' : (Cond.initialized cls).before args s' = true := vx_ot_at hW0 hvm.symm (hgood _ (List.mem_cons_of_mem _ List.mem_cons_self)) hini
  have hU' : vx_Zq Bundle.tN "UNASSIGNED_STACK" Bundle.steD A s' s'.heap := by rw [hhp]; exact vx_Zq.moved hW0.alike (hU.kept hS.2.1)
  have hN' : vx_Zq Bundle.tN "SUPPRESSED_SENTINEL" Bundle.listD A s' s'.heap := by rw [hhp]; exact vx_Zq.moved hW0.alike (hN.kept hS.2.1)
  have h : ∀ w ∈ Bundle.ownAtoms0 own ic cls names, w.before args s' = true := vx_own hat' (vx_isRefq hU'.1) (vx_isRefq hN'.1) hU'.2.word hN'.2.word
  have hown' : s'.vm.findClass own = some m.cls := by rw [hvm]; exact hown
  have hins : (Cond.instantiable cls 6).before args s' = true := h _ (by simp [Bundle.ownAtoms0])
  obtain ⟨vm₁, cX, kX, hfX, hkX, -, -, X₁, st1⟩ := Y.newCold hexec (own := own) (C := cls) (index := ik) (n := 6) hown' hk' hins hini'
    (g := F0 m pc ls rest) rfl (by rw [hb]; exact d0) (Nat.le_refl _) (Nat.le_refl _)
  generalize hT1 : (T.setVm vm₁).pushCell { cls := cX, slots := kX.instanceTypes.map defaultValue, vm := .none } = T1 at X₁ st1
  have hcat : (Value.ref T.heap.size).category = 1 := rfl
  have hcellA : T1.heap[T.heap.size]? = some (freshCell cX kX) := by rw [← hT1]; exact State.heap_pushCell_size _ _
  have d3' : decode c.code (pc + 3) = .ok (.dup, 1) := by rw [hb]; exact d3
  obtain ⟨U, hsteps, hrun, hend, hW, hsame, ce, hce, hO⟩ := X₁.ctorThrow0 hexec htr (own := own) (cls := cls) (names := names) (ic := ic) hown' hcls hnames h (fun x hx => nomatch hx) hfX hkX hcellA (by rw [hhp, hT]; exact Nat.le_refl _)
    (g := { method := m, pc := pc + 4, locals := ls, stack := .ref T.heap.size :: .ref T.heap.size :: rest, locked := none }) rfl hsize rfl rfl (rest := rest) rfl
    (by rw [hb]; exact d4) (by rw [hb]; exact d7) hout hRframes (by simp only [List.map_cons, List.sum_cons, hcat]; omega) hlocks
  obtain ⟨f1, f2⟩ := vx_frame hsame
  rw [hhp] at f1 f2
  have hWs : s.WarmedH U.vm := State.WarmedH.trans hW0 hW
  have hcl : s.vm.findClass cls = some ce.cls := by
    have h9 := hO.cls
    rw [hvm] at h9
    exact h9
  have hall : s.sameButNew ({ U with vm := s.vm } : State) locs mc ms := by
    subst hA
    obtain ⟨e1, e2⟩ := hsame
    rw [State.setFrames_setFrames] at e1
    have h2 : (T.setVm s.vm).sameButNew ({ U with vm := s.vm } : State) [] (0 + 1) (0 + 6) := ⟨e1, e2⟩
    have h3 := X.same.trans h2
    rw [List.append_nil] at h3
    exact h3.mono hc hs
  refine ⟨U, ?_, .threw T.heap.size, hrun, hend, Or.inr ⟨T.heap.size, rfl, cls, ce, locs, hx U hWs.alike f1 (fun q hq => f2 q hq (fun z hz => nomatch hz)), hce, hO.vm, hcl, hWs, hall, hf⟩⟩
  refine st1 _ ?_
  show Steps p.tables e below (T1.setTop { method := m, pc := pc + 3, locals := ls, stack := .ref T.heap.size :: rest, locked := none }) _
  jvm_step X₁.here [X₁.here.top, hexec, d3', Value.category]
  exact hsteps
/-- 'throw new E("text")': new; dup; ldc; invokespecial; athrow -/
theorem vx_throwS {cc : ByteArray} {pc : Nat} (hexec : p.tables.exec = Jvm.exec) (hb : c.code = cc) (hl : l.stackTraces = false) {own cls text : String} {names : List String} {ik is ic mc ms sa : Nat} {A : Nat → Prop}
    (hown : s.vm.findClass own = some m.cls) (hcls : Bundle.fit cls = true) (hnames : ∀ n ∈ names, Bundle.fit n = true)
    (hk : (Cond.classLink own ik cls).before args s = true) (hini : (Cond.initialized cls).before args s = true) (hstr : vk_R own is text sa s) (hat : ∀ w ∈ vx_atS own ic cls names, w.before args s = true)
    (hgood : ∀ w ∈ Cond.classLink own ik cls :: Cond.initialized cls :: vx_atS own ic cls names, vx_ot w = true)
    (hU : vx_Zq Bundle.tN "UNASSIGNED_STACK" Bundle.steD A s s.heap) (hN : vx_Zq Bundle.tN "SUPPRESSED_SENTINEL" Bundle.listD A s s.heap) (hS : va_S A s.heap H locs) (hsize : ls.size = c.maxLocals)
    (d0 : decode cc pc = .ok (.new ik, 3)) (d3 : decode cc (pc + 3) = .ok (.dup, 1)) (d4 : decode cc (pc + 4) = .ok (.ldc is, 2)) (d6 : decode cc (pc + 6) = .ok (.invokespecial ic, 3)) (d9 : decode cc (pc + 9) = .ok (.athrow, 1))
    (hout : ∀ x ∈ c.exceptionTable.toList, covers x (pc + 9) = false)
    (hRframes : names.length + 3 < R.frames) (hRlocals : (rest.map fun v => v.category).sum + (13 * (names.length + 1) + 43) ≤ R.locals) (hRcells : cells + 1 ≤ R.cells) (hRslots : slots + 6 ≤ R.slots) (hlocks : meth.locks = false)
    (hx : ∀ t : State, s.vm.Alike t.vm → H.size ≤ t.heap.size → (∀ q : Nat, q < H.size → t.heap[q]? = H[q]?) → XC cls s t)
    (hf : ∀ z ∈ locs, free z.base) (hc : cells + 1 ≤ mc) (hs : slots + 6 ≤ ms) :
    W p l e R s m args below meth c H locs cells slots (vx_MQ below Qc XC args s mc ms free) (F0 m pc ls rest) := by
  intro T hT X
  have htr : e.platform.stackTraces = false := (show e.platform.stackTraces = l.stackTraces by rw [X.admits.platform]).trans hl
  have Y := vx_rebase X (R' := { frames := R.frames, locals := R.locals, cells := 1, slots := 6 }) (Nat.le_refl _) (Nat.le_refl _) hRcells hRslots
  obtain ⟨s', hA⟩ : ∃ z, z = (T.setVm s.vm).setFrames (.invoking m args :: below) := ⟨_, rfl⟩
  rw [← hA] at Y
  have hvm : s'.vm = s.vm := by rw [hA]; rfl
  have hhp : s'.heap = H := by rw [hA]; exact hT
  have hW0 : s.WarmedH s'.vm := by rw [hvm]; exact State.WarmedH.refl s
  have hat' : ∀ w ∈ vx_atS own ic cls names, w.before args s' = true := fun w hw => vx_ot_at hW0 hvm.symm (hgood w (List.mem_cons_of_mem _ (List.mem_cons_of_mem _ hw))) (hat w hw)
  have hk' : (Cond.classLink own ik cls).before args s' = true := vx_ot_at hW0 hvm.symm (hgood _ List.mem_cons_self) hk
  have hini' : (Cond.initialized cls).before args s' = true := vx_ot_at hW0 hvm.symm (hgood _ (List.mem_cons_of_mem _ List.mem_cons_self)) hini
  have hU' : vx_Zq Bundle.tN "UNASSIGNED_STACK" Bundle.steD A s' s'.heap := by rw [hhp]; exact vx_Zq.moved hW0.alike (hU.kept hS.2.1)
  have hN' : vx_Zq Bundle.tN "SUPPRESSED_SENTINEL" Bundle.listD A s' s'.heap := by rw [hhp]; exact vx_Zq.moved hW0.alike (hN.kept hS.2.1)
  have h : ∀ w ∈ Bundle.ownAtoms own ic cls names, w.before args s' = true := vx_own hat' (vx_isRefq hU'.1) (vx_isRefq hN'.1) hU'.2.word hN'.2.word
  have hown' : s'.vm.findClass own = some m.cls := by rw [hvm]; exact hown
  have hins : (Cond.instantiable cls 6).before args s' = true := h _ (by simp [Bundle.ownAtoms])
  obtain ⟨vm₁, cX, kX, hfX, hkX, -, -, X₁, st1⟩ := Y.newCold hexec (own := own) (C := cls) (index := ik) (n := 6) hown' hk' hins hini'
    (g := F0 m pc ls rest) rfl (by rw [hb]; exact d0) (Nat.le_refl _) (Nat.le_refl _)
  generalize hT1 : (T.setVm vm₁).pushCell { cls := cX, slots := kX.instanceTypes.map defaultValue, vm := .none } = T1 at X₁ st1
  have hcat : (Value.ref T.heap.size).category = 1 := rfl
  have hcellA : T1.heap[T.heap.size]? = some (freshCell cX kX) := by rw [← hT1]; exact State.heap_pushCell_size _ _
  have d3' : decode c.code (pc + 3) = .ok (.dup, 1) := by rw [hb]; exact d3
  have d4' : decode c.code (pc + 4) = .ok (.ldc is, 2) := by rw [hb]; exact d4
  have hstr' : vk_R own is text sa s' := vk_R.warm hW0 hstr
  obtain ⟨U, hsteps, hrun, hend, hW, hsame, ce, hce, hO⟩ := X₁.ctorThrowS hexec htr (own := own) (cls := cls) (names := names) (ic := ic) hown' hcls hnames h (fun x hx => nomatch hx) hfX hkX hcellA (by rw [hhp, hT]; exact Nat.le_refl _) (msg := .ref sa) rfl
    (g := { method := m, pc := pc + 6, locals := ls, stack := .ref sa :: .ref T.heap.size :: .ref T.heap.size :: rest, locked := none }) rfl hsize rfl rfl (rest := rest) rfl
    (by rw [hb]; exact d6) (by rw [hb]; exact d9) hout hRframes (by simp only [List.map_cons, List.sum_cons, hcat]; omega) hlocks
  obtain ⟨f1, f2⟩ := vx_frame hsame
  rw [hhp] at f1 f2
  have hWs : s.WarmedH U.vm := State.WarmedH.trans hW0 hW
  have hcl : s.vm.findClass cls = some ce.cls := by
    have h9 := hO.cls
    rw [hvm] at h9
    exact h9
  have hall : s.sameButNew ({ U with vm := s.vm } : State) locs mc ms := by
    subst hA
    obtain ⟨e1, e2⟩ := hsame
    rw [State.setFrames_setFrames] at e1
    have h2 : (T.setVm s.vm).sameButNew ({ U with vm := s.vm } : State) [] (0 + 1) (0 + 6) := ⟨e1, e2⟩
    have h3 := X.same.trans h2
    rw [List.append_nil] at h3
    exact h3.mono hc hs
  refine ⟨U, ?_, .threw T.heap.size, hrun, hend, Or.inr ⟨T.heap.size, rfl, cls, ce, locs, hx U hWs.alike f1 (fun q hq => f2 q hq (fun z hz => nomatch hz)), hce, hO.vm, hcl, hWs, hall, hf⟩⟩
  refine st1 _ ?_
  show Steps p.tables e below (T1.setTop { method := m, pc := pc + 3, locals := ls, stack := .ref T.heap.size :: rest, locked := none }) _
  jvm_step X₁.here [X₁.here.top, hexec, d3', Value.category]
  exact X₁.ldcString hexec (own := own) (text := text) (index := is) (a := sa) hown' hstr'.1 hstr'.2
    (g := { method := m, pc := pc + 4, locals := ls, stack := .ref T.heap.size :: .ref T.heap.size :: rest, locked := none }) rfl d4' _ hsteps
/-- 'throw new E("text")', the text by a wide index -/
theorem vx_throwSW {cc : ByteArray} {pc : Nat} (hexec : p.tables.exec = Jvm.exec) (hb : c.code = cc) (hl : l.stackTraces = false) {own cls text : String} {names : List String} {ik is ic mc ms sa : Nat} {A : Nat → Prop}
    (hown : s.vm.findClass own = some m.cls) (hcls : Bundle.fit cls = true) (hnames : ∀ n ∈ names, Bundle.fit n = true)
    (hk : (Cond.classLink own ik cls).before args s = true) (hini : (Cond.initialized cls).before args s = true) (hstr : vk_R own is text sa s) (hat : ∀ w ∈ vx_atS own ic cls names, w.before args s = true)
    (hgood : ∀ w ∈ Cond.classLink own ik cls :: Cond.initialized cls :: vx_atS own ic cls names, vx_ot w = true)
    (hU : vx_Zq Bundle.tN "UNASSIGNED_STACK" Bundle.steD A s s.heap) (hN : vx_Zq Bundle.tN "SUPPRESSED_SENTINEL" Bundle.listD A s s.heap) (hS : va_S A s.heap H locs) (hsize : ls.size = c.maxLocals)
    (d0 : decode cc pc = .ok (.new ik, 3)) (d3 : decode cc (pc + 3) = .ok (.dup, 1)) (d4 : decode cc (pc + 4) = .ok (.ldc_w is, 3)) (d7 : decode cc (pc + 7) = .ok (.invokespecial ic, 3)) (d10 : decode cc (pc + 10) = .ok (.athrow, 1))
    (hout : ∀ x ∈ c.exceptionTable.toList, covers x (pc + 10) = false)
    (hRframes : names.length + 3 < R.frames) (hRlocals : (rest.map fun v => v.category).sum + (13 * (names.length + 1) + 43) ≤ R.locals) (hRcells : cells + 1 ≤ R.cells) (hRslots : slots + 6 ≤ R.slots) (hlocks : meth.locks = false)
    (hx : ∀ t : State, s.vm.Alike t.vm → H.size ≤ t.heap.size → (∀ q : Nat, q < H.size → t.heap[q]? = H[q]?) → XC cls s t)
    (hf : ∀ z ∈ locs, free z.base) (hc : cells + 1 ≤ mc) (hs : slots + 6 ≤ ms) :
    W p l e R s m args below meth c H locs cells slots (vx_MQ below Qc XC args s mc ms free) (F0 m pc ls rest) := by
  intro T hT X
  have htr : e.platform.stackTraces = false := (show e.platform.stackTraces = l.stackTraces by rw [X.admits.platform]).trans hl
  have Y := vx_rebase X (R' := { frames := R.frames, locals := R.locals, cells := 1, slots := 6 }) (Nat.le_refl _) (Nat.le_refl _) hRcells hRslots
  obtain ⟨s', hA⟩ : ∃ z, z = (T.setVm s.vm).setFrames (.invoking m args :: below) := ⟨_, rfl⟩
  rw [← hA] at Y
  have hvm : s'.vm = s.vm := by rw [hA]; rfl
  have hhp : s'.heap = H := by rw [hA]; exact hT
  have hW0 : s.WarmedH s'.vm := by rw [hvm]; exact State.WarmedH.refl s
  have hat' : ∀ w ∈ vx_atS own ic cls names, w.before args s' = true := fun w hw => vx_ot_at hW0 hvm.symm (hgood w (List.mem_cons_of_mem _ (List.mem_cons_of_mem _ hw))) (hat w hw)
  have hk' : (Cond.classLink own ik cls).before args s' = true := vx_ot_at hW0 hvm.symm (hgood _ List.mem_cons_self) hk
  have hini' : (Cond.initialized cls).before args s' = true := vx_ot_at hW0 hvm.symm (hgood _ (List.mem_cons_of_mem _ List.mem_cons_self)) hini
  have hU' : vx_Zq Bundle.tN "UNASSIGNED_STACK" Bundle.steD A s' s'.heap := by rw [hhp]; exact vx_Zq.moved hW0.alike (hU.kept hS.2.1)
  have hN' : vx_Zq Bundle.tN "SUPPRESSED_SENTINEL" Bundle.listD A s' s'.heap := by rw [hhp]; exact vx_Zq.moved hW0.alike (hN.kept hS.2.1)
  have h : ∀ w ∈ Bundle.ownAtoms own ic cls names, w.before args s' = true := vx_own hat' (vx_isRefq hU'.1) (vx_isRefq hN'.1) hU'.2.word hN'.2.word
  have hown' : s'.vm.findClass own = some m.cls := by rw [hvm]; exact hown
  have hins : (Cond.instantiable cls 6).before args s' = true := h _ (by simp [Bundle.ownAtoms])
  obtain ⟨vm₁, cX, kX, hfX, hkX, -, -, X₁, st1⟩ := Y.newCold hexec (own := own) (C := cls) (index := ik) (n := 6) hown' hk' hins hini'
    (g := F0 m pc ls rest) rfl (by rw [hb]; exact d0) (Nat.le_refl _) (Nat.le_refl _)
  generalize hT1 : (T.setVm vm₁).pushCell { cls := cX, slots := kX.instanceTypes.map defaultValue, vm := .none } = T1 at X₁ st1
  have hcat : (Value.ref T.heap.size).category = 1 := rfl
  have hcellA : T1.heap[T.heap.size]? = some (freshCell cX kX) := by rw [← hT1]; exact State.heap_pushCell_size _ _
  have d3' : decode c.code (pc + 3) = .ok (.dup, 1) := by rw [hb]; exact d3
  have d4' : decode c.code (pc + 4) = .ok (.ldc_w is, 3) := by rw [hb]; exact d4
  have hstr' : vk_R own is text sa s' := vk_R.warm hW0 hstr
  obtain ⟨U, hsteps, hrun, hend, hW, hsame, ce, hce, hO⟩ := X₁.ctorThrowS hexec htr (own := own) (cls := cls) (names := names) (ic := ic) hown' hcls hnames h (fun x hx => nomatch hx) hfX hkX hcellA (by rw [hhp, hT]; exact Nat.le_refl _) (msg := .ref sa) rfl
    (g := { method := m, pc := pc + 7, locals := ls, stack := .ref sa :: .ref T.heap.size :: .ref T.heap.size :: rest, locked := none }) rfl hsize rfl rfl (rest := rest) rfl
    (by rw [hb]; exact d7) (by rw [hb]; exact d10) hout hRframes (by simp only [List.map_cons, List.sum_cons, hcat]; omega) hlocks
  obtain ⟨f1, f2⟩ := vx_frame hsame
  rw [hhp] at f1 f2
  have hWs : s.WarmedH U.vm := State.WarmedH.trans hW0 hW
  have hcl : s.vm.findClass cls = some ce.cls := by
    have h9 := hO.cls
    rw [hvm] at h9
    exact h9
  have hall : s.sameButNew ({ U with vm := s.vm } : State) locs mc ms := by
    subst hA
    obtain ⟨e1, e2⟩ := hsame
    rw [State.setFrames_setFrames] at e1
    have h2 : (T.setVm s.vm).sameButNew ({ U with vm := s.vm } : State) [] (0 + 1) (0 + 6) := ⟨e1, e2⟩
    have h3 := X.same.trans h2
    rw [List.append_nil] at h3
    exact h3.mono hc hs
  refine ⟨U, ?_, .threw T.heap.size, hrun, hend, Or.inr ⟨T.heap.size, rfl, cls, ce, locs, hx U hWs.alike f1 (fun q hq => f2 q hq (fun z hz => nomatch hz)), hce, hO.vm, hcl, hWs, hall, hf⟩⟩
  refine st1 _ ?_
  show Steps p.tables e below (T1.setTop { method := m, pc := pc + 3, locals := ls, stack := .ref T.heap.size :: rest, locked := none }) _
  jvm_step X₁.here [X₁.here.top, hexec, d3', Value.category]
  exact X₁.ldcStringW hexec (own := own) (text := text) (index := is) (a := sa) hown' hstr'.1 hstr'.2
    (g := { method := m, pc := pc + 4, locals := ls, stack := .ref T.heap.size :: .ref T.heap.size :: rest, locked := none }) rfl d4' _ hsteps
end Ends
section Bodies
variable {l : Launch}
theorem vx_ofW {y : MethodName} {ws ws' : List Cond} {rm : Room} {Pc : Array Value → State → Prop} {Qc : Array Value → State → Outcome → State → Prop} {XC : String → State → State → Prop} {mc ms : Nat} {free : Addr → Prop} {cc : ByteArray} {maxL : Nat} {ret : Option FieldType}
    (hy : plainName y.cls = true) (hw : ws = Cond.code y cc maxL ret :: ws')
    (body : ∀ p e s m args below meth c s₁, BodyLoose p l y (headSpec ws rm) cc maxL ret e s m args below meth c s₁ → c.maxLocals = maxL → (∀ x ∈ c.exceptionTable.toList, False) → Pc args s →
      W p l e (headSpec ws rm).room s m args below meth c s.heap [] 0 0 (vx_MQ below Qc XC args s mc ms free) (entryFrame m args maxL)) : vx_Met l y ws rm Pc Qc XC mc ms free := by
  refine MetFree.of_bodyS (code := cc) (maxLocals := maxL) (ret := ret) hy ?_ ?_
  · intro args s m h hn
    obtain ⟨meth, c, h1, h2, h3, h4, h5, h6, -, -⟩ := Cond.code_spec hn (atoms_spec (ws := ws) h _ (by rw [hw]; exact List.mem_cons_self))
    exact ⟨meth, c, h1, h2, h3, h4, h5, h6⟩
  · intro p e s m args below meth c s₁ B hml hP _
    have hh0 : s₁.heap = s.heap := by rw [B.state]; rfl
    have ht : ∀ x ∈ c.exceptionTable.toList, False := by
      obtain ⟨meth9, c9, h1, h2, -, -, -, -, h7, -⟩ := Cond.code_spec B.named (atoms_spec (ws := ws) B.pre _ (by rw [hw]; exact List.mem_cons_self))
      cases Option.some.inj (h1.symm.trans B.method)
      cases Option.some.inj (h2.symm.trans (Stand.of_body B).code)
      intro x hx
      rw [Array.isEmpty_iff.mp h7] at hx
      cases hx
    obtain ⟨t, a1, o, b1, b2, b3⟩ := body p e s m args below meth c s₁ B hml ht hP s₁ hh0 (Stand.of_body B)
    exact ⟨t, o, a1, b1, b2, b3⟩
/-- the table of a body with handlers -/
theorem vx_table {p : Program} {x y : MethodName} {S : Spec} {cc bytes : ByteArray} {maxL maxL' : Nat} {ret ret' : Option FieldType} {e : Env} {s s₁ : State} {m : MethodId} {args : Array Value} {below : List Frame} {meth : Method} {c : Code} {hh : List (Nat × Nat × Nat × Nat)}
    (B : BodyLoose p l y S cc maxL ret e s m args below meth c s₁) (h : (Cond.codeWith y bytes maxL' ret' hh).before args s = true) : c.exceptionTable.toList = tableOf hh := by
  obtain ⟨m9, meth9, c9, hn9, h1, h2, -, -, h6, -⟩ := Cond.codeWith_spec h
  cases Option.some.inj (hn9.symm.trans B.named)
  cases Option.some.inj (h1.symm.trans B.method)
  cases Option.some.inj (h2.symm.trans (Stand.of_body B).code)
  rw [← h6, table_eq]
end Bodies
end VXA
/-! ===== END ===== -/
/-! ===== BEGIN a static call of a method with an exception table ===== -/
section VXS
variable {p : Program} {l : Launch} {e : Env} {R : Room} {s : State} {m : MethodId} {args : Array Value} {below : List Frame} {meth : Method} {c : Code} {T : State} {H : Heap} {locs : List Loc} {cells slots : Nat}
abbrev vx_CSW (R : Room) (s : State) (args : Array Value) (own : String) (index : Nat) (y : MethodName) (bytes : ByteArray) (maxL : Nat) (ret : Option FieldType) (hh : List (Nat × Nat × Nat × Nat)) (ws : List Cond) (rm : Room) (mc ms n : Nat) : Prop :=
  (rm.cells = mc ∧ rm.slots = ms ∧ rm.frames + 1 ≤ R.frames ∧ 8 + (maxL + 11) + rm.locals ≤ R.locals ∧ (∀ w ∈ ws, ∀ (a' : Array Value) (U : State), s.WarmedH U.vm → w.before a' U = true) ∧ Cond.codeWith y bytes maxL ret hh ∈ ws) ∧
  (Cond.codeWith y bytes maxL ret hh).before args s = true ∧ (Cond.initialized y.cls).before args s = true ∧ (y.cls ≠ "java/lang/invoke/MethodHandle" ∧ y.cls ≠ "java/lang/invoke/VarHandle") ∧
  (∀ sig, parseMethodDescriptor y.desc = some sig → n = sig.parameters.length) ∧ (Cond.methodLink own index y).before args s = true ∧ (Cond.static y).before args s = true
theorem vx_cwSW {own : String} {index maxL mc ms : Nat} {y : MethodName} {bytes : ByteArray} {ret : Option FieldType} {hh : List (Nat × Nat × Nat × Nat)} {Ts ws ws' : List Cond} {rm : Room} (n : Nat) (ht : ∀ w ∈ Ts, w.before args s = true) (hT : GoodIn Ts (va_wsS own index y ws)) (hw : ws = Cond.codeWith y bytes maxL ret hh :: ws') (hrc : rm.cells = mc) (hrs : rm.slots = ms)
    (hd : y.cls ≠ "java/lang/invoke/MethodHandle" ∧ y.cls ≠ "java/lang/invoke/VarHandle" ∧ (parseMethodDescriptor y.desc).map (fun d => d.parameters.length) = some n) (hR : rm.frames + 1 ≤ R.frames ∧ 8 + (maxL + 11) + rm.locals ≤ R.locals) :
    vx_CSW R s args own index y bytes maxL ret hh ws rm mc ms n := by
  have ok : ∀ w ∈ va_wsS own index y ws, w.before args s = true := fun w h => ht w (hT w h).1
  have hG : GoodIn Ts ws := fun w h => hT w (by unfold va_wsS; exact List.mem_append_right _ h)
  have hc : Cond.codeWith y bytes maxL ret hh ∈ ws := by rw [hw]; exact List.mem_cons_self
  refine ⟨⟨hrc, hrs, hR.1, hR.2, pay_in ht hG, hc⟩, ht _ (hG _ hc).1, ok _ (by simp [va_wsS]), ⟨hd.1, hd.2.1⟩, fun sig h => ?_, ok _ (by simp [va_wsS]), ok _ (by simp [va_wsS])⟩
  have h2 := hd.2.2
  rw [h] at h2
  exact (Option.some.inj h2).symm
theorem vx_callSW (X : Stand p l e R s m args below meth c T locs cells slots) (hexec : p.tables.exec = Jvm.exec) {own : String} {index : Nat} {y : MethodName} {bytes : ByteArray} {maxL : Nat} {ret : Option FieldType} {hh : List (Nat × Nat × Nat × Nat)}
    (hown : s.vm.findClass own = some m.cls) (hlink : (Cond.methodLink own index y).before args s = true) (hstat : (Cond.static y).before args s = true) (hinit : (Cond.initialized y.cls).before args s = true)
    (hcode : (Cond.codeWith y bytes maxL ret hh).before args s = true) (hy : y.cls ≠ "java/lang/invoke/MethodHandle" ∧ y.cls ≠ "java/lang/invoke/VarHandle")
    {W9 : Nat} {Pre : Pt → Array Value → Prop} {Post : Pt → Array Value → Option Value → Pt → Prop} (hK : Back l R p e below s args y 3 W9 Pre Post)
    {g : JFrame} (hg : g.method = m) (hsize : g.locals.size = c.maxLocals) {argsL rest : List Value} (hlen : ∀ sig, parseMethodDescriptor y.desc = some sig → argsL.length = sig.parameters.length)
    (hstack : g.stack = argsL.reverse ++ rest) (hW : 2 * g.monitorRoom + (rest.map fun v => v.category).sum ≤ W9) (hdg : decode c.code g.pc = .ok (.invokestatic index, 3))
    (hpre : ∀ vm₁, s.WarmedH vm₁ → Pre ⟨T.setVm vm₁, locs, cells, slots⟩ argsL.toArray) :
    ∃ (v : Option Value) (vm₁ : Vm) (B : Pt), s.WarmedH vm₁ ∧ Stand p l e R s m args below meth c B.U B.locs B.cells B.slots ∧ Post ⟨T.setVm vm₁, locs, cells, slots⟩ argsL.toArray v B ∧
      ∀ target, Steps p.tables e below (B.U.setTop { g with pc := g.pc + 3, stack := v.toList ++ rest }) target → Steps p.tables e below (T.setTop g) target := by
  obtain ⟨mk, methM, cM, hnamed, hmethM, -, -, -, -, -, -, hsigM⟩ := Cond.codeWith_spec hcode
  have hstatic : methM.isStatic = true := Cond.static_spec hnamed hmethM hstat
  obtain ⟨kP, hkP, -⟩ := className_of_methodNamed hnamed
  have hinitP : kP.init = .initialized := Cond.initialized_spec (findClass_of_methodNamed hnamed) hkP hinit
  obtain ⟨vm₁, X₁, hstep₁⟩ := X.invokestatic hexec hown hlink hnamed hmethM hstatic hkP hinitP hy (g := g) hg (argsL := argsL) (rest := rest) (hlen _ hsigM) hstack hdg
  obtain ⟨v, B, X', hpost, hsteps⟩ := hK m meth c ⟨T.setVm vm₁, locs, cells, slots⟩ { g with stack := rest } (.invokestatic index) mk argsL.toArray X₁ hg hsize hdg hW (X₁.named hnamed) (hpre vm₁ X₁.warmed)
  exact ⟨v, vm₁, B, X₁.warmed, X', hpost, fun target h => hstep₁ _ fun acts => by rw [doInvoke_state]; exact hsteps.trans h⟩
theorem vx_runSW {y : MethodName} {bytes cc : ByteArray} {maxL nL mc ms n index : Nat} {ret : Option FieldType} {hh : List (Nat × Nat × Nat × Nat)} {ws : List Cond} {rm : Room} {Pc : Array Value → State → Prop} {Qc : Array Value → State → Outcome → State → Prop} {free : Addr → Prop} {Ts : List Cond} {own : String} {As rest : List Value} {g : JFrame}
    (S : CallFix p m c cc nL s args Ts own) (hM : Met l y ws rm Pc Qc mc ms free) (cw : vx_CSW R s args own index y bytes maxL ret hh ws rm mc ms n) (hp : PreS s H Pc As)
    (hg : g.method = m) (hn : As.length = n) (hsize : g.locals.size = nL) (hstack : g.stack = As.reverse ++ rest) (hW : 2 * g.monitorRoom + (rest.map fun v => v.category).sum ≤ 8) (hdg : decode cc g.pc = .ok (.invokestatic index, 3)) (hf : cells + mc ≤ R.cells ∧ slots + ms ≤ R.slots) :
    va_Run p l e R s m args below meth c H locs cells slots mc ms g rest (Qc As.toArray) (free) := by
  obtain ⟨⟨hrc, hrs, hfr, hlo, hws, hcw⟩, hcode, hini, hy, hlen, hl, hstt⟩ := cw
  have hK : Back l R p e below s args y 3 8 (PreOf R mc ms Pc) (PostOf Qc mc ms free) := va_backW (hh := hh) (bytes := bytes) (maxL := maxL) (ret := ret) hM hp.1 hrc hrs hfr hlo hws hcw (fun a' U hW => word_at hW (Or.inl (by first | rfl | simp [Cond.onTables, Cond.keeps, Cond.steady])) hini)
  obtain ⟨hx, hb, hml, ho, -⟩ := S
  intro T hT X
  obtain ⟨v, vm₁, ⟨U', l2, c2, s2⟩, hW₁, X', ⟨g', mk, t, L, e1, e2, hq, h1, hL, h2, h3⟩, st⟩ := vx_callSW X hx (hh := hh) (bytes := bytes) (maxL := maxL) (ret := ret) ho hl hstt hini hcode hy hK hg (hsize.trans hml.symm) (argsL := As) (rest := rest) (fun sig h => hn.trans (hlen sig h)) hstack hW (by rw [hb]; exact hdg)
    (fun vm₁ hW₁ => ⟨hf.1, hf.2, hp.2 (T.setVm vm₁) hT hW₁⟩)
  dsimp only [Pt.U, Pt.locs, Pt.cells, Pt.slots] at X' e1 e2 h1 h2 h3 st
  subst h1; subst h2; subst h3
  exact ⟨v, (T.setVm vm₁).calling g' mk As.toArray, t, U', L, hT, X', hL, e1, e2, hq, st⟩
/-- not caught here, past rows that name other classes: it goes on to the caller -/
theorem vx_outP {p : Program} {l : Launch} {e : Env} {R : Room} {s : State} {m : MethodId} {args : Array Value} {below : List Frame} {meth : Method} {c : Code} {H : Heap} {locs : List Loc} {cells slots : Nat} {free : Addr → Prop} {ls : Array Slot} {rest : List Value} {Qc : Array Value → State → Outcome → State → Prop} {XC : String → State → State → Prop}
    {pc : Nat} {own E : String} {ce : Cell} {q : Addr} {mc ms : Nat} (hown : s.vm.findClass own = some m.cls) (hlocks : meth.locks = false)
    (hpass : ∀ z ∈ c.exceptionTable.toList, covers z pc = false ∨ (z.catchType ≠ 0 ∧ ∃ nm : String, (Cond.classLink own z.catchType nm).before args s = true ∧ va_Nc E nm s)) (hcell : H[q]? = some ce) (hv : ce.vm = .none) (hcl : s.vm.findClass E = some ce.cls)
    (hx : ∀ t : State, t.heap = H → s.vm.Alike t.vm → XC E s t) (hf : ∀ z ∈ locs, free z.base) (hc : cells ≤ mc) (hs : slots ≤ ms) :
    vx_W p l e R s m args below meth c H locs cells slots (vx_MQ below Qc XC args s mc ms free) (F0 m pc ls rest) q := by
  intro T hT X
  have hpl : e.platform.magicAccessors = ({} : Platform).magicAccessors := by rw [X.admits.platform]
  obtain ⟨vm', hW', X', st⟩ := X.outThrough hlocks q (g := F0 m pc ls rest) rfl rfl rfl (cell := ce) (by rw [hT]; exact hcell) (by rw [hv]; rfl)
    (by obtain ⟨k9, h9, -⟩ := Vm.findClass_spec hcl; exact ⟨k9, h9⟩) (fun z hz => by
      rcases hpass z hz with h | ⟨hz0, nm, hl1, hn1⟩
      · exact Or.inl h
      · obtain ⟨c6, hc6, hcl6⟩ := Cond.classLink_spec hown hl1 e.platform hpl
        obtain ⟨a8, b8, h1, h2, h3⟩ := hn1
        cases Option.some.inj (h1.symm.trans hcl)
        cases Option.some.inj (h2.symm.trans hc6)
        exact Or.inr ⟨hz0, _, hcl6, h3⟩)
  obtain ⟨g₀, hfr⟩ := X'.frames_eq
  have hcell9 : ((T.setVm vm').setFrames (.throwing q :: below)).heap[q]? = some ce := by
    show T.heap[q]? = some ce
    rw [hT]; exact hcell
  have hend : Ended ((T.setVm vm').setFrames (.throwing q :: below)) below (.threw q) := State.frames_setFrames _ (State.cur_lt_of_frames hfr)
  refine ⟨(T.setVm vm').setFrames (.throwing q :: below), ?_, .threw q, X'.here.running, hend, Or.inr ⟨q, rfl, E, ce, locs, hx _ hT (X'.ends _).1.alike, hcell9, hv, hcl, (X'.ends _).1, (X'.ends _).2.mono hc hs, hf⟩⟩
  rw [X.pushThrowing_eq]
  exact st
/-- a thing of a world lies in the heap -/
theorem vx_lt {D : va_G} {cl : List vw_C} {ws : va_W} {H1 : Heap} (h : va_P D cl ws H1) {k : Nat} {q : Nat × va_E} (hk : ws[k]? = some q) : q.1 < H1.size := (h k q hk).lt
end VXS
/-! ===== END ===== -/
/-! ===== BEGIN methods with a table of their own: called by a name, returning or throwing ===== -/
section VXH
/-! vx_backW, vx_callVX, vx_callSX, vx_callVW, vx_runVW, vx_runVX, vx_runSX, vx_ofWH follow the same proofs as their sisters above (Free/Laws.lean, Shelf42/LK1.lean); vx_outP calls Shelf42/NT130.lean (outThrough). -/
section
variable {l : Launch} {R : Room} {p : Program} {e : Env} {below : List Frame} {s : State} {sargs : Array Value} {y : MethodName} {len W9 : Nat}
theorem vx_backW {ws : List Cond} {rm : Room} {Pc : Array Value → State → Prop} {Qc : Array Value → State → Outcome → State → Prop} {XC : String → State → State → Prop} {mc ms : Nat} {free : Addr → Prop} {bytes : ByteArray} {maxL : Nat} {ret : Option FieldType} {hh : List (Nat × Nat × Nat × Nat)}
    (hM : vx_Met l y ws rm Pc Qc XC mc ms free) (hblind : FrameBlind Pc) (hrc : rm.cells = mc) (hrs : rm.slots = ms)
    (hframes : rm.frames + 1 ≤ R.frames) (hlocals : W9 + (maxL + 11) + rm.locals ≤ R.locals)
    (hws : ∀ w ∈ ws, ∀ a' U, s.WarmedH U.vm → w.before a' U = true) (hcode : Cond.codeWith y bytes maxL ret hh ∈ ws) (hinit : ∀ a' U, s.WarmedH U.vm → (Cond.initialized y.cls).before a' U = true) :
    vx_Back l R p e below s sargs y len W9 (PreOf R mc ms Pc) (PostOf Qc mc ms free) (vx_Post XC mc ms free) := by
  intro m meth c A g ig mk a X hg hsize hdg hW hn hp
  have h1 : (headSpec ws rm).pre.before a A.U = true := atoms_intro fun w hw => hws w hw _ _ X.warmed
  have h2 : (Cond.codeWith y bytes maxL ret hh).before a A.U = true := hws _ hcode _ _ X.warmed
  have h3 : (Cond.initialized y.cls).before a A.U = true := hinit _ _ X.warmed
  have h4 : A.cells + (headSpec ws rm).room.cells ≤ R.cells := by rw [show (headSpec ws rm).room.cells = mc from hrc]; exact hp.1
  have h5 : A.slots + (headSpec ws rm).room.slots ≤ R.slots := by rw [show (headSpec ws rm).room.slots = ms from hrs]; exact hp.2.1
  have hPc : Pc a (A.U.calling g mk a) := hblind _ _ _ _ hp.2.2
  obtain ⟨U, Ls, c0, s0⟩ := A
  dsimp only [Pt.U, Pt.locs, Pt.cells, Pt.slots] at h1 h2 h3 h4 h5 X hn hPc ⊢
  obtain ⟨m9, methY, cY, hn9, hmY, hcY, -, hlY, -⟩ := Cond.codeWith_spec h2
  cases Option.some.inj (hn9.symm.trans hn)
  obtain ⟨kY, hkY, -⟩ := className_of_methodNamed hn
  have hinitY : kY.init = .initialized := Cond.initialized_spec (findClass_of_methodNamed hn) hkY h3
  have h : At U g.method c below := by rw [hg]; exact X.here
  have hlocals9 : W9 + (maxL + 11) + (headSpec ws rm).room.locals ≤ R.locals := hlocals
  have happ : (headSpec ws rm).appliesLoose y e.platform (U.calling g mk a) = true :=
    Spec.appliesLoose_calling (g := g) h hdg hn hkY hinitY
      (X.room_calling (g := g) (R' := (headSpec ws rm).room) hsize hmY hcY hframes (by rw [hlY]; omega) h4 h5) h1
  obtain ⟨mid, hmid⟩ := h.above
  have hfr : (U.setTop g).frames = (.java g :: mid) ++ below := by rw [State.frames_setTop' g h.top, hmid]; rfl
  obtain ⟨o, s₂, hsteps, -, hend, hq⟩ := Steps.callFree hM p X.admits X.cas X.clock (acts := []) hfr happ hPc trivial
  have hq' : vx_Q Qc XC mc ms free a (U.calling g mk a) o s₂ := hq
  rw [State.frames_setTop' g h.top] at hend
  obtain ⟨g₀, hg0⟩ := Option.isSome_iff_exists.mp h.top
  obtain ⟨r, hr⟩ := State.topJava?_eq_some.mp hg0
  have hr' : (({ U with heap := s₂.heap, slotsUsed := s₂.slotsUsed } : State).setVm s₂.vm).frames = .java g₀ :: r := hr
  rcases hq' with ⟨hqc, L, hfe, hL⟩ | ⟨q, rfl, E, ce, L, hx, hce, hcv, hcl, hW₂, hsm, hL⟩
  · obtain ⟨⟨v, rfl⟩, hW₂, e2, q2, q3, q4, q5, q6⟩ := id hfe
    have e3 : s₂ = ({ (U.calling g mk a).setFrames s₂.frames with heap := s₂.heap, slotsUsed := s₂.slotsUsed } : State).setVm s₂.vm := by
      have : s₂ = ({ s₂ with vm := (U.calling g mk a).vm } : State).setVm s₂.vm := rfl
      rw [e2] at this
      exact this
    obtain ⟨c₂, i₂, len₂, hc₂, hd₂, hf₂⟩ := hend
    have hW' : U.WarmedH s₂.vm := hW₂
    have hcc : c₂ = c := by
      have h1 : s₂.code? g.method = U.code? g.method := by
        rw [State.code?_eq, State.code?_eq, hW'.alike.method?]
      exact Option.some.inj (hc₂.symm.trans (h1.trans h.code))
    subst hcc
    have hlen : len₂ = len := by rw [hdg] at hd₂; cases hd₂; rfl
    subst hlen
    have hs₂ : s₂ = (({ U with heap := s₂.heap, slotsUsed := s₂.slotsUsed } : State).setVm s₂.vm).setTop { g with pc := g.pc + len₂, stack := v.toList ++ g.stack } := by
      refine e3.trans ?_
      rw [hf₂, State.calling_eq h.top, State.setFrames_setFrames, State.setTop_of_frames _ hr', hr]
      rfl
    have hsame : U.sameButNew ({ U with heap := s₂.heap, slotsUsed := s₂.slotsUsed } : State) L mc ms := by
      refine ⟨?_, q2, q3, q4, q5, q6⟩
      obtain ⟨t, ht, -⟩ := State.frames_cons hr
      show ({ U with heap := s₂.heap, slotsUsed := s₂.slotsUsed } : State) = { U.setFrames U.frames with heap := s₂.heap, slotsUsed := s₂.slotsUsed }
      rw [State.setFrames_self ht]
    subst hg
    refine Or.inl ⟨v, ⟨(({ U with heap := s₂.heap, slotsUsed := s₂.slotsUsed } : State).setVm s₂.vm), Ls ++ L, c0 + mc, s0 + ms⟩,
      ⟨X.admits, X.cas, X.clock, X.frames, X.room, X.hears, X.method, X.code, (X.here.setHeapUsed s₂.heap s₂.slotsUsed).setVm hW'.alike, X.tail, State.WarmedH.trans X.warmed hW', X.limits, X.bytes, X.same.trans (hsame.setVm s.vm)⟩,
      ⟨g, mk, s₂, L, rfl, rfl, hqc, rfl, hL, rfl, rfl⟩, ?_⟩
    show Steps p.tables e below _ ((({ U with heap := s₂.heap, slotsUsed := s₂.slotsUsed } : State).setVm s₂.vm).setTop { g with pc := g.pc + len₂, stack := v.toList ++ g.stack })
    rw [← hs₂]
    exact hsteps
  · obtain ⟨e2, q2, q3, q4, q5, q6⟩ := id hsm
    have e3 : s₂ = ({ (U.calling g mk a).setFrames s₂.frames with heap := s₂.heap, slotsUsed := s₂.slotsUsed } : State).setVm s₂.vm := by
      have : s₂ = ({ s₂ with vm := (U.calling g mk a).vm } : State).setVm s₂.vm := rfl
      rw [e2] at this
      exact this
    have hf₂ : s₂.frames = .throwing q :: .java g :: U.frames.tail := hend
    have hW' : U.WarmedH s₂.vm := hW₂
    have hs₂ : s₂ = ((({ U with heap := s₂.heap, slotsUsed := s₂.slotsUsed } : State).setVm s₂.vm).setTop g).pushFrame (.throwing q) := by
      refine e3.trans ?_
      rw [hf₂, State.calling_eq h.top, State.setFrames_setFrames, State.pushFrame, State.frames_setTop _ hr', State.setTop_of_frames _ hr', State.setFrames_setFrames, hr]
      rfl
    have hsame : U.sameButNew ({ U with heap := s₂.heap, slotsUsed := s₂.slotsUsed } : State) L mc ms := by
      refine ⟨?_, q2, q3, q4, q5, q6⟩
      obtain ⟨t, ht, -⟩ := State.frames_cons hr
      show ({ U with heap := s₂.heap, slotsUsed := s₂.slotsUsed } : State) = { U.setFrames U.frames with heap := s₂.heap, slotsUsed := s₂.slotsUsed }
      rw [State.setFrames_self ht]
    subst hg
    refine Or.inr ⟨q, ⟨(({ U with heap := s₂.heap, slotsUsed := s₂.slotsUsed } : State).setVm s₂.vm), Ls ++ L, c0 + mc, s0 + ms⟩,
      ⟨X.admits, X.cas, X.clock, X.frames, X.room, X.hears, X.method, X.code, (X.here.setHeapUsed s₂.heap s₂.slotsUsed).setVm hW'.alike, X.tail, State.WarmedH.trans X.warmed hW', X.limits, X.bytes, X.same.trans (hsame.setVm s.vm)⟩,
      ⟨g, mk, s₂, L, E, ce, rfl, rfl, hx, hce, hcv, hcl, rfl, hL, rfl, rfl⟩, ?_⟩
    show Steps p.tables e below _ (((({ U with heap := s₂.heap, slotsUsed := s₂.slotsUsed } : State).setVm s₂.vm).setTop g).pushFrame (.throwing q))
    rw [← hs₂]
    exact hsteps
end
variable {p : Program} {l : Launch} {e : Env} {R : Room} {s : State} {m : MethodId} {args : Array Value} {below : List Frame} {meth : Method} {c : Code} {T : State} {H : Heap} {locs : List Loc} {cells slots : Nat}
theorem vx_callVX (X : Stand p l e R s m args below meth c T locs cells slots) (hexec : p.tables.exec = Jvm.exec) {own C : String} {index : Nat} {y : MethodName} {bytes : ByteArray} {maxL : Nat} {ret : Option FieldType} {hh : List (Nat × Nat × Nat × Nat)}
    (hown : s.vm.findClass own = some m.cls) (hlink : (Cond.methodLink own index y).before args s = true) (hinst : (Cond.instanceMethod y).before args s = true) (hsel : (Cond.selects C y y).before args s = true)
    (hcode : (Cond.codeWith y bytes maxL ret hh).before args s = true) (hy : y.cls ≠ "java/lang/invoke/MethodHandle" ∧ y.cls ≠ "java/lang/invoke/VarHandle")
    {W9 : Nat} {Pre : Pt → Array Value → Prop} {Post : Pt → Array Value → Option Value → Pt → Prop} {PostX : Pt → Array Value → Addr → Pt → Prop} (hK : vx_Back l R p e below s args y 3 W9 Pre Post PostX)
    {b : Addr} {cellB : Cell} (hcell : T.heap[b]? = some cellB) (hobj : cellB.vm.isStatics = false) (hcls : s.vm.findClass C = some cellB.cls)
    {g : JFrame} (hg : g.method = m) (hsize : g.locals.size = c.maxLocals) {argsL rest : List Value} (hlen : ∀ sig, parseMethodDescriptor y.desc = some sig → argsL.length = sig.parameters.length)
    (hstack : g.stack = argsL.reverse ++ .ref b :: rest) (hW : 2 * g.monitorRoom + (rest.map fun v => v.category).sum ≤ W9) (hdg : decode c.code g.pc = .ok (.invokevirtual index, 3))
    (hpre : ∀ vm₁, s.WarmedH vm₁ → Pre ⟨T.setVm vm₁, locs, cells, slots⟩ (Value.ref b :: argsL).toArray) :
    (∃ (v : Option Value) (vm₁ : Vm) (B : Pt), s.WarmedH vm₁ ∧ Stand p l e R s m args below meth c B.U B.locs B.cells B.slots ∧ Post ⟨T.setVm vm₁, locs, cells, slots⟩ (Value.ref b :: argsL).toArray v B ∧
      ∀ target, Steps p.tables e below (B.U.setTop { g with pc := g.pc + 3, stack := v.toList ++ rest }) target → Steps p.tables e below (T.setTop g) target) ∨
    (∃ (q : Addr) (vm₁ : Vm) (B : Pt), s.WarmedH vm₁ ∧ Stand p l e R s m args below meth c B.U B.locs B.cells B.slots ∧ PostX ⟨T.setVm vm₁, locs, cells, slots⟩ (Value.ref b :: argsL).toArray q B ∧
      Steps p.tables e below (T.setTop g) ((B.U.setTop { g with stack := rest }).pushFrame (.throwing q))) := by
  obtain ⟨mk, methM, hnamed, hmethM, hstM, habM⟩ := Cond.instanceMethod_spec hinst
  obtain ⟨m8, methM', cM, hn8, hmethM', -, -, -, -, -, -, hsigM⟩ := Cond.codeWith_spec hcode
  cases Option.some.inj (hn8.symm.trans hnamed)
  cases hmethM.symm.trans hmethM'
  obtain ⟨c2, r2, m2, q1, q2, q3, q4, kP, hkP, hkPi⟩ := Cond.selects_spec hsel
  cases hcls.symm.trans q1
  cases (State.methodFound?_of_named hnamed hy).symm.trans q2
  cases hnamed.symm.trans q3
  have hselP : selectMethod e.platform s.vm cellB.cls mk = .method mk := by rw [Launch.admits_selectMethod X.admits]; exact q4
  obtain ⟨vm₁, X₁, hstep₁⟩ := X.invokevirtual hexec hown hlink hnamed hmethM hstM hkP hkPi hy (a := b) (cell := cellB) hcell
    (fun z h => by rw [h] at hobj; cases hobj) hselP hmethM habM hkP hkPi (g := g) hg (argsL := argsL) (rest := rest) (hlen _ hsigM) hstack hdg
  rcases hK m meth c ⟨T.setVm vm₁, locs, cells, slots⟩ { g with stack := rest } (.invokevirtual index) mk (Value.ref b :: argsL).toArray X₁ hg hsize hdg hW (X₁.named hnamed) (hpre vm₁ X₁.warmed) with ⟨v, B, X', hpost, hsteps⟩ | ⟨q, B, X', hpost, hsteps⟩
  · exact Or.inl ⟨v, vm₁, B, X₁.warmed, X', hpost, fun target h => hstep₁ _ fun acts => by rw [doInvoke_state]; exact hsteps.trans h⟩
  · exact Or.inr ⟨q, vm₁, B, X₁.warmed, X', hpost, hstep₁ _ fun acts => by rw [doInvoke_state]; exact hsteps⟩
theorem vx_callSX (X : Stand p l e R s m args below meth c T locs cells slots) (hexec : p.tables.exec = Jvm.exec) {own : String} {index : Nat} {y : MethodName} {bytes : ByteArray} {maxL : Nat} {ret : Option FieldType} {hh : List (Nat × Nat × Nat × Nat)}
    (hown : s.vm.findClass own = some m.cls) (hlink : (Cond.methodLink own index y).before args s = true) (hstat : (Cond.static y).before args s = true) (hinit : (Cond.initialized y.cls).before args s = true)
    (hcode : (Cond.codeWith y bytes maxL ret hh).before args s = true) (hy : y.cls ≠ "java/lang/invoke/MethodHandle" ∧ y.cls ≠ "java/lang/invoke/VarHandle")
    {W9 : Nat} {Pre : Pt → Array Value → Prop} {Post : Pt → Array Value → Option Value → Pt → Prop} {PostX : Pt → Array Value → Addr → Pt → Prop} (hK : vx_Back l R p e below s args y 3 W9 Pre Post PostX)
    {g : JFrame} (hg : g.method = m) (hsize : g.locals.size = c.maxLocals) {argsL rest : List Value} (hlen : ∀ sig, parseMethodDescriptor y.desc = some sig → argsL.length = sig.parameters.length)
    (hstack : g.stack = argsL.reverse ++ rest) (hW : 2 * g.monitorRoom + (rest.map fun v => v.category).sum ≤ W9) (hdg : decode c.code g.pc = .ok (.invokestatic index, 3))
    (hpre : ∀ vm₁, s.WarmedH vm₁ → Pre ⟨T.setVm vm₁, locs, cells, slots⟩ argsL.toArray) :
    (∃ (v : Option Value) (vm₁ : Vm) (B : Pt), s.WarmedH vm₁ ∧ Stand p l e R s m args below meth c B.U B.locs B.cells B.slots ∧ Post ⟨T.setVm vm₁, locs, cells, slots⟩ argsL.toArray v B ∧
      ∀ target, Steps p.tables e below (B.U.setTop { g with pc := g.pc + 3, stack := v.toList ++ rest }) target → Steps p.tables e below (T.setTop g) target) ∨
    (∃ (q : Addr) (vm₁ : Vm) (B : Pt), s.WarmedH vm₁ ∧ Stand p l e R s m args below meth c B.U B.locs B.cells B.slots ∧ PostX ⟨T.setVm vm₁, locs, cells, slots⟩ argsL.toArray q B ∧
      Steps p.tables e below (T.setTop g) ((B.U.setTop { g with stack := rest }).pushFrame (.throwing q))) := by
  obtain ⟨mk, methM, cM, hnamed, hmethM, -, -, -, -, -, -, hsigM⟩ := Cond.codeWith_spec hcode
  have hstatic : methM.isStatic = true := Cond.static_spec hnamed hmethM hstat
  obtain ⟨kP, hkP, -⟩ := className_of_methodNamed hnamed
  have hinitP : kP.init = .initialized := Cond.initialized_spec (findClass_of_methodNamed hnamed) hkP hinit
  obtain ⟨vm₁, X₁, hstep₁⟩ := X.invokestatic hexec hown hlink hnamed hmethM hstatic hkP hinitP hy (g := g) hg (argsL := argsL) (rest := rest) (hlen _ hsigM) hstack hdg
  rcases hK m meth c ⟨T.setVm vm₁, locs, cells, slots⟩ { g with stack := rest } (.invokestatic index) mk argsL.toArray X₁ hg hsize hdg hW (X₁.named hnamed) (hpre vm₁ X₁.warmed) with ⟨v, B, X', hpost, hsteps⟩ | ⟨q, B, X', hpost, hsteps⟩
  · exact Or.inl ⟨v, vm₁, B, X₁.warmed, X', hpost, fun target h => hstep₁ _ fun acts => by rw [doInvoke_state]; exact hsteps.trans h⟩
  · exact Or.inr ⟨q, vm₁, B, X₁.warmed, X', hpost, hstep₁ _ fun acts => by rw [doInvoke_state]; exact hsteps⟩
theorem vx_callVW (X : Stand p l e R s m args below meth c T locs cells slots) (hexec : p.tables.exec = Jvm.exec) {own C : String} {index : Nat} {y : MethodName} {bytes : ByteArray} {maxL : Nat} {ret : Option FieldType} {hh : List (Nat × Nat × Nat × Nat)}
    (hown : s.vm.findClass own = some m.cls) (hlink : (Cond.methodLink own index y).before args s = true) (hinst : (Cond.instanceMethod y).before args s = true) (hsel : (Cond.selects C y y).before args s = true)
    (hcode : (Cond.codeWith y bytes maxL ret hh).before args s = true) (hy : y.cls ≠ "java/lang/invoke/MethodHandle" ∧ y.cls ≠ "java/lang/invoke/VarHandle")
    {W9 : Nat} {Pre : Pt → Array Value → Prop} {Post : Pt → Array Value → Option Value → Pt → Prop} (hK : Back l R p e below s args y 3 W9 Pre Post)
    {b : Addr} {cellB : Cell} (hcell : T.heap[b]? = some cellB) (hobj : cellB.vm.isStatics = false) (hcls : s.vm.findClass C = some cellB.cls)
    {g : JFrame} (hg : g.method = m) (hsize : g.locals.size = c.maxLocals) {argsL rest : List Value} (hlen : ∀ sig, parseMethodDescriptor y.desc = some sig → argsL.length = sig.parameters.length)
    (hstack : g.stack = argsL.reverse ++ .ref b :: rest) (hW : 2 * g.monitorRoom + (rest.map fun v => v.category).sum ≤ W9) (hdg : decode c.code g.pc = .ok (.invokevirtual index, 3))
    (hpre : ∀ vm₁, s.WarmedH vm₁ → Pre ⟨T.setVm vm₁, locs, cells, slots⟩ (Value.ref b :: argsL).toArray) :
    ∃ (v : Option Value) (vm₁ : Vm) (B : Pt), s.WarmedH vm₁ ∧ Stand p l e R s m args below meth c B.U B.locs B.cells B.slots ∧ Post ⟨T.setVm vm₁, locs, cells, slots⟩ (Value.ref b :: argsL).toArray v B ∧
      ∀ target, Steps p.tables e below (B.U.setTop { g with pc := g.pc + 3, stack := v.toList ++ rest }) target → Steps p.tables e below (T.setTop g) target := by
  obtain ⟨mk, methM, hnamed, hmethM, hstM, habM⟩ := Cond.instanceMethod_spec hinst
  obtain ⟨m8, methM', cM, hn8, hmethM', -, -, -, -, -, -, hsigM⟩ := Cond.codeWith_spec hcode
  cases Option.some.inj (hn8.symm.trans hnamed)
  cases hmethM.symm.trans hmethM'
  obtain ⟨c2, r2, m2, q1, q2, q3, q4, kP, hkP, hkPi⟩ := Cond.selects_spec hsel
  cases hcls.symm.trans q1
  cases (State.methodFound?_of_named hnamed hy).symm.trans q2
  cases hnamed.symm.trans q3
  have hselP : selectMethod e.platform s.vm cellB.cls mk = .method mk := by rw [Launch.admits_selectMethod X.admits]; exact q4
  obtain ⟨vm₁, X₁, hstep₁⟩ := X.invokevirtual hexec hown hlink hnamed hmethM hstM hkP hkPi hy (a := b) (cell := cellB) hcell
    (fun z h => by rw [h] at hobj; cases hobj) hselP hmethM habM hkP hkPi (g := g) hg (argsL := argsL) (rest := rest) (hlen _ hsigM) hstack hdg
  obtain ⟨v, B, X', hpost, hsteps⟩ := hK m meth c ⟨T.setVm vm₁, locs, cells, slots⟩ { g with stack := rest } (.invokevirtual index) mk (Value.ref b :: argsL).toArray X₁ hg hsize hdg hW (X₁.named hnamed) (hpre vm₁ X₁.warmed)
  exact ⟨v, vm₁, B, X₁.warmed, X', hpost, fun target h => hstep₁ _ fun acts => by rw [doInvoke_state]; exact hsteps.trans h⟩
abbrev vx_CVW (R : Room) (s : State) (args : Array Value) (own C : String) (index : Nat) (y : MethodName) (bytes : ByteArray) (maxL : Nat) (ret : Option FieldType) (hh : List (Nat × Nat × Nat × Nat)) (ws : List Cond) (rm : Room) (mc ms n : Nat) : Prop :=
  (rm.cells = mc ∧ rm.slots = ms ∧ rm.frames + 1 ≤ R.frames ∧ 8 + (maxL + 11) + rm.locals ≤ R.locals ∧ (∀ w ∈ ws, ∀ (a' : Array Value) (U : State), s.WarmedH U.vm → w.before a' U = true) ∧ Cond.codeWith y bytes maxL ret hh ∈ ws) ∧
  (Cond.codeWith y bytes maxL ret hh).before args s = true ∧ (Cond.initialized y.cls).before args s = true ∧ (y.cls ≠ "java/lang/invoke/MethodHandle" ∧ y.cls ≠ "java/lang/invoke/VarHandle") ∧
  (∀ sig, parseMethodDescriptor y.desc = some sig → n = sig.parameters.length) ∧ (Cond.methodLink own index y).before args s = true ∧ (Cond.instanceMethod y).before args s = true ∧ (Cond.selects C y y).before args s = true
theorem vx_cwVW {own C : String} {index maxL mc ms : Nat} {y : MethodName} {bytes : ByteArray} {ret : Option FieldType} {hh : List (Nat × Nat × Nat × Nat)} {Ts ws ws' : List Cond} {rm : Room} (n : Nat) (ht : ∀ w ∈ Ts, w.before args s = true) (hT : GoodIn Ts (wsV own index C y ws)) (hw : ws = Cond.codeWith y bytes maxL ret hh :: ws') (hrc : rm.cells = mc) (hrs : rm.slots = ms)
    (hd : y.cls = C ∧ y.cls ≠ "java/lang/invoke/MethodHandle" ∧ y.cls ≠ "java/lang/invoke/VarHandle" ∧ (parseMethodDescriptor y.desc).map (fun d => d.parameters.length) = some n) (hR : rm.frames + 1 ≤ R.frames ∧ 8 + (maxL + 11) + rm.locals ≤ R.locals) :
    vx_CVW R s args own C index y bytes maxL ret hh ws rm mc ms n := by
  obtain ⟨hC, hd⟩ := hd
  subst hC
  have ok : ∀ w ∈ wsV own index y.cls y ws, w.before args s = true := fun w h => ht w (hT w h).1
  have hG : GoodIn Ts ws := fun w h => hT w (by unfold wsV; exact List.mem_append_right _ h)
  have hc : Cond.codeWith y bytes maxL ret hh ∈ ws := by rw [hw]; exact List.mem_cons_self
  refine ⟨⟨hrc, hrs, hR.1, hR.2, pay_in ht hG, hc⟩, ht _ (hG _ hc).1, ok _ (by simp [wsV]), ⟨hd.1, hd.2.1⟩, fun sig h => ?_, ok _ (by simp [wsV]), ok _ (by simp [wsV]), ok _ (by simp [wsV])⟩
  have h2 := hd.2.2
  rw [h] at h2
  exact (Option.some.inj h2).symm
theorem vx_runVW {y : MethodName} {bytes cc : ByteArray} {maxL nL mc ms n index : Nat} {ret : Option FieldType} {hh : List (Nat × Nat × Nat × Nat)} {ws : List Cond} {rm : Room} {Pc : Array Value → State → Prop} {Qc : Array Value → State → Outcome → State → Prop} {free : Addr → Prop} {Ts : List Cond} {own C : String} {b : Addr} {As rest : List Value} {g : JFrame}
    (S : CallFix p m c cc nL s args Ts own) (hM : Met l y ws rm Pc Qc mc ms free) (cw : vx_CVW R s args own C index y bytes maxL ret hh ws rm mc ms n) (hp : PreV s H C b Pc As)
    (hg : g.method = m) (hn : As.length = n) (hsize : g.locals.size = nL) (hstack : g.stack = As.reverse ++ .ref b :: rest) (hW : 2 * g.monitorRoom + (rest.map fun v => v.category).sum ≤ 8) (hdg : decode cc g.pc = .ok (.invokevirtual index, 3)) (hf : cells + mc ≤ R.cells ∧ slots + ms ≤ R.slots) :
    va_Run p l e R s m args below meth c H locs cells slots mc ms g rest (Qc (Value.ref b :: As).toArray) free := by
  obtain ⟨⟨hrc, hrs, hfr, hlo, hws, hcw⟩, hcode, hini, hy, hlen, hl, hin, hse⟩ := cw
  have hK : Back l R p e below s args y 3 8 (PreOf R mc ms Pc) (PostOf Qc mc ms free) := va_backW (hh := hh) (bytes := bytes) (maxL := maxL) (ret := ret) hM hp.1 hrc hrs hfr hlo hws hcw (fun a' U hW => word_at hW (Or.inl (by first | rfl | simp [Cond.onTables, Cond.keeps, Cond.steady])) hini)
  obtain ⟨hx, hb, hml, ho, -⟩ := S
  obtain ⟨-, ⟨cellB, hcB, hoB, hclB⟩, hPc⟩ := hp
  intro T hT X
  obtain ⟨v, vm₁, ⟨U', l2, c2, s2⟩, hW₁, X', ⟨g', mk, t, L, e1, e2, hq, h1, hL, h2, h3⟩, st⟩ := vx_callVW X hx (C := C) (hh := hh) (bytes := bytes) (maxL := maxL) (ret := ret) ho hl hin hse hcode hy hK (by rw [hT]; exact hcB) hoB hclB hg (hsize.trans hml.symm) (argsL := As) (rest := rest) (fun sig h => hn.trans (hlen sig h)) hstack hW (by rw [hb]; exact hdg)
    (fun vm₁ hW₁ => ⟨hf.1, hf.2, hPc (T.setVm vm₁) hT hW₁⟩)
  dsimp only [Pt.U, Pt.locs, Pt.cells, Pt.slots] at X' e1 e2 h1 h2 h3 st
  subst h1; subst h2; subst h3
  exact ⟨v, (T.setVm vm₁).calling g' mk (Value.ref b :: As).toArray, t, U', L, hT, X', hL, e1, e2, hq, st⟩
section
variable {y : MethodName} {bytes cc : ByteArray} {maxL nL mc ms n index : Nat} {ret : Option FieldType} {ws : List Cond} {rm : Room} {Pc : Array Value → State → Prop} {Qc : Array Value → State → Outcome → State → Prop} {XC : String → State → State → Prop} {free : Addr → Prop} {Ts : List Cond} {own C : String} {b : Addr} {As rest : List Value} {g : JFrame}
theorem vx_runVX {hh : List (Nat × Nat × Nat × Nat)} (S : CallFix p m c cc nL s args Ts own) (hM : vx_Met l y ws rm Pc Qc XC mc ms free) (cw : vx_CVW R s args own C index y bytes maxL ret hh ws rm mc ms n) (hp : PreV s H C b Pc As)
    (hg : g.method = m) (hn : As.length = n) (hsize : g.locals.size = nL) (hstack : g.stack = As.reverse ++ .ref b :: rest) (hW : 2 * g.monitorRoom + (rest.map fun v => v.category).sum ≤ 8) (hdg : decode cc g.pc = .ok (.invokevirtual index, 3)) (hf : cells + mc ≤ R.cells ∧ slots + ms ≤ R.slots) :
    vx_Run p l e R s m args below meth c H locs cells slots mc ms g rest (Qc (Value.ref b :: As).toArray) XC free := by
  obtain ⟨⟨hrc, hrs, hfr, hlo, hws, hcw⟩, hcode, hini, hy, hlen, hl, hin, hse⟩ := cw
  have hK : vx_Back l R p e below s args y 3 8 (PreOf R mc ms Pc) (PostOf Qc mc ms free) (vx_Post XC mc ms free) := vx_backW (hh := hh) (bytes := bytes) (maxL := maxL) (ret := ret) hM hp.1 hrc hrs hfr hlo hws hcw (fun a' U hW => word_at hW (Or.inl (by first | rfl | simp [Cond.onTables, Cond.keeps, Cond.steady])) hini)
  obtain ⟨hx, hb, hml, ho, -⟩ := S
  obtain ⟨-, ⟨cellB, hcB, hoB, hclB⟩, hPc⟩ := hp
  intro T hT X
  rcases vx_callVX X hx (C := C) (hh := hh) (bytes := bytes) (maxL := maxL) (ret := ret) ho hl hin hse hcode hy hK (by rw [hT]; exact hcB) hoB hclB hg (hsize.trans hml.symm) (argsL := As) (rest := rest) (fun sig h => hn.trans (hlen sig h)) hstack hW (by rw [hb]; exact hdg)
    (fun vm₁ hW₁ => ⟨hf.1, hf.2, hPc (T.setVm vm₁) hT hW₁⟩) with ⟨v, vm₁, ⟨U', l2, c2, s2⟩, hW₁, X', ⟨g', mk, t, L, e1, e2, hq, h1, hL, h2, h3⟩, st⟩ | ⟨q, vm₁, ⟨U', l2, c2, s2⟩, hW₁, X', ⟨g', mk, t, L, E, ce, e1, e2, hq, hce, hcv, hcl, h1, hL, h2, h3⟩, st⟩
  · dsimp only [Pt.U, Pt.locs, Pt.cells, Pt.slots] at X' e1 e2 h1 h2 h3 st
    subst h1; subst h2; subst h3
    exact Or.inl ⟨v, (T.setVm vm₁).calling g' mk (Value.ref b :: As).toArray, t, U', L, hT, X', hL, e1, e2, hq, st⟩
  · dsimp only [Pt.U, Pt.locs, Pt.cells, Pt.slots] at X' e1 e2 h1 h2 h3 st hcl
    subst h1; subst h2; subst h3
    exact Or.inr ⟨q, (T.setVm vm₁).calling g' mk (Value.ref b :: As).toArray, t, U', L, E, ce, hT, X', hL, e1, e2, hq, hce, hcv, vx_cls hW₁ hcl, st⟩
theorem vx_runSX {hh : List (Nat × Nat × Nat × Nat)} (S : CallFix p m c cc nL s args Ts own) (hM : vx_Met l y ws rm Pc Qc XC mc ms free) (cw : vx_CSW R s args own index y bytes maxL ret hh ws rm mc ms n) (hp : PreS s H Pc As)
    (hg : g.method = m) (hn : As.length = n) (hsize : g.locals.size = nL) (hstack : g.stack = As.reverse ++ rest) (hW : 2 * g.monitorRoom + (rest.map fun v => v.category).sum ≤ 8) (hdg : decode cc g.pc = .ok (.invokestatic index, 3)) (hf : cells + mc ≤ R.cells ∧ slots + ms ≤ R.slots) :
    vx_Run p l e R s m args below meth c H locs cells slots mc ms g rest (Qc As.toArray) XC free := by
  obtain ⟨⟨hrc, hrs, hfr, hlo, hws, hcw⟩, hcode, hini, hy, hlen, hl, hstt⟩ := cw
  have hK : vx_Back l R p e below s args y 3 8 (PreOf R mc ms Pc) (PostOf Qc mc ms free) (vx_Post XC mc ms free) := vx_backW (hh := hh) (bytes := bytes) (maxL := maxL) (ret := ret) hM hp.1 hrc hrs hfr hlo hws hcw (fun a' U hW => word_at hW (Or.inl (by first | rfl | simp [Cond.onTables, Cond.keeps, Cond.steady])) hini)
  obtain ⟨hx, hb, hml, ho, -⟩ := S
  intro T hT X
  rcases vx_callSX X hx (hh := hh) (bytes := bytes) (maxL := maxL) (ret := ret) ho hl hstt hini hcode hy hK hg (hsize.trans hml.symm) (argsL := As) (rest := rest) (fun sig h => hn.trans (hlen sig h)) hstack hW (by rw [hb]; exact hdg)
    (fun vm₁ hW₁ => ⟨hf.1, hf.2, hp.2 (T.setVm vm₁) hT hW₁⟩) with ⟨v, vm₁, ⟨U', l2, c2, s2⟩, hW₁, X', ⟨g', mk, t, L, e1, e2, hq, h1, hL, h2, h3⟩, st⟩ | ⟨q, vm₁, ⟨U', l2, c2, s2⟩, hW₁, X', ⟨g', mk, t, L, E, ce, e1, e2, hq, hce, hcv, hcl, h1, hL, h2, h3⟩, st⟩
  · dsimp only [Pt.U, Pt.locs, Pt.cells, Pt.slots] at X' e1 e2 h1 h2 h3 st
    subst h1; subst h2; subst h3
    exact Or.inl ⟨v, (T.setVm vm₁).calling g' mk As.toArray, t, U', L, hT, X', hL, e1, e2, hq, st⟩
  · dsimp only [Pt.U, Pt.locs, Pt.cells, Pt.slots] at X' e1 e2 h1 h2 h3 st hcl
    subst h1; subst h2; subst h3
    exact Or.inr ⟨q, (T.setVm vm₁).calling g' mk As.toArray, t, U', L, E, ce, hT, X', hL, e1, e2, hq, hce, hcv, vx_cls hW₁ hcl, st⟩
end
end VXH
theorem vx_ofWH {l : Launch} {y : MethodName} {ws ws' : List Cond} {rm : Room} {Pc : Array Value → State → Prop} {Qc : Array Value → State → Outcome → State → Prop} {XC : String → State → State → Prop} {mc ms : Nat} {free : Addr → Prop} {cc : ByteArray} {maxL : Nat} {ret : Option FieldType} {hh : List (Nat × Nat × Nat × Nat)}
    (hy : plainName y.cls = true) (hw : ws = Cond.codeWith y cc maxL ret hh :: ws')
    (body : ∀ p e s m args below meth c s₁, BodyLoose p l y (headSpec ws rm) cc maxL ret e s m args below meth c s₁ → c.maxLocals = maxL → Pc args s →
      W p l e (headSpec ws rm).room s m args below meth c s.heap [] 0 0 (vx_MQ below Qc XC args s mc ms free) (entryFrame m args maxL)) : vx_Met l y ws rm Pc Qc XC mc ms free := by
  refine MetFree.of_bodyS (code := cc) (maxLocals := maxL) (ret := ret) hy ?_ ?_
  · intro args s m h hn
    obtain ⟨m9, meth, c, hn9, h1, h2, h3, h4, -, h5, h6, -⟩ := Cond.codeWith_spec (atoms_spec (ws := ws) h _ (by rw [hw]; exact List.mem_cons_self))
    cases hn.symm.trans hn9
    exact ⟨meth, c, h1, h2, h3, h4, h5, h6⟩
  · intro p e s m args below meth c s₁ B hml hP _
    have hh0 : s₁.heap = s.heap := by rw [B.state]; rfl
    obtain ⟨t, a1, o, b1, b2, b3⟩ := body p e s m args below meth c s₁ B hml hP s₁ hh0 (Stand.of_body B)
    exact ⟨t, o, a1, b1, b2, b3⟩
/-! ===== END ===== -/
end
section
/-! ===== printed: names, fields ===== -/
def RX0 : String := "SharedLog$Cells"
def TX0 : u_T := fun k => match k with
  | _ => ("SharedLog$Cells", "contents", "[I", true)
def tyX0 : Nat → FieldType := fun k => match k with
  | _ => .array .int
abbrev wsX00 : List Cond := u_ws RX0 TX0 1
theorem nmX0 : ∀ a, a < 1 → ∀ b, b < 1 → a ≠ b → (TX0 a).2.1 ≠ (TX0 b).2.1 := by decide +kernel
theorem tyX0_ok : ∀ k, k < 1 → parseFieldDescriptor (TX0 k).2.2.1 = some (tyX0 k) := by decide +kernel
abbrev cX0_init : ByteArray := prog_2_method_1_code
def yX0_init : MethodName := ⟨RX0, "<init>", "()V"⟩
abbrev cX0_get : ByteArray := prog_2_method_2_code
def yX0_get : MethodName := ⟨RX0, "get", "(II)I"⟩
abbrev cX0_put : ByteArray := prog_2_method_3_code
def yX0_put : MethodName := ⟨RX0, "put", "(III)V"⟩
abbrev cX0_countWritten : ByteArray := prog_2_method_4_code
def yX0_countWritten : MethodName := ⟨RX0, "countWritten", "(I)I"⟩
abbrev cX0_isComplete : ByteArray := prog_2_method_5_code
def yX0_isComplete : MethodName := ⟨RX0, "isComplete", "(I)Z"⟩
abbrev cX0_completeFromStart : ByteArray := prog_2_method_6_code
def yX0_completeFromStart : MethodName := ⟨RX0, "completeFromStart", "()I"⟩
abbrev cX0_end : ByteArray := prog_2_method_7_code
def yX0_end : MethodName := ⟨RX0, "end", "()I"⟩
def RX1 : String := "SharedLog$Entry"
def TX1 : u_T := fun k => match k with
  | 0 => ("SharedLog$Entry", "position", "I", true)
  | 1 => ("SharedLog$Entry", "epoch", "I", true)
  | 2 => ("SharedLog$Entry", "streams", "I", true)
  | 3 => ("SharedLog$Entry", "amount", "I", true)
  | 4 => ("SharedLog$Entry", "read", "I", true)
  | 5 => ("SharedLog$Entry", "version", "I", true)
  | 6 => ("SharedLog$Entry", "pointers", "LSharedLog$Trail;", true)
  | _ => ("SharedLog$Entry", "steps", "I", false)
def tyX1 : Nat → FieldType := fun k => match k with
  | 0 => .int
  | 1 => .int
  | 2 => .int
  | 3 => .int
  | 4 => .int
  | 5 => .int
  | 6 => .object "SharedLog$Trail"
  | _ => .int
abbrev wsX10 : List Cond := u_ws RX1 TX1 8
theorem nmX1 : ∀ a, a < 8 → ∀ b, b < 8 → a ≠ b → (TX1 a).2.1 ≠ (TX1 b).2.1 := by decide +kernel
theorem tyX1_ok : ∀ k, k < 8 → parseFieldDescriptor (TX1 k).2.2.1 = some (tyX1 k) := by decide +kernel
abbrev cX1_init : ByteArray := prog_3_method_1_code
def yX1_init : MethodName := ⟨RX1, "<init>", "(IIIIIILSharedLog$Trail;)V"⟩
def RX2 : String := "SharedLog$Fold"
def TX2 : u_T := fun k => match k with
  | 0 => ("SharedLog$Fold", "effects", "[Z", true)
  | 1 => ("SharedLog$Fold", "changes", "[I", true)
  | _ => ("SharedLog$Fold", "folded", "I", false)
def tyX2 : Nat → FieldType := fun k => match k with
  | 0 => .array .boolean
  | 1 => .array .int
  | _ => .int
abbrev wsX20 : List Cond := u_ws RX2 TX2 3
theorem nmX2 : ∀ a, a < 3 → ∀ b, b < 3 → a ≠ b → (TX2 a).2.1 ≠ (TX2 b).2.1 := by decide +kernel
theorem tyX2_ok : ∀ k, k < 3 → parseFieldDescriptor (TX2 k).2.2.1 = some (tyX2 k) := by decide +kernel
abbrev cX2_init : ByteArray := prog_4_method_1_code
def yX2_init : MethodName := ⟨RX2, "<init>", "()V"⟩
abbrev cX2_restart : ByteArray := prog_4_method_2_code
def yX2_restart : MethodName := ⟨RX2, "restart", "()V"⟩
abbrev cX2_add : ByteArray := prog_4_method_3_code
def yX2_add : MethodName := ⟨RX2, "add", "(LSharedLog$Entry;)V"⟩
abbrev cX2_hasEffect : ByteArray := prog_4_method_4_code
def yX2_hasEffect : MethodName := ⟨RX2, "hasEffect", "(I)Z"⟩
abbrev cX2_isUnchanged : ByteArray := prog_4_method_5_code
def yX2_isUnchanged : MethodName := ⟨RX2, "isUnchanged", "(II)Z"⟩
abbrev cX2_noteChange : ByteArray := prog_4_method_6_code
def yX2_noteChange : MethodName := ⟨RX2, "noteChange", "(I)V"⟩
def RX3 : String := "SharedLog$Trail"
def TX3 : u_T := fun k => match k with
  | _ => ("SharedLog$Trail", "positions", "[I", true)
def tyX3 : Nat → FieldType := fun k => match k with
  | _ => .array .int
abbrev wsX30 : List Cond := u_ws RX3 TX3 1
theorem nmX3 : ∀ a, a < 1 → ∀ b, b < 1 → a ≠ b → (TX3 a).2.1 ≠ (TX3 b).2.1 := by decide +kernel
theorem tyX3_ok : ∀ k, k < 1 → parseFieldDescriptor (TX3 k).2.2.1 = some (tyX3 k) := by decide +kernel
abbrev cX3_init : ByteArray := prog_5_method_1_code
def yX3_init : MethodName := ⟨RX3, "<init>", "()V"⟩
abbrev cX3_clear : ByteArray := prog_5_method_2_code
def yX3_clear : MethodName := ⟨RX3, "clear", "()V"⟩
abbrev cX3_get : ByteArray := prog_5_method_3_code
def yX3_get : MethodName := ⟨RX3, "get", "(II)I"⟩
abbrev cX3_set : ByteArray := prog_5_method_4_code
def yX3_set : MethodName := ⟨RX3, "set", "(III)V"⟩
abbrev cX3_push : ByteArray := prog_5_method_5_code
def yX3_push : MethodName := ⟨RX3, "push", "(II)V"⟩
abbrev cX3_copyFor : ByteArray := prog_5_method_6_code
def yX3_copyFor : MethodName := ⟨RX3, "copyFor", "(I)LSharedLog$Trail;"⟩
def RX4 : String := "SharedLog"
def TX4 : u_T := fun k => match k with
  | 0 => ("SharedLog", "entries", "[LSharedLog$Entry;", true)
  | 1 => ("SharedLog", "cells", "LSharedLog$Cells;", true)
  | 2 => ("SharedLog", "sequencerKnows", "LSharedLog$Trail;", true)
  | 3 => ("SharedLog", "fold", "LSharedLog$Fold;", true)
  | 4 => ("SharedLog", "handedOut", "I", false)
  | 5 => ("SharedLog", "epoch", "I", false)
  | 6 => ("SharedLog", "tail", "I", false)
  | _ => ("SharedLog", "sequencerLost", "Z", false)
def tyX4 : Nat → FieldType := fun k => match k with
  | 0 => .array (.object "SharedLog$Entry")
  | 1 => .object "SharedLog$Cells"
  | 2 => .object "SharedLog$Trail"
  | 3 => .object "SharedLog$Fold"
  | 4 => .int
  | 5 => .int
  | 6 => .int
  | _ => .boolean
abbrev wsX40 : List Cond := u_ws RX4 TX4 8
theorem nmX4 : ∀ a, a < 8 → ∀ b, b < 8 → a ≠ b → (TX4 a).2.1 ≠ (TX4 b).2.1 := by decide +kernel
theorem tyX4_ok : ∀ k, k < 8 → parseFieldDescriptor (TX4 k).2.2.1 = some (tyX4 k) := by decide +kernel
abbrev cX4_init : ByteArray := prog_1_method_1_code
def yX4_init : MethodName := ⟨RX4, "<init>", "()V"⟩
abbrev cX4_take : ByteArray := prog_1_method_2_code
def yX4_take : MethodName := ⟨RX4, "take", "(II)I"⟩
abbrev cX4_takeIf : ByteArray := prog_1_method_3_code
def yX4_takeIf : MethodName := ⟨RX4, "takeIf", "(IIII)I"⟩
abbrev cX4_lose : ByteArray := prog_1_method_4_code
def yX4_lose : MethodName := ⟨RX4, "lose", "()I"⟩
abbrev cX4_seal : ByteArray := prog_1_method_5_code
def yX4_seal : MethodName := ⟨RX4, "seal", "()I"⟩
abbrev cX4_write : ByteArray := prog_1_method_6_code
def yX4_write : MethodName := ⟨RX4, "write", "(I)I"⟩
abbrev cX4_fill : ByteArray := prog_1_method_7_code
def yX4_fill : MethodName := ⟨RX4, "fill", "(I)Z"⟩
abbrev cX4_epoch : ByteArray := prog_1_method_8_code
def yX4_epoch : MethodName := ⟨RX4, "epoch", "()I"⟩
abbrev cX4_tail : ByteArray := prog_1_method_9_code
def yX4_tail : MethodName := ⟨RX4, "tail", "()I"⟩
abbrev cX4_positionOf : ByteArray := prog_1_method_11_code
def yX4_positionOf : MethodName := ⟨RX4, "positionOf", "(I)I"⟩
abbrev cX4_stateOf : ByteArray := prog_1_method_12_code
def yX4_stateOf : MethodName := ⟨RX4, "stateOf", "(I)I"⟩
abbrev cX4_cellAt : ByteArray := prog_1_method_14_code
def yX4_cellAt : MethodName := ⟨RX4, "cellAt", "(II)I"⟩
abbrev cX4_known : ByteArray := prog_1_method_15_code
def yX4_known : MethodName := ⟨RX4, "known", "()I"⟩
abbrev cX4_takesEffect : ByteArray := prog_1_method_16_code
def yX4_takesEffect : MethodName := ⟨RX4, "takesEffect", "(I)Z"⟩
abbrev cX4_value : ByteArray := prog_1_method_17_code
def yX4_value : MethodName := ⟨RX4, "value", "(II)I"⟩
abbrev cX4_valueByPointers : ByteArray := prog_1_method_18_code
def yX4_valueByPointers : MethodName := ⟨RX4, "valueByPointers", "(II)I"⟩
abbrev cX4_latest : ByteArray := prog_1_method_19_code
def yX4_latest : MethodName := ⟨RX4, "latest", "(II)I"⟩
abbrev cX4_isStream : ByteArray := prog_1_method_20_code
def yX4_isStream : MethodName := ⟨RX4, "isStream", "(I)Z"⟩
abbrev cX4_isSetOfStreams : ByteArray := prog_1_method_21_code
def yX4_isSetOfStreams : MethodName := ⟨RX4, "isSetOfStreams", "(I)Z"⟩
abbrev cX4_isAmount : ByteArray := prog_1_method_22_code
def yX4_isAmount : MethodName := ⟨RX4, "isAmount", "(I)Z"⟩
abbrev cX4_isPosition : ByteArray := prog_1_method_23_code
def yX4_isPosition : MethodName := ⟨RX4, "isPosition", "(I)Z"⟩
abbrev cX4_isReplica : ByteArray := prog_1_method_24_code
def yX4_isReplica : MethodName := ⟨RX4, "isReplica", "(I)Z"⟩
abbrev cX4_isPointerNumber : ByteArray := prog_1_method_25_code
def yX4_isPointerNumber : MethodName := ⟨RX4, "isPointerNumber", "(I)Z"⟩
abbrev cX4_isIn : ByteArray := prog_1_method_26_code
def yX4_isIn : MethodName := ⟨RX4, "isIn", "(II)Z"⟩
abbrev cX4_isEndOfKnown : ByteArray := prog_1_method_27_code
def yX4_isEndOfKnown : MethodName := ⟨RX4, "isEndOfKnown", "(I)Z"⟩
abbrev cX4_handOut : ByteArray := prog_1_method_28_code
def yX4_handOut : MethodName := ⟨RX4, "handOut", "(IIII)I"⟩
abbrev cX4_entryOf : ByteArray := prog_1_method_29_code
def yX4_entryOf : MethodName := ⟨RX4, "entryOf", "(I)LSharedLog$Entry;"⟩
abbrev cX4_entryIn : ByteArray := prog_1_method_30_code
def yX4_entryIn : MethodName := ⟨RX4, "entryIn", "(I)LSharedLog$Entry;"⟩
abbrev cX4_holdsStream : ByteArray := prog_1_method_31_code
def yX4_holdsStream : MethodName := ⟨RX4, "holdsStream", "(II)Z"⟩
abbrev cX4_latestAhead : ByteArray := prog_1_method_32_code
def yX4_latestAhead : MethodName := ⟨RX4, "latestAhead", "(II)I"⟩
abbrev cX4_previousByPointers : ByteArray := prog_1_method_33_code
def yX4_previousByPointers : MethodName := ⟨RX4, "previousByPointers", "(II)I"⟩
abbrev cX4_foldUpTo : ByteArray := prog_1_method_34_code
def yX4_foldUpTo : MethodName := ⟨RX4, "foldUpTo", "(I)V"⟩
abbrev cX4_effectOf : ByteArray := prog_1_method_35_code
def yX4_effectOf : MethodName := ⟨RX4, "effectOf", "(I)I"⟩
def RJx145de : String := "java/io/Serializable"
def TJx145de : u_T := fun k => match k with
  | _ => ("", "", "", false)
def tyJx145de : Nat → FieldType := fun k => match k with
  | _ => .int
abbrev wsJx145de0 : List Cond := u_ws RJx145de TJx145de 0
theorem nmJx145de : ∀ a, a < 0 → ∀ b, b < 0 → a ≠ b → (TJx145de a).2.1 ≠ (TJx145de b).2.1 := by decide +kernel
theorem tyJx145de_ok : ∀ k, k < 0 → parseFieldDescriptor (TJx145de k).2.2.1 = some (tyJx145de k) := by decide +kernel
def RJ0 : String := "java/lang/String"
def TJ0 : u_T := fun k => match k with
  | _ => ("", "", "", false)
def tyJ0 : Nat → FieldType := fun k => match k with
  | _ => .int
abbrev wsJ00 : List Cond := u_ws RJ0 TJ0 0
theorem nmJ0 : ∀ a, a < 0 → ∀ b, b < 0 → a ≠ b → (TJ0 a).2.1 ≠ (TJ0 b).2.1 := by decide +kernel
theorem tyJ0_ok : ∀ k, k < 0 → parseFieldDescriptor (TJ0 k).2.2.1 = some (tyJ0 k) := by decide +kernel
def RJ7 : String := "java/util/Arrays"
def TJ7 : u_T := fun k => match k with
  | _ => ("", "", "", false)
def tyJ7 : Nat → FieldType := fun k => match k with
  | _ => .int
abbrev wsJ70 : List Cond := u_ws RJ7 TJ7 0
theorem nmJ7 : ∀ a, a < 0 → ∀ b, b < 0 → a ≠ b → (TJ7 a).2.1 ≠ (TJ7 b).2.1 := by decide +kernel
theorem tyJ7_ok : ∀ k, k < 0 → parseFieldDescriptor (TJ7 k).2.2.1 = some (tyJ7 k) := by decide +kernel
abbrev cJ7_fill_53178 : ByteArray := prog_15_method_103_code
def yJ7_fill_53178 : MethodName := ⟨RJ7, "fill", "([II)V"⟩
def RL : String := "SharedLogLaw"
abbrev cL_cell : ByteArray := method_2_code
def yL_cell : MethodName := ⟨RL, "cell", "([II)I"⟩
abbrev cL_low : ByteArray := method_3_code
def yL_low : MethodName := ⟨RL, "low", "(II)I"⟩
abbrev cL_folds : ByteArray := method_4_code
def yL_folds : MethodName := ⟨RL, "folds", "(LSharedLog;[I[I[I[II)V"⟩
abbrev cL_isFolded : ByteArray := method_5_code
def yL_isFolded : MethodName := ⟨RL, "isFolded", "(LSharedLog;[I[I[IIII)Z"⟩
abbrev cL_writes : ByteArray := method_6_code
def yL_writes : MethodName := ⟨RL, "writes", "(LSharedLog;I)Z"⟩
abbrev cL_law : ByteArray := code
def yL_law : MethodName := ⟨RL, "law", "([I)Z"⟩
abbrev vwCl : List vw_C := [(RX0, TX0, 1), (RX1, TX1, 8), (RX2, TX2, 3), (RX3, TX3, 1), (RX4, TX4, 8)]
end
section
/-! THE BASE: worlds by labels; what a method's start knows; rows for reads, writes, calls, returns and throws in these words. -/
abbrev sl_W : Type := Nat → Option (Nat × va_E)
def sl_up (g : sl_W) (k : Nat) (q : Nat × va_E) : sl_W := fun j => if j = k then some q else g j
theorem sl_up_s (g : sl_W) (k : Nat) (q : Nat × va_E) : sl_up g k q k = some q := by simp [sl_up]
theorem sl_up_n (g : sl_W) {k j : Nat} (q : Nat × va_E) (h : j ≠ k) : sl_up g k q j = g j := by simp [sl_up, h]
theorem sl_up_to {g : sl_W} {k j : Nat} {q : Nat × va_E} {x : Option (Nat × va_E)} (h : j ≠ k) (hg : g j = x) : sl_up g k q j = x := (sl_up_n g q h).trans hg
/-- the classes' numbers, the array classes' numbers (0: int, 1: boolean, 2: entries, 3: long), the first address that may be written -/
abbrev sl_G : Type := va_G × (Nat → ClassId) × Nat
abbrev sl_tys (Γ : sl_G) : List (ClassId × FieldType) := [(Γ.2.1 0, .int), (Γ.2.1 1, .boolean), (Γ.2.1 2, .object "SharedLog$Entry")]
def sl_A (Γ : sl_G) : Nat → Prop := fun q => Γ.2.2 ≤ q
/-- the heap holds the world -/
def sl_H (Γ : sl_G) (g : sl_W) (H : Heap) : Prop := (∀ (k : Nat) (q : Nat × va_E), g k = some q → va_at Γ.1 vwCl q H) ∧ (∀ (i j : Nat) (p q : Nat × va_E), g i = some p → g j = some q → p.1 = q.1 → i = j) ∧ ∀ (k : Nat) (q : Nat × va_E), g k = some q → Γ.2.2 ≤ q.1
/-- a word of the tables that stays, however warm the tables get -/
def sl_ok : Cond → Bool
  | .fieldLinkNest .. => true
  | .methodLinkNest .. => true
  | .castable .. => true
  | .declares .. => true
  | w => goodWord w
theorem sl_ok_warm {w : Cond} (h : sl_ok w = true) {s U : State} (hW : s.WarmedH U.vm) (hz : va_Nw w s) : va_Nw w U := by
  cases w <;> first | exact va_Nw.warmF hW hz | exact va_Nw.warmM hW hz | exact va_Nw.warmC hW hz | exact va_Nw.warmD hW hz | exact word_at hW (good_of_word h) hz
theorem sl_ok_of {w : Cond} (h : sl_ok w = true) {A : Array Value} {U : State} (hz : w.before A U = true) : va_Nw w U := by
  cases w <;> first | exact va_Nw.of rfl hz | exact word_at (State.WarmedH.refl U) (good_of_word h) hz
theorem sl_ok_use {w : Cond} (h : sl_ok w = true) {A : Array Value} {U : State} (hz : va_Nw w U) : w.before A U = true := by
  cases w <;> first | exact va_Nw.use rfl hz | exact word_at (State.WarmedH.refl U) (good_of_word h) hz
/-- the String constants that the class names, by their places -/
def sl_strs : List (String × Nat × String) := [("SharedLog", 59, "streams or amount is out of range"), ("SharedLog", 178, "the sequencer hands out nothing"), ("SharedLog", 68, "streams, amount or read is out of range"), ("SharedLog", 70, "version is out of range"), ("SharedLog", 74, "the sequencer is lost"), ("SharedLog", 100, "no such token"), ("SharedLog", 107, "the token cannot write"), ("SharedLog", 123, "no such position"), ("SharedLog", 128, "the position cannot be filled"), ("SharedLog", 145, "no such replica or position"), ("SharedLog", 150, "not a known position"), ("SharedLog", 162, "no such stream or known position")]
/-- classes of exceptions that a row of a handler does not take -/
def sl_ncs : List (String × String) := []
/-- what the tables say -/
def sl_V (Γ : sl_G) (U : State) : Prop := va_K Γ.1 vwCl (sl_tys Γ) U ∧ (∀ w ∈ lw_tbl, sl_ok w = true → va_Nw w U) ∧ (∀ x ∈ sl_strs, ∃ a : Nat, vk_R x.1 x.2.1 x.2.2 a U) ∧ va_AO "SharedLog$Entry" U ∧ ∀ x ∈ sl_ncs, va_Nc x.1 x.2 U
theorem sl_V.warm {Γ : sl_G} {s U : State} (h : sl_V Γ s) (hW : s.WarmedH U.vm) : sl_V Γ U :=
  ⟨va_K.moved hW.alike h.1, fun w hw ho => sl_ok_warm ho hW (h.2.1 w hw ho), fun x hx => (h.2.2.1 x hx).imp fun _ ha => vk_R.warm hW ha, va_AO.moved hW.alike h.2.2.2.1, fun x hx => va_Nc.moved hW.alike (h.2.2.2.2 x hx)⟩
theorem sl_V.tab {Γ : sl_G} {s : State} {args : Array Value} (h : sl_V Γ s) {w : Cond} (hw : w ∈ lw_tbl) (ho : sl_ok w = true) : w.before args s = true := sl_ok_use ho (h.2.1 w hw ho)
/-- the two statics that an exception's constructor reads -/
def sl_Z (Γ : sl_G) (U : State) (H : Heap) : Prop := vx_Zq Bundle.tN "UNASSIGNED_STACK" Bundle.steD (sl_A Γ) U H ∧ vx_Zq Bundle.tN "SUPPRESSED_SENTINEL" Bundle.listD (sl_A Γ) U H
/-- a method's start -/
def sl_B (Γ : sl_G) (g : sl_W) (U : State) : Prop := Γ.2.2 ≤ U.heap.size ∧ sl_H Γ g U.heap ∧ sl_V Γ U ∧ sl_Z Γ U U.heap
theorem sl_blind {Γ : sl_G} {g : sl_W} {av : List Value} : FrameBlind (va_Pc av (sl_B Γ g)) := by
  intro a U fr mk ⟨h0, h1, h2, h3, h4⟩
  exact ⟨h0, h1, h2, sl_V.warm (U := U.calling fr mk a) h3 (State.WarmedH.refl U), vx_Zq.moved (U := U.calling fr mk a) (Vm.Alike.refl U.vm) h4.1, vx_Zq.moved (U := U.calling fr mk a) (Vm.Alike.refl U.vm) h4.2⟩
/-- within a method: what it stands in -/
def sl_C (Γ : sl_G) (p : Program) (s : State) (m : MethodId) (meth : Method) (c : Code) (cc : ByteArray) (nL : Nat) (own : String) : Prop :=
  p.tables.exec = Jvm.exec ∧ c.code = cc ∧ c.maxLocals = nL ∧ s.vm.findClass own = some m.cls ∧ meth.locks = false ∧ Γ.2.2 ≤ s.heap.size ∧ sl_V Γ s ∧ sl_Z Γ s s.heap
/-- within a method: the world now -/
def sl_I (Γ : sl_G) (g : sl_W) (s : State) (H : Heap) (locs : List Loc) : Prop := sl_H Γ g H ∧ va_S (sl_A Γ) s.heap H locs
theorem sl_pre {Γ : sl_G} {p : Program} {s : State} {m : MethodId} {meth : Method} {c : Code} {cc : ByteArray} {nL : Nat} {own : String} {g : sl_W} {H : Heap} {locs : List Loc} (hC : sl_C Γ p s m meth c cc nL own) (hG : sl_I Γ g s H locs) (av : List Value) : ∀ U : State, U.heap = H → s.WarmedH U.vm → va_Pc av (sl_B Γ g) av.toArray U := by
  intro U hU hW
  obtain ⟨-, -, -, -, -, hz, hV, hZ1, hZ2⟩ := hC
  obtain ⟨hH, hS⟩ := hG
  subst hU
  refine ⟨rfl, Nat.le_trans hz hS.1, hH, hV.warm hW, vx_Zq.kept (vx_Zq.moved hW.alike hZ1) hS.2.1, vx_Zq.kept (vx_Zq.moved hW.alike hZ2) hS.2.1⟩
/-! ===== rows ===== -/
section SLR
variable {p : Program} {l : Launch} {e : Env} {R : Room} {s : State} {m : MethodId} {args : Array Value} {below : List Frame} {meth : Method} {c : Code} {H : Heap} {locs : List Loc} {cells slots : Nat} {Q : State → Prop}
variable {cc : ByteArray} {nL pc : Nat} {ls : Array Slot} {rest st0 : List Value} {Γ : sl_G} {own : String} {g : sl_W}
theorem sl_one {k a : Nat} {x : va_E} (hG : sl_I Γ g s H locs) (he : g k = some (a, x)) : va_P Γ.1 vwCl [(a, x)] H := by
  intro i q hi
  match i, hi with
  | 0, hi => cases hi; exact hG.1.1 k _ he
  | i + 1, hi => simp at hi
theorem sl_oneD {k a : Nat} {x : va_E} (hG : sl_I Γ g s H locs) (he : g k = some (a, x)) : va_D (sl_A Γ) [(a, x)] := by
  refine ⟨fun i j p q hi hj _ => ?_, fun i q hi => ?_⟩
  · have h1 : i < 1 := (List.getElem?_eq_some_iff.mp hi).1
    have h2 : j < 1 := (List.getElem?_eq_some_iff.mp hj).1
    omega
  · match i, hi with
    | 0, hi => cases hi; exact hG.1.2.2 k _ he
    | i + 1, hi => simp at hi
theorem sl_up_H {k a : Nat} {x y : va_E} {H1 : Heap} (hG : sl_H Γ g H) (he : g k = some (a, x)) (hy : va_at Γ.1 vwCl (a, y) H1) (ho : ∀ q : Nat, q ≠ a → H1[q]? = H[q]?) : sl_H Γ (sl_up g k (a, y)) H1 := by
  obtain ⟨h1, h2, h3⟩ := hG
  refine ⟨fun j q hj => ?_, fun i j p q hi hj hpq => ?_, fun j q hj => ?_⟩
  · by_cases hjk : j = k
    · subst hjk
      rw [sl_up_s] at hj
      cases hj
      exact hy
    · rw [sl_up_n _ _ hjk] at hj
      exact (h1 j q hj).kept (ho q.1 fun e => hjk (h2 j k q _ hj he e))
  · have key : ∀ (i : Nat) (p : Nat × va_E), sl_up g k (a, y) i = some p → ∃ p', g i = some p' ∧ p'.1 = p.1 := by
      intro i p hi
      by_cases hik : i = k
      · subst hik
        rw [sl_up_s] at hi
        cases hi
        exact ⟨_, he, rfl⟩
      · rw [sl_up_n _ _ hik] at hi
        exact ⟨p, hi, rfl⟩
    obtain ⟨p', hp, ep⟩ := key i p hi
    obtain ⟨q', hq, eq⟩ := key j q hj
    exact h2 i j p' q' hp hq (by rw [ep, eq]; exact hpq)
  · by_cases hjk : j = k
    · subst hjk
      rw [sl_up_s] at hj
      cases hj
      exact h3 j (a, x) he
    · rw [sl_up_n _ _ hjk] at hj
      exact h3 j q hj
/-- a new cell at an address that the heap didn't have -/
theorem sl_new_H {k a : Nat} {y : va_E} {H1 : Heap} (hG : sl_H Γ g H) (hk : g k = none) (ha : H.size ≤ a) (hz : Γ.2.2 ≤ a) (hy : va_at Γ.1 vwCl (a, y) H1) (ho : ∀ q : Nat, q < H.size → H1[q]? = H[q]?) : sl_H Γ (sl_up g k (a, y)) H1 := by
  obtain ⟨h1, h2, h3⟩ := hG
  have lt : ∀ (j : Nat) (q : Nat × va_E), g j = some q → q.1 < H.size := fun j q hj => (h1 j q hj).lt
  refine ⟨fun j q hj => ?_, fun i j p q hi hj hpq => ?_, fun j q hj => ?_⟩
  · by_cases hjk : j = k
    · subst hjk
      rw [sl_up_s] at hj
      cases hj
      exact hy
    · rw [sl_up_n _ _ hjk] at hj
      exact (h1 j q hj).kept (ho q.1 (lt j q hj))
  · by_cases hik : i = k
    · by_cases hjk : j = k
      · rw [hik, hjk]
      · subst hik
        rw [sl_up_s] at hi
        cases hi
        rw [sl_up_n _ _ hjk] at hj
        have := lt j q hj
        omega
    · rw [sl_up_n _ _ hik] at hi
      by_cases hjk : j = k
      · subst hjk
        rw [sl_up_s] at hj
        cases hj
        have := lt i p hi
        omega
      · rw [sl_up_n _ _ hjk] at hj
        exact h2 i j p q hi hj hpq
  · by_cases hjk : j = k
    · subst hjk
      rw [sl_up_s] at hj
      cases hj
      exact hz
    · rw [sl_up_n _ _ hjk] at hj
      exact h3 j q hj
end SLR
section SLR2
variable {p : Program} {l : Launch} {e : Env} {R : Room} {s : State} {m : MethodId} {args : Array Value} {below : List Frame} {meth : Method} {c : Code} {H : Heap} {locs : List Loc} {cells slots : Nat} {Q : State → Prop}
variable {cc : ByteArray} {nL pc : Nat} {ls : Array Slot} {rest st0 : List Value} {Γ : sl_G} {own : String} {g : sl_W}
theorem sl_hK (hC : sl_C Γ p s m meth c cc nL own) : va_K Γ.1 vwCl (sl_tys Γ) s := hC.2.2.2.2.2.2.1.1
theorem sl_tab (hC : sl_C Γ p s m meth c cc nL own) {w : Cond} (hw : w ∈ lw_tbl) (ho : sl_ok w = true) : w.before args s = true := hC.2.2.2.2.2.2.1.tab hw ho
/-- a field is read -/
theorem sl_get (hC : sl_C Γ p s m meth c cc nL own) (hG : sl_I Γ g s H locs) (k : Nat) {a ci index N : Nat} {fs : List Value} {ref C : String} {T : u_T} (he : g k = some (a, .inr (ci, fs))) (hc : vwCl[ci]? = some (C, T, N)) (hin : ∀ w ∈ u_ws C T N, w ∈ lw_tbl ∧ sl_ok w = true) (i : Nat) (hi : i < N) (w1 : Cond.fieldLink own index ref (T i).2.1 (T i).2.2.1 ∈ lw_tbl) (hr : ref = (T i).1) {v : Value} (hv : fs[i]? = some v) (hdg : decode cc pc = .ok (.getfield index, 3))
    (kk : W p l e R s m args below meth c H locs cells slots Q (F0 m (pc + 3) ls (v :: rest))) : W p l e R s m args below meth c H locs cells slots Q (F0 m pc ls (.ref a :: rest)) :=
  va_get (Ts := u_ws C T N) hC.1 hC.2.1 (fun w hw => sl_tab hC (hin w hw).1 (hin w hw).2) (fun _ h => h) hC.2.2.2.1 (sl_hK hC) (sl_one hG he) 0 rfl hc i hi (sl_tab hC w1 rfl) (fun _ h => by rw [hr]; exact h) hv hdg kk
theorem sl_getN (hC : sl_C Γ p s m meth c cc nL own) (hG : sl_I Γ g s H locs) (k : Nat) {a ci index N : Nat} {fs : List Value} {ref C host : String} {T : u_T} (he : g k = some (a, .inr (ci, fs))) (hc : vwCl[ci]? = some (C, T, N)) (hin : ∀ w ∈ u_ws C T N, w ∈ lw_tbl ∧ sl_ok w = true) (i : Nat) (hi : i < N) (w1 : Cond.fieldLinkNest own index ref (T i).2.1 (T i).2.2.1 host ∈ lw_tbl) (hr : ref = (T i).1) {v : Value} (hv : fs[i]? = some v) (hdg : decode cc pc = .ok (.getfield index, 3))
    (kk : W p l e R s m args below meth c H locs cells slots Q (F0 m (pc + 3) ls (v :: rest))) : W p l e R s m args below meth c H locs cells slots Q (F0 m pc ls (.ref a :: rest)) :=
  va_getN (Ts := u_ws C T N) hC.1 hC.2.1 (fun w hw => sl_tab hC (hin w hw).1 (hin w hw).2) (fun _ h => h) hC.2.2.2.1 (sl_hK hC) (sl_one hG he) 0 rfl hc i hi (sl_tab hC w1 rfl) (fun _ h => by rw [hr]; exact h) hv hdg kk
theorem sl_apart {C : String} {T : u_T} {N ci : Nat} (hC : sl_C Γ p s m meth c cc nL own) (hin : ∀ w ∈ u_ws C T N, w ∈ lw_tbl ∧ sl_ok w = true) (ty : Nat → FieldType) (hty : ∀ k, k < N → parseFieldDescriptor (T k).2.2.1 = some (ty k)) (hnm : ∀ a, a < N → ∀ b, b < N → a ≠ b → (T a).2.1 ≠ (T b).2.1) (hc : vwCl[ci]? = some (C, T, N)) : ∀ x y, x < N → y < N → x ≠ y → (Γ.1.2 ci) x ≠ (Γ.1.2 ci) y :=
  va_apart (own := own) (Ts := u_ws C T N) (args := #[]) (fun w hw => sl_tab hC (hin w hw).1 (hin w hw).2) (fun _ h => h) ty hty hnm (sl_hK hC) hc
/-- a field is written -/
theorem sl_put (hC : sl_C Γ p s m meth c cc nL own) (hG : sl_I Γ g s H locs) (k : Nat) {a ci index N : Nat} {fs : List Value} {ref C : String} {T : u_T} (he : g k = some (a, .inr (ci, fs))) (hc : vwCl[ci]? = some (C, T, N)) (hin : ∀ w ∈ u_ws C T N, w ∈ lw_tbl ∧ sl_ok w = true) (ty0 : Nat → FieldType) (hty : ∀ k, k < N → parseFieldDescriptor (T k).2.2.1 = some (ty0 k)) (hnm : ∀ a, a < N → ∀ b, b < N → a ≠ b → (T a).2.1 ≠ (T b).2.1) (i : Nat) (hi : i < N) (w1 : Cond.fieldLink own index ref (T i).2.1 (T i).2.2.1 ∈ lw_tbl) (hr : ref = (T i).1) (hfin : (T i).2.2.2 = false) {ty : FieldType} {v : Value} (hd : parseFieldDescriptor (T i).2.2.1 = some ty) (hn : narrow ty v = v) (hfit : fits ty v = true) (hl : i < fs.length) (hdg : decode cc pc = .ok (.putfield index, 3))
    (kk : ∀ (H1 : Heap) (locs1 : List Loc), sl_I Γ (sl_up g k (a, .inr (ci, fs.set i v))) s H1 locs1 → W p l e R s m args below meth c H1 locs1 cells slots Q (F0 m (pc + 3) ls rest)) : W p l e R s m args below meth c H locs cells slots Q (F0 m pc ls (v :: .ref a :: rest)) := by
  have hap := sl_apart hC hin ty0 hty hnm hc
  obtain ⟨r, h1, cell, q1, q2, q3, q4⟩ := hG.1.1 k _ he
  have hr1 : r = (C, T, N) := Option.some.inj (h1.symm.trans hc)
  subst hr1
  obtain ⟨hS, hfc, kC, hkC, hkind⟩ := (sl_hK hC).1 ci _ hc
  obtain ⟨cf, kf, fi, f, hi9, hsl⟩ := hS i hi
  have hts : ∀ w ∈ u_ws C T N, w.before args s = true := fun w hw => sl_tab hC (hin w hw).1 (hin w hw).2
  have hlay := hts _ (u_in_lay hi)
  unfold u_lay at hlay
  rw [if_neg (by rw [hfin]; decide)] at hlay
  have hst := (u_facts hfc hkC (u_lays hts (fun _ h => h) hi) hi9).1
  have h6 := u_store hfc hkC hkind hlay hi9 hd hn hfit
  refine W.putK hC.1 hC.2.1 (f := f) ⟨hC.2.2.2.1, sl_tab hC w1 rfl, ⟨_, _, _, by rw [hr]; exact hi9⟩, hst⟩ (by rw [q2]; exact h6) q1 q3 (by rw [hsl]; exact k2_hasslot (q4 i hi)) rfl rfl hdg fun H' e1 e2 e3 => ?_
  rw [hsl] at e1 ⊢
  exact kk H' _ ⟨sl_up_H hG.1 he ⟨_, hc, t_OB.to (V := updV (vp_V fs) i v) ⟨_, e1, q2, q3, t_set q4 hap hi v⟩ (fun j _ => vp_updV_set hl v j)⟩ e3, hG.2.put e2 e3 (hG.1.2.2 k _ he)⟩
/-- a nest mate's field is written -/
theorem sl_putN (hC : sl_C Γ p s m meth c cc nL own) (hG : sl_I Γ g s H locs) (k : Nat) {a ci index N : Nat} {fs : List Value} {ref C host : String} {T : u_T} (he : g k = some (a, .inr (ci, fs))) (hc : vwCl[ci]? = some (C, T, N)) (hin : ∀ w ∈ u_ws C T N, w ∈ lw_tbl ∧ sl_ok w = true) (ty0 : Nat → FieldType) (hty : ∀ k, k < N → parseFieldDescriptor (T k).2.2.1 = some (ty0 k)) (hnm : ∀ a, a < N → ∀ b, b < N → a ≠ b → (T a).2.1 ≠ (T b).2.1) (i : Nat) (hi : i < N) (w1 : Cond.fieldLinkNest own index ref (T i).2.1 (T i).2.2.1 host ∈ lw_tbl) (hr : ref = (T i).1) (hfin : (T i).2.2.2 = false) {ty : FieldType} {v : Value} (hd : parseFieldDescriptor (T i).2.2.1 = some ty) (hn : narrow ty v = v) (hfit : fits ty v = true) (hl : i < fs.length) (hdg : decode cc pc = .ok (.putfield index, 3))
    (kk : ∀ (H1 : Heap) (locs1 : List Loc), sl_I Γ (sl_up g k (a, .inr (ci, fs.set i v))) s H1 locs1 → W p l e R s m args below meth c H1 locs1 cells slots Q (F0 m (pc + 3) ls rest)) : W p l e R s m args below meth c H locs cells slots Q (F0 m pc ls (v :: .ref a :: rest)) := by
  have hap := sl_apart hC hin ty0 hty hnm hc
  obtain ⟨r, h1, cell, q1, q2, q3, q4⟩ := hG.1.1 k _ he
  have hr1 : r = (C, T, N) := Option.some.inj (h1.symm.trans hc)
  subst hr1
  obtain ⟨hS, hfc, kC, hkC, hkind⟩ := (sl_hK hC).1 ci _ hc
  obtain ⟨cf, kf, fi, f, hi9, hsl⟩ := hS i hi
  have hts : ∀ w ∈ u_ws C T N, w.before args s = true := fun w hw => sl_tab hC (hin w hw).1 (hin w hw).2
  have hlay := hts _ (u_in_lay hi)
  unfold u_lay at hlay
  rw [if_neg (by rw [hfin]; decide)] at hlay
  have hst := (u_facts hfc hkC (u_lays hts (fun _ h => h) hi) hi9).1
  have h6 := u_store hfc hkC hkind hlay hi9 hd hn hfit
  refine va_WputK hC.1 hC.2.1 (f := f) hC.2.2.2.1 (sl_tab hC w1 rfl) (by rw [hr]; exact hi9) hst (by rw [q2]; exact h6) q1 q3 (by rw [hsl]; exact k2_hasslot (q4 i hi)) rfl rfl hdg fun H' e1 e2 e3 => ?_
  rw [hsl] at e1 ⊢
  exact kk H' _ ⟨sl_up_H hG.1 he ⟨_, hc, t_OB.to (V := updV (vp_V fs) i v) ⟨_, e1, q2, q3, t_set q4 hap hi v⟩ (fun j _ => vp_updV_set hl v j)⟩ e3, hG.2.put e2 e3 (hG.1.2.2 k _ he)⟩
/-- a final field is written, in a constructor -/
theorem sl_putF (hC : sl_C Γ p s m meth c cc nL own) (hG : sl_I Γ g s H locs) (k : Nat) {a ci index N : Nat} {fs : List Value} {ref C : String} {T : u_T} (he : g k = some (a, .inr (ci, fs))) (hc : vwCl[ci]? = some (C, T, N)) (hin : ∀ w ∈ u_ws C T N, w ∈ lw_tbl ∧ sl_ok w = true) (ty0 : Nat → FieldType) (hty : ∀ k, k < N → parseFieldDescriptor (T k).2.2.1 = some (ty0 k)) (hnm : ∀ a, a < N → ∀ b, b < N → a ≠ b → (T a).2.1 ≠ (T b).2.1) (i : Nat) (hi : i < N) (w1 : Cond.fieldLink own index ref (T i).2.1 (T i).2.2.1 ∈ lw_tbl) (hr : ref = (T i).1) (hfin : (T i).2.2.2 = true) (hin2 : meth.name = "<init>") (hdecl : (T i).1 = own) {ty : FieldType} {v : Value} (hd : parseFieldDescriptor (T i).2.2.1 = some ty) (hn : narrow ty v = v) (hfit : fits ty v = true) (hl : i < fs.length) (hdg : decode cc pc = .ok (.putfield index, 3))
    (kk : ∀ (H1 : Heap) (locs1 : List Loc), sl_I Γ (sl_up g k (a, .inr (ci, fs.set i v))) s H1 locs1 → W p l e R s m args below meth c H1 locs1 cells slots Q (F0 m (pc + 3) ls rest)) : W p l e R s m args below meth c H locs cells slots Q (F0 m pc ls (v :: .ref a :: rest)) := by
  have hap := sl_apart hC hin ty0 hty hnm hc
  have hown := hC.2.2.2.1
  obtain ⟨r, h1, cell, q1, q2, q3, q4⟩ := hG.1.1 k _ he
  have hr1 : r = (C, T, N) := Option.some.inj (h1.symm.trans hc)
  subst hr1
  obtain ⟨hS, hfc, kC, hkC, hkind⟩ := (sl_hK hC).1 ci _ hc
  obtain ⟨cf, kf, fi, f, hi9, hsl⟩ := hS i hi
  have hts : ∀ w ∈ u_ws C T N, w.before args s = true := fun w hw => sl_tab hC (hin w hw).1 (hin w hw).2
  have hlay := hts _ (u_in_lay hi)
  unfold u_lay at hlay
  rw [if_pos hfin] at hlay
  have hst := (u_facts hfc hkC (u_lays hts (fun _ h => h) hi) hi9).1
  have hcf : m.cls = cf := by
    obtain ⟨_, _, c', _, _, _, -, -, hf', -, -, -, hown2, -⟩ := Cond.laysFinal_spec hlay
    have e1 : c' = cf := by have := hi9.symm.trans hf'; simp at this; exact this.1.symm
    rw [hdecl] at hown2
    rw [← e1]; exact Option.some.inj (hown.symm.trans hown2)
  have h6 := u_fits hfc hkC hkind (Or.inr hlay) hi9 hd hn hfit
  refine W.putFinK hC.1 hC.2.1 hown (sl_tab hC w1 rfl) (by rw [hr]; exact hi9) hst hcf hin2 (by rw [q2]; exact h6) q1 q3 (by rw [hsl]; exact k2_hasslot (q4 i hi)) rfl rfl hdg fun H' e1 e2 e3 => ?_
  rw [hsl] at e1 ⊢
  exact kk H' _ ⟨sl_up_H hG.1 he ⟨_, hc, t_OB.to (V := updV (vp_V fs) i v) ⟨_, e1, q2, q3, t_set q4 hap hi v⟩ (fun j _ => vp_updV_set hl v j)⟩ e3, hG.2.put e2 e3 (hG.1.2.2 k _ he)⟩
/-- arrays are read -/
theorem sl_iald (hC : sl_C Γ p s m meth c cc nL own) (hG : sl_I Γ g s H locs) (k : Nat) {a n : Nat} {f : Nat → Int32} (he : g k = some (a, .inl (Γ.2.1 0, n, .inl f))) {i : Int32} (hin : vp_in i n) (hdg : decode cc pc = .ok (.iaload, 1))
    (kk : W p l e R s m args below meth c H locs cells slots Q (F0 m (pc + 1) ls (.int (f i.toNatClampNeg) :: rest))) : W p l e R s m args below meth c H locs cells slots Q (F0 m pc ls (.int i :: .ref a :: rest)) :=
  va_iald hC.1 hC.2.1 (sl_hK hC) (sl_one hG he) 0 0 rfl rfl hin hdg kk
theorem sl_zald (hC : sl_C Γ p s m meth c cc nL own) (hG : sl_I Γ g s H locs) (k : Nat) {a n : Nat} {f : Nat → Int32} (he : g k = some (a, .inl (Γ.2.1 1, n, .inl f))) {i : Int32} (hin : vp_in i n) (hdg : decode cc pc = .ok (.baload, 1))
    (kk : W p l e R s m args below meth c H locs cells slots Q (F0 m (pc + 1) ls (.int (f i.toNatClampNeg) :: rest))) : W p l e R s m args below meth c H locs cells slots Q (F0 m pc ls (.int i :: .ref a :: rest)) :=
  va_zald hC.1 hC.2.1 (sl_hK hC) (sl_one hG he) 0 1 rfl rfl hin hdg kk
theorem sl_aldq (hC : sl_C Γ p s m meth c cc nL own) (hG : sl_I Γ g s H locs) (k : Nat) {a n : Nat} {f : Nat → Option Nat} (he : g k = some (a, .inl (Γ.2.1 2, n, .inr (.inr (.inr (.inr f)))))) {i : Int32} (hin : vp_in i n) (hdg : decode cc pc = .ok (.aaload, 1))
    (kk : W p l e R s m args below meth c H locs cells slots Q (F0 m (pc + 1) ls (va_rf (f i.toNatClampNeg) :: rest))) : W p l e R s m args below meth c H locs cells slots Q (F0 m pc ls (.int i :: .ref a :: rest)) :=
  va_aldq hC.1 hC.2.1 (sl_hK hC) (sl_one hG he) 0 2 rfl rfl hin hdg kk
theorem sl_alen (hC : sl_C Γ p s m meth c cc nL own) (hG : sl_I Γ g s H locs) (k t0 : Nat) {a : Nat} {cA : ClassId} {x : vp_A} (he : g k = some (a, .inl (cA, x))) {ty : FieldType} (ht : (sl_tys Γ)[t0]? = some (cA, ty)) {v : Int32} (hv : Int32.ofNat x.1 = v) (hdg : decode cc pc = .ok (.arraylength, 1))
    (kk : W p l e R s m args below meth c H locs cells slots Q (F0 m (pc + 1) ls (.int v :: rest))) : W p l e R s m args below meth c H locs cells slots Q (F0 m pc ls (.ref a :: rest)) :=
  va_alen hC.1 hC.2.1 (sl_hK hC) (sl_one hG he) 0 t0 rfl ht hv hdg kk
/-- arrays are written -/
theorem sl_iast (hC : sl_C Γ p s m meth c cc nL own) (hG : sl_I Γ g s H locs) (k : Nat) {a n : Nat} {f : Nat → Int32} (he : g k = some (a, .inl (Γ.2.1 0, n, .inl f))) {i x : Int32} (hin : vp_in i n) (hdg : decode cc pc = .ok (.iastore, 1))
    (kk : ∀ (H1 : Heap) (locs1 : List Loc), sl_I Γ (sl_up g k (a, .inl (Γ.2.1 0, n, .inl (upd f i.toNatClampNeg x)))) s H1 locs1 → W p l e R s m args below meth c H1 locs1 cells slots Q (F0 m (pc + 1) ls rest)) : W p l e R s m args below meth c H locs cells slots Q (F0 m pc ls (.int x :: .int i :: .ref a :: rest)) := by
  refine W.iast hC.1 hC.2.1 (hG.1.1 k _ he) (((sl_hK hC).2 0 _ rfl).1 n (fun j => .int (f j))) (fun q => by cases q) (by show ¬ (i < 0 ∨ (arrV _ _ _).slots.size ≤ _); rw [arrV_size]; exact hin) rfl rfl hdg fun H1 e z oq => ?_
  refine kk H1 _ ⟨sl_up_H hG.1 he ?_ oq, hG.2.put z oq (hG.1.2.2 k _ he)⟩
  show H1[a]? = some (vp_cell _ _)
  rw [e, vp_cell_i, vp_cell_i, arrV_store]
  congr 2
  funext q
  by_cases hq : q = i.toNatClampNeg
  · subst hq
    simp [updV, upd]
  · simp [updV, upd, hq]
theorem sl_zast (hC : sl_C Γ p s m meth c cc nL own) (hG : sl_I Γ g s H locs) (k : Nat) {a n : Nat} {f : Nat → Int32} (he : g k = some (a, .inl (Γ.2.1 1, n, .inl f))) {i x : Int32} (hx : vp_nar .boolean x = x) (hin : vp_in i n) (hdg : decode cc pc = .ok (.bastore, 1))
    (kk : ∀ (H1 : Heap) (locs1 : List Loc), sl_I Γ (sl_up g k (a, .inl (Γ.2.1 1, n, .inl (upd f i.toNatClampNeg x)))) s H1 locs1 → W p l e R s m args below meth c H1 locs1 cells slots Q (F0 m (pc + 1) ls rest)) : W p l e R s m args below meth c H locs cells slots Q (F0 m pc ls (.int x :: .int i :: .ref a :: rest)) := by
  refine W.zast hC.1 hC.2.1 (hG.1.1 k _ he) (((sl_hK hC).2 1 _ rfl).1 n (fun j => .int (f j))) (fun q => by cases q) (by show ¬ (i < 0 ∨ (arrV _ _ _).slots.size ≤ _); rw [arrV_size]; exact hin) rfl rfl hdg fun H1 e z oq => ?_
  refine kk H1 _ ⟨sl_up_H hG.1 he ?_ oq, hG.2.put z oq (hG.1.2.2 k _ he)⟩
  show H1[a]? = some (vp_cell _ _)
  rw [e, vp_cell_i, vp_cell_i, arrV_store]
  congr 2
  funext q
  by_cases hq : q = i.toNatClampNeg
  · subst hq
    have h9 : narrow .boolean (.int x) = .int x := by
      have h8 : narrow .boolean (.int x) = .int (vp_nar .boolean x) := by first | rfl | simp [vp_nar, narrow]
      rw [h8, hx]
    first
      | simp [updV, upd, h9]
      | (simp [updV, upd]; exact h9)
  · simp [updV, upd, hq]
theorem sl_astq (hC : sl_C Γ p s m meth c cc nL own) (hG : sl_I Γ g s H locs) (k k2 : Nat) {a n v : Nat} {vs : List Value} {f : Nat → Option Nat} (he : g k = some (a, .inl (Γ.2.1 2, n, .inr (.inr (.inr (.inr f)))))) (hv : g k2 = some (v, .inr (1, vs))) {i : Int32} (hin : vp_in i n) (hdg : decode cc pc = .ok (.aastore, 1))
    (kk : ∀ (H1 : Heap) (locs1 : List Loc), sl_I Γ (sl_up g k (a, .inl (Γ.2.1 2, n, .inr (.inr (.inr (.inr (va_up f i.toNatClampNeg (some v)))))))) s H1 locs1 → W p l e R s m args below meth c H1 locs1 cells slots Q (F0 m (pc + 1) ls rest)) : W p l e R s m args below meth c H locs cells slots Q (F0 m pc ls (.ref v :: .int i :: .ref a :: rest)) := by
  have hlt : i.toNatClampNeg < n := Nat.not_le.mp fun q => hin (Or.inr q)
  have h0 : ¬ i < 0 := fun q => hin (Or.inl q)
  obtain ⟨r', hr', cellV, g1, g2, g3, -⟩ := hG.1.1 k2 _ hv
  have hcls := ((sl_hK hC).1 1 (RX1, TX1, 8) rfl).2
  obtain ⟨kA, comp, k1, k2, k3, -⟩ := ((sl_hK hC).2 2 _ rfl).2
  have hcomp : comp = Γ.1.1 1 := Option.some.inj (k3.symm.trans hcls.1)
  subst hcomp
  obtain ⟨kC, hkC, -⟩ := hcls.2
  refine W.aast hC.1 hC.2.1 (hG.1.1 k _ he) (fun q h => by cases h) (fun h => by cases h) k1 k2 rfl hkC ⟨h0, by show _ < (arrV _ _ _).slots.size; rw [arrV_size]; exact hlt⟩ g1 (fun q h => by rw [g3] at h; cases h) (by rw [g2]; exact hkC) (by rw [g2]; exact va_assign hcls) rfl rfl hdg fun H1 e z oq => ?_
  refine kk H1 _ ⟨sl_up_H hG.1 he ?_ oq, hG.2.put z oq (hG.1.2.2 k _ he)⟩
  show H1[a]? = some (vp_cell _ _)
  rw [e, vp_cell_q, vp_cell_q, arrV_store]
  congr 2
  funext q
  by_cases hq : q = i.toNatClampNeg
  · subst hq
    simp [updV, va_up, va_rf]
  · simp [updV, va_up, hq]
/-- new cells, at a label that is free -/
theorem sl_grow {H1 : Heap} {locs : List Loc} {k : Nat} {y : va_E} (hC : sl_C Γ p s m meth c cc nL own) (hG : sl_I Γ g s H locs) (hk : g k = none) (hy : va_at Γ.1 vwCl (H.size, y) H1) (hs : H.size ≤ H1.size) (ho : ∀ q : Nat, q < H.size → H1[q]? = H[q]?) : sl_I Γ (sl_up g k (H.size, y)) s H1 locs :=
  ⟨sl_new_H hG.1 hk (Nat.le_refl _) (Nat.le_trans hC.2.2.2.2.2.1 hG.2.1) hy ho, ⟨Nat.le_trans hG.2.1 hs, fun q h1 h2 => (ho q (Nat.lt_of_lt_of_le h1 hG.2.1)).trans (hG.2.2.1 q h1 h2), hG.2.2.2⟩⟩
theorem sl_new (hC : sl_C Γ p s m meth c cc nL own) (hG : sl_I Γ g s H locs) (k : Nat) (hk : g k = none) {ci index N : Nat} {C : String} {T : u_T} (hc : vwCl[ci]? = some (C, T, N)) (hin : ∀ w ∈ u_ws C T N, w ∈ lw_tbl ∧ sl_ok w = true) (ty0 : Nat → FieldType) (hty : ∀ k, k < N → parseFieldDescriptor (T k).2.2.1 = some (ty0 k)) {fs : List Value} (hfs : ∀ j, j < N → defaultValue (ty0 j) = vp_V fs j) (w1 : Cond.classLink own index C ∈ lw_tbl) (w2 : Cond.instantiable C N ∈ lw_tbl) (w3 : Cond.initialized C ∈ lw_tbl) (hcells : cells + 1 ≤ R.cells) (hslots : slots + N ≤ R.slots) (hdg : decode cc pc = .ok (.new index, 3))
    (kk : ∀ (q : Nat) (H1 : Heap), sl_I Γ (sl_up g k (q, .inr (ci, fs))) s H1 locs → W p l e R s m args below meth c H1 locs (cells + 1) (slots + N) Q (F0 m (pc + 3) ls (.ref q :: rest))) : W p l e R s m args below meth c H locs cells slots Q (F0 m pc ls rest) := by
  have hKn := (sl_hK hC).1 ci _ hc
  refine W.newcK hC.1 hC.2.1 hC.2.2.2.1 (sl_tab hC w1 rfl) (sl_tab hC w2 rfl) (sl_tab hC w3 rfl) rfl hdg hcells hslots hKn.2.1 rfl fun H1 kC hkC e1 z1 o1 => ?_
  refine kk H.size H1 (sl_grow hC hG hk ⟨_, hc, (u_born (args := args) (ws := u_ws C T N) ty0 (fun w hw => sl_tab hC (hin w hw).1 (hin w hw).2) (fun _ h => h) hKn hkC e1 hty).to hfs⟩ (by omega) o1)
theorem sl_newa (hC : sl_C Γ p s m meth c cc nL own) (hG : sl_I Γ g s H locs) (k t0 : Nat) (hk : g k = none) {atype : ArrayType} {ty : FieldType} {cA0 : ClassId} (w1 : Cond.arrayClass (newarray.typeOf atype) ∈ lw_tbl) (hty : newarray.typeOf atype = ty) (ht : (sl_tys Γ)[t0]? = some (cA0, ty)) {n : Int32} {N' : Nat} {a0 : vp_A} (ha : ∀ cA : ClassId, vp_cell cA a0 = arrV cA N' (fun _ => defaultValue ty)) (hn : ¬ n < 0) (hN : n.toNatClampNeg = N') (hbytes : N' * componentBytes ty ≤ 536870912) (hcells : cells + 1 ≤ R.cells) (hslots : slots + N' ≤ R.slots) (hdg : decode cc pc = .ok (.newarray atype, 2))
    (kk : ∀ (q : Nat) (H1 : Heap), sl_I Γ (sl_up g k (q, .inl (cA0, a0))) s H1 locs → W p l e R s m args below meth c H1 locs (cells + 1) (slots + N') Q (F0 m (pc + 2) ls (.ref q :: rest))) : W p l e R s m args below meth c H locs cells slots Q (F0 m pc ls (.int n :: rest)) := by
  subst hty
  refine va_newaK hC.1 hC.2.1 (sl_tab hC w1 rfl) rfl hdg rfl hn hN hbytes hcells hslots rfl fun H1 cA e1 z1 o1 hAr hNm => ?_
  have hnm : s.vm.findClass ("[" ++ (newarray.typeOf atype).toString) = some cA0 := by
    have h9 := ((sl_hK hC).2 t0 _ ht).2
    cases atype <;> exact h9
  have hcA : cA = cA0 := Option.some.inj (hNm.symm.trans hnm)
  subst hcA
  refine kk H.size H1 (sl_grow hC hG hk ?_ (by omega) o1)
  show H1[H.size]? = some (vp_cell _ _)
  rw [ha]
  exact e1
theorem sl_newq (hC : sl_C Γ p s m meth c cc nL own) (hG : sl_I Γ g s H locs) (k : Nat) (hk : g k = none) {index : Nat} (w1 : Cond.classLink own index "SharedLog$Entry" ∈ lw_tbl) {n : Int32} {N' : Nat} (hn : ¬ n < 0) (hN : n.toNatClampNeg = N') (hbytes : N' * 4 ≤ 536870912) (hcells : cells + 1 ≤ R.cells) (hslots : slots + N' ≤ R.slots) (hdg : decode cc pc = .ok (.anewarray index, 3))
    (kk : ∀ (q : Nat) (H1 : Heap), sl_I Γ (sl_up g k (q, .inl (Γ.2.1 2, N', .inr (.inr (.inr (.inr (fun _ => none))))))) s H1 locs → W p l e R s m args below meth c H1 locs (cells + 1) (slots + N') Q (F0 m (pc + 3) ls (.ref q :: rest))) : W p l e R s m args below meth c H locs cells slots Q (F0 m pc ls (.int n :: rest)) := by
  subst hN
  refine W.anew hC.1 hC.2.1 hC.2.2.2.1 (sl_tab hC w1 rfl) (va_AO.use hC.2.2.2.2.2.2.1.2.2.2.1) rfl hdg rfl hn hbytes hcells hslots fun cA kA comp f1 f2 f3 f4 => ?_
  have hnm : s.vm.findClass ("[" ++ (FieldType.object "SharedLog$Entry").toString) = some (Γ.2.1 2) := by
    obtain ⟨_, _, _, _, _, h9⟩ := ((sl_hK hC).2 2 _ rfl).2
    exact h9
  have hcA : cA = Γ.2.1 2 := Option.some.inj (f1.symm.trans hnm)
  subst hcA
  generalize hH1 : H.push ({ cls := Γ.2.1 2, slots := Array.replicate n.toNatClampNeg .null, vm := .none } : Cell) = H1
  have z1 : H1.size = H.size + 1 := by rw [← hH1, Array.size_push]
  have e1 : H1[H.size]? = some (arrV (Γ.2.1 2) n.toNatClampNeg (fun _ => .null)) := by rw [← hH1, Array.getElem?_push_size, ← arrV_new]
  have o1 : ∀ q : Nat, q < H.size → H1[q]? = H[q]? := fun q hq => by rw [← hH1, Array.getElem?_push, if_neg (Nat.ne_of_lt hq)]
  refine kk H.size H1 (sl_grow hC hG hk ?_ (by omega) o1)
  show H1[H.size]? = some (vp_cell _ _)
  rw [vp_cell_q]
  exact e1
theorem sl_top {v w : Value} (h : v = w) (kk : W p l e R s m args below meth c H locs cells slots Q (F0 m pc ls (w :: rest))) : W p l e R s m args below meth c H locs cells slots Q (F0 m pc ls (v :: rest)) := by
  rw [h]; exact kk
end SLR2
end
section
/-! calls, returns, the entry of a method -/
def sl_mok (y : MethodName) (n : Nat) : Prop := y.cls ≠ "java/lang/invoke/MethodHandle" ∧ y.cls ≠ "java/lang/invoke/VarHandle" ∧ (parseMethodDescriptor y.desc).map (fun d => d.parameters.length) = some n
def sl_mv (y : MethodName) (bytes : ByteArray) (maxL : Nat) (ret : Option FieldType) (n : Nat) : Prop := sl_mok y n ∧ Cond.instanceMethod y ∈ lw_tbl ∧ Cond.code y bytes maxL ret ∈ lw_tbl ∧ Cond.initialized y.cls ∈ lw_tbl ∧ Cond.selects y.cls y y ∈ lw_tbl
def sl_mi (y : MethodName) (bytes : ByteArray) (maxL : Nat) (n : Nat) : Prop := sl_mok y n ∧ Cond.instanceMethod y ∈ lw_tbl ∧ Cond.code y bytes maxL none ∈ lw_tbl ∧ Cond.initialized y.cls ∈ lw_tbl ∧ y.name = "<init>"
def sl_ms (y : MethodName) (bytes : ByteArray) (maxL : Nat) (ret : Option FieldType) (n : Nat) : Prop := sl_mok y n ∧ Cond.static y ∈ lw_tbl ∧ Cond.code y bytes maxL ret ∈ lw_tbl ∧ Cond.initialized y.cls ∈ lw_tbl
def sl_mw (y : MethodName) (bytes : ByteArray) (maxL : Nat) (ret : Option FieldType) (hh : List (Nat × Nat × Nat × Nat)) (n : Nat) : Prop := sl_mok y n ∧ Cond.static y ∈ lw_tbl ∧ Cond.codeWith y bytes maxL ret hh ∈ lw_tbl ∧ Cond.initialized y.cls ∈ lw_tbl
theorem sl_gi {w : Cond} (h : goodWord w = true) : GoodIn [w] [w] := fun x hx => ⟨hx, good_of_word (by rw [List.mem_singleton.mp hx]; exact h)⟩
section SLC
variable {p : Program} {l : Launch} {e : Env} {R : Room} {s : State} {m : MethodId} {args : Array Value} {below : List Frame} {meth : Method} {c : Code} {H : Heap} {locs : List Loc} {cells slots : Nat} {Q : State → Prop}
variable {cc : ByteArray} {nL pc : Nat} {ls : Array Slot} {rest st0 : List Value} {Γ : sl_G} {own : String} {g : sl_W}
variable {y : MethodName} {bytes : ByteArray} {maxL mc ms n index : Nat} {ret : Option FieldType} {rm : Room} {Qc : Array Value → State → Outcome → State → Prop} {b : Addr} {As : List Value} {host : String}
theorem sl_word (hC : sl_C Γ p s m meth c cc nL own) {w : Cond} (hw : w ∈ lw_tbl) (ho : sl_ok w = true) : ∀ x ∈ [w], x.before args s = true := fun x hx => by rw [List.mem_singleton.mp hx]; exact sl_tab hC hw ho
theorem sl_cB (hC : sl_C Γ p s m meth c cc nL own) (hm : sl_mok y n) (w2 : Cond.code y bytes maxL ret ∈ lw_tbl) (w3 : Cond.initialized y.cls ∈ lw_tbl) (w1 : Cond.methodLink own index y ∈ lw_tbl) (hrc : rm.cells = mc) (hrs : rm.slots = ms) (hR : rm.frames + 1 ≤ R.frames ∧ 8 + (maxL + 11) + rm.locals ≤ R.locals) : CallB R s args own index y bytes maxL ret [Cond.code y bytes maxL ret] rm mc ms n :=
  callB_of (Ts := [Cond.code y bytes maxL ret]) n (sl_word hC w2 rfl) (sl_gi rfl) rfl hrc hrs (sl_tab hC w3 rfl) (sl_tab hC w1 rfl) hm hR
theorem sl_cN (hC : sl_C Γ p s m meth c cc nL own) (hm : sl_mok y n) (w2 : Cond.code y bytes maxL ret ∈ lw_tbl) (w3 : Cond.initialized y.cls ∈ lw_tbl) (w1 : Cond.methodLinkNest own index y host ∈ lw_tbl) (hrc : rm.cells = mc) (hrs : rm.slots = ms) (hR : rm.frames + 1 ≤ R.frames ∧ 8 + (maxL + 11) + rm.locals ≤ R.locals) : va_CN R s args own index y host bytes maxL ret [Cond.code y bytes maxL ret] rm mc ms n :=
  va_cnB (Ts := [Cond.code y bytes maxL ret]) n (sl_word hC w2 rfl) (sl_gi rfl) rfl hrc hrs (hC.2.2.2.2.2.2.1.2.1 _ w1 rfl) (sl_tab hC w3 rfl) hm hR
theorem sl_fix (hC : sl_C Γ p s m meth c cc nL own) : CallFix p m c cc nL s args [] own := ⟨hC.1, hC.2.1, hC.2.2.1, hC.2.2.2.1, fun w h => nomatch h⟩
theorem sl_preS (hC : sl_C Γ p s m meth c cc nL own) (hG : sl_I Γ g s H locs) : PreS s H (va_Pc As (sl_B Γ g)) As := ⟨sl_blind, sl_pre hC hG As⟩
theorem sl_preV (hC : sl_C Γ p s m meth c cc nL own) (hG : sl_I Γ g s H locs) {k ci N : Nat} {fs : List Value} {C : String} {T : u_T} (he : g k = some (b, .inr (ci, fs))) (hc : vwCl[ci]? = some (C, T, N)) : PreV s H C b (va_Pc (.ref b :: As) (sl_B Γ g)) As :=
  ⟨sl_blind, va_recv (sl_hK hC) (sl_one hG he) (q0 := 0) hc rfl, sl_pre hC hG (.ref b :: As)⟩
/-- calls of instance methods, static ones, constructors; the same of nest mates -/
theorem sl_runV (hC : sl_C Γ p s m meth c cc nL own) (hG : sl_I Γ g s H locs) (hM : Met l y [Cond.code y bytes maxL ret] rm (va_Pc (.ref b :: As) (sl_B Γ g)) Qc mc ms (sl_A Γ)) (hm : sl_mv y bytes maxL ret n) (w1 : Cond.methodLink own index y ∈ lw_tbl) (k : Nat) {ci N : Nat} {fs : List Value} {T : u_T} (he : g k = some (b, .inr (ci, fs))) (hc : vwCl[ci]? = some (y.cls, T, N)) (hrc : rm.cells = mc) (hrs : rm.slots = ms) (hR : rm.frames + 1 ≤ R.frames ∧ 8 + (maxL + 11) + rm.locals ≤ R.locals) (hn : As.length = n) (hsz : ls.size = nL) (hst : st0 = As.reverse ++ .ref b :: rest) (hW : (rest.map fun v => v.category).sum ≤ 8) (hdg : decode cc pc = .ok (.invokevirtual index, 3)) (hf : cells + mc ≤ R.cells ∧ slots + ms ≤ R.slots) :
    va_Run p l e R s m args below meth c H locs cells slots mc ms (F0 m pc ls st0) rest (Qc (Value.ref b :: As).toArray) (sl_A Γ) :=
  va_runV (sl_fix hC) hM ⟨sl_cB hC hm.1 hm.2.2.1 hm.2.2.2.1 w1 hrc hrs hR, sl_tab hC hm.2.1 rfl, sl_tab hC hm.2.2.2.2 rfl⟩ (sl_preV hC hG he hc) rfl hn hsz hst (lv_room hW) hdg hf
theorem sl_runVN (hC : sl_C Γ p s m meth c cc nL own) (hG : sl_I Γ g s H locs) (hM : Met l y [Cond.code y bytes maxL ret] rm (va_Pc (.ref b :: As) (sl_B Γ g)) Qc mc ms (sl_A Γ)) (hm : sl_mv y bytes maxL ret n) (w1 : Cond.methodLinkNest own index y host ∈ lw_tbl) (k : Nat) {ci N : Nat} {fs : List Value} {T : u_T} (he : g k = some (b, .inr (ci, fs))) (hc : vwCl[ci]? = some (y.cls, T, N)) (hrc : rm.cells = mc) (hrs : rm.slots = ms) (hR : rm.frames + 1 ≤ R.frames ∧ 8 + (maxL + 11) + rm.locals ≤ R.locals) (hn : As.length = n) (hsz : ls.size = nL) (hst : st0 = As.reverse ++ .ref b :: rest) (hW : (rest.map fun v => v.category).sum ≤ 8) (hdg : decode cc pc = .ok (.invokevirtual index, 3)) (hf : cells + mc ≤ R.cells ∧ slots + ms ≤ R.slots) :
    va_Run p l e R s m args below meth c H locs cells slots mc ms (F0 m pc ls st0) rest (Qc (Value.ref b :: As).toArray) (sl_A Γ) :=
  va_runVN (sl_fix hC) hM ⟨sl_cN hC hm.1 hm.2.2.1 hm.2.2.2.1 w1 hrc hrs hR, sl_tab hC hm.2.1 rfl, sl_tab hC hm.2.2.2.2 rfl⟩ (sl_preV hC hG he hc) rfl hn hsz hst (lv_room hW) hdg hf
theorem sl_runS (hC : sl_C Γ p s m meth c cc nL own) (hG : sl_I Γ g s H locs) (hM : Met l y [Cond.code y bytes maxL ret] rm (va_Pc As (sl_B Γ g)) Qc mc ms (sl_A Γ)) (hm : sl_ms y bytes maxL ret n) (w1 : Cond.methodLink own index y ∈ lw_tbl) (hrc : rm.cells = mc) (hrs : rm.slots = ms) (hR : rm.frames + 1 ≤ R.frames ∧ 8 + (maxL + 11) + rm.locals ≤ R.locals) (hn : As.length = n) (hsz : ls.size = nL) (hst : st0 = As.reverse ++ rest) (hW : (rest.map fun v => v.category).sum ≤ 8) (hdg : decode cc pc = .ok (.invokestatic index, 3)) (hf : cells + mc ≤ R.cells ∧ slots + ms ≤ R.slots) :
    va_Run p l e R s m args below meth c H locs cells slots mc ms (F0 m pc ls st0) rest (Qc As.toArray) (sl_A Γ) :=
  va_runS (sl_fix hC) hM ⟨sl_cB hC hm.1 hm.2.2.1 hm.2.2.2 w1 hrc hrs hR, sl_tab hC hm.2.1 rfl⟩ (sl_preS hC hG) rfl hn hsz hst (lv_room hW) hdg hf
theorem sl_runSN (hC : sl_C Γ p s m meth c cc nL own) (hG : sl_I Γ g s H locs) (hM : Met l y [Cond.code y bytes maxL ret] rm (va_Pc As (sl_B Γ g)) Qc mc ms (sl_A Γ)) (hm : sl_ms y bytes maxL ret n) (w1 : Cond.methodLinkNest own index y host ∈ lw_tbl) (hrc : rm.cells = mc) (hrs : rm.slots = ms) (hR : rm.frames + 1 ≤ R.frames ∧ 8 + (maxL + 11) + rm.locals ≤ R.locals) (hn : As.length = n) (hsz : ls.size = nL) (hst : st0 = As.reverse ++ rest) (hW : (rest.map fun v => v.category).sum ≤ 8) (hdg : decode cc pc = .ok (.invokestatic index, 3)) (hf : cells + mc ≤ R.cells ∧ slots + ms ≤ R.slots) :
    va_Run p l e R s m args below meth c H locs cells slots mc ms (F0 m pc ls st0) rest (Qc As.toArray) (sl_A Γ) :=
  va_runSN (sl_fix hC) hM ⟨sl_cN hC hm.1 hm.2.2.1 hm.2.2.2 w1 hrc hrs hR, sl_tab hC hm.2.1 rfl, trivial⟩ (sl_preS hC hG) rfl hn hsz hst (lv_room hW) hdg hf
theorem sl_runI (hC : sl_C Γ p s m meth c cc nL own) (hG : sl_I Γ g s H locs) (hM : Met l y [Cond.code y bytes maxL none] rm (va_Pc (.ref b :: As) (sl_B Γ g)) Qc mc ms (sl_A Γ)) (hm : sl_mi y bytes maxL n) (w1 : Cond.methodLink own index y ∈ lw_tbl) (hrc : rm.cells = mc) (hrs : rm.slots = ms) (hR : rm.frames + 1 ≤ R.frames ∧ 8 + (maxL + 11) + rm.locals ≤ R.locals) (hn : As.length = n) (hsz : ls.size = nL) (hst : st0 = As.reverse ++ .ref b :: rest) (hW : (rest.map fun v => v.category).sum ≤ 8) (hdg : decode cc pc = .ok (.invokespecial index, 3)) (hf : cells + mc ≤ R.cells ∧ slots + ms ≤ R.slots) :
    va_Run p l e R s m args below meth c H locs cells slots mc ms (F0 m pc ls st0) rest (Qc (Value.ref b :: As).toArray) (sl_A Γ) :=
  va_runI (sl_fix hC) hM ⟨sl_cB hC hm.1 hm.2.2.1 hm.2.2.2.1 w1 hrc hrs hR, hm.2.2.2.2, sl_tab hC hm.2.1 rfl⟩ (sl_preS hC hG) rfl hn hsz hst (lv_room hW) hdg hf
theorem sl_runIN (hC : sl_C Γ p s m meth c cc nL own) (hG : sl_I Γ g s H locs) (hM : Met l y [Cond.code y bytes maxL none] rm (va_Pc (.ref b :: As) (sl_B Γ g)) Qc mc ms (sl_A Γ)) (hm : sl_mi y bytes maxL n) (w1 : Cond.methodLinkNest own index y host ∈ lw_tbl) (hrc : rm.cells = mc) (hrs : rm.slots = ms) (hR : rm.frames + 1 ≤ R.frames ∧ 8 + (maxL + 11) + rm.locals ≤ R.locals) (hn : As.length = n) (hsz : ls.size = nL) (hst : st0 = As.reverse ++ .ref b :: rest) (hW : (rest.map fun v => v.category).sum ≤ 8) (hdg : decode cc pc = .ok (.invokespecial index, 3)) (hf : cells + mc ≤ R.cells ∧ slots + ms ≤ R.slots) :
    va_Run p l e R s m args below meth c H locs cells slots mc ms (F0 m pc ls st0) rest (Qc (Value.ref b :: As).toArray) (sl_A Γ) :=
  va_runIN (sl_fix hC) hM ⟨sl_cN hC hm.1 hm.2.2.1 hm.2.2.2.1 w1 hrc hrs hR, hm.2.2.2.2, sl_tab hC hm.2.1 rfl⟩ (sl_preS hC hG) rfl hn hsz hst (lv_room hW) hdg hf
end SLC
/-- answers: an int, nothing, a reference or null; the world then -/
abbrev sl_Qi (Γ : sl_G) {S : Type} (post : Int32 → S → Prop) (gg : S → sl_W) : Array Value → State → Outcome → State → Prop := va_Qi post (fun u t => sl_H Γ (gg u) t.heap) (sl_A Γ)
abbrev sl_Qv (Γ : sl_G) {S : Type} (post : S → Prop) (gg : S → sl_W) : Array Value → State → Outcome → State → Prop := va_Qv post (fun u t => sl_H Γ (gg u) t.heap) (sl_A Γ)
abbrev sl_Qq (Γ : sl_G) {S : Type} (post : Option Nat → S → Prop) (gg : S → sl_W) : Array Value → State → Outcome → State → Prop := va_Qq post (fun u t => sl_H Γ (gg u) t.heap) (sl_A Γ)
section SLD
variable {p : Program} {l : Launch} {e : Env} {R : Room} {s : State} {m : MethodId} {args a : Array Value} {below : List Frame} {meth : Method} {c : Code} {H : Heap} {locs : List Loc} {cells slots mc ms : Nat} {Q : State → Prop}
variable {cc : ByteArray} {nL pc : Nat} {ls : Array Slot} {rest st0 : List Value} {Γ : sl_G} {own : String} {g : sl_W} {S : Type} {gg : S → sl_W}
theorem sl_calli {post : Int32 → S → Prop} (hr : va_Run p l e R s m args below meth c H locs cells slots mc ms (F0 m pc ls st0) rest (sl_Qi Γ post gg a) (sl_A Γ)) (hG : sl_I Γ g s H locs)
    (kk : ∀ (r : Int32) (u : S) (H1 : Heap) (locs1 : List Loc), post r u → sl_I Γ (gg u) s H1 locs1 → W p l e R s m args below meth c H1 locs1 (cells + mc) (slots + ms) Q (F0 m (pc + 3) ls (.int r :: rest))) : W p l e R s m args below meth c H locs cells slots Q (F0 m pc ls st0) :=
  va_calli hr hG.2 (fun _ _ h => h) (fun _ h => h) (fun r u t H1 locs1 ht _ hp hB _ _ hS => kk r u H1 locs1 hp ⟨by rw [← ht]; exact hB, hS⟩)
theorem sl_callv {post : S → Prop} (hr : va_Run p l e R s m args below meth c H locs cells slots mc ms (F0 m pc ls st0) rest (sl_Qv Γ post gg a) (sl_A Γ)) (hG : sl_I Γ g s H locs)
    (kk : ∀ (u : S) (H1 : Heap) (locs1 : List Loc), post u → sl_I Γ (gg u) s H1 locs1 → W p l e R s m args below meth c H1 locs1 (cells + mc) (slots + ms) Q (F0 m (pc + 3) ls rest)) : W p l e R s m args below meth c H locs cells slots Q (F0 m pc ls st0) :=
  va_callv hr hG.2 (fun _ _ h => h) (fun _ h => h) (fun u t H1 locs1 ht _ hp hB _ _ hS => kk u H1 locs1 hp ⟨by rw [← ht]; exact hB, hS⟩)
theorem sl_callq {post : Option Nat → S → Prop} (hr : va_Run p l e R s m args below meth c H locs cells slots mc ms (F0 m pc ls st0) rest (sl_Qq Γ post gg a) (sl_A Γ)) (hG : sl_I Γ g s H locs)
    (kk : ∀ (r : Option Nat) (u : S) (H1 : Heap) (locs1 : List Loc), post r u → sl_I Γ (gg u) s H1 locs1 → W p l e R s m args below meth c H1 locs1 (cells + mc) (slots + ms) Q (F0 m (pc + 3) ls (va_rf r :: rest))) : W p l e R s m args below meth c H locs cells slots Q (F0 m pc ls st0) :=
  va_callq hr hG.2 (fun _ _ h => h) (fun _ h => h) (fun r u t H1 locs1 ht _ hp hB _ _ hS => kk r u H1 locs1 hp ⟨by rw [← ht]; exact hB, hS⟩)
theorem sl_ri {post : Int32 → S → Prop} {v : Int32} (hC : sl_C Γ p s m meth c cc nL own) (hr : meth.sig.returnType = some .int) (hG : sl_I Γ g s H locs) (u : S) (hp : post v u) (hgu : gg u = g) (hc : cells ≤ mc) (hs : slots ≤ ms) (hdg : decode cc pc = .ok (.ireturn, 1)) :
    W p l e R s m args below meth c H locs cells slots (MQ below (sl_Qi Γ post gg) args s mc ms (sl_A Γ)) (F0 m pc ls [.int v]) :=
  W.widen hc hs (W.iret hC.1 hC.2.1 hr (fun t ht hW => ⟨⟨v, u, rfl, hp, by show sl_H Γ (gg u) t.heap; rw [hgu, ht]; exact hG.1⟩, hG.2.F ht⟩) hG.2.2.2 hdg hC.2.2.2.2.1)
theorem sl_rz {post : Int32 → S → Prop} {v : Int32} (hC : sl_C Γ p s m meth c cc nL own) (hr : meth.sig.returnType = some .boolean) (hn : narrow .boolean (.int v) = .int v) (hG : sl_I Γ g s H locs) (u : S) (hp : post v u) (hgu : gg u = g) (hc : cells ≤ mc) (hs : slots ≤ ms) (hdg : decode cc pc = .ok (.ireturn, 1)) :
    W p l e R s m args below meth c H locs cells slots (MQ below (sl_Qi Γ post gg) args s mc ms (sl_A Γ)) (F0 m pc ls [.int v]) :=
  W.widen hc hs (W.zret hC.1 hC.2.1 hr hn (fun t ht hW => ⟨⟨v, u, rfl, hp, by show sl_H Γ (gg u) t.heap; rw [hgu, ht]; exact hG.1⟩, hG.2.F ht⟩) hG.2.2.2 hdg hC.2.2.2.2.1)
theorem sl_rv {post : S → Prop} (hC : sl_C Γ p s m meth c cc nL own) (hr : meth.sig.returnType = none) (hG : sl_I Γ g s H locs) (u : S) (hp : post u) (hgu : gg u = g) (hc : cells ≤ mc) (hs : slots ≤ ms) (hdg : decode cc pc = .ok (.return_, 1)) :
    W p l e R s m args below meth c H locs cells slots (MQ below (sl_Qv Γ post gg) args s mc ms (sl_A Γ)) (F0 m pc ls []) :=
  W.widen hc hs (W.vret hC.1 hC.2.1 hr (fun t ht hW => ⟨⟨u, rfl, hp, by show sl_H Γ (gg u) t.heap; rw [hgu, ht]; exact hG.1⟩, hG.2.F ht⟩) hG.2.2.2 hdg hC.2.2.2.2.1)
theorem sl_rq {post : Option Nat → S → Prop} {v : Option Nat} {nm : String} (hC : sl_C Γ p s m meth c cc nL own) (hr : meth.sig.returnType = some (.object nm)) (hG : sl_I Γ g s H locs) (u : S) (hp : post v u) (hgu : gg u = g) (hc : cells ≤ mc) (hs : slots ≤ ms) (hdg : decode cc pc = .ok (.areturn, 1)) :
    W p l e R s m args below meth c H locs cells slots (MQ below (sl_Qq Γ post gg) args s mc ms (sl_A Γ)) (F0 m pc ls [va_rf v]) :=
  W.widen hc hs (W.aret hC.1 hC.2.1 hr (Or.inl ⟨nm, rfl⟩) (va_rf_or v) (fun t ht hW => ⟨⟨v, u, rfl, hp, by show sl_H Γ (gg u) t.heap; rw [hgu, ht]; exact hG.1⟩, hG.2.F ht⟩) hG.2.2.2 hdg hC.2.2.2.2.1)
end SLD
/-- a method's body, from its entry: what is there -/
theorem sl_ent {Γ : sl_G} {l : Launch} {y : MethodName} {bytes : ByteArray} {maxL : Nat} {ret : Option FieldType} {rm : Room} {g : sl_W} {av : List Value} {Qc : Array Value → State → Outcome → State → Prop} {mc ms : Nat} (hy : plainName y.cls = true) (hL : (lg_sl av).length ≤ maxL)
    (body : ∀ (p : Program) (e : Env) (s : State) (m : MethodId) (below : List Frame) (meth : Method) (c : Code) (ls : Array Slot), sl_C Γ p s m meth c bytes maxL y.cls → meth.sig.returnType = ret → meth.name = y.name → sl_I Γ g s s.heap [] → lv_has ls maxL (lv_args 0 av) →
      W p l e rm s m av.toArray below meth c s.heap [] 0 0 (MQ below Qc av.toArray s mc ms (sl_A Γ)) (F0 m 0 ls [])) : Met l y [Cond.code y bytes maxL ret] rm (va_Pc av (sl_B Γ g)) Qc mc ms (sl_A Γ) := by
  refine Met.ofW (cc := bytes) (maxL := maxL) (ret := ret) hy rfl ?_
  intro p e s m args below meth c s₁ B hml hv
  obtain ⟨rfl, h0, hH, hV, hZ⟩ := hv
  have hl := lv_entry av (n := maxL) hL
  rw [lg_entry_eq]
  exact body p e s m below meth c _ ⟨B.exec, B.bytes, hml, findClass_of_methodNamed B.named, B.notSynchronized, h0, hV, hZ⟩ B.returns (name_of_methodNamed B.named B.method).1 ⟨hH, va_S.rf⟩ hl
end
section
/-! each link, each method: its words, by their places in the tables -/
theorem ini_RL : Cond.initialized RL ∈ lw_tbl := List.mem_of_getElem? (i := 26) (by decide +kernel)
theorem ini_RX4 : Cond.initialized RX4 ∈ lw_tbl := List.mem_of_getElem? (i := 27) (by decide +kernel)
theorem ini_RX0 : Cond.initialized RX0 ∈ lw_tbl := List.mem_of_getElem? (i := 28) (by decide +kernel)
theorem ini_RJ7 : Cond.initialized RJ7 ∈ lw_tbl := List.mem_of_getElem? (i := 29) (by decide +kernel)
theorem ini_RX3 : Cond.initialized RX3 ∈ lw_tbl := List.mem_of_getElem? (i := 30) (by decide +kernel)
theorem ini_RX2 : Cond.initialized RX2 ∈ lw_tbl := List.mem_of_getElem? (i := 31) (by decide +kernel)
theorem ini_Throwable : Cond.initialized "java/lang/Throwable" ∈ lw_tbl := List.mem_of_getElem? (i := 32) (by decide +kernel)
theorem ini_Exception : Cond.initialized "java/lang/Exception" ∈ lw_tbl := List.mem_of_getElem? (i := 33) (by decide +kernel)
theorem ini_RuntimeException : Cond.initialized "java/lang/RuntimeException" ∈ lw_tbl := List.mem_of_getElem? (i := 34) (by decide +kernel)
theorem ini_IllegalArgumentException : Cond.initialized "java/lang/IllegalArgumentException" ∈ lw_tbl := List.mem_of_getElem? (i := 35) (by decide +kernel)
theorem ini_IllegalStateException : Cond.initialized "java/lang/IllegalStateException" ∈ lw_tbl := List.mem_of_getElem? (i := 36) (by decide +kernel)
theorem ini_RX1 : Cond.initialized RX1 ∈ lw_tbl := List.mem_of_getElem? (i := 37) (by decide +kernel)
theorem ini_IndexOutOfBoundsException : Cond.initialized "java/lang/IndexOutOfBoundsException" ∈ lw_tbl := List.mem_of_getElem? (i := 38) (by decide +kernel)
theorem lk_RL_9 : Cond.classLink RL 9 RX4 ∈ lw_tbl := List.mem_of_getElem? (i := 39) (by decide +kernel)
theorem in_RX4 : Cond.instantiable RX4 8 ∈ lw_tbl := List.mem_of_getElem? (i := 40) (by decide +kernel)
theorem lk_RL_31 : Cond.methodLink RL 31 yX4_init ∈ lw_tbl := List.mem_of_getElem? (i := 41) (by decide +kernel)
theorem lk_RX4_1 : Cond.methodLink RX4 1 objectInit ∈ lw_tbl := List.mem_of_getElem? (i := 44) (by decide +kernel)
theorem oi_inst : Cond.instanceMethod objectInit ∈ lw_tbl := List.mem_of_getElem? (i := 45) (by decide +kernel)
theorem oi_code : Cond.code objectInit ⟨#[0xb1]⟩ 1 none ∈ lw_tbl := List.mem_of_getElem? (i := 46) (by decide +kernel)
theorem lk_RX4_9 : Cond.classLink RX4 9 RX1 ∈ lw_tbl := List.mem_of_getElem? (i := 47) (by decide +kernel)
theorem lk_RX4_15 : Cond.classLink RX4 15 RX0 ∈ lw_tbl := List.mem_of_getElem? (i := 49) (by decide +kernel)
theorem in_RX0 : Cond.instantiable RX0 1 ∈ lw_tbl := List.mem_of_getElem? (i := 50) (by decide +kernel)
theorem lk_RX4_17 : Cond.methodLinkNest RX4 17 yX0_init RX4 ∈ lw_tbl := List.mem_of_getElem? (i := 51) (by decide +kernel)
theorem lk_RX0_3 : Cond.methodLink RX0 3 objectInit ∈ lw_tbl := List.mem_of_getElem? (i := 54) (by decide +kernel)
theorem lk_RX0_15 : Cond.methodLink RX0 15 yJ7_fill_53178 ∈ lw_tbl := List.mem_of_getElem? (i := 55) (by decide +kernel)
theorem lk_RX0_9 : Cond.fieldLink RX0 9 RX0 "contents" "[I" ∈ lw_tbl := List.mem_of_getElem? (i := 58) (by decide +kernel)
theorem ac_int : Cond.arrayClass .int ∈ lw_tbl := List.mem_of_getElem? (i := 62) (by decide +kernel)
theorem lk_RX4_22 : Cond.classLink RX4 22 RX3 ∈ lw_tbl := List.mem_of_getElem? (i := 63) (by decide +kernel)
theorem in_RX3 : Cond.instantiable RX3 1 ∈ lw_tbl := List.mem_of_getElem? (i := 64) (by decide +kernel)
theorem lk_RX4_24 : Cond.methodLinkNest RX4 24 yX3_init RX4 ∈ lw_tbl := List.mem_of_getElem? (i := 65) (by decide +kernel)
theorem lk_RX3_3 : Cond.methodLink RX3 3 objectInit ∈ lw_tbl := List.mem_of_getElem? (i := 68) (by decide +kernel)
theorem lk_RX3_15 : Cond.methodLink RX3 15 yJ7_fill_53178 ∈ lw_tbl := List.mem_of_getElem? (i := 69) (by decide +kernel)
theorem lk_RX3_9 : Cond.fieldLink RX3 9 RX3 "positions" "[I" ∈ lw_tbl := List.mem_of_getElem? (i := 70) (by decide +kernel)
theorem lk_RX4_29 : Cond.classLink RX4 29 RX2 ∈ lw_tbl := List.mem_of_getElem? (i := 74) (by decide +kernel)
theorem in_RX2 : Cond.instantiable RX2 3 ∈ lw_tbl := List.mem_of_getElem? (i := 75) (by decide +kernel)
theorem lk_RX4_31 : Cond.methodLinkNest RX4 31 yX2_init RX4 ∈ lw_tbl := List.mem_of_getElem? (i := 76) (by decide +kernel)
theorem lk_RX2_3 : Cond.methodLink RX2 3 objectInit ∈ lw_tbl := List.mem_of_getElem? (i := 79) (by decide +kernel)
theorem lk_RX2_9 : Cond.fieldLink RX2 9 RX2 "effects" "[Z" ∈ lw_tbl := List.mem_of_getElem? (i := 80) (by decide +kernel)
theorem lk_RX2_15 : Cond.fieldLink RX2 15 RX2 "changes" "[I" ∈ lw_tbl := List.mem_of_getElem? (i := 81) (by decide +kernel)
theorem lk_RX2_19 : Cond.fieldLink RX2 19 RX2 "folded" "I" ∈ lw_tbl := List.mem_of_getElem? (i := 82) (by decide +kernel)
theorem ac_boolean : Cond.arrayClass .boolean ∈ lw_tbl := List.mem_of_getElem? (i := 90) (by decide +kernel)
theorem lk_RX4_11 : Cond.fieldLink RX4 11 RX4 "entries" "[LSharedLog$Entry;" ∈ lw_tbl := List.mem_of_getElem? (i := 91) (by decide +kernel)
theorem lk_RX4_18 : Cond.fieldLink RX4 18 RX4 "cells" "LSharedLog$Cells;" ∈ lw_tbl := List.mem_of_getElem? (i := 92) (by decide +kernel)
theorem lk_RX4_25 : Cond.fieldLink RX4 25 RX4 "sequencerKnows" "LSharedLog$Trail;" ∈ lw_tbl := List.mem_of_getElem? (i := 93) (by decide +kernel)
theorem lk_RX4_32 : Cond.fieldLink RX4 32 RX4 "fold" "LSharedLog$Fold;" ∈ lw_tbl := List.mem_of_getElem? (i := 94) (by decide +kernel)
theorem lk_RX4_36 : Cond.fieldLink RX4 36 RX4 "handedOut" "I" ∈ lw_tbl := List.mem_of_getElem? (i := 95) (by decide +kernel)
theorem lk_RX4_40 : Cond.fieldLink RX4 40 RX4 "epoch" "I" ∈ lw_tbl := List.mem_of_getElem? (i := 96) (by decide +kernel)
theorem lk_RX4_43 : Cond.fieldLink RX4 43 RX4 "tail" "I" ∈ lw_tbl := List.mem_of_getElem? (i := 97) (by decide +kernel)
theorem lk_RX4_46 : Cond.fieldLink RX4 46 RX4 "sequencerLost" "Z" ∈ lw_tbl := List.mem_of_getElem? (i := 98) (by decide +kernel)
theorem lk_RL_48 : Cond.methodLink RL 48 yX4_take ∈ lw_tbl := List.mem_of_getElem? (i := 116) (by decide +kernel)
theorem lk_RX4_50 : Cond.methodLink RX4 50 yX4_isSetOfStreams ∈ lw_tbl := List.mem_of_getElem? (i := 120) (by decide +kernel)
theorem lk_RX4_54 : Cond.methodLink RX4 54 yX4_isAmount ∈ lw_tbl := List.mem_of_getElem? (i := 123) (by decide +kernel)
theorem lk_RX4_57 : Cond.classLink RX4 57 "java/lang/IllegalArgumentException" ∈ lw_tbl := List.mem_of_getElem? (i := 126) (by decide +kernel)
theorem lk_RX4_61 : Cond.methodLink RX4 61 ⟨"java/lang/IllegalArgumentException", "<init>", "(Ljava/lang/String;)V"⟩ ∈ lw_tbl := List.mem_of_getElem? (i := 168) (by decide +kernel)
theorem ac_byte : Cond.arrayClass .byte ∈ lw_tbl := List.mem_of_getElem? (i := 193) (by decide +kernel)
theorem lk_RX4_64 : Cond.methodLink RX4 64 yX4_handOut ∈ lw_tbl := List.mem_of_getElem? (i := 194) (by decide +kernel)
theorem lk_RX4_72 : Cond.classLink RX4 72 "java/lang/IllegalStateException" ∈ lw_tbl := List.mem_of_getElem? (i := 198) (by decide +kernel)
theorem lk_RX4_76 : Cond.methodLink RX4 76 ⟨"java/lang/IllegalStateException", "<init>", "(Ljava/lang/String;)V"⟩ ∈ lw_tbl := List.mem_of_getElem? (i := 208) (by decide +kernel)
theorem lk_RX4_180 : Cond.methodLinkNest RX4 180 yX3_copyFor RX4 ∈ lw_tbl := List.mem_of_getElem? (i := 214) (by decide +kernel)
theorem lk_RX3_10 : Cond.classLink RX3 10 RX3 ∈ lw_tbl := List.mem_of_getElem? (i := 218) (by decide +kernel)
theorem lk_RX3_40 : Cond.methodLink RX3 40 yX3_init ∈ lw_tbl := List.mem_of_getElem? (i := 219) (by decide +kernel)
theorem lk_RX3_28 : Cond.methodLinkNest RX3 28 yX4_isIn RX4 ∈ lw_tbl := List.mem_of_getElem? (i := 220) (by decide +kernel)
theorem lk_RX3_32 : Cond.methodLink RX3 32 yX3_get ∈ lw_tbl := List.mem_of_getElem? (i := 223) (by decide +kernel)
theorem lk_RX3_21 : Cond.methodLinkNest RX3 21 yX4_isStream RX4 ∈ lw_tbl := List.mem_of_getElem? (i := 227) (by decide +kernel)
theorem lk_RX3_25 : Cond.methodLinkNest RX3 25 yX4_isPointerNumber RX4 ∈ lw_tbl := List.mem_of_getElem? (i := 230) (by decide +kernel)
theorem lk_RX3_36 : Cond.methodLink RX3 36 yX3_set ∈ lw_tbl := List.mem_of_getElem? (i := 233) (by decide +kernel)
theorem in_RX1 : Cond.instantiable RX1 8 ∈ lw_tbl := List.mem_of_getElem? (i := 237) (by decide +kernel)
theorem lk_RX4_184 : Cond.methodLinkNest RX4 184 yX1_init RX4 ∈ lw_tbl := List.mem_of_getElem? (i := 238) (by decide +kernel)
theorem lk_RX1_1 : Cond.methodLink RX1 1 objectInit ∈ lw_tbl := List.mem_of_getElem? (i := 241) (by decide +kernel)
theorem lk_RX1_13 : Cond.fieldLink RX1 13 RX1 "position" "I" ∈ lw_tbl := List.mem_of_getElem? (i := 242) (by decide +kernel)
theorem lk_RX4_109 : Cond.fieldLinkNest RX4 109 RX1 "position" "I" RX4 ∈ lw_tbl := List.mem_of_getElem? (i := 243) (by decide +kernel)
theorem lk_RX1_16 : Cond.fieldLink RX1 16 RX1 "epoch" "I" ∈ lw_tbl := List.mem_of_getElem? (i := 244) (by decide +kernel)
theorem lk_RX4_106 : Cond.fieldLinkNest RX4 106 RX1 "epoch" "I" RX4 ∈ lw_tbl := List.mem_of_getElem? (i := 245) (by decide +kernel)
theorem lk_RX1_19 : Cond.fieldLink RX1 19 RX1 "streams" "I" ∈ lw_tbl := List.mem_of_getElem? (i := 246) (by decide +kernel)
theorem lk_RX2_41 : Cond.fieldLinkNest RX2 41 RX1 "streams" "I" RX4 ∈ lw_tbl := List.mem_of_getElem? (i := 247) (by decide +kernel)
theorem lk_RX4_88 : Cond.fieldLinkNest RX4 88 RX1 "streams" "I" RX4 ∈ lw_tbl := List.mem_of_getElem? (i := 248) (by decide +kernel)
theorem lk_RX1_22 : Cond.fieldLink RX1 22 RX1 "amount" "I" ∈ lw_tbl := List.mem_of_getElem? (i := 249) (by decide +kernel)
theorem lk_RX4_197 : Cond.fieldLinkNest RX4 197 RX1 "amount" "I" RX4 ∈ lw_tbl := List.mem_of_getElem? (i := 250) (by decide +kernel)
theorem lk_RX1_25 : Cond.fieldLink RX1 25 RX1 "read" "I" ∈ lw_tbl := List.mem_of_getElem? (i := 251) (by decide +kernel)
theorem lk_RX2_29 : Cond.fieldLinkNest RX2 29 RX1 "read" "I" RX4 ∈ lw_tbl := List.mem_of_getElem? (i := 252) (by decide +kernel)
theorem lk_RX1_28 : Cond.fieldLink RX1 28 RX1 "version" "I" ∈ lw_tbl := List.mem_of_getElem? (i := 253) (by decide +kernel)
theorem lk_RX2_34 : Cond.fieldLinkNest RX2 34 RX1 "version" "I" RX4 ∈ lw_tbl := List.mem_of_getElem? (i := 254) (by decide +kernel)
theorem lk_RX1_31 : Cond.fieldLink RX1 31 RX1 "pointers" "LSharedLog$Trail;" ∈ lw_tbl := List.mem_of_getElem? (i := 255) (by decide +kernel)
theorem lk_RX4_138 : Cond.fieldLinkNest RX4 138 RX1 "pointers" "LSharedLog$Trail;" RX4 ∈ lw_tbl := List.mem_of_getElem? (i := 256) (by decide +kernel)
theorem lk_RX1_7 : Cond.fieldLink RX1 7 RX1 "steps" "I" ∈ lw_tbl := List.mem_of_getElem? (i := 257) (by decide +kernel)
theorem lk_RX4_103 : Cond.fieldLinkNest RX4 103 RX1 "steps" "I" RX4 ∈ lw_tbl := List.mem_of_getElem? (i := 258) (by decide +kernel)
theorem lk_RX4_91 : Cond.methodLinkNest RX4 91 yX3_push RX4 ∈ lw_tbl := List.mem_of_getElem? (i := 276) (by decide +kernel)
theorem lk_RL_51 : Cond.methodLink RL 51 yX4_takeIf ∈ lw_tbl := List.mem_of_getElem? (i := 280) (by decide +kernel)
theorem lk_RL_68 : Cond.methodLink RL 68 yX4_lose ∈ lw_tbl := List.mem_of_getElem? (i := 286) (by decide +kernel)
theorem lk_RL_71 : Cond.methodLink RL 71 yX4_seal ∈ lw_tbl := List.mem_of_getElem? (i := 291) (by decide +kernel)
theorem lk_RX4_77 : Cond.methodLinkNest RX4 77 yX0_end RX4 ∈ lw_tbl := List.mem_of_getElem? (i := 295) (by decide +kernel)
theorem lk_RX0_32 : Cond.methodLink RX0 32 yX0_countWritten ∈ lw_tbl := List.mem_of_getElem? (i := 299) (by decide +kernel)
theorem lk_RX0_28 : Cond.methodLink RX0 28 yX0_get ∈ lw_tbl := List.mem_of_getElem? (i := 303) (by decide +kernel)
theorem lk_RX0_21 : Cond.methodLinkNest RX0 21 yX4_isReplica RX4 ∈ lw_tbl := List.mem_of_getElem? (i := 307) (by decide +kernel)
theorem lk_RX0_25 : Cond.methodLinkNest RX0 25 yX4_isPosition RX4 ∈ lw_tbl := List.mem_of_getElem? (i := 310) (by decide +kernel)
theorem lk_RX4_81 : Cond.methodLinkNest RX4 81 yX3_clear RX4 ∈ lw_tbl := List.mem_of_getElem? (i := 313) (by decide +kernel)
theorem lk_RX4_84 : Cond.methodLink RX4 84 yX4_entryIn ∈ lw_tbl := List.mem_of_getElem? (i := 317) (by decide +kernel)
theorem lk_RX4_112 : Cond.methodLinkNest RX4 112 yX0_get RX4 ∈ lw_tbl := List.mem_of_getElem? (i := 321) (by decide +kernel)
theorem lk_RX4_95 : Cond.methodLink RX4 95 yX4_entryOf ∈ lw_tbl := List.mem_of_getElem? (i := 322) (by decide +kernel)
theorem lk_RL_65 : Cond.methodLink RL 65 yX4_fill ∈ lw_tbl := List.mem_of_getElem? (i := 326) (by decide +kernel)
theorem lk_RX4_120 : Cond.methodLink RX4 120 yX4_isPosition ∈ lw_tbl := List.mem_of_getElem? (i := 330) (by decide +kernel)
theorem lk_RX4_98 : Cond.classLink RX4 98 "java/lang/IndexOutOfBoundsException" ∈ lw_tbl := List.mem_of_getElem? (i := 331) (by decide +kernel)
theorem lk_RX4_102 : Cond.methodLink RX4 102 ⟨"java/lang/IndexOutOfBoundsException", "<init>", "(Ljava/lang/String;)V"⟩ ∈ lw_tbl := List.mem_of_getElem? (i := 341) (by decide +kernel)
theorem lk_RX4_125 : Cond.methodLinkNest RX4 125 yX0_isComplete RX4 ∈ lw_tbl := List.mem_of_getElem? (i := 347) (by decide +kernel)
theorem lk_RX4_116 : Cond.methodLinkNest RX4 116 yX0_put RX4 ∈ lw_tbl := List.mem_of_getElem? (i := 352) (by decide +kernel)
theorem lk_RL_45 : Cond.methodLink RL 45 yX4_epoch ∈ lw_tbl := List.mem_of_getElem? (i := 356) (by decide +kernel)
theorem lk_RL_41 : Cond.methodLink RL 41 yX4_tail ∈ lw_tbl := List.mem_of_getElem? (i := 360) (by decide +kernel)
theorem lk_RL_55 : Cond.methodLink RL 55 yX4_positionOf ∈ lw_tbl := List.mem_of_getElem? (i := 364) (by decide +kernel)
theorem lk_RL_58 : Cond.methodLink RL 58 yX4_stateOf ∈ lw_tbl := List.mem_of_getElem? (i := 369) (by decide +kernel)
theorem lk_RL_8 : Cond.methodLink RL 8 yX4_cellAt ∈ lw_tbl := List.mem_of_getElem? (i := 373) (by decide +kernel)
theorem lk_RX4_142 : Cond.methodLink RX4 142 yX4_isReplica ∈ lw_tbl := List.mem_of_getElem? (i := 377) (by decide +kernel)
theorem lk_RL_74 : Cond.methodLink RL 74 yX4_known ∈ lw_tbl := List.mem_of_getElem? (i := 379) (by decide +kernel)
theorem lk_RX4_147 : Cond.methodLinkNest RX4 147 yX0_completeFromStart RX4 ∈ lw_tbl := List.mem_of_getElem? (i := 383) (by decide +kernel)
theorem lk_RX0_36 : Cond.methodLink RX0 36 yX0_isComplete ∈ lw_tbl := List.mem_of_getElem? (i := 387) (by decide +kernel)
theorem lk_RL_32 : Cond.methodLink RL 32 yL_cell ∈ lw_tbl := List.mem_of_getElem? (i := 388) (by decide +kernel)
theorem lk_RL_38 : Cond.methodLink RL 38 yL_low ∈ lw_tbl := List.mem_of_getElem? (i := 391) (by decide +kernel)
theorem lk_RL_77 : Cond.methodLink RL 77 yL_folds ∈ lw_tbl := List.mem_of_getElem? (i := 395) (by decide +kernel)
theorem lk_RL_81 : Cond.methodLink RL 81 yL_isFolded ∈ lw_tbl := List.mem_of_getElem? (i := 398) (by decide +kernel)
theorem lk_RL_14 : Cond.methodLink RL 14 yX4_value ∈ lw_tbl := List.mem_of_getElem? (i := 401) (by decide +kernel)
theorem lk_RX4_130 : Cond.methodLink RX4 130 yX4_isStream ∈ lw_tbl := List.mem_of_getElem? (i := 405) (by decide +kernel)
theorem lk_RX4_159 : Cond.methodLink RX4 159 yX4_isEndOfKnown ∈ lw_tbl := List.mem_of_getElem? (i := 406) (by decide +kernel)
theorem lk_RX4_152 : Cond.methodLink RX4 152 yX4_foldUpTo ∈ lw_tbl := List.mem_of_getElem? (i := 411) (by decide +kernel)
theorem lk_RX4_190 : Cond.methodLinkNest RX4 190 yX2_restart RX4 ∈ lw_tbl := List.mem_of_getElem? (i := 415) (by decide +kernel)
theorem lk_RX2_23 : Cond.methodLink RX2 23 yJ7_fill_53178 ∈ lw_tbl := List.mem_of_getElem? (i := 419) (by decide +kernel)
theorem lk_RX4_193 : Cond.methodLinkNest RX4 193 yX2_add RX4 ∈ lw_tbl := List.mem_of_getElem? (i := 420) (by decide +kernel)
theorem lk_RX2_37 : Cond.methodLink RX2 37 yX2_isUnchanged ∈ lw_tbl := List.mem_of_getElem? (i := 424) (by decide +kernel)
theorem lk_RX2_48 : Cond.methodLinkNest RX2 48 yX4_isIn RX4 ∈ lw_tbl := List.mem_of_getElem? (i := 428) (by decide +kernel)
theorem lk_RX2_44 : Cond.methodLink RX2 44 yX2_noteChange ∈ lw_tbl := List.mem_of_getElem? (i := 429) (by decide +kernel)
theorem lk_RX4_164 : Cond.methodLink RX4 164 yX4_holdsStream ∈ lw_tbl := List.mem_of_getElem? (i := 433) (by decide +kernel)
theorem lk_RX4_187 : Cond.methodLink RX4 187 yX4_isIn ∈ lw_tbl := List.mem_of_getElem? (i := 437) (by decide +kernel)
theorem lk_RX4_168 : Cond.methodLink RX4 168 yX4_effectOf ∈ lw_tbl := List.mem_of_getElem? (i := 438) (by decide +kernel)
theorem lk_RX4_156 : Cond.methodLinkNest RX4 156 yX2_hasEffect RX4 ∈ lw_tbl := List.mem_of_getElem? (i := 442) (by decide +kernel)
theorem lk_RL_17 : Cond.methodLink RL 17 yX4_valueByPointers ∈ lw_tbl := List.mem_of_getElem? (i := 446) (by decide +kernel)
theorem lk_RX4_172 : Cond.methodLink RX4 172 yX4_latestAhead ∈ lw_tbl := List.mem_of_getElem? (i := 450) (by decide +kernel)
theorem lk_RX4_175 : Cond.methodLink RX4 175 yX4_previousByPointers ∈ lw_tbl := List.mem_of_getElem? (i := 454) (by decide +kernel)
theorem lk_RX4_141 : Cond.methodLinkNest RX4 141 yX3_get RX4 ∈ lw_tbl := List.mem_of_getElem? (i := 458) (by decide +kernel)
theorem lk_RL_20 : Cond.methodLink RL 20 yX4_latest ∈ lw_tbl := List.mem_of_getElem? (i := 459) (by decide +kernel)
theorem lk_RL_23 : Cond.methodLink RL 23 yX4_takesEffect ∈ lw_tbl := List.mem_of_getElem? (i := 463) (by decide +kernel)
theorem lk_RL_61 : Cond.methodLink RL 61 yL_writes ∈ lw_tbl := List.mem_of_getElem? (i := 468) (by decide +kernel)
theorem lk_RL_27 : Cond.methodLink RL 27 yX4_write ∈ lw_tbl := List.mem_of_getElem? (i := 471) (by decide +kernel)
theorem la_0 : ∀ w ∈ u_ws RX0 TX0 1, w ∈ lw_tbl ∧ sl_ok w = true := by decide +kernel
theorem la_1 : ∀ w ∈ u_ws RX1 TX1 8, w ∈ lw_tbl ∧ sl_ok w = true := by decide +kernel
theorem la_2 : ∀ w ∈ u_ws RX2 TX2 3, w ∈ lw_tbl ∧ sl_ok w = true := by decide +kernel
theorem la_3 : ∀ w ∈ u_ws RX3 TX3 1, w ∈ lw_tbl ∧ sl_ok w = true := by decide +kernel
theorem la_4 : ∀ w ∈ u_ws RX4 TX4 8, w ∈ lw_tbl ∧ sl_ok w = true := by decide +kernel
theorem mi_X0_init : sl_mi yX0_init cX0_init 1 0 := ⟨⟨by decide +kernel, by decide +kernel, by decide +kernel⟩, List.mem_of_getElem? (i := 52) (by decide +kernel), List.mem_of_getElem? (i := 53) (by decide +kernel), ini_RX0, rfl⟩
theorem mi_X0_get : sl_mv yX0_get cX0_get 3 (some .int) 2 := ⟨⟨by decide +kernel, by decide +kernel, by decide +kernel⟩, List.mem_of_getElem? (i := 305) (by decide +kernel), List.mem_of_getElem? (i := 306) (by decide +kernel), ini_RX0, List.mem_of_getElem? (i := 8) (by decide +kernel)⟩
theorem mi_X0_put : sl_mv yX0_put cX0_put 4 none 3 := ⟨⟨by decide +kernel, by decide +kernel, by decide +kernel⟩, List.mem_of_getElem? (i := 354) (by decide +kernel), List.mem_of_getElem? (i := 355) (by decide +kernel), ini_RX0, List.mem_of_getElem? (i := 13) (by decide +kernel)⟩
theorem mi_X0_countWritten : sl_mv yX0_countWritten cX0_countWritten 4 (some .int) 1 := ⟨⟨by decide +kernel, by decide +kernel, by decide +kernel⟩, List.mem_of_getElem? (i := 301) (by decide +kernel), List.mem_of_getElem? (i := 302) (by decide +kernel), ini_RX0, List.mem_of_getElem? (i := 7) (by decide +kernel)⟩
theorem mi_X0_isComplete : sl_mv yX0_isComplete cX0_isComplete 2 (some .boolean) 1 := ⟨⟨by decide +kernel, by decide +kernel, by decide +kernel⟩, List.mem_of_getElem? (i := 349) (by decide +kernel), List.mem_of_getElem? (i := 350) (by decide +kernel), ini_RX0, List.mem_of_getElem? (i := 12) (by decide +kernel)⟩
theorem mi_X0_completeFromStart : sl_mv yX0_completeFromStart cX0_completeFromStart 2 (some .int) 0 := ⟨⟨by decide +kernel, by decide +kernel, by decide +kernel⟩, List.mem_of_getElem? (i := 385) (by decide +kernel), List.mem_of_getElem? (i := 386) (by decide +kernel), ini_RX0, List.mem_of_getElem? (i := 14) (by decide +kernel)⟩
theorem mi_X0_end : sl_mv yX0_end cX0_end 2 (some .int) 0 := ⟨⟨by decide +kernel, by decide +kernel, by decide +kernel⟩, List.mem_of_getElem? (i := 297) (by decide +kernel), List.mem_of_getElem? (i := 298) (by decide +kernel), ini_RX0, List.mem_of_getElem? (i := 6) (by decide +kernel)⟩
theorem mi_X1_init : sl_mi yX1_init cX1_init 8 7 := ⟨⟨by decide +kernel, by decide +kernel, by decide +kernel⟩, List.mem_of_getElem? (i := 239) (by decide +kernel), List.mem_of_getElem? (i := 240) (by decide +kernel), ini_RX1, rfl⟩
theorem mi_X2_init : sl_mi yX2_init cX2_init 1 0 := ⟨⟨by decide +kernel, by decide +kernel, by decide +kernel⟩, List.mem_of_getElem? (i := 77) (by decide +kernel), List.mem_of_getElem? (i := 78) (by decide +kernel), ini_RX2, rfl⟩
theorem mi_X2_restart : sl_mv yX2_restart cX2_restart 1 none 0 := ⟨⟨by decide +kernel, by decide +kernel, by decide +kernel⟩, List.mem_of_getElem? (i := 417) (by decide +kernel), List.mem_of_getElem? (i := 418) (by decide +kernel), ini_RX2, List.mem_of_getElem? (i := 17) (by decide +kernel)⟩
theorem mi_X2_add : sl_mv yX2_add cX2_add 3 none 1 := ⟨⟨by decide +kernel, by decide +kernel, by decide +kernel⟩, List.mem_of_getElem? (i := 422) (by decide +kernel), List.mem_of_getElem? (i := 423) (by decide +kernel), ini_RX2, List.mem_of_getElem? (i := 18) (by decide +kernel)⟩
theorem mi_X2_hasEffect : sl_mv yX2_hasEffect cX2_hasEffect 2 (some .boolean) 1 := ⟨⟨by decide +kernel, by decide +kernel, by decide +kernel⟩, List.mem_of_getElem? (i := 444) (by decide +kernel), List.mem_of_getElem? (i := 445) (by decide +kernel), ini_RX2, List.mem_of_getElem? (i := 23) (by decide +kernel)⟩
theorem mi_X2_isUnchanged : sl_mv yX2_isUnchanged cX2_isUnchanged 4 (some .boolean) 2 := ⟨⟨by decide +kernel, by decide +kernel, by decide +kernel⟩, List.mem_of_getElem? (i := 426) (by decide +kernel), List.mem_of_getElem? (i := 427) (by decide +kernel), ini_RX2, List.mem_of_getElem? (i := 19) (by decide +kernel)⟩
theorem mi_X2_noteChange : sl_mv yX2_noteChange cX2_noteChange 3 none 1 := ⟨⟨by decide +kernel, by decide +kernel, by decide +kernel⟩, List.mem_of_getElem? (i := 431) (by decide +kernel), List.mem_of_getElem? (i := 432) (by decide +kernel), ini_RX2, List.mem_of_getElem? (i := 20) (by decide +kernel)⟩
theorem mi_X3_init : sl_mi yX3_init cX3_init 1 0 := ⟨⟨by decide +kernel, by decide +kernel, by decide +kernel⟩, List.mem_of_getElem? (i := 66) (by decide +kernel), List.mem_of_getElem? (i := 67) (by decide +kernel), ini_RX3, rfl⟩
theorem mi_X3_clear : sl_mv yX3_clear cX3_clear 1 none 0 := ⟨⟨by decide +kernel, by decide +kernel, by decide +kernel⟩, List.mem_of_getElem? (i := 315) (by decide +kernel), List.mem_of_getElem? (i := 316) (by decide +kernel), ini_RX3, List.mem_of_getElem? (i := 9) (by decide +kernel)⟩
theorem mi_X3_get : sl_mv yX3_get cX3_get 3 (some .int) 2 := ⟨⟨by decide +kernel, by decide +kernel, by decide +kernel⟩, List.mem_of_getElem? (i := 225) (by decide +kernel), List.mem_of_getElem? (i := 226) (by decide +kernel), ini_RX3, List.mem_of_getElem? (i := 3) (by decide +kernel)⟩
theorem mi_X3_set : sl_mv yX3_set cX3_set 4 none 3 := ⟨⟨by decide +kernel, by decide +kernel, by decide +kernel⟩, List.mem_of_getElem? (i := 235) (by decide +kernel), List.mem_of_getElem? (i := 236) (by decide +kernel), ini_RX3, List.mem_of_getElem? (i := 4) (by decide +kernel)⟩
theorem mi_X3_push : sl_mv yX3_push cX3_push 5 none 2 := ⟨⟨by decide +kernel, by decide +kernel, by decide +kernel⟩, List.mem_of_getElem? (i := 278) (by decide +kernel), List.mem_of_getElem? (i := 279) (by decide +kernel), ini_RX3, List.mem_of_getElem? (i := 5) (by decide +kernel)⟩
theorem mi_X3_copyFor : sl_mv yX3_copyFor cX3_copyFor 5 (some (.object "SharedLog$Trail")) 1 := ⟨⟨by decide +kernel, by decide +kernel, by decide +kernel⟩, List.mem_of_getElem? (i := 216) (by decide +kernel), List.mem_of_getElem? (i := 217) (by decide +kernel), ini_RX3, List.mem_of_getElem? (i := 2) (by decide +kernel)⟩
theorem mi_X4_init : sl_mi yX4_init cX4_init 1 0 := ⟨⟨by decide +kernel, by decide +kernel, by decide +kernel⟩, List.mem_of_getElem? (i := 42) (by decide +kernel), List.mem_of_getElem? (i := 43) (by decide +kernel), ini_RX4, rfl⟩
theorem mi_X4_take : sl_mv yX4_take cX4_take 3 (some .int) 2 := ⟨⟨by decide +kernel, by decide +kernel, by decide +kernel⟩, List.mem_of_getElem? (i := 117) (by decide +kernel), List.mem_of_getElem? (i := 119) (by decide +kernel), ini_RX4, List.mem_of_getElem? (i := 118) (by decide +kernel)⟩
theorem mi_X4_takeIf : sl_mv yX4_takeIf cX4_takeIf 5 (some .int) 4 := ⟨⟨by decide +kernel, by decide +kernel, by decide +kernel⟩, List.mem_of_getElem? (i := 281) (by decide +kernel), List.mem_of_getElem? (i := 283) (by decide +kernel), ini_RX4, List.mem_of_getElem? (i := 282) (by decide +kernel)⟩
theorem mi_X4_lose : sl_mv yX4_lose cX4_lose 1 (some .int) 0 := ⟨⟨by decide +kernel, by decide +kernel, by decide +kernel⟩, List.mem_of_getElem? (i := 287) (by decide +kernel), List.mem_of_getElem? (i := 289) (by decide +kernel), ini_RX4, List.mem_of_getElem? (i := 288) (by decide +kernel)⟩
theorem mi_X4_seal : sl_mv yX4_seal cX4_seal 3 (some .int) 0 := ⟨⟨by decide +kernel, by decide +kernel, by decide +kernel⟩, List.mem_of_getElem? (i := 292) (by decide +kernel), List.mem_of_getElem? (i := 294) (by decide +kernel), ini_RX4, List.mem_of_getElem? (i := 293) (by decide +kernel)⟩
theorem mi_X4_write : sl_mv yX4_write cX4_write 3 (some .int) 1 := ⟨⟨by decide +kernel, by decide +kernel, by decide +kernel⟩, List.mem_of_getElem? (i := 472) (by decide +kernel), List.mem_of_getElem? (i := 474) (by decide +kernel), ini_RX4, List.mem_of_getElem? (i := 473) (by decide +kernel)⟩
theorem mi_X4_fill : sl_mv yX4_fill cX4_fill 5 (some .boolean) 1 := ⟨⟨by decide +kernel, by decide +kernel, by decide +kernel⟩, List.mem_of_getElem? (i := 327) (by decide +kernel), List.mem_of_getElem? (i := 329) (by decide +kernel), ini_RX4, List.mem_of_getElem? (i := 328) (by decide +kernel)⟩
theorem mi_X4_epoch : sl_mv yX4_epoch cX4_epoch 1 (some .int) 0 := ⟨⟨by decide +kernel, by decide +kernel, by decide +kernel⟩, List.mem_of_getElem? (i := 357) (by decide +kernel), List.mem_of_getElem? (i := 359) (by decide +kernel), ini_RX4, List.mem_of_getElem? (i := 358) (by decide +kernel)⟩
theorem mi_X4_tail : sl_mv yX4_tail cX4_tail 1 (some .int) 0 := ⟨⟨by decide +kernel, by decide +kernel, by decide +kernel⟩, List.mem_of_getElem? (i := 361) (by decide +kernel), List.mem_of_getElem? (i := 363) (by decide +kernel), ini_RX4, List.mem_of_getElem? (i := 362) (by decide +kernel)⟩
theorem mi_X4_positionOf : sl_mv yX4_positionOf cX4_positionOf 3 (some .int) 1 := ⟨⟨by decide +kernel, by decide +kernel, by decide +kernel⟩, List.mem_of_getElem? (i := 365) (by decide +kernel), List.mem_of_getElem? (i := 367) (by decide +kernel), ini_RX4, List.mem_of_getElem? (i := 366) (by decide +kernel)⟩
theorem mi_X4_stateOf : sl_mv yX4_stateOf cX4_stateOf 3 (some .int) 1 := ⟨⟨by decide +kernel, by decide +kernel, by decide +kernel⟩, List.mem_of_getElem? (i := 370) (by decide +kernel), List.mem_of_getElem? (i := 372) (by decide +kernel), ini_RX4, List.mem_of_getElem? (i := 371) (by decide +kernel)⟩
theorem mi_X4_cellAt : sl_mv yX4_cellAt cX4_cellAt 3 (some .int) 2 := ⟨⟨by decide +kernel, by decide +kernel, by decide +kernel⟩, List.mem_of_getElem? (i := 374) (by decide +kernel), List.mem_of_getElem? (i := 376) (by decide +kernel), ini_RX4, List.mem_of_getElem? (i := 375) (by decide +kernel)⟩
theorem mi_X4_known : sl_mv yX4_known cX4_known 1 (some .int) 0 := ⟨⟨by decide +kernel, by decide +kernel, by decide +kernel⟩, List.mem_of_getElem? (i := 380) (by decide +kernel), List.mem_of_getElem? (i := 382) (by decide +kernel), ini_RX4, List.mem_of_getElem? (i := 381) (by decide +kernel)⟩
theorem mi_X4_takesEffect : sl_mv yX4_takesEffect cX4_takesEffect 2 (some .boolean) 1 := ⟨⟨by decide +kernel, by decide +kernel, by decide +kernel⟩, List.mem_of_getElem? (i := 464) (by decide +kernel), List.mem_of_getElem? (i := 466) (by decide +kernel), ini_RX4, List.mem_of_getElem? (i := 465) (by decide +kernel)⟩
theorem mi_X4_value : sl_mv yX4_value cX4_value 5 (some .int) 2 := ⟨⟨by decide +kernel, by decide +kernel, by decide +kernel⟩, List.mem_of_getElem? (i := 402) (by decide +kernel), List.mem_of_getElem? (i := 404) (by decide +kernel), ini_RX4, List.mem_of_getElem? (i := 403) (by decide +kernel)⟩
theorem mi_X4_valueByPointers : sl_mv yX4_valueByPointers cX4_valueByPointers 6 (some .int) 2 := ⟨⟨by decide +kernel, by decide +kernel, by decide +kernel⟩, List.mem_of_getElem? (i := 447) (by decide +kernel), List.mem_of_getElem? (i := 449) (by decide +kernel), ini_RX4, List.mem_of_getElem? (i := 448) (by decide +kernel)⟩
theorem mi_X4_latest : sl_mv yX4_latest cX4_latest 3 (some .int) 2 := ⟨⟨by decide +kernel, by decide +kernel, by decide +kernel⟩, List.mem_of_getElem? (i := 460) (by decide +kernel), List.mem_of_getElem? (i := 462) (by decide +kernel), ini_RX4, List.mem_of_getElem? (i := 461) (by decide +kernel)⟩
theorem mi_X4_isStream : sl_ms yX4_isStream cX4_isStream 1 (some .boolean) 1 := ⟨⟨by decide +kernel, by decide +kernel, by decide +kernel⟩, List.mem_of_getElem? (i := 228) (by decide +kernel), List.mem_of_getElem? (i := 229) (by decide +kernel), ini_RX4⟩
theorem mi_X4_isSetOfStreams : sl_ms yX4_isSetOfStreams cX4_isSetOfStreams 1 (some .boolean) 1 := ⟨⟨by decide +kernel, by decide +kernel, by decide +kernel⟩, List.mem_of_getElem? (i := 121) (by decide +kernel), List.mem_of_getElem? (i := 122) (by decide +kernel), ini_RX4⟩
theorem mi_X4_isAmount : sl_ms yX4_isAmount cX4_isAmount 1 (some .boolean) 1 := ⟨⟨by decide +kernel, by decide +kernel, by decide +kernel⟩, List.mem_of_getElem? (i := 124) (by decide +kernel), List.mem_of_getElem? (i := 125) (by decide +kernel), ini_RX4⟩
theorem mi_X4_isPosition : sl_ms yX4_isPosition cX4_isPosition 1 (some .boolean) 1 := ⟨⟨by decide +kernel, by decide +kernel, by decide +kernel⟩, List.mem_of_getElem? (i := 311) (by decide +kernel), List.mem_of_getElem? (i := 312) (by decide +kernel), ini_RX4⟩
theorem mi_X4_isReplica : sl_ms yX4_isReplica cX4_isReplica 1 (some .boolean) 1 := ⟨⟨by decide +kernel, by decide +kernel, by decide +kernel⟩, List.mem_of_getElem? (i := 308) (by decide +kernel), List.mem_of_getElem? (i := 309) (by decide +kernel), ini_RX4⟩
theorem mi_X4_isPointerNumber : sl_ms yX4_isPointerNumber cX4_isPointerNumber 1 (some .boolean) 1 := ⟨⟨by decide +kernel, by decide +kernel, by decide +kernel⟩, List.mem_of_getElem? (i := 231) (by decide +kernel), List.mem_of_getElem? (i := 232) (by decide +kernel), ini_RX4⟩
theorem mi_X4_isIn : sl_ms yX4_isIn cX4_isIn 2 (some .boolean) 2 := ⟨⟨by decide +kernel, by decide +kernel, by decide +kernel⟩, List.mem_of_getElem? (i := 221) (by decide +kernel), List.mem_of_getElem? (i := 222) (by decide +kernel), ini_RX4⟩
theorem mi_X4_isEndOfKnown : sl_mv yX4_isEndOfKnown cX4_isEndOfKnown 2 (some .boolean) 1 := ⟨⟨by decide +kernel, by decide +kernel, by decide +kernel⟩, List.mem_of_getElem? (i := 408) (by decide +kernel), List.mem_of_getElem? (i := 409) (by decide +kernel), ini_RX4, List.mem_of_getElem? (i := 15) (by decide +kernel)⟩
theorem mi_X4_handOut : sl_mv yX4_handOut cX4_handOut 7 (some .int) 4 := ⟨⟨by decide +kernel, by decide +kernel, by decide +kernel⟩, List.mem_of_getElem? (i := 196) (by decide +kernel), List.mem_of_getElem? (i := 197) (by decide +kernel), ini_RX4, List.mem_of_getElem? (i := 1) (by decide +kernel)⟩
theorem mi_X4_entryOf : sl_mv yX4_entryOf cX4_entryOf 2 (some (.object "SharedLog$Entry")) 1 := ⟨⟨by decide +kernel, by decide +kernel, by decide +kernel⟩, List.mem_of_getElem? (i := 324) (by decide +kernel), List.mem_of_getElem? (i := 325) (by decide +kernel), ini_RX4, List.mem_of_getElem? (i := 11) (by decide +kernel)⟩
theorem mi_X4_entryIn : sl_mv yX4_entryIn cX4_entryIn 2 (some (.object "SharedLog$Entry")) 1 := ⟨⟨by decide +kernel, by decide +kernel, by decide +kernel⟩, List.mem_of_getElem? (i := 319) (by decide +kernel), List.mem_of_getElem? (i := 320) (by decide +kernel), ini_RX4, List.mem_of_getElem? (i := 10) (by decide +kernel)⟩
theorem mi_X4_holdsStream : sl_mv yX4_holdsStream cX4_holdsStream 4 (some .boolean) 2 := ⟨⟨by decide +kernel, by decide +kernel, by decide +kernel⟩, List.mem_of_getElem? (i := 435) (by decide +kernel), List.mem_of_getElem? (i := 436) (by decide +kernel), ini_RX4, List.mem_of_getElem? (i := 21) (by decide +kernel)⟩
theorem mi_X4_latestAhead : sl_mv yX4_latestAhead cX4_latestAhead 4 (some .int) 2 := ⟨⟨by decide +kernel, by decide +kernel, by decide +kernel⟩, List.mem_of_getElem? (i := 452) (by decide +kernel), List.mem_of_getElem? (i := 453) (by decide +kernel), ini_RX4, List.mem_of_getElem? (i := 24) (by decide +kernel)⟩
theorem mi_X4_previousByPointers : sl_mv yX4_previousByPointers cX4_previousByPointers 7 (some .int) 2 := ⟨⟨by decide +kernel, by decide +kernel, by decide +kernel⟩, List.mem_of_getElem? (i := 456) (by decide +kernel), List.mem_of_getElem? (i := 457) (by decide +kernel), ini_RX4, List.mem_of_getElem? (i := 25) (by decide +kernel)⟩
theorem mi_X4_foldUpTo : sl_mv yX4_foldUpTo cX4_foldUpTo 3 none 1 := ⟨⟨by decide +kernel, by decide +kernel, by decide +kernel⟩, List.mem_of_getElem? (i := 413) (by decide +kernel), List.mem_of_getElem? (i := 414) (by decide +kernel), ini_RX4, List.mem_of_getElem? (i := 16) (by decide +kernel)⟩
theorem mi_X4_effectOf : sl_mv yX4_effectOf cX4_effectOf 3 (some .int) 1 := ⟨⟨by decide +kernel, by decide +kernel, by decide +kernel⟩, List.mem_of_getElem? (i := 440) (by decide +kernel), List.mem_of_getElem? (i := 441) (by decide +kernel), ini_RX4, List.mem_of_getElem? (i := 22) (by decide +kernel)⟩
theorem mi_J7_fill_53178 : sl_ms yJ7_fill_53178 cJ7_fill_53178 4 none 2 := ⟨⟨by decide +kernel, by decide +kernel, by decide +kernel⟩, List.mem_of_getElem? (i := 56) (by decide +kernel), List.mem_of_getElem? (i := 57) (by decide +kernel), ini_RJ7⟩
theorem mi_L_cell : sl_ms yL_cell cL_cell 2 (some .int) 2 := ⟨⟨by decide +kernel, by decide +kernel, by decide +kernel⟩, List.mem_of_getElem? (i := 389) (by decide +kernel), List.mem_of_getElem? (i := 390) (by decide +kernel), ini_RL⟩
theorem mi_L_low : sl_ms yL_low cL_low 2 (some .int) 2 := ⟨⟨by decide +kernel, by decide +kernel, by decide +kernel⟩, List.mem_of_getElem? (i := 392) (by decide +kernel), List.mem_of_getElem? (i := 393) (by decide +kernel), ini_RL⟩
theorem mi_L_folds : sl_ms yL_folds cL_folds 10 none 6 := ⟨⟨by decide +kernel, by decide +kernel, by decide +kernel⟩, List.mem_of_getElem? (i := 396) (by decide +kernel), List.mem_of_getElem? (i := 397) (by decide +kernel), ini_RL⟩
theorem mi_L_isFolded : sl_ms yL_isFolded cL_isFolded 13 (some .boolean) 7 := ⟨⟨by decide +kernel, by decide +kernel, by decide +kernel⟩, List.mem_of_getElem? (i := 399) (by decide +kernel), List.mem_of_getElem? (i := 400) (by decide +kernel), ini_RL⟩
theorem mi_L_writes : sl_ms yL_writes cL_writes 3 (some .boolean) 2 := ⟨⟨by decide +kernel, by decide +kernel, by decide +kernel⟩, List.mem_of_getElem? (i := 469) (by decide +kernel), List.mem_of_getElem? (i := 470) (by decide +kernel), ini_RL⟩
end
section
theorem dX0_init_0 : decode cX0_init 0 = .ok (.aload_n 0, 1) := by decide +kernel
theorem dX0_init_1 : decode cX0_init 1 = .ok (.invokespecial 3, 3) := by decide +kernel
theorem dX0_init_4 : decode cX0_init 4 = .ok (.aload_n 0, 1) := by decide +kernel
theorem dX0_init_5 : decode cX0_init 5 = .ok (.sipush 360, 3) := by decide +kernel
theorem dX0_init_8 : decode cX0_init 8 = .ok (.newarray .int, 2) := by decide +kernel
theorem dX0_init_10 : decode cX0_init 10 = .ok (.putfield 9, 3) := by decide +kernel
theorem dX0_init_13 : decode cX0_init 13 = .ok (.aload_n 0, 1) := by decide +kernel
theorem dX0_init_14 : decode cX0_init 14 = .ok (.getfield 9, 3) := by decide +kernel
theorem dX0_init_17 : decode cX0_init 17 = .ok (.bipush (-2), 2) := by decide +kernel
theorem dX0_init_19 : decode cX0_init 19 = .ok (.invokestatic 15, 3) := by decide +kernel
theorem dX0_init_22 : decode cX0_init 22 = .ok (.return_, 1) := by decide +kernel
theorem dX0_get_0 : decode cX0_get 0 = .ok (.iload_n 1, 1) := by decide +kernel
theorem dX0_get_1 : decode cX0_get 1 = .ok (.invokestatic 21, 3) := by decide +kernel
theorem dX0_get_4 : decode cX0_get 4 = .ok (.ifCond .eq 24, 3) := by decide +kernel
theorem dX0_get_7 : decode cX0_get 7 = .ok (.iload_n 2, 1) := by decide +kernel
theorem dX0_get_8 : decode cX0_get 8 = .ok (.invokestatic 25, 3) := by decide +kernel
theorem dX0_get_11 : decode cX0_get 11 = .ok (.ifCond .eq 17, 3) := by decide +kernel
theorem dX0_get_14 : decode cX0_get 14 = .ok (.aload_n 0, 1) := by decide +kernel
theorem dX0_get_15 : decode cX0_get 15 = .ok (.getfield 9, 3) := by decide +kernel
theorem dX0_get_18 : decode cX0_get 18 = .ok (.iload_n 1, 1) := by decide +kernel
theorem dX0_get_19 : decode cX0_get 19 = .ok (.bipush 120, 2) := by decide +kernel
theorem dX0_get_21 : decode cX0_get 21 = .ok (.imul, 1) := by decide +kernel
theorem dX0_get_22 : decode cX0_get 22 = .ok (.iload_n 2, 1) := by decide +kernel
theorem dX0_get_23 : decode cX0_get 23 = .ok (.iadd, 1) := by decide +kernel
theorem dX0_get_24 : decode cX0_get 24 = .ok (.iaload, 1) := by decide +kernel
theorem dX0_get_25 : decode cX0_get 25 = .ok (.goto 5, 3) := by decide +kernel
theorem dX0_get_28 : decode cX0_get 28 = .ok (.bipush (-2), 2) := by decide +kernel
theorem dX0_get_30 : decode cX0_get 30 = .ok (.ireturn, 1) := by decide +kernel
theorem dX0_put_0 : decode cX0_put 0 = .ok (.iload_n 1, 1) := by decide +kernel
theorem dX0_put_1 : decode cX0_put 1 = .ok (.invokestatic 21, 3) := by decide +kernel
theorem dX0_put_4 : decode cX0_put 4 = .ok (.ifCond .eq 33, 3) := by decide +kernel
theorem dX0_put_7 : decode cX0_put 7 = .ok (.iload_n 2, 1) := by decide +kernel
theorem dX0_put_8 : decode cX0_put 8 = .ok (.invokestatic 25, 3) := by decide +kernel
theorem dX0_put_11 : decode cX0_put 11 = .ok (.ifCond .eq 26, 3) := by decide +kernel
theorem dX0_put_14 : decode cX0_put 14 = .ok (.aload_n 0, 1) := by decide +kernel
theorem dX0_put_15 : decode cX0_put 15 = .ok (.iload_n 1, 1) := by decide +kernel
theorem dX0_put_16 : decode cX0_put 16 = .ok (.iload_n 2, 1) := by decide +kernel
theorem dX0_put_17 : decode cX0_put 17 = .ok (.invokevirtual 28, 3) := by decide +kernel
theorem dX0_put_20 : decode cX0_put 20 = .ok (.bipush (-2), 2) := by decide +kernel
theorem dX0_put_22 : decode cX0_put 22 = .ok (.if_icmp .ne 15, 3) := by decide +kernel
theorem dX0_put_25 : decode cX0_put 25 = .ok (.aload_n 0, 1) := by decide +kernel
theorem dX0_put_26 : decode cX0_put 26 = .ok (.getfield 9, 3) := by decide +kernel
theorem dX0_put_29 : decode cX0_put 29 = .ok (.iload_n 1, 1) := by decide +kernel
theorem dX0_put_30 : decode cX0_put 30 = .ok (.bipush 120, 2) := by decide +kernel
theorem dX0_put_32 : decode cX0_put 32 = .ok (.imul, 1) := by decide +kernel
theorem dX0_put_33 : decode cX0_put 33 = .ok (.iload_n 2, 1) := by decide +kernel
theorem dX0_put_34 : decode cX0_put 34 = .ok (.iadd, 1) := by decide +kernel
theorem dX0_put_35 : decode cX0_put 35 = .ok (.iload_n 3, 1) := by decide +kernel
theorem dX0_put_36 : decode cX0_put 36 = .ok (.iastore, 1) := by decide +kernel
theorem dX0_put_37 : decode cX0_put 37 = .ok (.return_, 1) := by decide +kernel
theorem dX0_countWritten_0 : decode cX0_countWritten 0 = .ok (.iconst 0, 1) := by decide +kernel
theorem dX0_countWritten_1 : decode cX0_countWritten 1 = .ok (.istore_n 2, 1) := by decide +kernel
theorem dX0_countWritten_2 : decode cX0_countWritten 2 = .ok (.iconst 0, 1) := by decide +kernel
theorem dX0_countWritten_3 : decode cX0_countWritten 3 = .ok (.istore_n 3, 1) := by decide +kernel
theorem dX0_countWritten_4 : decode cX0_countWritten 4 = .ok (.iload_n 3, 1) := by decide +kernel
theorem dX0_countWritten_5 : decode cX0_countWritten 5 = .ok (.iconst 3, 1) := by decide +kernel
theorem dX0_countWritten_6 : decode cX0_countWritten 6 = .ok (.if_icmp .ge 23, 3) := by decide +kernel
theorem dX0_countWritten_9 : decode cX0_countWritten 9 = .ok (.aload_n 0, 1) := by decide +kernel
theorem dX0_countWritten_10 : decode cX0_countWritten 10 = .ok (.iload_n 3, 1) := by decide +kernel
theorem dX0_countWritten_11 : decode cX0_countWritten 11 = .ok (.iload_n 1, 1) := by decide +kernel
theorem dX0_countWritten_12 : decode cX0_countWritten 12 = .ok (.invokevirtual 28, 3) := by decide +kernel
theorem dX0_countWritten_15 : decode cX0_countWritten 15 = .ok (.bipush (-2), 2) := by decide +kernel
theorem dX0_countWritten_17 : decode cX0_countWritten 17 = .ok (.if_icmp .eq 6, 3) := by decide +kernel
theorem dX0_countWritten_20 : decode cX0_countWritten 20 = .ok (.iinc 2 1, 3) := by decide +kernel
theorem dX0_countWritten_23 : decode cX0_countWritten 23 = .ok (.iinc 3 1, 3) := by decide +kernel
theorem dX0_countWritten_26 : decode cX0_countWritten 26 = .ok (.goto (-22), 3) := by decide +kernel
theorem dX0_countWritten_29 : decode cX0_countWritten 29 = .ok (.iload_n 2, 1) := by decide +kernel
theorem dX0_countWritten_30 : decode cX0_countWritten 30 = .ok (.ireturn, 1) := by decide +kernel
theorem dX0_isComplete_0 : decode cX0_isComplete 0 = .ok (.aload_n 0, 1) := by decide +kernel
theorem dX0_isComplete_1 : decode cX0_isComplete 1 = .ok (.iload_n 1, 1) := by decide +kernel
theorem dX0_isComplete_2 : decode cX0_isComplete 2 = .ok (.invokevirtual 32, 3) := by decide +kernel
theorem dX0_isComplete_5 : decode cX0_isComplete 5 = .ok (.iconst 3, 1) := by decide +kernel
theorem dX0_isComplete_6 : decode cX0_isComplete 6 = .ok (.if_icmp .ne 7, 3) := by decide +kernel
theorem dX0_isComplete_9 : decode cX0_isComplete 9 = .ok (.iconst 1, 1) := by decide +kernel
theorem dX0_isComplete_10 : decode cX0_isComplete 10 = .ok (.goto 4, 3) := by decide +kernel
theorem dX0_isComplete_13 : decode cX0_isComplete 13 = .ok (.iconst 0, 1) := by decide +kernel
theorem dX0_isComplete_14 : decode cX0_isComplete 14 = .ok (.ireturn, 1) := by decide +kernel
theorem dX0_completeFromStart_0 : decode cX0_completeFromStart 0 = .ok (.iconst 0, 1) := by decide +kernel
theorem dX0_completeFromStart_1 : decode cX0_completeFromStart 1 = .ok (.istore_n 1, 1) := by decide +kernel
theorem dX0_completeFromStart_2 : decode cX0_completeFromStart 2 = .ok (.iload_n 1, 1) := by decide +kernel
theorem dX0_completeFromStart_3 : decode cX0_completeFromStart 3 = .ok (.bipush 120, 2) := by decide +kernel
theorem dX0_completeFromStart_5 : decode cX0_completeFromStart 5 = .ok (.if_icmp .ge 19, 3) := by decide +kernel
theorem dX0_completeFromStart_8 : decode cX0_completeFromStart 8 = .ok (.aload_n 0, 1) := by decide +kernel
theorem dX0_completeFromStart_9 : decode cX0_completeFromStart 9 = .ok (.iload_n 1, 1) := by decide +kernel
theorem dX0_completeFromStart_10 : decode cX0_completeFromStart 10 = .ok (.invokevirtual 36, 3) := by decide +kernel
theorem dX0_completeFromStart_13 : decode cX0_completeFromStart 13 = .ok (.ifCond .ne 5, 3) := by decide +kernel
theorem dX0_completeFromStart_16 : decode cX0_completeFromStart 16 = .ok (.iload_n 1, 1) := by decide +kernel
theorem dX0_completeFromStart_17 : decode cX0_completeFromStart 17 = .ok (.ireturn, 1) := by decide +kernel
theorem dX0_completeFromStart_18 : decode cX0_completeFromStart 18 = .ok (.iinc 1 1, 3) := by decide +kernel
theorem dX0_completeFromStart_21 : decode cX0_completeFromStart 21 = .ok (.goto (-19), 3) := by decide +kernel
theorem dX0_completeFromStart_24 : decode cX0_completeFromStart 24 = .ok (.bipush 120, 2) := by decide +kernel
theorem dX0_completeFromStart_26 : decode cX0_completeFromStart 26 = .ok (.ireturn, 1) := by decide +kernel
theorem dX0_end_0 : decode cX0_end 0 = .ok (.bipush 119, 2) := by decide +kernel
theorem dX0_end_2 : decode cX0_end 2 = .ok (.istore_n 1, 1) := by decide +kernel
theorem dX0_end_3 : decode cX0_end 3 = .ok (.iload_n 1, 1) := by decide +kernel
theorem dX0_end_4 : decode cX0_end 4 = .ok (.ifCond .lt 21, 3) := by decide +kernel
theorem dX0_end_7 : decode cX0_end 7 = .ok (.aload_n 0, 1) := by decide +kernel
theorem dX0_end_8 : decode cX0_end 8 = .ok (.iload_n 1, 1) := by decide +kernel
theorem dX0_end_9 : decode cX0_end 9 = .ok (.invokevirtual 32, 3) := by decide +kernel
theorem dX0_end_12 : decode cX0_end 12 = .ok (.ifCond .le 7, 3) := by decide +kernel
theorem dX0_end_15 : decode cX0_end 15 = .ok (.iload_n 1, 1) := by decide +kernel
theorem dX0_end_16 : decode cX0_end 16 = .ok (.iconst 1, 1) := by decide +kernel
theorem dX0_end_17 : decode cX0_end 17 = .ok (.iadd, 1) := by decide +kernel
theorem dX0_end_18 : decode cX0_end 18 = .ok (.ireturn, 1) := by decide +kernel
theorem dX0_end_19 : decode cX0_end 19 = .ok (.iinc 1 (-1), 3) := by decide +kernel
theorem dX0_end_22 : decode cX0_end 22 = .ok (.goto (-19), 3) := by decide +kernel
theorem dX0_end_25 : decode cX0_end 25 = .ok (.iconst 0, 1) := by decide +kernel
theorem dX0_end_26 : decode cX0_end 26 = .ok (.ireturn, 1) := by decide +kernel
theorem dX1_init_0 : decode cX1_init 0 = .ok (.aload_n 0, 1) := by decide +kernel
theorem dX1_init_1 : decode cX1_init 1 = .ok (.invokespecial 1, 3) := by decide +kernel
theorem dX1_init_4 : decode cX1_init 4 = .ok (.aload_n 0, 1) := by decide +kernel
theorem dX1_init_5 : decode cX1_init 5 = .ok (.iconst 0, 1) := by decide +kernel
theorem dX1_init_6 : decode cX1_init 6 = .ok (.putfield 7, 3) := by decide +kernel
theorem dX1_init_9 : decode cX1_init 9 = .ok (.aload_n 0, 1) := by decide +kernel
theorem dX1_init_10 : decode cX1_init 10 = .ok (.iload_n 1, 1) := by decide +kernel
theorem dX1_init_11 : decode cX1_init 11 = .ok (.putfield 13, 3) := by decide +kernel
theorem dX1_init_14 : decode cX1_init 14 = .ok (.aload_n 0, 1) := by decide +kernel
theorem dX1_init_15 : decode cX1_init 15 = .ok (.iload_n 2, 1) := by decide +kernel
theorem dX1_init_16 : decode cX1_init 16 = .ok (.putfield 16, 3) := by decide +kernel
theorem dX1_init_19 : decode cX1_init 19 = .ok (.aload_n 0, 1) := by decide +kernel
theorem dX1_init_20 : decode cX1_init 20 = .ok (.iload_n 3, 1) := by decide +kernel
theorem dX1_init_21 : decode cX1_init 21 = .ok (.putfield 19, 3) := by decide +kernel
theorem dX1_init_24 : decode cX1_init 24 = .ok (.aload_n 0, 1) := by decide +kernel
theorem dX1_init_25 : decode cX1_init 25 = .ok (.iload 4, 2) := by decide +kernel
theorem dX1_init_27 : decode cX1_init 27 = .ok (.putfield 22, 3) := by decide +kernel
theorem dX1_init_30 : decode cX1_init 30 = .ok (.aload_n 0, 1) := by decide +kernel
theorem dX1_init_31 : decode cX1_init 31 = .ok (.iload 5, 2) := by decide +kernel
theorem dX1_init_33 : decode cX1_init 33 = .ok (.putfield 25, 3) := by decide +kernel
theorem dX1_init_36 : decode cX1_init 36 = .ok (.aload_n 0, 1) := by decide +kernel
theorem dX1_init_37 : decode cX1_init 37 = .ok (.iload 6, 2) := by decide +kernel
theorem dX1_init_39 : decode cX1_init 39 = .ok (.putfield 28, 3) := by decide +kernel
theorem dX1_init_42 : decode cX1_init 42 = .ok (.aload_n 0, 1) := by decide +kernel
theorem dX1_init_43 : decode cX1_init 43 = .ok (.aload 7, 2) := by decide +kernel
theorem dX1_init_45 : decode cX1_init 45 = .ok (.putfield 31, 3) := by decide +kernel
theorem dX1_init_48 : decode cX1_init 48 = .ok (.return_, 1) := by decide +kernel
theorem dX2_init_0 : decode cX2_init 0 = .ok (.aload_n 0, 1) := by decide +kernel
theorem dX2_init_1 : decode cX2_init 1 = .ok (.invokespecial 3, 3) := by decide +kernel
theorem dX2_init_4 : decode cX2_init 4 = .ok (.aload_n 0, 1) := by decide +kernel
theorem dX2_init_5 : decode cX2_init 5 = .ok (.bipush 120, 2) := by decide +kernel
theorem dX2_init_7 : decode cX2_init 7 = .ok (.newarray .boolean, 2) := by decide +kernel
theorem dX2_init_9 : decode cX2_init 9 = .ok (.putfield 9, 3) := by decide +kernel
theorem dX2_init_12 : decode cX2_init 12 = .ok (.aload_n 0, 1) := by decide +kernel
theorem dX2_init_13 : decode cX2_init 13 = .ok (.iconst 4, 1) := by decide +kernel
theorem dX2_init_14 : decode cX2_init 14 = .ok (.newarray .int, 2) := by decide +kernel
theorem dX2_init_16 : decode cX2_init 16 = .ok (.putfield 15, 3) := by decide +kernel
theorem dX2_init_19 : decode cX2_init 19 = .ok (.aload_n 0, 1) := by decide +kernel
theorem dX2_init_20 : decode cX2_init 20 = .ok (.iconst 0, 1) := by decide +kernel
theorem dX2_init_21 : decode cX2_init 21 = .ok (.putfield 19, 3) := by decide +kernel
theorem dX2_init_24 : decode cX2_init 24 = .ok (.return_, 1) := by decide +kernel
theorem dX2_restart_0 : decode cX2_restart 0 = .ok (.aload_n 0, 1) := by decide +kernel
theorem dX2_restart_1 : decode cX2_restart 1 = .ok (.iconst 0, 1) := by decide +kernel
theorem dX2_restart_2 : decode cX2_restart 2 = .ok (.putfield 19, 3) := by decide +kernel
theorem dX2_restart_5 : decode cX2_restart 5 = .ok (.aload_n 0, 1) := by decide +kernel
theorem dX2_restart_6 : decode cX2_restart 6 = .ok (.getfield 15, 3) := by decide +kernel
theorem dX2_restart_9 : decode cX2_restart 9 = .ok (.iconst (-1), 1) := by decide +kernel
theorem dX2_restart_10 : decode cX2_restart 10 = .ok (.invokestatic 23, 3) := by decide +kernel
theorem dX2_restart_13 : decode cX2_restart 13 = .ok (.return_, 1) := by decide +kernel
theorem dX2_add_0 : decode cX2_add 0 = .ok (.aload_n 0, 1) := by decide +kernel
theorem dX2_add_1 : decode cX2_add 1 = .ok (.getfield 19, 3) := by decide +kernel
theorem dX2_add_4 : decode cX2_add 4 = .ok (.ifCond .lt 15, 3) := by decide +kernel
theorem dX2_add_7 : decode cX2_add 7 = .ok (.aload_n 0, 1) := by decide +kernel
theorem dX2_add_8 : decode cX2_add 8 = .ok (.getfield 19, 3) := by decide +kernel
theorem dX2_add_11 : decode cX2_add 11 = .ok (.aload_n 0, 1) := by decide +kernel
theorem dX2_add_12 : decode cX2_add 12 = .ok (.getfield 9, 3) := by decide +kernel
theorem dX2_add_15 : decode cX2_add 15 = .ok (.arraylength, 1) := by decide +kernel
theorem dX2_add_16 : decode cX2_add 16 = .ok (.if_icmp .lt 4, 3) := by decide +kernel
theorem dX2_add_19 : decode cX2_add 19 = .ok (.return_, 1) := by decide +kernel
theorem dX2_add_20 : decode cX2_add 20 = .ok (.aload_n 1, 1) := by decide +kernel
theorem dX2_add_21 : decode cX2_add 21 = .ok (.ifnull 22, 3) := by decide +kernel
theorem dX2_add_24 : decode cX2_add 24 = .ok (.aload_n 0, 1) := by decide +kernel
theorem dX2_add_25 : decode cX2_add 25 = .ok (.aload_n 1, 1) := by decide +kernel
theorem dX2_add_26 : decode cX2_add 26 = .ok (.getfield 29, 3) := by decide +kernel
theorem dX2_add_29 : decode cX2_add 29 = .ok (.aload_n 1, 1) := by decide +kernel
theorem dX2_add_30 : decode cX2_add 30 = .ok (.getfield 34, 3) := by decide +kernel
theorem dX2_add_33 : decode cX2_add 33 = .ok (.invokevirtual 37, 3) := by decide +kernel
theorem dX2_add_36 : decode cX2_add 36 = .ok (.ifCond .eq 7, 3) := by decide +kernel
theorem dX2_add_39 : decode cX2_add 39 = .ok (.iconst 1, 1) := by decide +kernel
theorem dX2_add_40 : decode cX2_add 40 = .ok (.goto 4, 3) := by decide +kernel
theorem dX2_add_43 : decode cX2_add 43 = .ok (.iconst 0, 1) := by decide +kernel
theorem dX2_add_44 : decode cX2_add 44 = .ok (.istore_n 2, 1) := by decide +kernel
theorem dX2_add_45 : decode cX2_add 45 = .ok (.aload_n 0, 1) := by decide +kernel
theorem dX2_add_46 : decode cX2_add 46 = .ok (.getfield 9, 3) := by decide +kernel
theorem dX2_add_49 : decode cX2_add 49 = .ok (.aload_n 0, 1) := by decide +kernel
theorem dX2_add_50 : decode cX2_add 50 = .ok (.getfield 19, 3) := by decide +kernel
theorem dX2_add_53 : decode cX2_add 53 = .ok (.iload_n 2, 1) := by decide +kernel
theorem dX2_add_54 : decode cX2_add 54 = .ok (.bastore, 1) := by decide +kernel
theorem dX2_add_55 : decode cX2_add 55 = .ok (.iload_n 2, 1) := by decide +kernel
theorem dX2_add_56 : decode cX2_add 56 = .ok (.ifCond .eq 11, 3) := by decide +kernel
theorem dX2_add_59 : decode cX2_add 59 = .ok (.aload_n 0, 1) := by decide +kernel
theorem dX2_add_60 : decode cX2_add 60 = .ok (.aload_n 1, 1) := by decide +kernel
theorem dX2_add_61 : decode cX2_add 61 = .ok (.getfield 41, 3) := by decide +kernel
theorem dX2_add_64 : decode cX2_add 64 = .ok (.invokevirtual 44, 3) := by decide +kernel
theorem dX2_add_67 : decode cX2_add 67 = .ok (.aload_n 0, 1) := by decide +kernel
theorem dX2_add_68 : decode cX2_add 68 = .ok (.dup, 1) := by decide +kernel
theorem dX2_add_69 : decode cX2_add 69 = .ok (.getfield 19, 3) := by decide +kernel
theorem dX2_add_72 : decode cX2_add 72 = .ok (.iconst 1, 1) := by decide +kernel
theorem dX2_add_73 : decode cX2_add 73 = .ok (.iadd, 1) := by decide +kernel
theorem dX2_add_74 : decode cX2_add 74 = .ok (.putfield 19, 3) := by decide +kernel
theorem dX2_add_77 : decode cX2_add 77 = .ok (.return_, 1) := by decide +kernel
theorem dX2_hasEffect_0 : decode cX2_hasEffect 0 = .ok (.iload_n 1, 1) := by decide +kernel
theorem dX2_hasEffect_1 : decode cX2_hasEffect 1 = .ok (.ifCond .lt 33, 3) := by decide +kernel
theorem dX2_hasEffect_4 : decode cX2_hasEffect 4 = .ok (.iload_n 1, 1) := by decide +kernel
theorem dX2_hasEffect_5 : decode cX2_hasEffect 5 = .ok (.aload_n 0, 1) := by decide +kernel
theorem dX2_hasEffect_6 : decode cX2_hasEffect 6 = .ok (.getfield 19, 3) := by decide +kernel
theorem dX2_hasEffect_9 : decode cX2_hasEffect 9 = .ok (.if_icmp .ge 25, 3) := by decide +kernel
theorem dX2_hasEffect_12 : decode cX2_hasEffect 12 = .ok (.iload_n 1, 1) := by decide +kernel
theorem dX2_hasEffect_13 : decode cX2_hasEffect 13 = .ok (.aload_n 0, 1) := by decide +kernel
theorem dX2_hasEffect_14 : decode cX2_hasEffect 14 = .ok (.getfield 9, 3) := by decide +kernel
theorem dX2_hasEffect_17 : decode cX2_hasEffect 17 = .ok (.arraylength, 1) := by decide +kernel
theorem dX2_hasEffect_18 : decode cX2_hasEffect 18 = .ok (.if_icmp .ge 16, 3) := by decide +kernel
theorem dX2_hasEffect_21 : decode cX2_hasEffect 21 = .ok (.aload_n 0, 1) := by decide +kernel
theorem dX2_hasEffect_22 : decode cX2_hasEffect 22 = .ok (.getfield 9, 3) := by decide +kernel
theorem dX2_hasEffect_25 : decode cX2_hasEffect 25 = .ok (.iload_n 1, 1) := by decide +kernel
theorem dX2_hasEffect_26 : decode cX2_hasEffect 26 = .ok (.baload, 1) := by decide +kernel
theorem dX2_hasEffect_27 : decode cX2_hasEffect 27 = .ok (.ifCond .eq 7, 3) := by decide +kernel
theorem dX2_hasEffect_30 : decode cX2_hasEffect 30 = .ok (.iconst 1, 1) := by decide +kernel
theorem dX2_hasEffect_31 : decode cX2_hasEffect 31 = .ok (.goto 4, 3) := by decide +kernel
theorem dX2_hasEffect_34 : decode cX2_hasEffect 34 = .ok (.iconst 0, 1) := by decide +kernel
theorem dX2_hasEffect_35 : decode cX2_hasEffect 35 = .ok (.ireturn, 1) := by decide +kernel
theorem dX2_isUnchanged_0 : decode cX2_isUnchanged 0 = .ok (.iconst 0, 1) := by decide +kernel
theorem dX2_isUnchanged_1 : decode cX2_isUnchanged 1 = .ok (.istore_n 3, 1) := by decide +kernel
theorem dX2_isUnchanged_2 : decode cX2_isUnchanged 2 = .ok (.iload_n 3, 1) := by decide +kernel
theorem dX2_isUnchanged_3 : decode cX2_isUnchanged 3 = .ok (.aload_n 0, 1) := by decide +kernel
theorem dX2_isUnchanged_4 : decode cX2_isUnchanged 4 = .ok (.getfield 15, 3) := by decide +kernel
theorem dX2_isUnchanged_7 : decode cX2_isUnchanged 7 = .ok (.arraylength, 1) := by decide +kernel
theorem dX2_isUnchanged_8 : decode cX2_isUnchanged 8 = .ok (.if_icmp .ge 29, 3) := by decide +kernel
theorem dX2_isUnchanged_11 : decode cX2_isUnchanged 11 = .ok (.iload_n 3, 1) := by decide +kernel
theorem dX2_isUnchanged_12 : decode cX2_isUnchanged 12 = .ok (.iload_n 1, 1) := by decide +kernel
theorem dX2_isUnchanged_13 : decode cX2_isUnchanged 13 = .ok (.invokestatic 48, 3) := by decide +kernel
theorem dX2_isUnchanged_16 : decode cX2_isUnchanged 16 = .ok (.ifCond .eq 15, 3) := by decide +kernel
theorem dX2_isUnchanged_19 : decode cX2_isUnchanged 19 = .ok (.aload_n 0, 1) := by decide +kernel
theorem dX2_isUnchanged_20 : decode cX2_isUnchanged 20 = .ok (.getfield 15, 3) := by decide +kernel
theorem dX2_isUnchanged_23 : decode cX2_isUnchanged 23 = .ok (.iload_n 3, 1) := by decide +kernel
theorem dX2_isUnchanged_24 : decode cX2_isUnchanged 24 = .ok (.iaload, 1) := by decide +kernel
theorem dX2_isUnchanged_25 : decode cX2_isUnchanged 25 = .ok (.iload_n 2, 1) := by decide +kernel
theorem dX2_isUnchanged_26 : decode cX2_isUnchanged 26 = .ok (.if_icmp .lt 5, 3) := by decide +kernel
theorem dX2_isUnchanged_29 : decode cX2_isUnchanged 29 = .ok (.iconst 0, 1) := by decide +kernel
theorem dX2_isUnchanged_30 : decode cX2_isUnchanged 30 = .ok (.ireturn, 1) := by decide +kernel
theorem dX2_isUnchanged_31 : decode cX2_isUnchanged 31 = .ok (.iinc 3 1, 3) := by decide +kernel
theorem dX2_isUnchanged_34 : decode cX2_isUnchanged 34 = .ok (.goto (-32), 3) := by decide +kernel
theorem dX2_isUnchanged_37 : decode cX2_isUnchanged 37 = .ok (.iconst 1, 1) := by decide +kernel
theorem dX2_isUnchanged_38 : decode cX2_isUnchanged 38 = .ok (.ireturn, 1) := by decide +kernel
theorem dX2_noteChange_0 : decode cX2_noteChange 0 = .ok (.iconst 0, 1) := by decide +kernel
theorem dX2_noteChange_1 : decode cX2_noteChange 1 = .ok (.istore_n 2, 1) := by decide +kernel
theorem dX2_noteChange_2 : decode cX2_noteChange 2 = .ok (.iload_n 2, 1) := by decide +kernel
theorem dX2_noteChange_3 : decode cX2_noteChange 3 = .ok (.aload_n 0, 1) := by decide +kernel
theorem dX2_noteChange_4 : decode cX2_noteChange 4 = .ok (.getfield 15, 3) := by decide +kernel
theorem dX2_noteChange_7 : decode cX2_noteChange 7 = .ok (.arraylength, 1) := by decide +kernel
theorem dX2_noteChange_8 : decode cX2_noteChange 8 = .ok (.if_icmp .ge 27, 3) := by decide +kernel
theorem dX2_noteChange_11 : decode cX2_noteChange 11 = .ok (.iload_n 2, 1) := by decide +kernel
theorem dX2_noteChange_12 : decode cX2_noteChange 12 = .ok (.iload_n 1, 1) := by decide +kernel
theorem dX2_noteChange_13 : decode cX2_noteChange 13 = .ok (.invokestatic 48, 3) := by decide +kernel
theorem dX2_noteChange_16 : decode cX2_noteChange 16 = .ok (.ifCond .eq 13, 3) := by decide +kernel
theorem dX2_noteChange_19 : decode cX2_noteChange 19 = .ok (.aload_n 0, 1) := by decide +kernel
theorem dX2_noteChange_20 : decode cX2_noteChange 20 = .ok (.getfield 15, 3) := by decide +kernel
theorem dX2_noteChange_23 : decode cX2_noteChange 23 = .ok (.iload_n 2, 1) := by decide +kernel
theorem dX2_noteChange_24 : decode cX2_noteChange 24 = .ok (.aload_n 0, 1) := by decide +kernel
theorem dX2_noteChange_25 : decode cX2_noteChange 25 = .ok (.getfield 19, 3) := by decide +kernel
theorem dX2_noteChange_28 : decode cX2_noteChange 28 = .ok (.iastore, 1) := by decide +kernel
theorem dX2_noteChange_29 : decode cX2_noteChange 29 = .ok (.iinc 2 1, 3) := by decide +kernel
theorem dX2_noteChange_32 : decode cX2_noteChange 32 = .ok (.goto (-30), 3) := by decide +kernel
theorem dX2_noteChange_35 : decode cX2_noteChange 35 = .ok (.return_, 1) := by decide +kernel
theorem dX3_init_0 : decode cX3_init 0 = .ok (.aload_n 0, 1) := by decide +kernel
theorem dX3_init_1 : decode cX3_init 1 = .ok (.invokespecial 3, 3) := by decide +kernel
theorem dX3_init_4 : decode cX3_init 4 = .ok (.aload_n 0, 1) := by decide +kernel
theorem dX3_init_5 : decode cX3_init 5 = .ok (.bipush 16, 2) := by decide +kernel
theorem dX3_init_7 : decode cX3_init 7 = .ok (.newarray .int, 2) := by decide +kernel
theorem dX3_init_9 : decode cX3_init 9 = .ok (.putfield 9, 3) := by decide +kernel
theorem dX3_init_12 : decode cX3_init 12 = .ok (.aload_n 0, 1) := by decide +kernel
theorem dX3_init_13 : decode cX3_init 13 = .ok (.getfield 9, 3) := by decide +kernel
theorem dX3_init_16 : decode cX3_init 16 = .ok (.iconst (-1), 1) := by decide +kernel
theorem dX3_init_17 : decode cX3_init 17 = .ok (.invokestatic 15, 3) := by decide +kernel
theorem dX3_init_20 : decode cX3_init 20 = .ok (.return_, 1) := by decide +kernel
theorem dX3_clear_0 : decode cX3_clear 0 = .ok (.aload_n 0, 1) := by decide +kernel
theorem dX3_clear_1 : decode cX3_clear 1 = .ok (.getfield 9, 3) := by decide +kernel
theorem dX3_clear_4 : decode cX3_clear 4 = .ok (.iconst (-1), 1) := by decide +kernel
theorem dX3_clear_5 : decode cX3_clear 5 = .ok (.invokestatic 15, 3) := by decide +kernel
theorem dX3_clear_8 : decode cX3_clear 8 = .ok (.return_, 1) := by decide +kernel
theorem dX3_get_0 : decode cX3_get 0 = .ok (.iload_n 1, 1) := by decide +kernel
theorem dX3_get_1 : decode cX3_get 1 = .ok (.invokestatic 21, 3) := by decide +kernel
theorem dX3_get_4 : decode cX3_get 4 = .ok (.ifCond .eq 23, 3) := by decide +kernel
theorem dX3_get_7 : decode cX3_get 7 = .ok (.iload_n 2, 1) := by decide +kernel
theorem dX3_get_8 : decode cX3_get 8 = .ok (.invokestatic 25, 3) := by decide +kernel
theorem dX3_get_11 : decode cX3_get 11 = .ok (.ifCond .eq 16, 3) := by decide +kernel
theorem dX3_get_14 : decode cX3_get 14 = .ok (.aload_n 0, 1) := by decide +kernel
theorem dX3_get_15 : decode cX3_get 15 = .ok (.getfield 9, 3) := by decide +kernel
theorem dX3_get_18 : decode cX3_get 18 = .ok (.iload_n 1, 1) := by decide +kernel
theorem dX3_get_19 : decode cX3_get 19 = .ok (.iconst 4, 1) := by decide +kernel
theorem dX3_get_20 : decode cX3_get 20 = .ok (.imul, 1) := by decide +kernel
theorem dX3_get_21 : decode cX3_get 21 = .ok (.iload_n 2, 1) := by decide +kernel
theorem dX3_get_22 : decode cX3_get 22 = .ok (.iadd, 1) := by decide +kernel
theorem dX3_get_23 : decode cX3_get 23 = .ok (.iaload, 1) := by decide +kernel
theorem dX3_get_24 : decode cX3_get 24 = .ok (.goto 4, 3) := by decide +kernel
theorem dX3_get_27 : decode cX3_get 27 = .ok (.iconst (-1), 1) := by decide +kernel
theorem dX3_get_28 : decode cX3_get 28 = .ok (.ireturn, 1) := by decide +kernel
theorem dX3_set_0 : decode cX3_set 0 = .ok (.iload_n 1, 1) := by decide +kernel
theorem dX3_set_1 : decode cX3_set 1 = .ok (.invokestatic 21, 3) := by decide +kernel
theorem dX3_set_4 : decode cX3_set 4 = .ok (.ifCond .eq 21, 3) := by decide +kernel
theorem dX3_set_7 : decode cX3_set 7 = .ok (.iload_n 2, 1) := by decide +kernel
theorem dX3_set_8 : decode cX3_set 8 = .ok (.invokestatic 25, 3) := by decide +kernel
theorem dX3_set_11 : decode cX3_set 11 = .ok (.ifCond .eq 14, 3) := by decide +kernel
theorem dX3_set_14 : decode cX3_set 14 = .ok (.aload_n 0, 1) := by decide +kernel
theorem dX3_set_15 : decode cX3_set 15 = .ok (.getfield 9, 3) := by decide +kernel
theorem dX3_set_18 : decode cX3_set 18 = .ok (.iload_n 1, 1) := by decide +kernel
theorem dX3_set_19 : decode cX3_set 19 = .ok (.iconst 4, 1) := by decide +kernel
theorem dX3_set_20 : decode cX3_set 20 = .ok (.imul, 1) := by decide +kernel
theorem dX3_set_21 : decode cX3_set 21 = .ok (.iload_n 2, 1) := by decide +kernel
theorem dX3_set_22 : decode cX3_set 22 = .ok (.iadd, 1) := by decide +kernel
theorem dX3_set_23 : decode cX3_set 23 = .ok (.iload_n 3, 1) := by decide +kernel
theorem dX3_set_24 : decode cX3_set 24 = .ok (.iastore, 1) := by decide +kernel
theorem dX3_set_25 : decode cX3_set 25 = .ok (.return_, 1) := by decide +kernel
theorem dX3_push_0 : decode cX3_push 0 = .ok (.iconst 0, 1) := by decide +kernel
theorem dX3_push_1 : decode cX3_push 1 = .ok (.istore_n 3, 1) := by decide +kernel
theorem dX3_push_2 : decode cX3_push 2 = .ok (.iload_n 3, 1) := by decide +kernel
theorem dX3_push_3 : decode cX3_push 3 = .ok (.iconst 4, 1) := by decide +kernel
theorem dX3_push_4 : decode cX3_push 4 = .ok (.if_icmp .ge 54, 3) := by decide +kernel
theorem dX3_push_7 : decode cX3_push 7 = .ok (.iload_n 3, 1) := by decide +kernel
theorem dX3_push_8 : decode cX3_push 8 = .ok (.iload_n 1, 1) := by decide +kernel
theorem dX3_push_9 : decode cX3_push 9 = .ok (.invokestatic 28, 3) := by decide +kernel
theorem dX3_push_12 : decode cX3_push 12 = .ok (.ifCond .eq 40, 3) := by decide +kernel
theorem dX3_push_15 : decode cX3_push 15 = .ok (.iconst 3, 1) := by decide +kernel
theorem dX3_push_16 : decode cX3_push 16 = .ok (.istore 4, 2) := by decide +kernel
theorem dX3_push_18 : decode cX3_push 18 = .ok (.iload 4, 2) := by decide +kernel
theorem dX3_push_20 : decode cX3_push 20 = .ok (.ifCond .le 25, 3) := by decide +kernel
theorem dX3_push_23 : decode cX3_push 23 = .ok (.aload_n 0, 1) := by decide +kernel
theorem dX3_push_24 : decode cX3_push 24 = .ok (.iload_n 3, 1) := by decide +kernel
theorem dX3_push_25 : decode cX3_push 25 = .ok (.iload 4, 2) := by decide +kernel
theorem dX3_push_27 : decode cX3_push 27 = .ok (.aload_n 0, 1) := by decide +kernel
theorem dX3_push_28 : decode cX3_push 28 = .ok (.iload_n 3, 1) := by decide +kernel
theorem dX3_push_29 : decode cX3_push 29 = .ok (.iload 4, 2) := by decide +kernel
theorem dX3_push_31 : decode cX3_push 31 = .ok (.iconst 1, 1) := by decide +kernel
theorem dX3_push_32 : decode cX3_push 32 = .ok (.isub, 1) := by decide +kernel
theorem dX3_push_33 : decode cX3_push 33 = .ok (.invokevirtual 32, 3) := by decide +kernel
theorem dX3_push_36 : decode cX3_push 36 = .ok (.invokevirtual 36, 3) := by decide +kernel
theorem dX3_push_39 : decode cX3_push 39 = .ok (.iinc 4 (-1), 3) := by decide +kernel
theorem dX3_push_42 : decode cX3_push 42 = .ok (.goto (-24), 3) := by decide +kernel
theorem dX3_push_45 : decode cX3_push 45 = .ok (.aload_n 0, 1) := by decide +kernel
theorem dX3_push_46 : decode cX3_push 46 = .ok (.iload_n 3, 1) := by decide +kernel
theorem dX3_push_47 : decode cX3_push 47 = .ok (.iconst 0, 1) := by decide +kernel
theorem dX3_push_48 : decode cX3_push 48 = .ok (.iload_n 2, 1) := by decide +kernel
theorem dX3_push_49 : decode cX3_push 49 = .ok (.invokevirtual 36, 3) := by decide +kernel
theorem dX3_push_52 : decode cX3_push 52 = .ok (.iinc 3 1, 3) := by decide +kernel
theorem dX3_push_55 : decode cX3_push 55 = .ok (.goto (-53), 3) := by decide +kernel
theorem dX3_push_58 : decode cX3_push 58 = .ok (.return_, 1) := by decide +kernel
theorem dX3_copyFor_0 : decode cX3_copyFor 0 = .ok (.new 10, 3) := by decide +kernel
theorem dX3_copyFor_3 : decode cX3_copyFor 3 = .ok (.dup, 1) := by decide +kernel
theorem dX3_copyFor_4 : decode cX3_copyFor 4 = .ok (.invokespecial 40, 3) := by decide +kernel
theorem dX3_copyFor_7 : decode cX3_copyFor 7 = .ok (.astore_n 2, 1) := by decide +kernel
theorem dX3_copyFor_8 : decode cX3_copyFor 8 = .ok (.iconst 0, 1) := by decide +kernel
theorem dX3_copyFor_9 : decode cX3_copyFor 9 = .ok (.istore_n 3, 1) := by decide +kernel
theorem dX3_copyFor_10 : decode cX3_copyFor 10 = .ok (.iload_n 3, 1) := by decide +kernel
theorem dX3_copyFor_11 : decode cX3_copyFor 11 = .ok (.iconst 4, 1) := by decide +kernel
theorem dX3_copyFor_12 : decode cX3_copyFor 12 = .ok (.if_icmp .ge 46, 3) := by decide +kernel
theorem dX3_copyFor_15 : decode cX3_copyFor 15 = .ok (.iload_n 3, 1) := by decide +kernel
theorem dX3_copyFor_16 : decode cX3_copyFor 16 = .ok (.iload_n 1, 1) := by decide +kernel
theorem dX3_copyFor_17 : decode cX3_copyFor 17 = .ok (.invokestatic 28, 3) := by decide +kernel
theorem dX3_copyFor_20 : decode cX3_copyFor 20 = .ok (.ifCond .eq 32, 3) := by decide +kernel
theorem dX3_copyFor_23 : decode cX3_copyFor 23 = .ok (.iconst 0, 1) := by decide +kernel
theorem dX3_copyFor_24 : decode cX3_copyFor 24 = .ok (.istore 4, 2) := by decide +kernel
theorem dX3_copyFor_26 : decode cX3_copyFor 26 = .ok (.iload 4, 2) := by decide +kernel
theorem dX3_copyFor_28 : decode cX3_copyFor 28 = .ok (.iconst 4, 1) := by decide +kernel
theorem dX3_copyFor_29 : decode cX3_copyFor 29 = .ok (.if_icmp .ge 23, 3) := by decide +kernel
theorem dX3_copyFor_32 : decode cX3_copyFor 32 = .ok (.aload_n 2, 1) := by decide +kernel
theorem dX3_copyFor_33 : decode cX3_copyFor 33 = .ok (.iload_n 3, 1) := by decide +kernel
theorem dX3_copyFor_34 : decode cX3_copyFor 34 = .ok (.iload 4, 2) := by decide +kernel
theorem dX3_copyFor_36 : decode cX3_copyFor 36 = .ok (.aload_n 0, 1) := by decide +kernel
theorem dX3_copyFor_37 : decode cX3_copyFor 37 = .ok (.iload_n 3, 1) := by decide +kernel
theorem dX3_copyFor_38 : decode cX3_copyFor 38 = .ok (.iload 4, 2) := by decide +kernel
theorem dX3_copyFor_40 : decode cX3_copyFor 40 = .ok (.invokevirtual 32, 3) := by decide +kernel
theorem dX3_copyFor_43 : decode cX3_copyFor 43 = .ok (.invokevirtual 36, 3) := by decide +kernel
theorem dX3_copyFor_46 : decode cX3_copyFor 46 = .ok (.iinc 4 1, 3) := by decide +kernel
theorem dX3_copyFor_49 : decode cX3_copyFor 49 = .ok (.goto (-23), 3) := by decide +kernel
theorem dX3_copyFor_52 : decode cX3_copyFor 52 = .ok (.iinc 3 1, 3) := by decide +kernel
theorem dX3_copyFor_55 : decode cX3_copyFor 55 = .ok (.goto (-45), 3) := by decide +kernel
theorem dX3_copyFor_58 : decode cX3_copyFor 58 = .ok (.aload_n 2, 1) := by decide +kernel
theorem dX3_copyFor_59 : decode cX3_copyFor 59 = .ok (.areturn, 1) := by decide +kernel
theorem dJ7_fill_53178_0 : decode cJ7_fill_53178 0 = .ok (.iconst 0, 1) := by decide +kernel
theorem dJ7_fill_53178_1 : decode cJ7_fill_53178 1 = .ok (.istore_n 2, 1) := by decide +kernel
theorem dJ7_fill_53178_2 : decode cJ7_fill_53178 2 = .ok (.aload_n 0, 1) := by decide +kernel
theorem dJ7_fill_53178_3 : decode cJ7_fill_53178 3 = .ok (.arraylength, 1) := by decide +kernel
theorem dJ7_fill_53178_4 : decode cJ7_fill_53178 4 = .ok (.istore_n 3, 1) := by decide +kernel
theorem dJ7_fill_53178_5 : decode cJ7_fill_53178 5 = .ok (.iload_n 2, 1) := by decide +kernel
theorem dJ7_fill_53178_6 : decode cJ7_fill_53178 6 = .ok (.iload_n 3, 1) := by decide +kernel
theorem dJ7_fill_53178_7 : decode cJ7_fill_53178 7 = .ok (.if_icmp .ge 13, 3) := by decide +kernel
theorem dJ7_fill_53178_10 : decode cJ7_fill_53178 10 = .ok (.aload_n 0, 1) := by decide +kernel
theorem dJ7_fill_53178_11 : decode cJ7_fill_53178 11 = .ok (.iload_n 2, 1) := by decide +kernel
theorem dJ7_fill_53178_12 : decode cJ7_fill_53178 12 = .ok (.iload_n 1, 1) := by decide +kernel
theorem dJ7_fill_53178_13 : decode cJ7_fill_53178 13 = .ok (.iastore, 1) := by decide +kernel
theorem dJ7_fill_53178_14 : decode cJ7_fill_53178 14 = .ok (.iinc 2 1, 3) := by decide +kernel
theorem dJ7_fill_53178_17 : decode cJ7_fill_53178 17 = .ok (.goto (-12), 3) := by decide +kernel
theorem dJ7_fill_53178_20 : decode cJ7_fill_53178 20 = .ok (.return_, 1) := by decide +kernel
end
section
theorem dX4_init_0 : decode cX4_init 0 = .ok (.aload_n 0, 1) := by decide +kernel
theorem dX4_init_1 : decode cX4_init 1 = .ok (.invokespecial 1, 3) := by decide +kernel
theorem dX4_init_4 : decode cX4_init 4 = .ok (.aload_n 0, 1) := by decide +kernel
theorem dX4_init_5 : decode cX4_init 5 = .ok (.sipush 150, 3) := by decide +kernel
theorem dX4_init_8 : decode cX4_init 8 = .ok (.anewarray 9, 3) := by decide +kernel
theorem dX4_init_11 : decode cX4_init 11 = .ok (.putfield 11, 3) := by decide +kernel
theorem dX4_init_14 : decode cX4_init 14 = .ok (.aload_n 0, 1) := by decide +kernel
theorem dX4_init_15 : decode cX4_init 15 = .ok (.new 15, 3) := by decide +kernel
theorem dX4_init_18 : decode cX4_init 18 = .ok (.dup, 1) := by decide +kernel
theorem dX4_init_19 : decode cX4_init 19 = .ok (.invokespecial 17, 3) := by decide +kernel
theorem dX4_init_22 : decode cX4_init 22 = .ok (.putfield 18, 3) := by decide +kernel
theorem dX4_init_25 : decode cX4_init 25 = .ok (.aload_n 0, 1) := by decide +kernel
theorem dX4_init_26 : decode cX4_init 26 = .ok (.new 22, 3) := by decide +kernel
theorem dX4_init_29 : decode cX4_init 29 = .ok (.dup, 1) := by decide +kernel
theorem dX4_init_30 : decode cX4_init 30 = .ok (.invokespecial 24, 3) := by decide +kernel
theorem dX4_init_33 : decode cX4_init 33 = .ok (.putfield 25, 3) := by decide +kernel
theorem dX4_init_36 : decode cX4_init 36 = .ok (.aload_n 0, 1) := by decide +kernel
theorem dX4_init_37 : decode cX4_init 37 = .ok (.new 29, 3) := by decide +kernel
theorem dX4_init_40 : decode cX4_init 40 = .ok (.dup, 1) := by decide +kernel
theorem dX4_init_41 : decode cX4_init 41 = .ok (.invokespecial 31, 3) := by decide +kernel
theorem dX4_init_44 : decode cX4_init 44 = .ok (.putfield 32, 3) := by decide +kernel
theorem dX4_init_47 : decode cX4_init 47 = .ok (.aload_n 0, 1) := by decide +kernel
theorem dX4_init_48 : decode cX4_init 48 = .ok (.iconst 0, 1) := by decide +kernel
theorem dX4_init_49 : decode cX4_init 49 = .ok (.putfield 36, 3) := by decide +kernel
theorem dX4_init_52 : decode cX4_init 52 = .ok (.aload_n 0, 1) := by decide +kernel
theorem dX4_init_53 : decode cX4_init 53 = .ok (.iconst 0, 1) := by decide +kernel
theorem dX4_init_54 : decode cX4_init 54 = .ok (.putfield 40, 3) := by decide +kernel
theorem dX4_init_57 : decode cX4_init 57 = .ok (.aload_n 0, 1) := by decide +kernel
theorem dX4_init_58 : decode cX4_init 58 = .ok (.iconst 0, 1) := by decide +kernel
theorem dX4_init_59 : decode cX4_init 59 = .ok (.putfield 43, 3) := by decide +kernel
theorem dX4_init_62 : decode cX4_init 62 = .ok (.aload_n 0, 1) := by decide +kernel
theorem dX4_init_63 : decode cX4_init 63 = .ok (.iconst 0, 1) := by decide +kernel
theorem dX4_init_64 : decode cX4_init 64 = .ok (.putfield 46, 3) := by decide +kernel
theorem dX4_init_67 : decode cX4_init 67 = .ok (.return_, 1) := by decide +kernel
theorem dX4_take_0 : decode cX4_take 0 = .ok (.iload_n 1, 1) := by decide +kernel
theorem dX4_take_1 : decode cX4_take 1 = .ok (.invokestatic 50, 3) := by decide +kernel
theorem dX4_take_4 : decode cX4_take 4 = .ok (.ifCond .eq 10, 3) := by decide +kernel
theorem dX4_take_7 : decode cX4_take 7 = .ok (.iload_n 2, 1) := by decide +kernel
theorem dX4_take_8 : decode cX4_take 8 = .ok (.invokestatic 54, 3) := by decide +kernel
theorem dX4_take_11 : decode cX4_take 11 = .ok (.ifCond .ne 13, 3) := by decide +kernel
theorem dX4_take_14 : decode cX4_take 14 = .ok (.new 57, 3) := by decide +kernel
theorem dX4_take_17 : decode cX4_take 17 = .ok (.dup, 1) := by decide +kernel
theorem dX4_take_18 : decode cX4_take 18 = .ok (.ldc 59, 2) := by decide +kernel
theorem dX4_take_20 : decode cX4_take 20 = .ok (.invokespecial 61, 3) := by decide +kernel
theorem dX4_take_23 : decode cX4_take 23 = .ok (.athrow, 1) := by decide +kernel
theorem dX4_take_24 : decode cX4_take 24 = .ok (.aload_n 0, 1) := by decide +kernel
theorem dX4_take_25 : decode cX4_take 25 = .ok (.iload_n 1, 1) := by decide +kernel
theorem dX4_take_26 : decode cX4_take 26 = .ok (.iload_n 2, 1) := by decide +kernel
theorem dX4_take_27 : decode cX4_take 27 = .ok (.iconst 0, 1) := by decide +kernel
theorem dX4_take_28 : decode cX4_take 28 = .ok (.iconst 0, 1) := by decide +kernel
theorem dX4_take_29 : decode cX4_take 29 = .ok (.invokevirtual 64, 3) := by decide +kernel
theorem dX4_take_32 : decode cX4_take 32 = .ok (.ireturn, 1) := by decide +kernel
theorem dX4_takeIf_0 : decode cX4_takeIf 0 = .ok (.iload_n 1, 1) := by decide +kernel
theorem dX4_takeIf_1 : decode cX4_takeIf 1 = .ok (.invokestatic 50, 3) := by decide +kernel
theorem dX4_takeIf_4 : decode cX4_takeIf 4 = .ok (.ifCond .eq 17, 3) := by decide +kernel
theorem dX4_takeIf_7 : decode cX4_takeIf 7 = .ok (.iload_n 2, 1) := by decide +kernel
theorem dX4_takeIf_8 : decode cX4_takeIf 8 = .ok (.invokestatic 54, 3) := by decide +kernel
theorem dX4_takeIf_11 : decode cX4_takeIf 11 = .ok (.ifCond .eq 10, 3) := by decide +kernel
theorem dX4_takeIf_14 : decode cX4_takeIf 14 = .ok (.iload_n 3, 1) := by decide +kernel
theorem dX4_takeIf_15 : decode cX4_takeIf 15 = .ok (.invokestatic 50, 3) := by decide +kernel
theorem dX4_takeIf_18 : decode cX4_takeIf 18 = .ok (.ifCond .ne 13, 3) := by decide +kernel
theorem dX4_takeIf_21 : decode cX4_takeIf 21 = .ok (.new 57, 3) := by decide +kernel
theorem dX4_takeIf_24 : decode cX4_takeIf 24 = .ok (.dup, 1) := by decide +kernel
theorem dX4_takeIf_25 : decode cX4_takeIf 25 = .ok (.ldc 68, 2) := by decide +kernel
theorem dX4_takeIf_27 : decode cX4_takeIf 27 = .ok (.invokespecial 61, 3) := by decide +kernel
theorem dX4_takeIf_30 : decode cX4_takeIf 30 = .ok (.athrow, 1) := by decide +kernel
theorem dX4_takeIf_31 : decode cX4_takeIf 31 = .ok (.aload_n 0, 1) := by decide +kernel
theorem dX4_takeIf_32 : decode cX4_takeIf 32 = .ok (.getfield 46, 3) := by decide +kernel
theorem dX4_takeIf_35 : decode cX4_takeIf 35 = .ok (.ifCond .ne 27, 3) := by decide +kernel
theorem dX4_takeIf_38 : decode cX4_takeIf 38 = .ok (.iload 4, 2) := by decide +kernel
theorem dX4_takeIf_40 : decode cX4_takeIf 40 = .ok (.ifCond .lt 12, 3) := by decide +kernel
theorem dX4_takeIf_43 : decode cX4_takeIf 43 = .ok (.iload 4, 2) := by decide +kernel
theorem dX4_takeIf_45 : decode cX4_takeIf 45 = .ok (.aload_n 0, 1) := by decide +kernel
theorem dX4_takeIf_46 : decode cX4_takeIf 46 = .ok (.getfield 43, 3) := by decide +kernel
theorem dX4_takeIf_49 : decode cX4_takeIf 49 = .ok (.if_icmp .le 13, 3) := by decide +kernel
theorem dX4_takeIf_52 : decode cX4_takeIf 52 = .ok (.new 57, 3) := by decide +kernel
theorem dX4_takeIf_55 : decode cX4_takeIf 55 = .ok (.dup, 1) := by decide +kernel
theorem dX4_takeIf_56 : decode cX4_takeIf 56 = .ok (.ldc 70, 2) := by decide +kernel
theorem dX4_takeIf_58 : decode cX4_takeIf 58 = .ok (.invokespecial 61, 3) := by decide +kernel
theorem dX4_takeIf_61 : decode cX4_takeIf 61 = .ok (.athrow, 1) := by decide +kernel
theorem dX4_takeIf_62 : decode cX4_takeIf 62 = .ok (.aload_n 0, 1) := by decide +kernel
theorem dX4_takeIf_63 : decode cX4_takeIf 63 = .ok (.iload_n 1, 1) := by decide +kernel
theorem dX4_takeIf_64 : decode cX4_takeIf 64 = .ok (.iload_n 2, 1) := by decide +kernel
theorem dX4_takeIf_65 : decode cX4_takeIf 65 = .ok (.iload_n 3, 1) := by decide +kernel
theorem dX4_takeIf_66 : decode cX4_takeIf 66 = .ok (.iload 4, 2) := by decide +kernel
theorem dX4_takeIf_68 : decode cX4_takeIf 68 = .ok (.invokevirtual 64, 3) := by decide +kernel
theorem dX4_takeIf_71 : decode cX4_takeIf 71 = .ok (.ireturn, 1) := by decide +kernel
theorem dX4_lose_0 : decode cX4_lose 0 = .ok (.aload_n 0, 1) := by decide +kernel
theorem dX4_lose_1 : decode cX4_lose 1 = .ok (.getfield 46, 3) := by decide +kernel
theorem dX4_lose_4 : decode cX4_lose 4 = .ok (.ifCond .eq 13, 3) := by decide +kernel
theorem dX4_lose_7 : decode cX4_lose 7 = .ok (.new 72, 3) := by decide +kernel
theorem dX4_lose_10 : decode cX4_lose 10 = .ok (.dup, 1) := by decide +kernel
theorem dX4_lose_11 : decode cX4_lose 11 = .ok (.ldc 74, 2) := by decide +kernel
theorem dX4_lose_13 : decode cX4_lose 13 = .ok (.invokespecial 76, 3) := by decide +kernel
theorem dX4_lose_16 : decode cX4_lose 16 = .ok (.athrow, 1) := by decide +kernel
theorem dX4_lose_17 : decode cX4_lose 17 = .ok (.aload_n 0, 1) := by decide +kernel
theorem dX4_lose_18 : decode cX4_lose 18 = .ok (.iconst 1, 1) := by decide +kernel
theorem dX4_lose_19 : decode cX4_lose 19 = .ok (.putfield 46, 3) := by decide +kernel
theorem dX4_lose_22 : decode cX4_lose 22 = .ok (.aload_n 0, 1) := by decide +kernel
theorem dX4_lose_23 : decode cX4_lose 23 = .ok (.getfield 43, 3) := by decide +kernel
theorem dX4_lose_26 : decode cX4_lose 26 = .ok (.ireturn, 1) := by decide +kernel
theorem dX4_seal_0 : decode cX4_seal 0 = .ok (.aload_n 0, 1) := by decide +kernel
theorem dX4_seal_1 : decode cX4_seal 1 = .ok (.dup, 1) := by decide +kernel
theorem dX4_seal_2 : decode cX4_seal 2 = .ok (.getfield 40, 3) := by decide +kernel
theorem dX4_seal_5 : decode cX4_seal 5 = .ok (.iconst 1, 1) := by decide +kernel
theorem dX4_seal_6 : decode cX4_seal 6 = .ok (.iadd, 1) := by decide +kernel
theorem dX4_seal_7 : decode cX4_seal 7 = .ok (.putfield 40, 3) := by decide +kernel
theorem dX4_seal_10 : decode cX4_seal 10 = .ok (.aload_n 0, 1) := by decide +kernel
theorem dX4_seal_11 : decode cX4_seal 11 = .ok (.aload_n 0, 1) := by decide +kernel
theorem dX4_seal_12 : decode cX4_seal 12 = .ok (.getfield 18, 3) := by decide +kernel
theorem dX4_seal_15 : decode cX4_seal 15 = .ok (.invokevirtual 77, 3) := by decide +kernel
theorem dX4_seal_18 : decode cX4_seal 18 = .ok (.putfield 43, 3) := by decide +kernel
theorem dX4_seal_21 : decode cX4_seal 21 = .ok (.aload_n 0, 1) := by decide +kernel
theorem dX4_seal_22 : decode cX4_seal 22 = .ok (.iconst 0, 1) := by decide +kernel
theorem dX4_seal_23 : decode cX4_seal 23 = .ok (.putfield 46, 3) := by decide +kernel
theorem dX4_seal_26 : decode cX4_seal 26 = .ok (.aload_n 0, 1) := by decide +kernel
theorem dX4_seal_27 : decode cX4_seal 27 = .ok (.getfield 25, 3) := by decide +kernel
theorem dX4_seal_30 : decode cX4_seal 30 = .ok (.invokevirtual 81, 3) := by decide +kernel
theorem dX4_seal_33 : decode cX4_seal 33 = .ok (.iconst 0, 1) := by decide +kernel
theorem dX4_seal_34 : decode cX4_seal 34 = .ok (.istore_n 1, 1) := by decide +kernel
theorem dX4_seal_35 : decode cX4_seal 35 = .ok (.iload_n 1, 1) := by decide +kernel
theorem dX4_seal_36 : decode cX4_seal 36 = .ok (.aload_n 0, 1) := by decide +kernel
theorem dX4_seal_37 : decode cX4_seal 37 = .ok (.getfield 43, 3) := by decide +kernel
theorem dX4_seal_40 : decode cX4_seal 40 = .ok (.if_icmp .ge 31, 3) := by decide +kernel
theorem dX4_seal_43 : decode cX4_seal 43 = .ok (.aload_n 0, 1) := by decide +kernel
theorem dX4_seal_44 : decode cX4_seal 44 = .ok (.iload_n 1, 1) := by decide +kernel
theorem dX4_seal_45 : decode cX4_seal 45 = .ok (.invokevirtual 84, 3) := by decide +kernel
theorem dX4_seal_48 : decode cX4_seal 48 = .ok (.astore_n 2, 1) := by decide +kernel
theorem dX4_seal_49 : decode cX4_seal 49 = .ok (.aload_n 2, 1) := by decide +kernel
theorem dX4_seal_50 : decode cX4_seal 50 = .ok (.ifnull 15, 3) := by decide +kernel
theorem dX4_seal_53 : decode cX4_seal 53 = .ok (.aload_n 0, 1) := by decide +kernel
theorem dX4_seal_54 : decode cX4_seal 54 = .ok (.getfield 25, 3) := by decide +kernel
theorem dX4_seal_57 : decode cX4_seal 57 = .ok (.aload_n 2, 1) := by decide +kernel
theorem dX4_seal_58 : decode cX4_seal 58 = .ok (.getfield 88, 3) := by decide +kernel
theorem dX4_seal_61 : decode cX4_seal 61 = .ok (.iload_n 1, 1) := by decide +kernel
theorem dX4_seal_62 : decode cX4_seal 62 = .ok (.invokevirtual 91, 3) := by decide +kernel
theorem dX4_seal_65 : decode cX4_seal 65 = .ok (.iinc 1 1, 3) := by decide +kernel
theorem dX4_seal_68 : decode cX4_seal 68 = .ok (.goto (-33), 3) := by decide +kernel
theorem dX4_seal_71 : decode cX4_seal 71 = .ok (.aload_n 0, 1) := by decide +kernel
theorem dX4_seal_72 : decode cX4_seal 72 = .ok (.getfield 43, 3) := by decide +kernel
theorem dX4_seal_75 : decode cX4_seal 75 = .ok (.ireturn, 1) := by decide +kernel
theorem dX4_write_0 : decode cX4_write 0 = .ok (.aload_n 0, 1) := by decide +kernel
theorem dX4_write_1 : decode cX4_write 1 = .ok (.iload_n 1, 1) := by decide +kernel
theorem dX4_write_2 : decode cX4_write 2 = .ok (.invokevirtual 95, 3) := by decide +kernel
theorem dX4_write_5 : decode cX4_write 5 = .ok (.astore_n 2, 1) := by decide +kernel
theorem dX4_write_6 : decode cX4_write 6 = .ok (.aload_n 2, 1) := by decide +kernel
theorem dX4_write_7 : decode cX4_write 7 = .ok (.ifnonnull 13, 3) := by decide +kernel
theorem dX4_write_10 : decode cX4_write 10 = .ok (.new 98, 3) := by decide +kernel
theorem dX4_write_13 : decode cX4_write 13 = .ok (.dup, 1) := by decide +kernel
theorem dX4_write_14 : decode cX4_write 14 = .ok (.ldc 100, 2) := by decide +kernel
theorem dX4_write_16 : decode cX4_write 16 = .ok (.invokespecial 102, 3) := by decide +kernel
theorem dX4_write_19 : decode cX4_write 19 = .ok (.athrow, 1) := by decide +kernel
theorem dX4_write_20 : decode cX4_write 20 = .ok (.aload_n 2, 1) := by decide +kernel
theorem dX4_write_21 : decode cX4_write 21 = .ok (.getfield 103, 3) := by decide +kernel
theorem dX4_write_24 : decode cX4_write 24 = .ok (.iconst (-1), 1) := by decide +kernel
theorem dX4_write_25 : decode cX4_write 25 = .ok (.if_icmp .eq 22, 3) := by decide +kernel
theorem dX4_write_28 : decode cX4_write 28 = .ok (.aload_n 2, 1) := by decide +kernel
theorem dX4_write_29 : decode cX4_write 29 = .ok (.getfield 103, 3) := by decide +kernel
theorem dX4_write_32 : decode cX4_write 32 = .ok (.iconst 3, 1) := by decide +kernel
theorem dX4_write_33 : decode cX4_write 33 = .ok (.if_icmp .eq 14, 3) := by decide +kernel
theorem dX4_write_36 : decode cX4_write 36 = .ok (.aload_n 2, 1) := by decide +kernel
theorem dX4_write_37 : decode cX4_write 37 = .ok (.getfield 106, 3) := by decide +kernel
theorem dX4_write_40 : decode cX4_write 40 = .ok (.aload_n 0, 1) := by decide +kernel
theorem dX4_write_41 : decode cX4_write 41 = .ok (.getfield 40, 3) := by decide +kernel
theorem dX4_write_44 : decode cX4_write 44 = .ok (.if_icmp .eq 13, 3) := by decide +kernel
theorem dX4_write_47 : decode cX4_write 47 = .ok (.new 72, 3) := by decide +kernel
theorem dX4_write_50 : decode cX4_write 50 = .ok (.dup, 1) := by decide +kernel
theorem dX4_write_51 : decode cX4_write 51 = .ok (.ldc 107, 2) := by decide +kernel
theorem dX4_write_53 : decode cX4_write 53 = .ok (.invokespecial 76, 3) := by decide +kernel
theorem dX4_write_56 : decode cX4_write 56 = .ok (.athrow, 1) := by decide +kernel
theorem dX4_write_57 : decode cX4_write 57 = .ok (.aload_n 0, 1) := by decide +kernel
theorem dX4_write_58 : decode cX4_write 58 = .ok (.getfield 18, 3) := by decide +kernel
theorem dX4_write_61 : decode cX4_write 61 = .ok (.aload_n 2, 1) := by decide +kernel
theorem dX4_write_62 : decode cX4_write 62 = .ok (.getfield 103, 3) := by decide +kernel
theorem dX4_write_65 : decode cX4_write 65 = .ok (.aload_n 2, 1) := by decide +kernel
theorem dX4_write_66 : decode cX4_write 66 = .ok (.getfield 109, 3) := by decide +kernel
theorem dX4_write_69 : decode cX4_write 69 = .ok (.invokevirtual 112, 3) := by decide +kernel
theorem dX4_write_72 : decode cX4_write 72 = .ok (.iconst (-1), 1) := by decide +kernel
theorem dX4_write_73 : decode cX4_write 73 = .ok (.if_icmp .ne 11, 3) := by decide +kernel
theorem dX4_write_76 : decode cX4_write 76 = .ok (.aload_n 2, 1) := by decide +kernel
theorem dX4_write_77 : decode cX4_write 77 = .ok (.iconst (-1), 1) := by decide +kernel
theorem dX4_write_78 : decode cX4_write 78 = .ok (.putfield 103, 3) := by decide +kernel
theorem dX4_write_81 : decode cX4_write 81 = .ok (.goto 29, 3) := by decide +kernel
theorem dX4_write_84 : decode cX4_write 84 = .ok (.aload_n 0, 1) := by decide +kernel
theorem dX4_write_85 : decode cX4_write 85 = .ok (.getfield 18, 3) := by decide +kernel
theorem dX4_write_88 : decode cX4_write 88 = .ok (.aload_n 2, 1) := by decide +kernel
theorem dX4_write_89 : decode cX4_write 89 = .ok (.getfield 103, 3) := by decide +kernel
theorem dX4_write_92 : decode cX4_write 92 = .ok (.aload_n 2, 1) := by decide +kernel
theorem dX4_write_93 : decode cX4_write 93 = .ok (.getfield 109, 3) := by decide +kernel
theorem dX4_write_96 : decode cX4_write 96 = .ok (.iload_n 1, 1) := by decide +kernel
theorem dX4_write_97 : decode cX4_write 97 = .ok (.invokevirtual 116, 3) := by decide +kernel
theorem dX4_write_100 : decode cX4_write 100 = .ok (.aload_n 2, 1) := by decide +kernel
theorem dX4_write_101 : decode cX4_write 101 = .ok (.dup, 1) := by decide +kernel
theorem dX4_write_102 : decode cX4_write 102 = .ok (.getfield 103, 3) := by decide +kernel
theorem dX4_write_105 : decode cX4_write 105 = .ok (.iconst 1, 1) := by decide +kernel
theorem dX4_write_106 : decode cX4_write 106 = .ok (.iadd, 1) := by decide +kernel
theorem dX4_write_107 : decode cX4_write 107 = .ok (.putfield 103, 3) := by decide +kernel
theorem dX4_write_110 : decode cX4_write 110 = .ok (.aload_n 2, 1) := by decide +kernel
theorem dX4_write_111 : decode cX4_write 111 = .ok (.getfield 103, 3) := by decide +kernel
theorem dX4_write_114 : decode cX4_write 114 = .ok (.ireturn, 1) := by decide +kernel
theorem dX4_fill_0 : decode cX4_fill 0 = .ok (.iload_n 1, 1) := by decide +kernel
theorem dX4_fill_1 : decode cX4_fill 1 = .ok (.invokestatic 120, 3) := by decide +kernel
theorem dX4_fill_4 : decode cX4_fill 4 = .ok (.ifCond .ne 13, 3) := by decide +kernel
theorem dX4_fill_7 : decode cX4_fill 7 = .ok (.new 98, 3) := by decide +kernel
theorem dX4_fill_10 : decode cX4_fill 10 = .ok (.dup, 1) := by decide +kernel
theorem dX4_fill_11 : decode cX4_fill 11 = .ok (.ldc 123, 2) := by decide +kernel
theorem dX4_fill_13 : decode cX4_fill 13 = .ok (.invokespecial 102, 3) := by decide +kernel
theorem dX4_fill_16 : decode cX4_fill 16 = .ok (.athrow, 1) := by decide +kernel
theorem dX4_fill_17 : decode cX4_fill 17 = .ok (.aload_n 0, 1) := by decide +kernel
theorem dX4_fill_18 : decode cX4_fill 18 = .ok (.getfield 46, 3) := by decide +kernel
theorem dX4_fill_21 : decode cX4_fill 21 = .ok (.ifCond .ne 22, 3) := by decide +kernel
theorem dX4_fill_24 : decode cX4_fill 24 = .ok (.iload_n 1, 1) := by decide +kernel
theorem dX4_fill_25 : decode cX4_fill 25 = .ok (.aload_n 0, 1) := by decide +kernel
theorem dX4_fill_26 : decode cX4_fill 26 = .ok (.getfield 43, 3) := by decide +kernel
theorem dX4_fill_29 : decode cX4_fill 29 = .ok (.if_icmp .ge 14, 3) := by decide +kernel
theorem dX4_fill_32 : decode cX4_fill 32 = .ok (.aload_n 0, 1) := by decide +kernel
theorem dX4_fill_33 : decode cX4_fill 33 = .ok (.getfield 18, 3) := by decide +kernel
theorem dX4_fill_36 : decode cX4_fill 36 = .ok (.iload_n 1, 1) := by decide +kernel
theorem dX4_fill_37 : decode cX4_fill 37 = .ok (.invokevirtual 125, 3) := by decide +kernel
theorem dX4_fill_40 : decode cX4_fill 40 = .ok (.ifCond .eq 13, 3) := by decide +kernel
theorem dX4_fill_43 : decode cX4_fill 43 = .ok (.new 72, 3) := by decide +kernel
theorem dX4_fill_46 : decode cX4_fill 46 = .ok (.dup, 1) := by decide +kernel
theorem dX4_fill_47 : decode cX4_fill 47 = .ok (.ldc 128, 2) := by decide +kernel
theorem dX4_fill_49 : decode cX4_fill 49 = .ok (.invokespecial 76, 3) := by decide +kernel
theorem dX4_fill_52 : decode cX4_fill 52 = .ok (.athrow, 1) := by decide +kernel
theorem dX4_fill_53 : decode cX4_fill 53 = .ok (.aload_n 0, 1) := by decide +kernel
theorem dX4_fill_54 : decode cX4_fill 54 = .ok (.iload_n 1, 1) := by decide +kernel
theorem dX4_fill_55 : decode cX4_fill 55 = .ok (.invokevirtual 84, 3) := by decide +kernel
theorem dX4_fill_58 : decode cX4_fill 58 = .ok (.ifnull 7, 3) := by decide +kernel
theorem dX4_fill_61 : decode cX4_fill 61 = .ok (.iconst 1, 1) := by decide +kernel
theorem dX4_fill_62 : decode cX4_fill 62 = .ok (.goto 4, 3) := by decide +kernel
theorem dX4_fill_65 : decode cX4_fill 65 = .ok (.iconst 0, 1) := by decide +kernel
theorem dX4_fill_66 : decode cX4_fill 66 = .ok (.istore_n 2, 1) := by decide +kernel
theorem dX4_fill_67 : decode cX4_fill 67 = .ok (.iload_n 2, 1) := by decide +kernel
theorem dX4_fill_68 : decode cX4_fill 68 = .ok (.ifCond .eq 15, 3) := by decide +kernel
theorem dX4_fill_71 : decode cX4_fill 71 = .ok (.aload_n 0, 1) := by decide +kernel
theorem dX4_fill_72 : decode cX4_fill 72 = .ok (.getfield 18, 3) := by decide +kernel
theorem dX4_fill_75 : decode cX4_fill 75 = .ok (.iconst 0, 1) := by decide +kernel
theorem dX4_fill_76 : decode cX4_fill 76 = .ok (.iload_n 1, 1) := by decide +kernel
theorem dX4_fill_77 : decode cX4_fill 77 = .ok (.invokevirtual 112, 3) := by decide +kernel
theorem dX4_fill_80 : decode cX4_fill 80 = .ok (.goto 4, 3) := by decide +kernel
theorem dX4_fill_83 : decode cX4_fill 83 = .ok (.iconst (-1), 1) := by decide +kernel
theorem dX4_fill_84 : decode cX4_fill 84 = .ok (.istore_n 3, 1) := by decide +kernel
theorem dX4_fill_85 : decode cX4_fill 85 = .ok (.iconst 0, 1) := by decide +kernel
theorem dX4_fill_86 : decode cX4_fill 86 = .ok (.istore 4, 2) := by decide +kernel
theorem dX4_fill_88 : decode cX4_fill 88 = .ok (.iload 4, 2) := by decide +kernel
theorem dX4_fill_90 : decode cX4_fill 90 = .ok (.iconst 3, 1) := by decide +kernel
theorem dX4_fill_91 : decode cX4_fill 91 = .ok (.if_icmp .ge 20, 3) := by decide +kernel
theorem dX4_fill_94 : decode cX4_fill 94 = .ok (.aload_n 0, 1) := by decide +kernel
theorem dX4_fill_95 : decode cX4_fill 95 = .ok (.getfield 18, 3) := by decide +kernel
theorem dX4_fill_98 : decode cX4_fill 98 = .ok (.iload 4, 2) := by decide +kernel
theorem dX4_fill_100 : decode cX4_fill 100 = .ok (.iload_n 1, 1) := by decide +kernel
theorem dX4_fill_101 : decode cX4_fill 101 = .ok (.iload_n 3, 1) := by decide +kernel
theorem dX4_fill_102 : decode cX4_fill 102 = .ok (.invokevirtual 116, 3) := by decide +kernel
theorem dX4_fill_105 : decode cX4_fill 105 = .ok (.iinc 4 1, 3) := by decide +kernel
theorem dX4_fill_108 : decode cX4_fill 108 = .ok (.goto (-20), 3) := by decide +kernel
theorem dX4_fill_111 : decode cX4_fill 111 = .ok (.iload_n 2, 1) := by decide +kernel
theorem dX4_fill_112 : decode cX4_fill 112 = .ok (.ireturn, 1) := by decide +kernel
theorem dX4_epoch_0 : decode cX4_epoch 0 = .ok (.aload_n 0, 1) := by decide +kernel
theorem dX4_epoch_1 : decode cX4_epoch 1 = .ok (.getfield 40, 3) := by decide +kernel
theorem dX4_epoch_4 : decode cX4_epoch 4 = .ok (.ireturn, 1) := by decide +kernel
theorem dX4_tail_0 : decode cX4_tail 0 = .ok (.aload_n 0, 1) := by decide +kernel
theorem dX4_tail_1 : decode cX4_tail 1 = .ok (.getfield 46, 3) := by decide +kernel
theorem dX4_tail_4 : decode cX4_tail 4 = .ok (.ifCond .eq 7, 3) := by decide +kernel
theorem dX4_tail_7 : decode cX4_tail 7 = .ok (.iconst (-1), 1) := by decide +kernel
theorem dX4_tail_8 : decode cX4_tail 8 = .ok (.goto 7, 3) := by decide +kernel
theorem dX4_tail_11 : decode cX4_tail 11 = .ok (.aload_n 0, 1) := by decide +kernel
theorem dX4_tail_12 : decode cX4_tail 12 = .ok (.getfield 43, 3) := by decide +kernel
theorem dX4_tail_15 : decode cX4_tail 15 = .ok (.ireturn, 1) := by decide +kernel
theorem dX4_positionOf_0 : decode cX4_positionOf 0 = .ok (.aload_n 0, 1) := by decide +kernel
theorem dX4_positionOf_1 : decode cX4_positionOf 1 = .ok (.iload_n 1, 1) := by decide +kernel
theorem dX4_positionOf_2 : decode cX4_positionOf 2 = .ok (.invokevirtual 95, 3) := by decide +kernel
theorem dX4_positionOf_5 : decode cX4_positionOf 5 = .ok (.astore_n 2, 1) := by decide +kernel
theorem dX4_positionOf_6 : decode cX4_positionOf 6 = .ok (.aload_n 2, 1) := by decide +kernel
theorem dX4_positionOf_7 : decode cX4_positionOf 7 = .ok (.ifnonnull 13, 3) := by decide +kernel
theorem dX4_positionOf_10 : decode cX4_positionOf 10 = .ok (.new 98, 3) := by decide +kernel
theorem dX4_positionOf_13 : decode cX4_positionOf 13 = .ok (.dup, 1) := by decide +kernel
theorem dX4_positionOf_14 : decode cX4_positionOf 14 = .ok (.ldc 100, 2) := by decide +kernel
theorem dX4_positionOf_16 : decode cX4_positionOf 16 = .ok (.invokespecial 102, 3) := by decide +kernel
theorem dX4_positionOf_19 : decode cX4_positionOf 19 = .ok (.athrow, 1) := by decide +kernel
theorem dX4_positionOf_20 : decode cX4_positionOf 20 = .ok (.aload_n 2, 1) := by decide +kernel
theorem dX4_positionOf_21 : decode cX4_positionOf 21 = .ok (.getfield 109, 3) := by decide +kernel
theorem dX4_positionOf_24 : decode cX4_positionOf 24 = .ok (.ireturn, 1) := by decide +kernel
theorem dX4_stateOf_0 : decode cX4_stateOf 0 = .ok (.aload_n 0, 1) := by decide +kernel
theorem dX4_stateOf_1 : decode cX4_stateOf 1 = .ok (.iload_n 1, 1) := by decide +kernel
theorem dX4_stateOf_2 : decode cX4_stateOf 2 = .ok (.invokevirtual 95, 3) := by decide +kernel
theorem dX4_stateOf_5 : decode cX4_stateOf 5 = .ok (.astore_n 2, 1) := by decide +kernel
theorem dX4_stateOf_6 : decode cX4_stateOf 6 = .ok (.aload_n 2, 1) := by decide +kernel
theorem dX4_stateOf_7 : decode cX4_stateOf 7 = .ok (.ifnonnull 13, 3) := by decide +kernel
theorem dX4_stateOf_10 : decode cX4_stateOf 10 = .ok (.new 98, 3) := by decide +kernel
theorem dX4_stateOf_13 : decode cX4_stateOf 13 = .ok (.dup, 1) := by decide +kernel
theorem dX4_stateOf_14 : decode cX4_stateOf 14 = .ok (.ldc 100, 2) := by decide +kernel
theorem dX4_stateOf_16 : decode cX4_stateOf 16 = .ok (.invokespecial 102, 3) := by decide +kernel
theorem dX4_stateOf_19 : decode cX4_stateOf 19 = .ok (.athrow, 1) := by decide +kernel
theorem dX4_stateOf_20 : decode cX4_stateOf 20 = .ok (.aload_n 2, 1) := by decide +kernel
theorem dX4_stateOf_21 : decode cX4_stateOf 21 = .ok (.getfield 103, 3) := by decide +kernel
theorem dX4_stateOf_24 : decode cX4_stateOf 24 = .ok (.ireturn, 1) := by decide +kernel
theorem dX4_cellAt_0 : decode cX4_cellAt 0 = .ok (.iload_n 1, 1) := by decide +kernel
theorem dX4_cellAt_1 : decode cX4_cellAt 1 = .ok (.invokestatic 142, 3) := by decide +kernel
theorem dX4_cellAt_4 : decode cX4_cellAt 4 = .ok (.ifCond .eq 10, 3) := by decide +kernel
theorem dX4_cellAt_7 : decode cX4_cellAt 7 = .ok (.iload_n 2, 1) := by decide +kernel
theorem dX4_cellAt_8 : decode cX4_cellAt 8 = .ok (.invokestatic 120, 3) := by decide +kernel
theorem dX4_cellAt_11 : decode cX4_cellAt 11 = .ok (.ifCond .ne 13, 3) := by decide +kernel
theorem dX4_cellAt_14 : decode cX4_cellAt 14 = .ok (.new 98, 3) := by decide +kernel
theorem dX4_cellAt_17 : decode cX4_cellAt 17 = .ok (.dup, 1) := by decide +kernel
theorem dX4_cellAt_18 : decode cX4_cellAt 18 = .ok (.ldc 145, 2) := by decide +kernel
theorem dX4_cellAt_20 : decode cX4_cellAt 20 = .ok (.invokespecial 102, 3) := by decide +kernel
theorem dX4_cellAt_23 : decode cX4_cellAt 23 = .ok (.athrow, 1) := by decide +kernel
theorem dX4_cellAt_24 : decode cX4_cellAt 24 = .ok (.aload_n 0, 1) := by decide +kernel
theorem dX4_cellAt_25 : decode cX4_cellAt 25 = .ok (.getfield 18, 3) := by decide +kernel
theorem dX4_cellAt_28 : decode cX4_cellAt 28 = .ok (.iload_n 1, 1) := by decide +kernel
theorem dX4_cellAt_29 : decode cX4_cellAt 29 = .ok (.iload_n 2, 1) := by decide +kernel
theorem dX4_cellAt_30 : decode cX4_cellAt 30 = .ok (.invokevirtual 112, 3) := by decide +kernel
theorem dX4_cellAt_33 : decode cX4_cellAt 33 = .ok (.ireturn, 1) := by decide +kernel
theorem dX4_known_0 : decode cX4_known 0 = .ok (.aload_n 0, 1) := by decide +kernel
theorem dX4_known_1 : decode cX4_known 1 = .ok (.getfield 18, 3) := by decide +kernel
theorem dX4_known_4 : decode cX4_known 4 = .ok (.invokevirtual 147, 3) := by decide +kernel
theorem dX4_known_7 : decode cX4_known 7 = .ok (.ireturn, 1) := by decide +kernel
theorem dX4_takesEffect_0 : decode cX4_takesEffect 0 = .ok (.iload_n 1, 1) := by decide +kernel
theorem dX4_takesEffect_1 : decode cX4_takesEffect 1 = .ok (.ifCond .lt 14, 3) := by decide +kernel
theorem dX4_takesEffect_4 : decode cX4_takesEffect 4 = .ok (.iload_n 1, 1) := by decide +kernel
theorem dX4_takesEffect_5 : decode cX4_takesEffect 5 = .ok (.aload_n 0, 1) := by decide +kernel
theorem dX4_takesEffect_6 : decode cX4_takesEffect 6 = .ok (.getfield 18, 3) := by decide +kernel
theorem dX4_takesEffect_9 : decode cX4_takesEffect 9 = .ok (.invokevirtual 147, 3) := by decide +kernel
theorem dX4_takesEffect_12 : decode cX4_takesEffect 12 = .ok (.if_icmp .lt 13, 3) := by decide +kernel
theorem dX4_takesEffect_15 : decode cX4_takesEffect 15 = .ok (.new 98, 3) := by decide +kernel
theorem dX4_takesEffect_18 : decode cX4_takesEffect 18 = .ok (.dup, 1) := by decide +kernel
theorem dX4_takesEffect_19 : decode cX4_takesEffect 19 = .ok (.ldc 150, 2) := by decide +kernel
theorem dX4_takesEffect_21 : decode cX4_takesEffect 21 = .ok (.invokespecial 102, 3) := by decide +kernel
theorem dX4_takesEffect_24 : decode cX4_takesEffect 24 = .ok (.athrow, 1) := by decide +kernel
theorem dX4_takesEffect_25 : decode cX4_takesEffect 25 = .ok (.aload_n 0, 1) := by decide +kernel
theorem dX4_takesEffect_26 : decode cX4_takesEffect 26 = .ok (.iload_n 1, 1) := by decide +kernel
theorem dX4_takesEffect_27 : decode cX4_takesEffect 27 = .ok (.iconst 1, 1) := by decide +kernel
theorem dX4_takesEffect_28 : decode cX4_takesEffect 28 = .ok (.iadd, 1) := by decide +kernel
theorem dX4_takesEffect_29 : decode cX4_takesEffect 29 = .ok (.invokevirtual 152, 3) := by decide +kernel
theorem dX4_takesEffect_32 : decode cX4_takesEffect 32 = .ok (.aload_n 0, 1) := by decide +kernel
theorem dX4_takesEffect_33 : decode cX4_takesEffect 33 = .ok (.getfield 32, 3) := by decide +kernel
theorem dX4_takesEffect_36 : decode cX4_takesEffect 36 = .ok (.iload_n 1, 1) := by decide +kernel
theorem dX4_takesEffect_37 : decode cX4_takesEffect 37 = .ok (.invokevirtual 156, 3) := by decide +kernel
theorem dX4_takesEffect_40 : decode cX4_takesEffect 40 = .ok (.ireturn, 1) := by decide +kernel
theorem dX4_value_0 : decode cX4_value 0 = .ok (.iload_n 1, 1) := by decide +kernel
theorem dX4_value_1 : decode cX4_value 1 = .ok (.invokestatic 130, 3) := by decide +kernel
theorem dX4_value_4 : decode cX4_value 4 = .ok (.ifCond .eq 11, 3) := by decide +kernel
theorem dX4_value_7 : decode cX4_value 7 = .ok (.aload_n 0, 1) := by decide +kernel
theorem dX4_value_8 : decode cX4_value 8 = .ok (.iload_n 2, 1) := by decide +kernel
theorem dX4_value_9 : decode cX4_value 9 = .ok (.invokevirtual 159, 3) := by decide +kernel
theorem dX4_value_12 : decode cX4_value 12 = .ok (.ifCond .ne 13, 3) := by decide +kernel
theorem dX4_value_15 : decode cX4_value 15 = .ok (.new 98, 3) := by decide +kernel
theorem dX4_value_18 : decode cX4_value 18 = .ok (.dup, 1) := by decide +kernel
theorem dX4_value_19 : decode cX4_value 19 = .ok (.ldc 162, 2) := by decide +kernel
theorem dX4_value_21 : decode cX4_value 21 = .ok (.invokespecial 102, 3) := by decide +kernel
theorem dX4_value_24 : decode cX4_value 24 = .ok (.athrow, 1) := by decide +kernel
theorem dX4_value_25 : decode cX4_value 25 = .ok (.aload_n 0, 1) := by decide +kernel
theorem dX4_value_26 : decode cX4_value 26 = .ok (.iload_n 2, 1) := by decide +kernel
theorem dX4_value_27 : decode cX4_value 27 = .ok (.invokevirtual 152, 3) := by decide +kernel
theorem dX4_value_30 : decode cX4_value 30 = .ok (.iconst 0, 1) := by decide +kernel
theorem dX4_value_31 : decode cX4_value 31 = .ok (.istore_n 3, 1) := by decide +kernel
theorem dX4_value_32 : decode cX4_value 32 = .ok (.iconst 0, 1) := by decide +kernel
theorem dX4_value_33 : decode cX4_value 33 = .ok (.istore 4, 2) := by decide +kernel
theorem dX4_value_35 : decode cX4_value 35 = .ok (.iload 4, 2) := by decide +kernel
theorem dX4_value_37 : decode cX4_value 37 = .ok (.iload_n 2, 1) := by decide +kernel
theorem dX4_value_38 : decode cX4_value 38 = .ok (.if_icmp .ge 28, 3) := by decide +kernel
theorem dX4_value_41 : decode cX4_value 41 = .ok (.aload_n 0, 1) := by decide +kernel
theorem dX4_value_42 : decode cX4_value 42 = .ok (.iload 4, 2) := by decide +kernel
theorem dX4_value_44 : decode cX4_value 44 = .ok (.iload_n 1, 1) := by decide +kernel
theorem dX4_value_45 : decode cX4_value 45 = .ok (.invokevirtual 164, 3) := by decide +kernel
theorem dX4_value_48 : decode cX4_value 48 = .ok (.ifCond .eq 12, 3) := by decide +kernel
theorem dX4_value_51 : decode cX4_value 51 = .ok (.iload_n 3, 1) := by decide +kernel
theorem dX4_value_52 : decode cX4_value 52 = .ok (.aload_n 0, 1) := by decide +kernel
theorem dX4_value_53 : decode cX4_value 53 = .ok (.iload 4, 2) := by decide +kernel
theorem dX4_value_55 : decode cX4_value 55 = .ok (.invokevirtual 168, 3) := by decide +kernel
theorem dX4_value_58 : decode cX4_value 58 = .ok (.iadd, 1) := by decide +kernel
theorem dX4_value_59 : decode cX4_value 59 = .ok (.istore_n 3, 1) := by decide +kernel
theorem dX4_value_60 : decode cX4_value 60 = .ok (.iinc 4 1, 3) := by decide +kernel
theorem dX4_value_63 : decode cX4_value 63 = .ok (.goto (-28), 3) := by decide +kernel
theorem dX4_value_66 : decode cX4_value 66 = .ok (.iload_n 3, 1) := by decide +kernel
theorem dX4_value_67 : decode cX4_value 67 = .ok (.ireturn, 1) := by decide +kernel
theorem dX4_valueByPointers_0 : decode cX4_valueByPointers 0 = .ok (.iload_n 1, 1) := by decide +kernel
theorem dX4_valueByPointers_1 : decode cX4_valueByPointers 1 = .ok (.invokestatic 130, 3) := by decide +kernel
theorem dX4_valueByPointers_4 : decode cX4_valueByPointers 4 = .ok (.ifCond .eq 11, 3) := by decide +kernel
theorem dX4_valueByPointers_7 : decode cX4_valueByPointers 7 = .ok (.aload_n 0, 1) := by decide +kernel
theorem dX4_valueByPointers_8 : decode cX4_valueByPointers 8 = .ok (.iload_n 2, 1) := by decide +kernel
theorem dX4_valueByPointers_9 : decode cX4_valueByPointers 9 = .ok (.invokevirtual 159, 3) := by decide +kernel
theorem dX4_valueByPointers_12 : decode cX4_valueByPointers 12 = .ok (.ifCond .ne 13, 3) := by decide +kernel
theorem dX4_valueByPointers_15 : decode cX4_valueByPointers 15 = .ok (.new 98, 3) := by decide +kernel
theorem dX4_valueByPointers_18 : decode cX4_valueByPointers 18 = .ok (.dup, 1) := by decide +kernel
theorem dX4_valueByPointers_19 : decode cX4_valueByPointers 19 = .ok (.ldc 162, 2) := by decide +kernel
theorem dX4_valueByPointers_21 : decode cX4_valueByPointers 21 = .ok (.invokespecial 102, 3) := by decide +kernel
theorem dX4_valueByPointers_24 : decode cX4_valueByPointers 24 = .ok (.athrow, 1) := by decide +kernel
theorem dX4_valueByPointers_25 : decode cX4_valueByPointers 25 = .ok (.aload_n 0, 1) := by decide +kernel
theorem dX4_valueByPointers_26 : decode cX4_valueByPointers 26 = .ok (.iload_n 2, 1) := by decide +kernel
theorem dX4_valueByPointers_27 : decode cX4_valueByPointers 27 = .ok (.invokevirtual 152, 3) := by decide +kernel
theorem dX4_valueByPointers_30 : decode cX4_valueByPointers 30 = .ok (.iconst 0, 1) := by decide +kernel
theorem dX4_valueByPointers_31 : decode cX4_valueByPointers 31 = .ok (.istore_n 3, 1) := by decide +kernel
theorem dX4_valueByPointers_32 : decode cX4_valueByPointers 32 = .ok (.aload_n 0, 1) := by decide +kernel
theorem dX4_valueByPointers_33 : decode cX4_valueByPointers 33 = .ok (.iload_n 1, 1) := by decide +kernel
theorem dX4_valueByPointers_34 : decode cX4_valueByPointers 34 = .ok (.iload_n 2, 1) := by decide +kernel
theorem dX4_valueByPointers_35 : decode cX4_valueByPointers 35 = .ok (.invokevirtual 172, 3) := by decide +kernel
theorem dX4_valueByPointers_38 : decode cX4_valueByPointers 38 = .ok (.istore 4, 2) := by decide +kernel
theorem dX4_valueByPointers_40 : decode cX4_valueByPointers 40 = .ok (.iconst 0, 1) := by decide +kernel
theorem dX4_valueByPointers_41 : decode cX4_valueByPointers 41 = .ok (.istore 5, 2) := by decide +kernel
theorem dX4_valueByPointers_43 : decode cX4_valueByPointers 43 = .ok (.iload 5, 2) := by decide +kernel
theorem dX4_valueByPointers_45 : decode cX4_valueByPointers 45 = .ok (.bipush 120, 2) := by decide +kernel
theorem dX4_valueByPointers_47 : decode cX4_valueByPointers 47 = .ok (.if_icmp .ge 33, 3) := by decide +kernel
theorem dX4_valueByPointers_50 : decode cX4_valueByPointers 50 = .ok (.iload 4, 2) := by decide +kernel
theorem dX4_valueByPointers_52 : decode cX4_valueByPointers 52 = .ok (.iconst (-1), 1) := by decide +kernel
theorem dX4_valueByPointers_53 : decode cX4_valueByPointers 53 = .ok (.if_icmp .eq 27, 3) := by decide +kernel
theorem dX4_valueByPointers_56 : decode cX4_valueByPointers 56 = .ok (.iload_n 3, 1) := by decide +kernel
theorem dX4_valueByPointers_57 : decode cX4_valueByPointers 57 = .ok (.aload_n 0, 1) := by decide +kernel
theorem dX4_valueByPointers_58 : decode cX4_valueByPointers 58 = .ok (.iload 4, 2) := by decide +kernel
theorem dX4_valueByPointers_60 : decode cX4_valueByPointers 60 = .ok (.invokevirtual 168, 3) := by decide +kernel
theorem dX4_valueByPointers_63 : decode cX4_valueByPointers 63 = .ok (.iadd, 1) := by decide +kernel
theorem dX4_valueByPointers_64 : decode cX4_valueByPointers 64 = .ok (.istore_n 3, 1) := by decide +kernel
theorem dX4_valueByPointers_65 : decode cX4_valueByPointers 65 = .ok (.aload_n 0, 1) := by decide +kernel
theorem dX4_valueByPointers_66 : decode cX4_valueByPointers 66 = .ok (.iload_n 1, 1) := by decide +kernel
theorem dX4_valueByPointers_67 : decode cX4_valueByPointers 67 = .ok (.iload 4, 2) := by decide +kernel
theorem dX4_valueByPointers_69 : decode cX4_valueByPointers 69 = .ok (.invokevirtual 175, 3) := by decide +kernel
theorem dX4_valueByPointers_72 : decode cX4_valueByPointers 72 = .ok (.istore 4, 2) := by decide +kernel
theorem dX4_valueByPointers_74 : decode cX4_valueByPointers 74 = .ok (.iinc 5 1, 3) := by decide +kernel
theorem dX4_valueByPointers_77 : decode cX4_valueByPointers 77 = .ok (.goto (-34), 3) := by decide +kernel
theorem dX4_valueByPointers_80 : decode cX4_valueByPointers 80 = .ok (.iload_n 3, 1) := by decide +kernel
theorem dX4_valueByPointers_81 : decode cX4_valueByPointers 81 = .ok (.ireturn, 1) := by decide +kernel
theorem dX4_latest_0 : decode cX4_latest 0 = .ok (.iload_n 1, 1) := by decide +kernel
theorem dX4_latest_1 : decode cX4_latest 1 = .ok (.invokestatic 130, 3) := by decide +kernel
theorem dX4_latest_4 : decode cX4_latest 4 = .ok (.ifCond .eq 11, 3) := by decide +kernel
theorem dX4_latest_7 : decode cX4_latest 7 = .ok (.aload_n 0, 1) := by decide +kernel
theorem dX4_latest_8 : decode cX4_latest 8 = .ok (.iload_n 2, 1) := by decide +kernel
theorem dX4_latest_9 : decode cX4_latest 9 = .ok (.invokevirtual 159, 3) := by decide +kernel
theorem dX4_latest_12 : decode cX4_latest 12 = .ok (.ifCond .ne 13, 3) := by decide +kernel
theorem dX4_latest_15 : decode cX4_latest 15 = .ok (.new 98, 3) := by decide +kernel
theorem dX4_latest_18 : decode cX4_latest 18 = .ok (.dup, 1) := by decide +kernel
theorem dX4_latest_19 : decode cX4_latest 19 = .ok (.ldc 162, 2) := by decide +kernel
theorem dX4_latest_21 : decode cX4_latest 21 = .ok (.invokespecial 102, 3) := by decide +kernel
theorem dX4_latest_24 : decode cX4_latest 24 = .ok (.athrow, 1) := by decide +kernel
theorem dX4_latest_25 : decode cX4_latest 25 = .ok (.aload_n 0, 1) := by decide +kernel
theorem dX4_latest_26 : decode cX4_latest 26 = .ok (.iload_n 1, 1) := by decide +kernel
theorem dX4_latest_27 : decode cX4_latest 27 = .ok (.iload_n 2, 1) := by decide +kernel
theorem dX4_latest_28 : decode cX4_latest 28 = .ok (.invokevirtual 172, 3) := by decide +kernel
theorem dX4_latest_31 : decode cX4_latest 31 = .ok (.ireturn, 1) := by decide +kernel
theorem dX4_isStream_0 : decode cX4_isStream 0 = .ok (.iload_n 0, 1) := by decide +kernel
theorem dX4_isStream_1 : decode cX4_isStream 1 = .ok (.ifCond .lt 12, 3) := by decide +kernel
theorem dX4_isStream_4 : decode cX4_isStream 4 = .ok (.iload_n 0, 1) := by decide +kernel
theorem dX4_isStream_5 : decode cX4_isStream 5 = .ok (.iconst 4, 1) := by decide +kernel
theorem dX4_isStream_6 : decode cX4_isStream 6 = .ok (.if_icmp .ge 7, 3) := by decide +kernel
theorem dX4_isStream_9 : decode cX4_isStream 9 = .ok (.iconst 1, 1) := by decide +kernel
theorem dX4_isStream_10 : decode cX4_isStream 10 = .ok (.goto 4, 3) := by decide +kernel
theorem dX4_isStream_13 : decode cX4_isStream 13 = .ok (.iconst 0, 1) := by decide +kernel
theorem dX4_isStream_14 : decode cX4_isStream 14 = .ok (.ireturn, 1) := by decide +kernel
theorem dX4_isSetOfStreams_0 : decode cX4_isSetOfStreams 0 = .ok (.iload_n 0, 1) := by decide +kernel
theorem dX4_isSetOfStreams_1 : decode cX4_isSetOfStreams 1 = .ok (.iconst 1, 1) := by decide +kernel
theorem dX4_isSetOfStreams_2 : decode cX4_isSetOfStreams 2 = .ok (.if_icmp .lt 13, 3) := by decide +kernel
theorem dX4_isSetOfStreams_5 : decode cX4_isSetOfStreams 5 = .ok (.iload_n 0, 1) := by decide +kernel
theorem dX4_isSetOfStreams_6 : decode cX4_isSetOfStreams 6 = .ok (.bipush 15, 2) := by decide +kernel
theorem dX4_isSetOfStreams_8 : decode cX4_isSetOfStreams 8 = .ok (.if_icmp .gt 7, 3) := by decide +kernel
theorem dX4_isSetOfStreams_11 : decode cX4_isSetOfStreams 11 = .ok (.iconst 1, 1) := by decide +kernel
theorem dX4_isSetOfStreams_12 : decode cX4_isSetOfStreams 12 = .ok (.goto 4, 3) := by decide +kernel
theorem dX4_isSetOfStreams_15 : decode cX4_isSetOfStreams 15 = .ok (.iconst 0, 1) := by decide +kernel
theorem dX4_isSetOfStreams_16 : decode cX4_isSetOfStreams 16 = .ok (.ireturn, 1) := by decide +kernel
theorem dX4_isAmount_0 : decode cX4_isAmount 0 = .ok (.iload_n 0, 1) := by decide +kernel
theorem dX4_isAmount_1 : decode cX4_isAmount 1 = .ok (.sipush (-1000), 3) := by decide +kernel
theorem dX4_isAmount_4 : decode cX4_isAmount 4 = .ok (.if_icmp .lt 14, 3) := by decide +kernel
theorem dX4_isAmount_7 : decode cX4_isAmount 7 = .ok (.iload_n 0, 1) := by decide +kernel
theorem dX4_isAmount_8 : decode cX4_isAmount 8 = .ok (.sipush 1000, 3) := by decide +kernel
theorem dX4_isAmount_11 : decode cX4_isAmount 11 = .ok (.if_icmp .gt 7, 3) := by decide +kernel
theorem dX4_isAmount_14 : decode cX4_isAmount 14 = .ok (.iconst 1, 1) := by decide +kernel
theorem dX4_isAmount_15 : decode cX4_isAmount 15 = .ok (.goto 4, 3) := by decide +kernel
theorem dX4_isAmount_18 : decode cX4_isAmount 18 = .ok (.iconst 0, 1) := by decide +kernel
theorem dX4_isAmount_19 : decode cX4_isAmount 19 = .ok (.ireturn, 1) := by decide +kernel
theorem dX4_isPosition_0 : decode cX4_isPosition 0 = .ok (.iload_n 0, 1) := by decide +kernel
theorem dX4_isPosition_1 : decode cX4_isPosition 1 = .ok (.ifCond .lt 13, 3) := by decide +kernel
theorem dX4_isPosition_4 : decode cX4_isPosition 4 = .ok (.iload_n 0, 1) := by decide +kernel
theorem dX4_isPosition_5 : decode cX4_isPosition 5 = .ok (.bipush 120, 2) := by decide +kernel
theorem dX4_isPosition_7 : decode cX4_isPosition 7 = .ok (.if_icmp .ge 7, 3) := by decide +kernel
theorem dX4_isPosition_10 : decode cX4_isPosition 10 = .ok (.iconst 1, 1) := by decide +kernel
theorem dX4_isPosition_11 : decode cX4_isPosition 11 = .ok (.goto 4, 3) := by decide +kernel
theorem dX4_isPosition_14 : decode cX4_isPosition 14 = .ok (.iconst 0, 1) := by decide +kernel
theorem dX4_isPosition_15 : decode cX4_isPosition 15 = .ok (.ireturn, 1) := by decide +kernel
theorem dX4_isReplica_0 : decode cX4_isReplica 0 = .ok (.iload_n 0, 1) := by decide +kernel
theorem dX4_isReplica_1 : decode cX4_isReplica 1 = .ok (.ifCond .lt 12, 3) := by decide +kernel
theorem dX4_isReplica_4 : decode cX4_isReplica 4 = .ok (.iload_n 0, 1) := by decide +kernel
theorem dX4_isReplica_5 : decode cX4_isReplica 5 = .ok (.iconst 3, 1) := by decide +kernel
theorem dX4_isReplica_6 : decode cX4_isReplica 6 = .ok (.if_icmp .ge 7, 3) := by decide +kernel
theorem dX4_isReplica_9 : decode cX4_isReplica 9 = .ok (.iconst 1, 1) := by decide +kernel
theorem dX4_isReplica_10 : decode cX4_isReplica 10 = .ok (.goto 4, 3) := by decide +kernel
theorem dX4_isReplica_13 : decode cX4_isReplica 13 = .ok (.iconst 0, 1) := by decide +kernel
theorem dX4_isReplica_14 : decode cX4_isReplica 14 = .ok (.ireturn, 1) := by decide +kernel
theorem dX4_isPointerNumber_0 : decode cX4_isPointerNumber 0 = .ok (.iload_n 0, 1) := by decide +kernel
theorem dX4_isPointerNumber_1 : decode cX4_isPointerNumber 1 = .ok (.ifCond .lt 12, 3) := by decide +kernel
theorem dX4_isPointerNumber_4 : decode cX4_isPointerNumber 4 = .ok (.iload_n 0, 1) := by decide +kernel
theorem dX4_isPointerNumber_5 : decode cX4_isPointerNumber 5 = .ok (.iconst 4, 1) := by decide +kernel
theorem dX4_isPointerNumber_6 : decode cX4_isPointerNumber 6 = .ok (.if_icmp .ge 7, 3) := by decide +kernel
theorem dX4_isPointerNumber_9 : decode cX4_isPointerNumber 9 = .ok (.iconst 1, 1) := by decide +kernel
theorem dX4_isPointerNumber_10 : decode cX4_isPointerNumber 10 = .ok (.goto 4, 3) := by decide +kernel
theorem dX4_isPointerNumber_13 : decode cX4_isPointerNumber 13 = .ok (.iconst 0, 1) := by decide +kernel
theorem dX4_isPointerNumber_14 : decode cX4_isPointerNumber 14 = .ok (.ireturn, 1) := by decide +kernel
theorem dX4_isIn_0 : decode cX4_isIn 0 = .ok (.iload_n 1, 1) := by decide +kernel
theorem dX4_isIn_1 : decode cX4_isIn 1 = .ok (.iload_n 0, 1) := by decide +kernel
theorem dX4_isIn_2 : decode cX4_isIn 2 = .ok (.ishr, 1) := by decide +kernel
theorem dX4_isIn_3 : decode cX4_isIn 3 = .ok (.iconst 1, 1) := by decide +kernel
theorem dX4_isIn_4 : decode cX4_isIn 4 = .ok (.iand, 1) := by decide +kernel
theorem dX4_isIn_5 : decode cX4_isIn 5 = .ok (.iconst 1, 1) := by decide +kernel
theorem dX4_isIn_6 : decode cX4_isIn 6 = .ok (.if_icmp .ne 7, 3) := by decide +kernel
theorem dX4_isIn_9 : decode cX4_isIn 9 = .ok (.iconst 1, 1) := by decide +kernel
theorem dX4_isIn_10 : decode cX4_isIn 10 = .ok (.goto 4, 3) := by decide +kernel
theorem dX4_isIn_13 : decode cX4_isIn 13 = .ok (.iconst 0, 1) := by decide +kernel
theorem dX4_isIn_14 : decode cX4_isIn 14 = .ok (.ireturn, 1) := by decide +kernel
theorem dX4_isEndOfKnown_0 : decode cX4_isEndOfKnown 0 = .ok (.iload_n 1, 1) := by decide +kernel
theorem dX4_isEndOfKnown_1 : decode cX4_isEndOfKnown 1 = .ok (.ifCond .lt 18, 3) := by decide +kernel
theorem dX4_isEndOfKnown_4 : decode cX4_isEndOfKnown 4 = .ok (.iload_n 1, 1) := by decide +kernel
theorem dX4_isEndOfKnown_5 : decode cX4_isEndOfKnown 5 = .ok (.aload_n 0, 1) := by decide +kernel
theorem dX4_isEndOfKnown_6 : decode cX4_isEndOfKnown 6 = .ok (.getfield 18, 3) := by decide +kernel
theorem dX4_isEndOfKnown_9 : decode cX4_isEndOfKnown 9 = .ok (.invokevirtual 147, 3) := by decide +kernel
theorem dX4_isEndOfKnown_12 : decode cX4_isEndOfKnown 12 = .ok (.if_icmp .gt 7, 3) := by decide +kernel
theorem dX4_isEndOfKnown_15 : decode cX4_isEndOfKnown 15 = .ok (.iconst 1, 1) := by decide +kernel
theorem dX4_isEndOfKnown_16 : decode cX4_isEndOfKnown 16 = .ok (.goto 4, 3) := by decide +kernel
theorem dX4_isEndOfKnown_19 : decode cX4_isEndOfKnown 19 = .ok (.iconst 0, 1) := by decide +kernel
theorem dX4_isEndOfKnown_20 : decode cX4_isEndOfKnown 20 = .ok (.ireturn, 1) := by decide +kernel
theorem dX4_handOut_0 : decode cX4_handOut 0 = .ok (.aload_n 0, 1) := by decide +kernel
theorem dX4_handOut_1 : decode cX4_handOut 1 = .ok (.getfield 46, 3) := by decide +kernel
theorem dX4_handOut_4 : decode cX4_handOut 4 = .ok (.ifCond .ne 24, 3) := by decide +kernel
theorem dX4_handOut_7 : decode cX4_handOut 7 = .ok (.aload_n 0, 1) := by decide +kernel
theorem dX4_handOut_8 : decode cX4_handOut 8 = .ok (.getfield 43, 3) := by decide +kernel
theorem dX4_handOut_11 : decode cX4_handOut 11 = .ok (.bipush 120, 2) := by decide +kernel
theorem dX4_handOut_13 : decode cX4_handOut 13 = .ok (.if_icmp .ge 15, 3) := by decide +kernel
theorem dX4_handOut_16 : decode cX4_handOut 16 = .ok (.aload_n 0, 1) := by decide +kernel
theorem dX4_handOut_17 : decode cX4_handOut 17 = .ok (.getfield 36, 3) := by decide +kernel
theorem dX4_handOut_20 : decode cX4_handOut 20 = .ok (.aload_n 0, 1) := by decide +kernel
theorem dX4_handOut_21 : decode cX4_handOut 21 = .ok (.getfield 11, 3) := by decide +kernel
theorem dX4_handOut_24 : decode cX4_handOut 24 = .ok (.arraylength, 1) := by decide +kernel
theorem dX4_handOut_25 : decode cX4_handOut 25 = .ok (.if_icmp .lt 13, 3) := by decide +kernel
theorem dX4_handOut_28 : decode cX4_handOut 28 = .ok (.new 72, 3) := by decide +kernel
theorem dX4_handOut_31 : decode cX4_handOut 31 = .ok (.dup, 1) := by decide +kernel
theorem dX4_handOut_32 : decode cX4_handOut 32 = .ok (.ldc 178, 2) := by decide +kernel
theorem dX4_handOut_34 : decode cX4_handOut 34 = .ok (.invokespecial 76, 3) := by decide +kernel
theorem dX4_handOut_37 : decode cX4_handOut 37 = .ok (.athrow, 1) := by decide +kernel
theorem dX4_handOut_38 : decode cX4_handOut 38 = .ok (.aload_n 0, 1) := by decide +kernel
theorem dX4_handOut_39 : decode cX4_handOut 39 = .ok (.getfield 36, 3) := by decide +kernel
theorem dX4_handOut_42 : decode cX4_handOut 42 = .ok (.istore 5, 2) := by decide +kernel
theorem dX4_handOut_44 : decode cX4_handOut 44 = .ok (.aload_n 0, 1) := by decide +kernel
theorem dX4_handOut_45 : decode cX4_handOut 45 = .ok (.getfield 25, 3) := by decide +kernel
theorem dX4_handOut_48 : decode cX4_handOut 48 = .ok (.iload_n 1, 1) := by decide +kernel
theorem dX4_handOut_49 : decode cX4_handOut 49 = .ok (.invokevirtual 180, 3) := by decide +kernel
theorem dX4_handOut_52 : decode cX4_handOut 52 = .ok (.astore 6, 2) := by decide +kernel
theorem dX4_handOut_54 : decode cX4_handOut 54 = .ok (.aload_n 0, 1) := by decide +kernel
theorem dX4_handOut_55 : decode cX4_handOut 55 = .ok (.getfield 11, 3) := by decide +kernel
theorem dX4_handOut_58 : decode cX4_handOut 58 = .ok (.iload 5, 2) := by decide +kernel
theorem dX4_handOut_60 : decode cX4_handOut 60 = .ok (.new 9, 3) := by decide +kernel
theorem dX4_handOut_63 : decode cX4_handOut 63 = .ok (.dup, 1) := by decide +kernel
theorem dX4_handOut_64 : decode cX4_handOut 64 = .ok (.aload_n 0, 1) := by decide +kernel
theorem dX4_handOut_65 : decode cX4_handOut 65 = .ok (.getfield 43, 3) := by decide +kernel
theorem dX4_handOut_68 : decode cX4_handOut 68 = .ok (.aload_n 0, 1) := by decide +kernel
theorem dX4_handOut_69 : decode cX4_handOut 69 = .ok (.getfield 40, 3) := by decide +kernel
theorem dX4_handOut_72 : decode cX4_handOut 72 = .ok (.iload_n 1, 1) := by decide +kernel
theorem dX4_handOut_73 : decode cX4_handOut 73 = .ok (.iload_n 2, 1) := by decide +kernel
theorem dX4_handOut_74 : decode cX4_handOut 74 = .ok (.iload_n 3, 1) := by decide +kernel
theorem dX4_handOut_75 : decode cX4_handOut 75 = .ok (.iload 4, 2) := by decide +kernel
theorem dX4_handOut_77 : decode cX4_handOut 77 = .ok (.aload 6, 2) := by decide +kernel
theorem dX4_handOut_79 : decode cX4_handOut 79 = .ok (.invokespecial 184, 3) := by decide +kernel
theorem dX4_handOut_82 : decode cX4_handOut 82 = .ok (.aastore, 1) := by decide +kernel
theorem dX4_handOut_83 : decode cX4_handOut 83 = .ok (.aload_n 0, 1) := by decide +kernel
theorem dX4_handOut_84 : decode cX4_handOut 84 = .ok (.getfield 25, 3) := by decide +kernel
theorem dX4_handOut_87 : decode cX4_handOut 87 = .ok (.iload_n 1, 1) := by decide +kernel
theorem dX4_handOut_88 : decode cX4_handOut 88 = .ok (.aload_n 0, 1) := by decide +kernel
theorem dX4_handOut_89 : decode cX4_handOut 89 = .ok (.getfield 43, 3) := by decide +kernel
theorem dX4_handOut_92 : decode cX4_handOut 92 = .ok (.invokevirtual 91, 3) := by decide +kernel
theorem dX4_handOut_95 : decode cX4_handOut 95 = .ok (.aload_n 0, 1) := by decide +kernel
theorem dX4_handOut_96 : decode cX4_handOut 96 = .ok (.dup, 1) := by decide +kernel
theorem dX4_handOut_97 : decode cX4_handOut 97 = .ok (.getfield 36, 3) := by decide +kernel
theorem dX4_handOut_100 : decode cX4_handOut 100 = .ok (.iconst 1, 1) := by decide +kernel
theorem dX4_handOut_101 : decode cX4_handOut 101 = .ok (.iadd, 1) := by decide +kernel
theorem dX4_handOut_102 : decode cX4_handOut 102 = .ok (.putfield 36, 3) := by decide +kernel
theorem dX4_handOut_105 : decode cX4_handOut 105 = .ok (.aload_n 0, 1) := by decide +kernel
theorem dX4_handOut_106 : decode cX4_handOut 106 = .ok (.dup, 1) := by decide +kernel
theorem dX4_handOut_107 : decode cX4_handOut 107 = .ok (.getfield 43, 3) := by decide +kernel
theorem dX4_handOut_110 : decode cX4_handOut 110 = .ok (.iconst 1, 1) := by decide +kernel
theorem dX4_handOut_111 : decode cX4_handOut 111 = .ok (.iadd, 1) := by decide +kernel
theorem dX4_handOut_112 : decode cX4_handOut 112 = .ok (.putfield 43, 3) := by decide +kernel
theorem dX4_handOut_115 : decode cX4_handOut 115 = .ok (.iload 5, 2) := by decide +kernel
theorem dX4_handOut_117 : decode cX4_handOut 117 = .ok (.ireturn, 1) := by decide +kernel
theorem dX4_entryOf_0 : decode cX4_entryOf 0 = .ok (.iload_n 1, 1) := by decide +kernel
theorem dX4_entryOf_1 : decode cX4_entryOf 1 = .ok (.ifCond .lt 21, 3) := by decide +kernel
theorem dX4_entryOf_4 : decode cX4_entryOf 4 = .ok (.iload_n 1, 1) := by decide +kernel
theorem dX4_entryOf_5 : decode cX4_entryOf 5 = .ok (.aload_n 0, 1) := by decide +kernel
theorem dX4_entryOf_6 : decode cX4_entryOf 6 = .ok (.getfield 11, 3) := by decide +kernel
theorem dX4_entryOf_9 : decode cX4_entryOf 9 = .ok (.arraylength, 1) := by decide +kernel
theorem dX4_entryOf_10 : decode cX4_entryOf 10 = .ok (.if_icmp .ge 12, 3) := by decide +kernel
theorem dX4_entryOf_13 : decode cX4_entryOf 13 = .ok (.aload_n 0, 1) := by decide +kernel
theorem dX4_entryOf_14 : decode cX4_entryOf 14 = .ok (.getfield 11, 3) := by decide +kernel
theorem dX4_entryOf_17 : decode cX4_entryOf 17 = .ok (.iload_n 1, 1) := by decide +kernel
theorem dX4_entryOf_18 : decode cX4_entryOf 18 = .ok (.aaload, 1) := by decide +kernel
theorem dX4_entryOf_19 : decode cX4_entryOf 19 = .ok (.goto 4, 3) := by decide +kernel
theorem dX4_entryOf_22 : decode cX4_entryOf 22 = .ok (.aconst_null, 1) := by decide +kernel
theorem dX4_entryOf_23 : decode cX4_entryOf 23 = .ok (.areturn, 1) := by decide +kernel
theorem dX4_entryIn_0 : decode cX4_entryIn 0 = .ok (.aload_n 0, 1) := by decide +kernel
theorem dX4_entryIn_1 : decode cX4_entryIn 1 = .ok (.aload_n 0, 1) := by decide +kernel
theorem dX4_entryIn_2 : decode cX4_entryIn 2 = .ok (.getfield 18, 3) := by decide +kernel
theorem dX4_entryIn_5 : decode cX4_entryIn 5 = .ok (.iconst 0, 1) := by decide +kernel
theorem dX4_entryIn_6 : decode cX4_entryIn 6 = .ok (.iload_n 1, 1) := by decide +kernel
theorem dX4_entryIn_7 : decode cX4_entryIn 7 = .ok (.invokevirtual 112, 3) := by decide +kernel
theorem dX4_entryIn_10 : decode cX4_entryIn 10 = .ok (.invokevirtual 95, 3) := by decide +kernel
theorem dX4_entryIn_13 : decode cX4_entryIn 13 = .ok (.areturn, 1) := by decide +kernel
theorem dX4_holdsStream_0 : decode cX4_holdsStream 0 = .ok (.aload_n 0, 1) := by decide +kernel
theorem dX4_holdsStream_1 : decode cX4_holdsStream 1 = .ok (.iload_n 1, 1) := by decide +kernel
theorem dX4_holdsStream_2 : decode cX4_holdsStream 2 = .ok (.invokevirtual 84, 3) := by decide +kernel
theorem dX4_holdsStream_5 : decode cX4_holdsStream 5 = .ok (.astore_n 3, 1) := by decide +kernel
theorem dX4_holdsStream_6 : decode cX4_holdsStream 6 = .ok (.aload_n 3, 1) := by decide +kernel
theorem dX4_holdsStream_7 : decode cX4_holdsStream 7 = .ok (.ifnull 18, 3) := by decide +kernel
theorem dX4_holdsStream_10 : decode cX4_holdsStream 10 = .ok (.iload_n 2, 1) := by decide +kernel
theorem dX4_holdsStream_11 : decode cX4_holdsStream 11 = .ok (.aload_n 3, 1) := by decide +kernel
theorem dX4_holdsStream_12 : decode cX4_holdsStream 12 = .ok (.getfield 88, 3) := by decide +kernel
theorem dX4_holdsStream_15 : decode cX4_holdsStream 15 = .ok (.invokestatic 187, 3) := by decide +kernel
theorem dX4_holdsStream_18 : decode cX4_holdsStream 18 = .ok (.ifCond .eq 7, 3) := by decide +kernel
theorem dX4_holdsStream_21 : decode cX4_holdsStream 21 = .ok (.iconst 1, 1) := by decide +kernel
theorem dX4_holdsStream_22 : decode cX4_holdsStream 22 = .ok (.goto 4, 3) := by decide +kernel
theorem dX4_holdsStream_25 : decode cX4_holdsStream 25 = .ok (.iconst 0, 1) := by decide +kernel
theorem dX4_holdsStream_26 : decode cX4_holdsStream 26 = .ok (.ireturn, 1) := by decide +kernel
theorem dX4_latestAhead_0 : decode cX4_latestAhead 0 = .ok (.iload_n 2, 1) := by decide +kernel
theorem dX4_latestAhead_1 : decode cX4_latestAhead 1 = .ok (.iconst 1, 1) := by decide +kernel
theorem dX4_latestAhead_2 : decode cX4_latestAhead 2 = .ok (.isub, 1) := by decide +kernel
theorem dX4_latestAhead_3 : decode cX4_latestAhead 3 = .ok (.istore_n 3, 1) := by decide +kernel
theorem dX4_latestAhead_4 : decode cX4_latestAhead 4 = .ok (.iload_n 3, 1) := by decide +kernel
theorem dX4_latestAhead_5 : decode cX4_latestAhead 5 = .ok (.ifCond .lt 20, 3) := by decide +kernel
theorem dX4_latestAhead_8 : decode cX4_latestAhead 8 = .ok (.aload_n 0, 1) := by decide +kernel
theorem dX4_latestAhead_9 : decode cX4_latestAhead 9 = .ok (.iload_n 3, 1) := by decide +kernel
theorem dX4_latestAhead_10 : decode cX4_latestAhead 10 = .ok (.iload_n 1, 1) := by decide +kernel
theorem dX4_latestAhead_11 : decode cX4_latestAhead 11 = .ok (.invokevirtual 164, 3) := by decide +kernel
theorem dX4_latestAhead_14 : decode cX4_latestAhead 14 = .ok (.ifCond .eq 5, 3) := by decide +kernel
theorem dX4_latestAhead_17 : decode cX4_latestAhead 17 = .ok (.iload_n 3, 1) := by decide +kernel
theorem dX4_latestAhead_18 : decode cX4_latestAhead 18 = .ok (.ireturn, 1) := by decide +kernel
theorem dX4_latestAhead_19 : decode cX4_latestAhead 19 = .ok (.iinc 3 (-1), 3) := by decide +kernel
theorem dX4_latestAhead_22 : decode cX4_latestAhead 22 = .ok (.goto (-18), 3) := by decide +kernel
theorem dX4_latestAhead_25 : decode cX4_latestAhead 25 = .ok (.iconst (-1), 1) := by decide +kernel
theorem dX4_latestAhead_26 : decode cX4_latestAhead 26 = .ok (.ireturn, 1) := by decide +kernel
theorem dX4_previousByPointers_0 : decode cX4_previousByPointers 0 = .ok (.aload_n 0, 1) := by decide +kernel
theorem dX4_previousByPointers_1 : decode cX4_previousByPointers 1 = .ok (.iload_n 2, 1) := by decide +kernel
theorem dX4_previousByPointers_2 : decode cX4_previousByPointers 2 = .ok (.invokevirtual 84, 3) := by decide +kernel
theorem dX4_previousByPointers_5 : decode cX4_previousByPointers 5 = .ok (.astore_n 3, 1) := by decide +kernel
theorem dX4_previousByPointers_6 : decode cX4_previousByPointers 6 = .ok (.aload_n 3, 1) := by decide +kernel
theorem dX4_previousByPointers_7 : decode cX4_previousByPointers 7 = .ok (.ifnonnull 5, 3) := by decide +kernel
theorem dX4_previousByPointers_10 : decode cX4_previousByPointers 10 = .ok (.iconst (-1), 1) := by decide +kernel
theorem dX4_previousByPointers_11 : decode cX4_previousByPointers 11 = .ok (.ireturn, 1) := by decide +kernel
theorem dX4_previousByPointers_12 : decode cX4_previousByPointers 12 = .ok (.iconst (-1), 1) := by decide +kernel
theorem dX4_previousByPointers_13 : decode cX4_previousByPointers 13 = .ok (.istore 4, 2) := by decide +kernel
theorem dX4_previousByPointers_15 : decode cX4_previousByPointers 15 = .ok (.iconst 0, 1) := by decide +kernel
theorem dX4_previousByPointers_16 : decode cX4_previousByPointers 16 = .ok (.istore 5, 2) := by decide +kernel
theorem dX4_previousByPointers_18 : decode cX4_previousByPointers 18 = .ok (.iload 5, 2) := by decide +kernel
theorem dX4_previousByPointers_20 : decode cX4_previousByPointers 20 = .ok (.iconst 4, 1) := by decide +kernel
theorem dX4_previousByPointers_21 : decode cX4_previousByPointers 21 = .ok (.if_icmp .ge 45, 3) := by decide +kernel
theorem dX4_previousByPointers_24 : decode cX4_previousByPointers 24 = .ok (.aload_n 3, 1) := by decide +kernel
theorem dX4_previousByPointers_25 : decode cX4_previousByPointers 25 = .ok (.getfield 138, 3) := by decide +kernel
theorem dX4_previousByPointers_28 : decode cX4_previousByPointers 28 = .ok (.iload_n 1, 1) := by decide +kernel
theorem dX4_previousByPointers_29 : decode cX4_previousByPointers 29 = .ok (.iload 5, 2) := by decide +kernel
theorem dX4_previousByPointers_31 : decode cX4_previousByPointers 31 = .ok (.invokevirtual 141, 3) := by decide +kernel
theorem dX4_previousByPointers_34 : decode cX4_previousByPointers 34 = .ok (.istore 6, 2) := by decide +kernel
theorem dX4_previousByPointers_36 : decode cX4_previousByPointers 36 = .ok (.iload 6, 2) := by decide +kernel
theorem dX4_previousByPointers_38 : decode cX4_previousByPointers 38 = .ok (.iconst (-1), 1) := by decide +kernel
theorem dX4_previousByPointers_39 : decode cX4_previousByPointers 39 = .ok (.if_icmp .ne 5, 3) := by decide +kernel
theorem dX4_previousByPointers_42 : decode cX4_previousByPointers 42 = .ok (.iconst (-1), 1) := by decide +kernel
theorem dX4_previousByPointers_43 : decode cX4_previousByPointers 43 = .ok (.ireturn, 1) := by decide +kernel
theorem dX4_previousByPointers_44 : decode cX4_previousByPointers 44 = .ok (.aload_n 0, 1) := by decide +kernel
theorem dX4_previousByPointers_45 : decode cX4_previousByPointers 45 = .ok (.iload 6, 2) := by decide +kernel
theorem dX4_previousByPointers_47 : decode cX4_previousByPointers 47 = .ok (.invokevirtual 84, 3) := by decide +kernel
theorem dX4_previousByPointers_50 : decode cX4_previousByPointers 50 = .ok (.ifnull 6, 3) := by decide +kernel
theorem dX4_previousByPointers_53 : decode cX4_previousByPointers 53 = .ok (.iload 6, 2) := by decide +kernel
theorem dX4_previousByPointers_55 : decode cX4_previousByPointers 55 = .ok (.ireturn, 1) := by decide +kernel
theorem dX4_previousByPointers_56 : decode cX4_previousByPointers 56 = .ok (.iload 6, 2) := by decide +kernel
theorem dX4_previousByPointers_58 : decode cX4_previousByPointers 58 = .ok (.istore 4, 2) := by decide +kernel
theorem dX4_previousByPointers_60 : decode cX4_previousByPointers 60 = .ok (.iinc 5 1, 3) := by decide +kernel
theorem dX4_previousByPointers_63 : decode cX4_previousByPointers 63 = .ok (.goto (-45), 3) := by decide +kernel
theorem dX4_previousByPointers_66 : decode cX4_previousByPointers 66 = .ok (.aload_n 0, 1) := by decide +kernel
theorem dX4_previousByPointers_67 : decode cX4_previousByPointers 67 = .ok (.iload_n 1, 1) := by decide +kernel
theorem dX4_previousByPointers_68 : decode cX4_previousByPointers 68 = .ok (.iload 4, 2) := by decide +kernel
theorem dX4_previousByPointers_70 : decode cX4_previousByPointers 70 = .ok (.invokevirtual 172, 3) := by decide +kernel
theorem dX4_previousByPointers_73 : decode cX4_previousByPointers 73 = .ok (.ireturn, 1) := by decide +kernel
theorem dX4_foldUpTo_0 : decode cX4_foldUpTo 0 = .ok (.aload_n 0, 1) := by decide +kernel
theorem dX4_foldUpTo_1 : decode cX4_foldUpTo 1 = .ok (.getfield 32, 3) := by decide +kernel
theorem dX4_foldUpTo_4 : decode cX4_foldUpTo 4 = .ok (.invokevirtual 190, 3) := by decide +kernel
theorem dX4_foldUpTo_7 : decode cX4_foldUpTo 7 = .ok (.iconst 0, 1) := by decide +kernel
theorem dX4_foldUpTo_8 : decode cX4_foldUpTo 8 = .ok (.istore_n 2, 1) := by decide +kernel
theorem dX4_foldUpTo_9 : decode cX4_foldUpTo 9 = .ok (.iload_n 2, 1) := by decide +kernel
theorem dX4_foldUpTo_10 : decode cX4_foldUpTo 10 = .ok (.iload_n 1, 1) := by decide +kernel
theorem dX4_foldUpTo_11 : decode cX4_foldUpTo 11 = .ok (.if_icmp .ge 21, 3) := by decide +kernel
theorem dX4_foldUpTo_14 : decode cX4_foldUpTo 14 = .ok (.aload_n 0, 1) := by decide +kernel
theorem dX4_foldUpTo_15 : decode cX4_foldUpTo 15 = .ok (.getfield 32, 3) := by decide +kernel
theorem dX4_foldUpTo_18 : decode cX4_foldUpTo 18 = .ok (.aload_n 0, 1) := by decide +kernel
theorem dX4_foldUpTo_19 : decode cX4_foldUpTo 19 = .ok (.iload_n 2, 1) := by decide +kernel
theorem dX4_foldUpTo_20 : decode cX4_foldUpTo 20 = .ok (.invokevirtual 84, 3) := by decide +kernel
theorem dX4_foldUpTo_23 : decode cX4_foldUpTo 23 = .ok (.invokevirtual 193, 3) := by decide +kernel
theorem dX4_foldUpTo_26 : decode cX4_foldUpTo 26 = .ok (.iinc 2 1, 3) := by decide +kernel
theorem dX4_foldUpTo_29 : decode cX4_foldUpTo 29 = .ok (.goto (-20), 3) := by decide +kernel
theorem dX4_foldUpTo_32 : decode cX4_foldUpTo 32 = .ok (.return_, 1) := by decide +kernel
theorem dX4_effectOf_0 : decode cX4_effectOf 0 = .ok (.aload_n 0, 1) := by decide +kernel
theorem dX4_effectOf_1 : decode cX4_effectOf 1 = .ok (.iload_n 1, 1) := by decide +kernel
theorem dX4_effectOf_2 : decode cX4_effectOf 2 = .ok (.invokevirtual 84, 3) := by decide +kernel
theorem dX4_effectOf_5 : decode cX4_effectOf 5 = .ok (.astore_n 2, 1) := by decide +kernel
theorem dX4_effectOf_6 : decode cX4_effectOf 6 = .ok (.aload_n 2, 1) := by decide +kernel
theorem dX4_effectOf_7 : decode cX4_effectOf 7 = .ok (.ifnull 21, 3) := by decide +kernel
theorem dX4_effectOf_10 : decode cX4_effectOf 10 = .ok (.aload_n 0, 1) := by decide +kernel
theorem dX4_effectOf_11 : decode cX4_effectOf 11 = .ok (.getfield 32, 3) := by decide +kernel
theorem dX4_effectOf_14 : decode cX4_effectOf 14 = .ok (.iload_n 1, 1) := by decide +kernel
theorem dX4_effectOf_15 : decode cX4_effectOf 15 = .ok (.invokevirtual 156, 3) := by decide +kernel
theorem dX4_effectOf_18 : decode cX4_effectOf 18 = .ok (.ifCond .eq 10, 3) := by decide +kernel
theorem dX4_effectOf_21 : decode cX4_effectOf 21 = .ok (.aload_n 2, 1) := by decide +kernel
theorem dX4_effectOf_22 : decode cX4_effectOf 22 = .ok (.getfield 197, 3) := by decide +kernel
theorem dX4_effectOf_25 : decode cX4_effectOf 25 = .ok (.goto 4, 3) := by decide +kernel
theorem dX4_effectOf_28 : decode cX4_effectOf 28 = .ok (.iconst 0, 1) := by decide +kernel
theorem dX4_effectOf_29 : decode cX4_effectOf 29 = .ok (.ireturn, 1) := by decide +kernel
end
section
theorem dL_cell_0 : decode cL_cell 0 = .ok (.iload_n 1, 1) := by decide +kernel
theorem dL_cell_1 : decode cL_cell 1 = .ok (.aload_n 0, 1) := by decide +kernel
theorem dL_cell_2 : decode cL_cell 2 = .ok (.arraylength, 1) := by decide +kernel
theorem dL_cell_3 : decode cL_cell 3 = .ok (.if_icmp .ge 9, 3) := by decide +kernel
theorem dL_cell_6 : decode cL_cell 6 = .ok (.aload_n 0, 1) := by decide +kernel
theorem dL_cell_7 : decode cL_cell 7 = .ok (.iload_n 1, 1) := by decide +kernel
theorem dL_cell_8 : decode cL_cell 8 = .ok (.iaload, 1) := by decide +kernel
theorem dL_cell_9 : decode cL_cell 9 = .ok (.goto 15, 3) := by decide +kernel
theorem dL_cell_12 : decode cL_cell 12 = .ok (.sipush 7919, 3) := by decide +kernel
theorem dL_cell_15 : decode cL_cell 15 = .ok (.iload_n 1, 1) := by decide +kernel
theorem dL_cell_16 : decode cL_cell 16 = .ok (.iconst 3, 1) := by decide +kernel
theorem dL_cell_17 : decode cL_cell 17 = .ok (.iadd, 1) := by decide +kernel
theorem dL_cell_18 : decode cL_cell 18 = .ok (.imul, 1) := by decide +kernel
theorem dL_cell_19 : decode cL_cell 19 = .ok (.iload_n 1, 1) := by decide +kernel
theorem dL_cell_20 : decode cL_cell 20 = .ok (.bipush 11, 2) := by decide +kernel
theorem dL_cell_22 : decode cL_cell 22 = .ok (.iadd, 1) := by decide +kernel
theorem dL_cell_23 : decode cL_cell 23 = .ok (.imul, 1) := by decide +kernel
theorem dL_cell_24 : decode cL_cell 24 = .ok (.ireturn, 1) := by decide +kernel
theorem dL_low_0 : decode cL_low 0 = .ok (.iload_n 0, 1) := by decide +kernel
theorem dL_low_1 : decode cL_low 1 = .ok (.ldc 7, 2) := by decide +kernel
theorem dL_low_3 : decode cL_low 3 = .ok (.iand, 1) := by decide +kernel
theorem dL_low_4 : decode cL_low 4 = .ok (.iload_n 1, 1) := by decide +kernel
theorem dL_low_5 : decode cL_low 5 = .ok (.irem, 1) := by decide +kernel
theorem dL_low_6 : decode cL_low 6 = .ok (.ireturn, 1) := by decide +kernel
theorem dL_folds_0 : decode cL_folds 0 = .ok (.iconst 0, 1) := by decide +kernel
theorem dL_folds_1 : decode cL_folds 1 = .ok (.istore 6, 2) := by decide +kernel
theorem dL_folds_3 : decode cL_folds 3 = .ok (.iload 6, 2) := by decide +kernel
theorem dL_folds_5 : decode cL_folds 5 = .ok (.iload 5, 2) := by decide +kernel
theorem dL_folds_7 : decode cL_folds 7 = .ok (.if_icmp .ge 121, 3) := by decide +kernel
theorem dL_folds_10 : decode cL_folds 10 = .ok (.aload_n 0, 1) := by decide +kernel
theorem dL_folds_11 : decode cL_folds 11 = .ok (.iconst 0, 1) := by decide +kernel
theorem dL_folds_12 : decode cL_folds 12 = .ok (.iload 6, 2) := by decide +kernel
theorem dL_folds_14 : decode cL_folds 14 = .ok (.invokevirtual 8, 3) := by decide +kernel
theorem dL_folds_17 : decode cL_folds 17 = .ok (.istore 7, 2) := by decide +kernel
theorem dL_folds_19 : decode cL_folds 19 = .ok (.iload 7, 2) := by decide +kernel
theorem dL_folds_21 : decode cL_folds 21 = .ok (.ifCond .lt 7, 3) := by decide +kernel
theorem dL_folds_24 : decode cL_folds 24 = .ok (.iconst 1, 1) := by decide +kernel
theorem dL_folds_25 : decode cL_folds 25 = .ok (.goto 4, 3) := by decide +kernel
theorem dL_folds_28 : decode cL_folds 28 = .ok (.iconst 0, 1) := by decide +kernel
theorem dL_folds_29 : decode cL_folds 29 = .ok (.istore 8, 2) := by decide +kernel
theorem dL_folds_31 : decode cL_folds 31 = .ok (.iload 8, 2) := by decide +kernel
theorem dL_folds_33 : decode cL_folds 33 = .ok (.ifCond .eq 10, 3) := by decide +kernel
theorem dL_folds_36 : decode cL_folds 36 = .ok (.aload_n 3, 1) := by decide +kernel
theorem dL_folds_37 : decode cL_folds 37 = .ok (.iload 7, 2) := by decide +kernel
theorem dL_folds_39 : decode cL_folds 39 = .ok (.iaload, 1) := by decide +kernel
theorem dL_folds_40 : decode cL_folds 40 = .ok (.goto 5, 3) := by decide +kernel
theorem dL_folds_43 : decode cL_folds 43 = .ok (.iload 6, 2) := by decide +kernel
theorem dL_folds_45 : decode cL_folds 45 = .ok (.istore 9, 2) := by decide +kernel
theorem dL_folds_47 : decode cL_folds 47 = .ok (.iload 9, 2) := by decide +kernel
theorem dL_folds_49 : decode cL_folds 49 = .ok (.iload 6, 2) := by decide +kernel
theorem dL_folds_51 : decode cL_folds 51 = .ok (.if_icmp .ge 53, 3) := by decide +kernel
theorem dL_folds_54 : decode cL_folds 54 = .ok (.iload 8, 2) := by decide +kernel
theorem dL_folds_56 : decode cL_folds 56 = .ok (.ifCond .eq 48, 3) := by decide +kernel
theorem dL_folds_59 : decode cL_folds 59 = .ok (.aload_n 2, 1) := by decide +kernel
theorem dL_folds_60 : decode cL_folds 60 = .ok (.iload 7, 2) := by decide +kernel
theorem dL_folds_62 : decode cL_folds 62 = .ok (.iaload, 1) := by decide +kernel
theorem dL_folds_63 : decode cL_folds 63 = .ok (.ifCond .le 41, 3) := by decide +kernel
theorem dL_folds_66 : decode cL_folds 66 = .ok (.aload 4, 2) := by decide +kernel
theorem dL_folds_68 : decode cL_folds 68 = .ok (.iload 9, 2) := by decide +kernel
theorem dL_folds_70 : decode cL_folds 70 = .ok (.iaload, 1) := by decide +kernel
theorem dL_folds_71 : decode cL_folds 71 = .ok (.ifCond .eq 20, 3) := by decide +kernel
theorem dL_folds_74 : decode cL_folds 74 = .ok (.aload_n 1, 1) := by decide +kernel
theorem dL_folds_75 : decode cL_folds 75 = .ok (.aload 4, 2) := by decide +kernel
theorem dL_folds_77 : decode cL_folds 77 = .ok (.iload 9, 2) := by decide +kernel
theorem dL_folds_79 : decode cL_folds 79 = .ok (.iaload, 1) := by decide +kernel
theorem dL_folds_80 : decode cL_folds 80 = .ok (.iconst 1, 1) := by decide +kernel
theorem dL_folds_81 : decode cL_folds 81 = .ok (.isub, 1) := by decide +kernel
theorem dL_folds_82 : decode cL_folds 82 = .ok (.iaload, 1) := by decide +kernel
theorem dL_folds_83 : decode cL_folds 83 = .ok (.aload_n 2, 1) := by decide +kernel
theorem dL_folds_84 : decode cL_folds 84 = .ok (.iload 7, 2) := by decide +kernel
theorem dL_folds_86 : decode cL_folds 86 = .ok (.iaload, 1) := by decide +kernel
theorem dL_folds_87 : decode cL_folds 87 = .ok (.iand, 1) := by decide +kernel
theorem dL_folds_88 : decode cL_folds 88 = .ok (.ifCond .ne 7, 3) := by decide +kernel
theorem dL_folds_91 : decode cL_folds 91 = .ok (.iconst 1, 1) := by decide +kernel
theorem dL_folds_92 : decode cL_folds 92 = .ok (.goto 4, 3) := by decide +kernel
theorem dL_folds_95 : decode cL_folds 95 = .ok (.iconst 0, 1) := by decide +kernel
theorem dL_folds_96 : decode cL_folds 96 = .ok (.istore 8, 2) := by decide +kernel
theorem dL_folds_98 : decode cL_folds 98 = .ok (.iinc 9 1, 3) := by decide +kernel
theorem dL_folds_101 : decode cL_folds 101 = .ok (.goto (-54), 3) := by decide +kernel
theorem dL_folds_104 : decode cL_folds 104 = .ok (.aload 4, 2) := by decide +kernel
theorem dL_folds_106 : decode cL_folds 106 = .ok (.iload 6, 2) := by decide +kernel
theorem dL_folds_108 : decode cL_folds 108 = .ok (.iload 8, 2) := by decide +kernel
theorem dL_folds_110 : decode cL_folds 110 = .ok (.ifCond .eq 10, 3) := by decide +kernel
theorem dL_folds_113 : decode cL_folds 113 = .ok (.iload 7, 2) := by decide +kernel
theorem dL_folds_115 : decode cL_folds 115 = .ok (.iconst 1, 1) := by decide +kernel
theorem dL_folds_116 : decode cL_folds 116 = .ok (.iadd, 1) := by decide +kernel
theorem dL_folds_117 : decode cL_folds 117 = .ok (.goto 4, 3) := by decide +kernel
theorem dL_folds_120 : decode cL_folds 120 = .ok (.iconst 0, 1) := by decide +kernel
theorem dL_folds_121 : decode cL_folds 121 = .ok (.iastore, 1) := by decide +kernel
theorem dL_folds_122 : decode cL_folds 122 = .ok (.iinc 6 1, 3) := by decide +kernel
theorem dL_folds_125 : decode cL_folds 125 = .ok (.goto (-122), 3) := by decide +kernel
theorem dL_folds_128 : decode cL_folds 128 = .ok (.return_, 1) := by decide +kernel
theorem dL_isFolded_0 : decode cL_isFolded 0 = .ok (.iconst 0, 1) := by decide +kernel
theorem dL_isFolded_1 : decode cL_isFolded 1 = .ok (.istore 7, 2) := by decide +kernel
theorem dL_isFolded_3 : decode cL_isFolded 3 = .ok (.iconst (-1), 1) := by decide +kernel
theorem dL_isFolded_4 : decode cL_isFolded 4 = .ok (.istore 8, 2) := by decide +kernel
theorem dL_isFolded_6 : decode cL_isFolded 6 = .ok (.iconst 1, 1) := by decide +kernel
theorem dL_isFolded_7 : decode cL_isFolded 7 = .ok (.istore 9, 2) := by decide +kernel
theorem dL_isFolded_9 : decode cL_isFolded 9 = .ok (.iconst 0, 1) := by decide +kernel
theorem dL_isFolded_10 : decode cL_isFolded 10 = .ok (.istore 10, 2) := by decide +kernel
theorem dL_isFolded_12 : decode cL_isFolded 12 = .ok (.iload 10, 2) := by decide +kernel
theorem dL_isFolded_14 : decode cL_isFolded 14 = .ok (.iload 5, 2) := by decide +kernel
theorem dL_isFolded_16 : decode cL_isFolded 16 = .ok (.if_icmp .gt 225, 3) := by decide +kernel
theorem dL_isFolded_19 : decode cL_isFolded 19 = .ok (.iload 9, 2) := by decide +kernel
theorem dL_isFolded_21 : decode cL_isFolded 21 = .ok (.ifCond .eq 220, 3) := by decide +kernel
theorem dL_isFolded_24 : decode cL_isFolded 24 = .ok (.iload 10, 2) := by decide +kernel
theorem dL_isFolded_26 : decode cL_isFolded 26 = .ok (.iload 6, 2) := by decide +kernel
theorem dL_isFolded_28 : decode cL_isFolded 28 = .ok (.if_icmp .eq 10, 3) := by decide +kernel
theorem dL_isFolded_31 : decode cL_isFolded 31 = .ok (.iload 10, 2) := by decide +kernel
theorem dL_isFolded_33 : decode cL_isFolded 33 = .ok (.iload 5, 2) := by decide +kernel
theorem dL_isFolded_35 : decode cL_isFolded 35 = .ok (.if_icmp .ne 49, 3) := by decide +kernel
theorem dL_isFolded_38 : decode cL_isFolded 38 = .ok (.aload_n 0, 1) := by decide +kernel
theorem dL_isFolded_39 : decode cL_isFolded 39 = .ok (.iload 4, 2) := by decide +kernel
theorem dL_isFolded_41 : decode cL_isFolded 41 = .ok (.iload 10, 2) := by decide +kernel
theorem dL_isFolded_43 : decode cL_isFolded 43 = .ok (.invokevirtual 14, 3) := by decide +kernel
theorem dL_isFolded_46 : decode cL_isFolded 46 = .ok (.iload 7, 2) := by decide +kernel
theorem dL_isFolded_48 : decode cL_isFolded 48 = .ok (.if_icmp .ne 33, 3) := by decide +kernel
theorem dL_isFolded_51 : decode cL_isFolded 51 = .ok (.aload_n 0, 1) := by decide +kernel
theorem dL_isFolded_52 : decode cL_isFolded 52 = .ok (.iload 4, 2) := by decide +kernel
theorem dL_isFolded_54 : decode cL_isFolded 54 = .ok (.iload 10, 2) := by decide +kernel
theorem dL_isFolded_56 : decode cL_isFolded 56 = .ok (.invokevirtual 17, 3) := by decide +kernel
theorem dL_isFolded_59 : decode cL_isFolded 59 = .ok (.iload 7, 2) := by decide +kernel
theorem dL_isFolded_61 : decode cL_isFolded 61 = .ok (.if_icmp .ne 20, 3) := by decide +kernel
theorem dL_isFolded_64 : decode cL_isFolded 64 = .ok (.aload_n 0, 1) := by decide +kernel
theorem dL_isFolded_65 : decode cL_isFolded 65 = .ok (.iload 4, 2) := by decide +kernel
theorem dL_isFolded_67 : decode cL_isFolded 67 = .ok (.iload 10, 2) := by decide +kernel
theorem dL_isFolded_69 : decode cL_isFolded 69 = .ok (.invokevirtual 20, 3) := by decide +kernel
theorem dL_isFolded_72 : decode cL_isFolded 72 = .ok (.iload 8, 2) := by decide +kernel
theorem dL_isFolded_74 : decode cL_isFolded 74 = .ok (.if_icmp .ne 7, 3) := by decide +kernel
theorem dL_isFolded_77 : decode cL_isFolded 77 = .ok (.iconst 1, 1) := by decide +kernel
theorem dL_isFolded_78 : decode cL_isFolded 78 = .ok (.goto 4, 3) := by decide +kernel
theorem dL_isFolded_81 : decode cL_isFolded 81 = .ok (.iconst 0, 1) := by decide +kernel
theorem dL_isFolded_82 : decode cL_isFolded 82 = .ok (.istore 9, 2) := by decide +kernel
theorem dL_isFolded_84 : decode cL_isFolded 84 = .ok (.iload 10, 2) := by decide +kernel
theorem dL_isFolded_86 : decode cL_isFolded 86 = .ok (.iload 5, 2) := by decide +kernel
theorem dL_isFolded_88 : decode cL_isFolded 88 = .ok (.if_icmp .ge 147, 3) := by decide +kernel
theorem dL_isFolded_91 : decode cL_isFolded 91 = .ok (.aload_n 0, 1) := by decide +kernel
theorem dL_isFolded_92 : decode cL_isFolded 92 = .ok (.iconst 0, 1) := by decide +kernel
theorem dL_isFolded_93 : decode cL_isFolded 93 = .ok (.iload 10, 2) := by decide +kernel
theorem dL_isFolded_95 : decode cL_isFolded 95 = .ok (.invokevirtual 8, 3) := by decide +kernel
theorem dL_isFolded_98 : decode cL_isFolded 98 = .ok (.istore 11, 2) := by decide +kernel
theorem dL_isFolded_100 : decode cL_isFolded 100 = .ok (.iload 11, 2) := by decide +kernel
theorem dL_isFolded_102 : decode cL_isFolded 102 = .ok (.ifCond .lt 20, 3) := by decide +kernel
theorem dL_isFolded_105 : decode cL_isFolded 105 = .ok (.aload_n 1, 1) := by decide +kernel
theorem dL_isFolded_106 : decode cL_isFolded 106 = .ok (.iload 11, 2) := by decide +kernel
theorem dL_isFolded_108 : decode cL_isFolded 108 = .ok (.iaload, 1) := by decide +kernel
theorem dL_isFolded_109 : decode cL_isFolded 109 = .ok (.iload 4, 2) := by decide +kernel
theorem dL_isFolded_111 : decode cL_isFolded 111 = .ok (.ishr, 1) := by decide +kernel
theorem dL_isFolded_112 : decode cL_isFolded 112 = .ok (.iconst 1, 1) := by decide +kernel
theorem dL_isFolded_113 : decode cL_isFolded 113 = .ok (.iand, 1) := by decide +kernel
theorem dL_isFolded_114 : decode cL_isFolded 114 = .ok (.iconst 1, 1) := by decide +kernel
theorem dL_isFolded_115 : decode cL_isFolded 115 = .ok (.if_icmp .ne 7, 3) := by decide +kernel
theorem dL_isFolded_118 : decode cL_isFolded 118 = .ok (.iconst 1, 1) := by decide +kernel
theorem dL_isFolded_119 : decode cL_isFolded 119 = .ok (.goto 4, 3) := by decide +kernel
theorem dL_isFolded_122 : decode cL_isFolded 122 = .ok (.iconst 0, 1) := by decide +kernel
theorem dL_isFolded_123 : decode cL_isFolded 123 = .ok (.istore 12, 2) := by decide +kernel
theorem dL_isFolded_125 : decode cL_isFolded 125 = .ok (.iload 7, 2) := by decide +kernel
theorem dL_isFolded_127 : decode cL_isFolded 127 = .ok (.iload 12, 2) := by decide +kernel
theorem dL_isFolded_129 : decode cL_isFolded 129 = .ok (.ifCond .eq 17, 3) := by decide +kernel
theorem dL_isFolded_132 : decode cL_isFolded 132 = .ok (.aload_n 3, 1) := by decide +kernel
theorem dL_isFolded_133 : decode cL_isFolded 133 = .ok (.iload 10, 2) := by decide +kernel
theorem dL_isFolded_135 : decode cL_isFolded 135 = .ok (.iaload, 1) := by decide +kernel
theorem dL_isFolded_136 : decode cL_isFolded 136 = .ok (.ifCond .le 10, 3) := by decide +kernel
theorem dL_isFolded_139 : decode cL_isFolded 139 = .ok (.aload_n 2, 1) := by decide +kernel
theorem dL_isFolded_140 : decode cL_isFolded 140 = .ok (.iload 11, 2) := by decide +kernel
theorem dL_isFolded_142 : decode cL_isFolded 142 = .ok (.iaload, 1) := by decide +kernel
theorem dL_isFolded_143 : decode cL_isFolded 143 = .ok (.goto 4, 3) := by decide +kernel
theorem dL_isFolded_146 : decode cL_isFolded 146 = .ok (.iconst 0, 1) := by decide +kernel
theorem dL_isFolded_147 : decode cL_isFolded 147 = .ok (.iadd, 1) := by decide +kernel
theorem dL_isFolded_148 : decode cL_isFolded 148 = .ok (.istore 7, 2) := by decide +kernel
theorem dL_isFolded_150 : decode cL_isFolded 150 = .ok (.iload 12, 2) := by decide +kernel
theorem dL_isFolded_152 : decode cL_isFolded 152 = .ok (.ifCond .eq 8, 3) := by decide +kernel
theorem dL_isFolded_155 : decode cL_isFolded 155 = .ok (.iload 10, 2) := by decide +kernel
theorem dL_isFolded_157 : decode cL_isFolded 157 = .ok (.goto 5, 3) := by decide +kernel
theorem dL_isFolded_160 : decode cL_isFolded 160 = .ok (.iload 8, 2) := by decide +kernel
theorem dL_isFolded_162 : decode cL_isFolded 162 = .ok (.istore 8, 2) := by decide +kernel
theorem dL_isFolded_164 : decode cL_isFolded 164 = .ok (.iload 9, 2) := by decide +kernel
theorem dL_isFolded_166 : decode cL_isFolded 166 = .ok (.ifCond .eq 66, 3) := by decide +kernel
theorem dL_isFolded_169 : decode cL_isFolded 169 = .ok (.iload 11, 2) := by decide +kernel
theorem dL_isFolded_171 : decode cL_isFolded 171 = .ok (.bipush (-2), 2) := by decide +kernel
theorem dL_isFolded_173 : decode cL_isFolded 173 = .ok (.if_icmp .eq 59, 3) := by decide +kernel
theorem dL_isFolded_176 : decode cL_isFolded 176 = .ok (.aload_n 0, 1) := by decide +kernel
theorem dL_isFolded_177 : decode cL_isFolded 177 = .ok (.iconst 1, 1) := by decide +kernel
theorem dL_isFolded_178 : decode cL_isFolded 178 = .ok (.iload 10, 2) := by decide +kernel
theorem dL_isFolded_180 : decode cL_isFolded 180 = .ok (.invokevirtual 8, 3) := by decide +kernel
theorem dL_isFolded_183 : decode cL_isFolded 183 = .ok (.iload 11, 2) := by decide +kernel
theorem dL_isFolded_185 : decode cL_isFolded 185 = .ok (.if_icmp .ne 47, 3) := by decide +kernel
theorem dL_isFolded_188 : decode cL_isFolded 188 = .ok (.aload_n 0, 1) := by decide +kernel
theorem dL_isFolded_189 : decode cL_isFolded 189 = .ok (.iconst 2, 1) := by decide +kernel
theorem dL_isFolded_190 : decode cL_isFolded 190 = .ok (.iload 10, 2) := by decide +kernel
theorem dL_isFolded_192 : decode cL_isFolded 192 = .ok (.invokevirtual 8, 3) := by decide +kernel
theorem dL_isFolded_195 : decode cL_isFolded 195 = .ok (.iload 11, 2) := by decide +kernel
theorem dL_isFolded_197 : decode cL_isFolded 197 = .ok (.if_icmp .ne 35, 3) := by decide +kernel
theorem dL_isFolded_200 : decode cL_isFolded 200 = .ok (.iload 10, 2) := by decide +kernel
theorem dL_isFolded_202 : decode cL_isFolded 202 = .ok (.iload 6, 2) := by decide +kernel
theorem dL_isFolded_204 : decode cL_isFolded 204 = .ok (.if_icmp .ne 24, 3) := by decide +kernel
theorem dL_isFolded_207 : decode cL_isFolded 207 = .ok (.aload_n 0, 1) := by decide +kernel
theorem dL_isFolded_208 : decode cL_isFolded 208 = .ok (.iload 10, 2) := by decide +kernel
theorem dL_isFolded_210 : decode cL_isFolded 210 = .ok (.invokevirtual 23, 3) := by decide +kernel
theorem dL_isFolded_213 : decode cL_isFolded 213 = .ok (.aload_n 3, 1) := by decide +kernel
theorem dL_isFolded_214 : decode cL_isFolded 214 = .ok (.iload 10, 2) := by decide +kernel
theorem dL_isFolded_216 : decode cL_isFolded 216 = .ok (.iaload, 1) := by decide +kernel
theorem dL_isFolded_217 : decode cL_isFolded 217 = .ok (.ifCond .le 7, 3) := by decide +kernel
theorem dL_isFolded_220 : decode cL_isFolded 220 = .ok (.iconst 1, 1) := by decide +kernel
theorem dL_isFolded_221 : decode cL_isFolded 221 = .ok (.goto 4, 3) := by decide +kernel
theorem dL_isFolded_224 : decode cL_isFolded 224 = .ok (.iconst 0, 1) := by decide +kernel
theorem dL_isFolded_225 : decode cL_isFolded 225 = .ok (.if_icmp .ne 7, 3) := by decide +kernel
theorem dL_isFolded_228 : decode cL_isFolded 228 = .ok (.iconst 1, 1) := by decide +kernel
theorem dL_isFolded_229 : decode cL_isFolded 229 = .ok (.goto 4, 3) := by decide +kernel
theorem dL_isFolded_232 : decode cL_isFolded 232 = .ok (.iconst 0, 1) := by decide +kernel
theorem dL_isFolded_233 : decode cL_isFolded 233 = .ok (.istore 9, 2) := by decide +kernel
theorem dL_isFolded_235 : decode cL_isFolded 235 = .ok (.iinc 10 1, 3) := by decide +kernel
theorem dL_isFolded_238 : decode cL_isFolded 238 = .ok (.goto (-226), 3) := by decide +kernel
theorem dL_isFolded_241 : decode cL_isFolded 241 = .ok (.iload 9, 2) := by decide +kernel
theorem dL_isFolded_243 : decode cL_isFolded 243 = .ok (.ireturn, 1) := by decide +kernel
theorem dL_writes_0 : decode cL_writes 0 = .ok (.aload_n 0, 1) := by decide +kernel
theorem dL_writes_1 : decode cL_writes 1 = .ok (.iload_n 1, 1) := by decide +kernel
theorem dL_writes_2 : decode cL_writes 2 = .ok (.invokevirtual 27, 3) := by decide +kernel
theorem dL_writes_5 : decode cL_writes 5 = .ok (.istore_n 2, 1) := by decide +kernel
theorem dL_writes_6 : decode cL_writes 6 = .ok (.iload_n 2, 1) := by decide +kernel
theorem dL_writes_7 : decode cL_writes 7 = .ok (.ifCond .lt 12, 3) := by decide +kernel
theorem dL_writes_10 : decode cL_writes 10 = .ok (.iload_n 2, 1) := by decide +kernel
theorem dL_writes_11 : decode cL_writes 11 = .ok (.iconst 3, 1) := by decide +kernel
theorem dL_writes_12 : decode cL_writes 12 = .ok (.if_icmp .ge 7, 3) := by decide +kernel
theorem dL_writes_15 : decode cL_writes 15 = .ok (.iconst 1, 1) := by decide +kernel
theorem dL_writes_16 : decode cL_writes 16 = .ok (.goto 4, 3) := by decide +kernel
theorem dL_writes_19 : decode cL_writes 19 = .ok (.iconst 0, 1) := by decide +kernel
theorem dL_writes_20 : decode cL_writes 20 = .ok (.ireturn, 1) := by decide +kernel
end
section
/-! throws, and methods that may throw -/
def sl_xn : List String := ["java/lang/RuntimeException", "java/lang/Exception"]
theorem sl_hatA : ∀ w ∈ vx_atS RX4 61 "java/lang/IllegalArgumentException" sl_xn, w ∈ lw_tbl ∧ sl_ok w = true := by decide +kernel
theorem sl_hatS : ∀ w ∈ vx_atS RX4 76 "java/lang/IllegalStateException" sl_xn, w ∈ lw_tbl ∧ sl_ok w = true := by decide +kernel
theorem sl_hatO : ∀ w ∈ vx_atS RX4 102 "java/lang/IndexOutOfBoundsException" sl_xn, w ∈ lw_tbl ∧ sl_ok w = true := by decide +kernel
theorem sl_otA : ∀ w ∈ Cond.classLink RX4 57 "java/lang/IllegalArgumentException" :: Cond.initialized "java/lang/IllegalArgumentException" :: vx_atS RX4 61 "java/lang/IllegalArgumentException" sl_xn, vx_ot w = true := by decide +kernel
theorem sl_otS : ∀ w ∈ Cond.classLink RX4 72 "java/lang/IllegalStateException" :: Cond.initialized "java/lang/IllegalStateException" :: vx_atS RX4 76 "java/lang/IllegalStateException" sl_xn, vx_ot w = true := by decide +kernel
theorem sl_otO : ∀ w ∈ Cond.classLink RX4 98 "java/lang/IndexOutOfBoundsException" :: Cond.initialized "java/lang/IndexOutOfBoundsException" :: vx_atS RX4 102 "java/lang/IndexOutOfBoundsException" sl_xn, vx_ot w = true := by decide +kernel
/-- the world where a method throws: as it is -/
abbrev sl_X (Γ : sl_G) (g : sl_W) (xp : String → Prop) : String → State → State → Prop := vx_X (S := Unit) (fun _ => True) (fun E _ t => xp E ∧ sl_H Γ g t.heap) (sl_A Γ)
section SLT
variable {p : Program} {l : Launch} {e : Env} {R : Room} {s : State} {m : MethodId} {args a : Array Value} {below : List Frame} {meth : Method} {c : Code} {H : Heap} {locs : List Loc} {cells slots mc ms : Nat} {Q : State → Prop}
variable {cc : ByteArray} {nL pc : Nat} {ls : Array Slot} {rest st0 : List Value} {Γ : sl_G} {own : String} {g : sl_W} {Qc : Array Value → State → Outcome → State → Prop} {xp : String → Prop}
theorem sl_thr {cls text : String} {ik is ic : Nat} (hl : l.stackTraces = false) (hC : sl_C Γ p s m meth c cc nL own) (hG : sl_I Γ g s H locs) (hx : xp cls) (hcls : Bundle.fit cls = true)
    (hk : Cond.classLink own ik cls ∈ lw_tbl) (hini : Cond.initialized cls ∈ lw_tbl) (hstr : (own, is, text) ∈ sl_strs) (hat : ∀ w ∈ vx_atS own ic cls sl_xn, w ∈ lw_tbl ∧ sl_ok w = true) (hgood : ∀ w ∈ Cond.classLink own ik cls :: Cond.initialized cls :: vx_atS own ic cls sl_xn, vx_ot w = true)
    (hsize : ls.size = nL) (d0 : decode cc pc = .ok (.new ik, 3)) (d3 : decode cc (pc + 3) = .ok (.dup, 1)) (d4 : decode cc (pc + 4) = .ok (.ldc is, 2)) (d6 : decode cc (pc + 6) = .ok (.invokespecial ic, 3)) (d9 : decode cc (pc + 9) = .ok (.athrow, 1))
    (hno : ∀ x ∈ c.exceptionTable.toList, False) (hRframes : 5 < R.frames) (hRlocals : (rest.map fun v => v.category).sum + 82 ≤ R.locals) (hRcells : cells + 1 ≤ R.cells) (hRslots : slots + 6 ≤ R.slots) (hc : cells + 1 ≤ mc) (hs : slots + 6 ≤ ms) :
    W p l e R s m args below meth c H locs cells slots (vx_MQ below Qc (sl_X Γ g xp) args s mc ms (sl_A Γ)) (F0 m pc ls rest) := by
  obtain ⟨sa, hsa⟩ := hC.2.2.2.2.2.2.1.2.2.1 _ hstr
  refine vx_throwS (names := sl_xn) hC.1 hC.2.1 hl hC.2.2.2.1 hcls (by decide +kernel) (sl_tab hC hk rfl) (sl_tab hC hini rfl) hsa (fun w hw => sl_tab hC (hat w hw).1 (hat w hw).2) hgood hC.2.2.2.2.2.2.2.1 hC.2.2.2.2.2.2.2.2 hG.2 (by rw [hsize]; exact hC.2.2.1.symm) d0 d3 d4 d6 d9 (fun x hx => absurd (hno x hx) id) hRframes hRlocals hRcells hRslots hC.2.2.2.2.1 ?_ hG.2.2.2 hc hs
  intro t _ hz ho
  refine ⟨(), trivial, ⟨hx, ⟨fun k q hq => (hG.1.1 k q hq).kept (ho q.1 (hG.1.1 k q hq).lt), hG.1.2⟩⟩, Nat.le_trans hG.2.1 hz, fun q h1 h2 => ?_⟩
  rw [ho q (Nat.lt_of_lt_of_le h1 hG.2.1)]
  exact hG.2.2.1 q h1 h2
/-- a callee that returns or throws -/
theorem sl_runX {y : MethodName} {bytes : ByteArray} {maxL n index : Nat} {ret : Option FieldType} {rm : Room} {XC : String → State → State → Prop} {b : Addr} {As : List Value} (hC : sl_C Γ p s m meth c cc nL own) (hG : sl_I Γ g s H locs) (hM : vx_Met l y [Cond.code y bytes maxL ret] rm (va_Pc (.ref b :: As) (sl_B Γ g)) Qc XC mc ms (sl_A Γ)) (hm : sl_mv y bytes maxL ret n) (w1 : Cond.methodLink own index y ∈ lw_tbl) (k : Nat) {ci N : Nat} {fs : List Value} {T : u_T} (he : g k = some (b, .inr (ci, fs))) (hc : vwCl[ci]? = some (y.cls, T, N)) (hrc : rm.cells = mc) (hrs : rm.slots = ms) (hR : rm.frames + 1 ≤ R.frames ∧ 8 + (maxL + 11) + rm.locals ≤ R.locals) (hn : As.length = n) (hsz : ls.size = nL) (hst : st0 = As.reverse ++ .ref b :: rest) (hW : (rest.map fun v => v.category).sum ≤ 8) (hdg : decode cc pc = .ok (.invokevirtual index, 3)) (hf : cells + mc ≤ R.cells ∧ slots + ms ≤ R.slots) :
    vx_Run p l e R s m args below meth c H locs cells slots mc ms (F0 m pc ls st0) rest (Qc (Value.ref b :: As).toArray) XC (sl_A Γ) :=
  vx_runV (sl_fix hC) hM ⟨sl_cB hC hm.1 hm.2.2.1 hm.2.2.2.1 w1 hrc hrs hR, sl_tab hC hm.2.1 rfl, sl_tab hC hm.2.2.2.2 rfl⟩ (sl_preV hC hG he hc) rfl hn hsz hst (lv_room hW) hdg hf
theorem sl_callxi {S : Type} {gg : S → sl_W} {post : Int32 → S → Prop} {g2 : sl_W} (hr : vx_Run p l e R s m args below meth c H locs cells slots mc ms (F0 m pc ls st0) rest (sl_Qi Γ post gg a) (sl_X Γ g2 xp) (sl_A Γ)) (hG : sl_I Γ g s H locs)
    (kx : ∀ (E : String) (ce : Cell) (q9 : Addr) (H1 : Heap) (locs1 : List Loc), xp E → sl_I Γ g2 s H1 locs1 → H1[q9]? = some ce → ce.vm = .none → s.vm.findClass E = some ce.cls → vx_W p l e R s m args below meth c H1 locs1 (cells + mc) (slots + ms) Q (F0 m pc ls rest) q9)
    (kk : ∀ (r : Int32) (u : S) (H1 : Heap) (locs1 : List Loc), post r u → sl_I Γ (gg u) s H1 locs1 → W p l e R s m args below meth c H1 locs1 (cells + mc) (slots + ms) Q (F0 m (pc + 3) ls (.int r :: rest))) : W p l e R s m args below meth c H locs cells slots Q (F0 m pc ls st0) :=
  vx_calli hr hG.2 (fun _ _ h => h) (fun _ h => h) (fun _ _ h => h) (fun E ce q9 _ t H1 locs1 ht _ _ hB _ _ hS h1 h2 h3 => kx E ce q9 H1 locs1 hB.1 ⟨by rw [← ht]; exact hB.2, hS⟩ h1 h2 h3)
    (fun r u t H1 locs1 ht _ hp hB _ _ hS => kk r u H1 locs1 hp ⟨by rw [← ht]; exact hB, hS⟩)
/-- an exception of a callee goes on to the caller -/
theorem sl_outx {E : String} {ce : Cell} {q : Addr} (hC : sl_C Γ p s m meth c cc nL own) (hno : ∀ x ∈ c.exceptionTable.toList, False) (hG : sl_I Γ g s H locs) (hx : xp E) (hcell : H[q]? = some ce) (hv : ce.vm = .none) (hcl : s.vm.findClass E = some ce.cls) (hc : cells ≤ mc) (hs : slots ≤ ms) :
    vx_W p l e R s m args below meth c H locs cells slots (vx_MQ below Qc (sl_X Γ g xp) args s mc ms (sl_A Γ)) (F0 m pc ls rest) q :=
  vx_out (fun x hx => absurd (hno x hx) id) hC.2.2.2.2.1 hcell hv hcl (fun t ht _ => ⟨(), trivial, ⟨hx, by show sl_H Γ g t.heap; rw [ht]; exact hG.1⟩, hG.2.F ht⟩) hG.2.2.2 hc hs
/-- it is caught here by the first row of the table, or by the second -/
theorem sl_catch1 {E : String} {ce : Cell} {q : Addr} {x : ExceptionTableEntry} {suf : List ExceptionTableEntry} (hC : sl_C Γ p s m meth c cc nL own) (ht : c.exceptionTable.toList = x :: suf) (hx : covers x pc = true) (h0 : x.catchType ≠ 0) (w1 : Cond.classLink own x.catchType E ∈ lw_tbl) (w2 : Cond.castable E E ∈ lw_tbl) (hcell : H[q]? = some ce) (hv : ce.vm = .none) (hcl : s.vm.findClass E = some ce.cls)
    (kk : W p l e R s m args below meth c H locs cells slots Q (F0 m x.handlerPc ls [.ref q])) : vx_W p l e R s m args below meth c H locs cells slots Q (F0 m pc ls rest) q :=
  vx_catch hC.2.2.2.1 [] x suf ht (fun z hz => nomatch hz) hx h0 (sl_tab hC w1 rfl) (sl_tab hC w2 rfl) hcell hv hcl kk
theorem sl_catch2 {E E1 : String} {ce : Cell} {q : Addr} {x1 x : ExceptionTableEntry} {suf : List ExceptionTableEntry} (hC : sl_C Γ p s m meth c cc nL own) (ht : c.exceptionTable.toList = x1 :: x :: suf) (h1 : x1.catchType ≠ 0) (w0 : Cond.classLink own x1.catchType E1 ∈ lw_tbl) (hnc : (E, E1) ∈ sl_ncs) (hx : covers x pc = true) (h0 : x.catchType ≠ 0) (w1 : Cond.classLink own x.catchType E ∈ lw_tbl) (w2 : Cond.castable E E ∈ lw_tbl) (hcell : H[q]? = some ce) (hv : ce.vm = .none) (hcl : s.vm.findClass E = some ce.cls)
    (kk : W p l e R s m args below meth c H locs cells slots Q (F0 m x.handlerPc ls [.ref q])) : vx_W p l e R s m args below meth c H locs cells slots Q (F0 m pc ls rest) q :=
  vx_catch hC.2.2.2.1 [x1] x suf ht (fun z hz => by rw [List.mem_singleton.mp hz]; exact Or.inr ⟨h1, E1, sl_tab hC w0 rfl, hC.2.2.2.2.2.2.1.2.2.2.2 _ hnc⟩) hx h0 (sl_tab hC w1 rfl) (sl_tab hC w2 rfl) hcell hv hcl kk
end SLT
theorem sl_cw0 : Cond.castable "java/lang/IllegalArgumentException" "java/lang/IllegalArgumentException" ∈ lw_tbl := by decide +kernel
theorem sl_cw1 : Cond.castable "java/lang/IllegalStateException" "java/lang/IllegalStateException" ∈ lw_tbl := by decide +kernel
theorem sl_cw2 : Cond.castable "java/lang/IndexOutOfBoundsException" "java/lang/IndexOutOfBoundsException" ∈ lw_tbl := by decide +kernel
/-- a body that may throw, without a table; one with a table -/
theorem sl_entx {Γ : sl_G} {l : Launch} {y : MethodName} {bytes : ByteArray} {maxL : Nat} {ret : Option FieldType} {rm : Room} {g : sl_W} {av : List Value} {Qc : Array Value → State → Outcome → State → Prop} {XC : String → State → State → Prop} {mc ms : Nat} (hy : plainName y.cls = true) (hL : (lg_sl av).length ≤ maxL)
    (body : ∀ (p : Program) (e : Env) (s : State) (m : MethodId) (below : List Frame) (meth : Method) (c : Code) (ls : Array Slot), sl_C Γ p s m meth c bytes maxL y.cls → meth.sig.returnType = ret → (∀ x ∈ c.exceptionTable.toList, False) → sl_I Γ g s s.heap [] → lv_has ls maxL (lv_args 0 av) →
      W p l e rm s m av.toArray below meth c s.heap [] 0 0 (vx_MQ below Qc XC av.toArray s mc ms (sl_A Γ)) (F0 m 0 ls [])) : vx_Met l y [Cond.code y bytes maxL ret] rm (va_Pc av (sl_B Γ g)) Qc XC mc ms (sl_A Γ) := by
  refine vx_ofW (cc := bytes) (maxL := maxL) (ret := ret) hy rfl ?_
  intro p e s m args below meth c s₁ B hml hno hv
  obtain ⟨rfl, h0, hH, hV, hZ⟩ := hv
  have hl := lv_entry av (n := maxL) hL
  rw [lg_entry_eq]
  exact body p e s m below meth c _ ⟨B.exec, B.bytes, hml, findClass_of_methodNamed B.named, B.notSynchronized, h0, hV, hZ⟩ B.returns hno ⟨hH, va_S.rf⟩ hl
theorem sl_entw {Γ : sl_G} {l : Launch} {y : MethodName} {bytes : ByteArray} {maxL : Nat} {ret : Option FieldType} {hh : List (Nat × Nat × Nat × Nat)} {rm : Room} {g : sl_W} {av : List Value} {Qc : Array Value → State → Outcome → State → Prop} {mc ms : Nat} (hy : plainName y.cls = true) (hL : (lg_sl av).length ≤ maxL)
    (body : ∀ (p : Program) (e : Env) (s : State) (m : MethodId) (below : List Frame) (meth : Method) (c : Code) (ls : Array Slot), sl_C Γ p s m meth c bytes maxL y.cls → meth.sig.returnType = ret → c.exceptionTable.toList = tableOf hh → sl_I Γ g s s.heap [] → lv_has ls maxL (lv_args 0 av) →
      W p l e rm s m av.toArray below meth c s.heap [] 0 0 (MQ below Qc av.toArray s mc ms (sl_A Γ)) (F0 m 0 ls [])) : Met l y [Cond.codeWith y bytes maxL ret hh] rm (va_Pc av (sl_B Γ g)) Qc mc ms (sl_A Γ) := by
  refine va_MetW (cc := bytes) (maxL := maxL) (ret := ret) (hh := hh) hy rfl ?_
  intro p e s m args below meth c s₁ B hml hv
  obtain ⟨rfl, h0, hH, hV, hZ⟩ := hv
  have hl := lv_entry av (n := maxL) hL
  rw [lg_entry_eq]
  exact body p e s m below meth c _ ⟨B.exec, B.bytes, hml, findClass_of_methodNamed B.named, B.notSynchronized, h0, hV, hZ⟩ B.returns (vx_table (x := y) B (atoms_spec (ws := [Cond.codeWith y bytes maxL ret hh]) B.pre _ List.mem_cons_self)) ⟨hH, va_S.rf⟩ hl
section SLU
variable {p : Program} {l : Launch} {e : Env} {R : Room} {s : State} {m : MethodId} {args a : Array Value} {below : List Frame} {meth : Method} {c : Code} {H : Heap} {locs : List Loc} {cells slots mc ms : Nat} {Q : State → Prop}
variable {cc : ByteArray} {nL pc : Nat} {ls : Array Slot} {rest st0 : List Value} {Γ : sl_G} {own : String} {g : sl_W} {Qc : Array Value → State → Outcome → State → Prop}
/-- a static callee with a table -/
theorem sl_runSW {y : MethodName} {bytes : ByteArray} {maxL n index : Nat} {ret : Option FieldType} {hh : List (Nat × Nat × Nat × Nat)} {rm : Room} {As : List Value} (hC : sl_C Γ p s m meth c cc nL own) (hG : sl_I Γ g s H locs) (hM : Met l y [Cond.codeWith y bytes maxL ret hh] rm (va_Pc As (sl_B Γ g)) Qc mc ms (sl_A Γ)) (hm : sl_mw y bytes maxL ret hh n) (w1 : Cond.methodLink own index y ∈ lw_tbl) (hrc : rm.cells = mc) (hrs : rm.slots = ms) (hR : rm.frames + 1 ≤ R.frames ∧ 8 + (maxL + 11) + rm.locals ≤ R.locals) (hn : As.length = n) (hsz : ls.size = nL) (hst : st0 = As.reverse ++ rest) (hW : (rest.map fun v => v.category).sum ≤ 8) (hdg : decode cc pc = .ok (.invokestatic index, 3)) (hf : cells + mc ≤ R.cells ∧ slots + ms ≤ R.slots) :
    va_Run p l e R s m args below meth c H locs cells slots mc ms (F0 m pc ls st0) rest (Qc As.toArray) (sl_A Γ) := by
  refine vx_runSW (sl_fix hC) hM ⟨⟨hrc, hrs, hR.1, hR.2, pay_in (args := args) (big := [Cond.codeWith y bytes maxL ret hh]) (sl_word hC hm.2.2.1 rfl) (sl_gi rfl), List.mem_singleton.mpr rfl⟩, sl_tab hC hm.2.2.1 rfl, sl_tab hC hm.2.2.2 rfl, ⟨hm.1.1, hm.1.2.1⟩, fun sig h => ?_, sl_tab hC w1 rfl, sl_tab hC hm.2.1 rfl⟩ (sl_preS hC hG) rfl hn hsz hst (lv_room hW) hdg hf
  have h2 := hm.1.2.2
  rw [h] at h2
  exact (Option.some.inj h2).symm
end SLU
end
section
/-! more rows: places as numbers; truth as a number -/
def sl_bi (b : Bool) : Int32 := if b then 1 else 0
theorem sl_bF {b : Bool} (h : sl_bi b = 0) : b = false := by cases b; rfl; exact absurd h (by decide)
theorem sl_bT {b : Bool} (h : ¬ sl_bi b = 0) : b = true := by cases b; exact absurd rfl h; rfl
theorem sl_nb (b : Bool) : narrow .boolean (.int (sl_bi b)) = .int (sl_bi b) := by cases b <;> rfl
theorem sl_fb (b : Bool) : fits .boolean (.int (sl_bi b)) = true := by cases b <;> rfl
theorem sl_vb (b : Bool) : vp_nar .boolean (sl_bi b) = sl_bi b := by cases b <;> rfl
theorem sl_leI {a b : Int32} : a ≤ b ↔ a.toInt ≤ b.toInt := Int32.le_iff_toInt_le
theorem sl_ltI {a b : Int32} : a < b ↔ a.toInt < b.toInt := Int32.lt_iff_toInt_lt
theorem sl_i0 : (0 : Int32).toInt = 0 := rfl
theorem sl_i1 : (1 : Int32).toInt = 1 := rfl
theorem sl_i2 : (2 : Int32).toInt = 2 := rfl
theorem sl_i3 : (3 : Int32).toInt = 3 := rfl
theorem sl_i4 : (4 : Int32).toInt = 4 := rfl
theorem sl_i15 : (15 : Int32).toInt = 15 := by decide
theorem sl_i119 : (119 : Int32).toInt = 119 := by decide
theorem sl_i120 : (120 : Int32).toInt = 120 := by decide
theorem sl_i1000 : (1000 : Int32).toInt = 1000 := by decide
theorem sl_im1000 : (-1000 : Int32).toInt = -1000 := by decide
theorem sl_im1 : (-1 : Int32).toInt = -1 := by decide
theorem sl_im2 : (-2 : Int32).toInt = -2 := by decide
def sl_in (v lo hi : Int32) : Bool := decide (lo ≤ v) && decide (v ≤ hi)
theorem sl_in_t {v lo hi : Int32} (h1 : lo.toInt ≤ v.toInt) (h2 : v.toInt ≤ hi.toInt) : sl_in v lo hi = true := by simp [sl_in, sl_leI, h1, h2]
theorem sl_in_f {v lo hi : Int32} (h : v.toInt < lo.toInt ∨ hi.toInt < v.toInt) : sl_in v lo hi = false := by
  rw [sl_in, Bool.and_eq_false_iff, decide_eq_false_iff_not, decide_eq_false_iff_not, sl_leI, sl_leI]
  omega
theorem sl_in_iff {v lo hi : Int32} : sl_in v lo hi = true ↔ lo.toInt ≤ v.toInt ∧ v.toInt ≤ hi.toInt := by simp [sl_in, sl_leI]
theorem sl_in_iff' {v lo hi : Int32} : sl_in v lo hi = false ↔ v.toInt < lo.toInt ∨ hi.toInt < v.toInt := by
  cases h : sl_in v lo hi
  · refine ⟨fun _ => ?_, fun _ => rfl⟩
    by_cases h1 : lo.toInt ≤ v.toInt
    · by_cases h2 : v.toInt ≤ hi.toInt
      · rw [sl_in_t h1 h2] at h; cases h
      · omega
    · omega
  · rw [sl_in_iff] at h
    exact ⟨fun z => (by cases z), fun z => (by omega)⟩
theorem sl_nat {v : Int32} {n : Nat} (h1 : 0 ≤ v.toInt) (h2 : v.toInt ≤ n) (hn : n < 2 ^ 31) : ∃ j : Nat, j ≤ n ∧ v = nI j := by
  refine ⟨v.toInt.toNat, by omega, ?_⟩
  rw [← Int32.toInt_inj, nI_toInt (by omega)]
  omega
theorem sl_inN {v : Int32} {hi : Int32} {n : Nat} (h : sl_in v 0 hi = true) (hn : hi.toInt = n) (hn2 : n < 2 ^ 31) : ∃ j : Nat, j ≤ n ∧ v = nI j := by
  rw [sl_in_iff, sl_i0, hn] at h
  exact sl_nat h.1 h.2 hn2
theorem sl_nIin {j : Nat} {hi : Int32} {n : Nat} (hn : hi.toInt = n) (h : j ≤ n) (hn2 : n < 2 ^ 31) : sl_in (nI j) 0 hi = true := sl_in_t (by rw [nI_toInt (by omega), sl_i0]; omega) (by rw [nI_toInt (by omega), hn]; omega)
theorem sl_mul (a b : Nat) : nI a * nI b = nI (a * b) := pk_mul a b
theorem sl_up_same {g : sl_W} {k : Nat} {q : Nat × va_E} (h : g k = some q) : sl_up g k q = g := by
  funext j
  by_cases hj : j = k
  · rw [hj, sl_up_s, h]
  · exact sl_up_n g q hj
theorem sl_up_up (g : sl_W) (k : Nat) (p q : Nat × va_E) : sl_up (sl_up g k p) k q = sl_up g k q := by
  funext j
  by_cases hj : j = k
  · rw [hj, sl_up_s, sl_up_s]
  · rw [sl_up_n _ _ hj, sl_up_n _ _ hj, sl_up_n _ _ hj]
section SLM
variable {p : Program} {l : Launch} {e : Env} {R : Room} {s : State} {m : MethodId} {args : Array Value} {below : List Frame} {meth : Method} {c : Code} {H : Heap} {locs : List Loc} {cells slots : Nat} {Q : State → Prop}
variable {cc : ByteArray} {nL pc : Nat} {ls : Array Slot} {rest st0 : List Value} {Γ : sl_G} {own : String} {g : sl_W}
theorem sl_topi {x y : Int32} (h : x = y) (kk : W p l e R s m args below meth c H locs cells slots Q (F0 m pc ls (.int y :: rest))) : W p l e R s m args below meth c H locs cells slots Q (F0 m pc ls (.int x :: rest)) := by rw [h]; exact kk
theorem sl_ialdN (hC : sl_C Γ p s m meth c cc nL own) (hG : sl_I Γ g s H locs) (k : Nat) {a n : Nat} {f : Nat → Int32} (he : g k = some (a, .inl (Γ.2.1 0, n, .inl f))) {i : Int32} {j : Nat} (hi : i = nI j) (hj : j < n) (hn : n ≤ 65536) (hdg : decode cc pc = .ok (.iaload, 1))
    (kk : W p l e R s m args below meth c H locs cells slots Q (F0 m (pc + 1) ls (.int (f j) :: rest))) : W p l e R s m args below meth c H locs cells slots Q (F0 m pc ls (.int i :: .ref a :: rest)) := by
  subst hi
  refine sl_iald hC hG k he (vp_in_nI hj (by omega)) hdg ?_
  rw [nI_clamp (by omega)]
  exact kk
theorem sl_zaldN (hC : sl_C Γ p s m meth c cc nL own) (hG : sl_I Γ g s H locs) (k : Nat) {a n : Nat} {f : Nat → Int32} (he : g k = some (a, .inl (Γ.2.1 1, n, .inl f))) {i : Int32} {j : Nat} (hi : i = nI j) (hj : j < n) (hn : n ≤ 65536) (hdg : decode cc pc = .ok (.baload, 1))
    (kk : W p l e R s m args below meth c H locs cells slots Q (F0 m (pc + 1) ls (.int (f j) :: rest))) : W p l e R s m args below meth c H locs cells slots Q (F0 m pc ls (.int i :: .ref a :: rest)) := by
  subst hi
  refine sl_zald hC hG k he (vp_in_nI hj (by omega)) hdg ?_
  rw [nI_clamp (by omega)]
  exact kk
theorem sl_aldqN (hC : sl_C Γ p s m meth c cc nL own) (hG : sl_I Γ g s H locs) (k : Nat) {a n : Nat} {f : Nat → Option Nat} (he : g k = some (a, .inl (Γ.2.1 2, n, .inr (.inr (.inr (.inr f)))))) {i : Int32} {j : Nat} (hi : i = nI j) (hj : j < n) (hn : n ≤ 65536) (hdg : decode cc pc = .ok (.aaload, 1))
    (kk : W p l e R s m args below meth c H locs cells slots Q (F0 m (pc + 1) ls (va_rf (f j) :: rest))) : W p l e R s m args below meth c H locs cells slots Q (F0 m pc ls (.int i :: .ref a :: rest)) := by
  subst hi
  refine sl_aldq hC hG k he (vp_in_nI hj (by omega)) hdg ?_
  rw [nI_clamp (by omega)]
  exact kk
theorem sl_iastN (hC : sl_C Γ p s m meth c cc nL own) (hG : sl_I Γ g s H locs) (k : Nat) {a n : Nat} {f : Nat → Int32} (he : g k = some (a, .inl (Γ.2.1 0, n, .inl f))) {i : Int32} {j : Nat} {x : Int32} (hi : i = nI j) (hj : j < n) (hn : n ≤ 65536) (hdg : decode cc pc = .ok (.iastore, 1))
    (kk : ∀ (H1 : Heap) (locs1 : List Loc), sl_I Γ (sl_up g k (a, .inl (Γ.2.1 0, n, .inl (upd f j x)))) s H1 locs1 → W p l e R s m args below meth c H1 locs1 cells slots Q (F0 m (pc + 1) ls rest)) : W p l e R s m args below meth c H locs cells slots Q (F0 m pc ls (.int x :: .int i :: .ref a :: rest)) := by
  subst hi
  refine sl_iast hC hG k he (vp_in_nI hj (by omega)) hdg ?_
  rw [nI_clamp (by omega)]
  exact kk
theorem sl_zastN (hC : sl_C Γ p s m meth c cc nL own) (hG : sl_I Γ g s H locs) (k : Nat) {a n : Nat} {f : Nat → Int32} (he : g k = some (a, .inl (Γ.2.1 1, n, .inl f))) {i : Int32} {j : Nat} {x : Int32} (hx : vp_nar .boolean x = x) (hi : i = nI j) (hj : j < n) (hn : n ≤ 65536) (hdg : decode cc pc = .ok (.bastore, 1))
    (kk : ∀ (H1 : Heap) (locs1 : List Loc), sl_I Γ (sl_up g k (a, .inl (Γ.2.1 1, n, .inl (upd f j x)))) s H1 locs1 → W p l e R s m args below meth c H1 locs1 cells slots Q (F0 m (pc + 1) ls rest)) : W p l e R s m args below meth c H locs cells slots Q (F0 m pc ls (.int x :: .int i :: .ref a :: rest)) := by
  subst hi
  refine sl_zast hC hG k he hx (vp_in_nI hj (by omega)) hdg ?_
  rw [nI_clamp (by omega)]
  exact kk
theorem sl_astqN (hC : sl_C Γ p s m meth c cc nL own) (hG : sl_I Γ g s H locs) (k k2 : Nat) {a n v : Nat} {vs : List Value} {f : Nat → Option Nat} (he : g k = some (a, .inl (Γ.2.1 2, n, .inr (.inr (.inr (.inr f)))))) (hv : g k2 = some (v, .inr (1, vs))) {i : Int32} {j : Nat} (hi : i = nI j) (hj : j < n) (hn : n ≤ 65536) (hdg : decode cc pc = .ok (.aastore, 1))
    (kk : ∀ (H1 : Heap) (locs1 : List Loc), sl_I Γ (sl_up g k (a, .inl (Γ.2.1 2, n, .inr (.inr (.inr (.inr (va_up f j (some v)))))))) s H1 locs1 → W p l e R s m args below meth c H1 locs1 cells slots Q (F0 m (pc + 1) ls rest)) : W p l e R s m args below meth c H locs cells slots Q (F0 m pc ls (.ref v :: .int i :: .ref a :: rest)) := by
  subst hi
  refine sl_astq hC hG k k2 he hv (vp_in_nI hj (by omega)) hdg ?_
  rw [nI_clamp (by omega)]
  exact kk
end SLM
theorem sl_f0 : ∀ j, j < 1 → defaultValue (tyX0 j) = vp_V [.null] j := fun j hj => by rcases (show j = 0 by omega) with rfl <;> rfl
theorem sl_f1 : ∀ j, j < 8 → defaultValue (tyX1 j) = vp_V [.int 0, .int 0, .int 0, .int 0, .int 0, .int 0, .null, .int 0] j := fun j hj => by rcases (show j = 0 ∨ j = 1 ∨ j = 2 ∨ j = 3 ∨ j = 4 ∨ j = 5 ∨ j = 6 ∨ j = 7 by omega) with rfl | rfl | rfl | rfl | rfl | rfl | rfl | rfl <;> rfl
theorem sl_f2 : ∀ j, j < 3 → defaultValue (tyX2 j) = vp_V [.null, .null, .int 0] j := fun j hj => by rcases (show j = 0 ∨ j = 1 ∨ j = 2 by omega) with rfl | rfl | rfl <;> rfl
theorem sl_f3 : ∀ j, j < 1 → defaultValue (tyX3 j) = vp_V [.null] j := fun j hj => by rcases (show j = 0 by omega) with rfl <;> rfl
theorem sl_f4 : ∀ j, j < 8 → defaultValue (tyX4 j) = vp_V [.null, .null, .null, .null, .int 0, .int 0, .int 0, .int 0] j := fun j hj => by rcases (show j = 0 ∨ j = 1 ∨ j = 2 ∨ j = 3 ∨ j = 4 ∨ j = 5 ∨ j = 6 ∨ j = 7 by omega) with rfl | rfl | rfl | rfl | rfl | rfl | rfl | rfl <;> rfl
end
section
/-! leaves -/
def sl_has (ss s : Int32) : Bool := decide ((ss >>> (s &&& 31)) &&& 1 = 1)
set_option maxHeartbeats 4000000 in
set_option maxRecDepth 100000 in
theorem kX4_isStream (l : Launch) (Γ : sl_G) (g : sl_W) (x : Int32) : Met l yX4_isStream [Cond.code yX4_isStream cX4_isStream 1 (some .boolean)] ({ frames := 0, cells := 0, slots := 0, locals := 0 } : Room) (va_Pc [.int x] (sl_B Γ g)) (sl_Qi Γ (fun r (_ : Unit) => r = sl_bi (sl_in x 0 3)) (fun _ => g)) 0 0 (sl_A Γ) := by
  refine sl_ent (by decide) (Nat.le_of_ble_eq_true rfl) ?_
  intro p e s m below meth c ls hC hr hin hG hl
  have hx := hC.1
  have hb := hC.2.1
  have hl : lv_has ls 1 [(0, .int x)] := hl
  refine lv_iload_n hx hb dX4_isStream_0 rfl (lv_at hl 0 rfl) ?_
  refine lv_if_lt (tgt := 13) hx hb dX4_isStream_1 (by decide) (fun c_1 => ?_) (fun c_1 => ?_)
  · refine lv_iconst (v := 0) hx hb dX4_isStream_13 (by decide) ?_
    exact sl_rz (v := 0) hC hr rfl hG () (by show _ = sl_bi (sl_in x 0 3); rw [sl_in_f (by simp only [sl_leI, sl_ltI, sl_i0, sl_i1, sl_i2, sl_i3, sl_i4, sl_i15, sl_i119, sl_i120, sl_i1000, sl_im1000] at *; omega)]; rfl) rfl (Nat.le_of_ble_eq_true rfl) (Nat.le_of_ble_eq_true rfl) dX4_isStream_14
  · refine lv_iload_n hx hb dX4_isStream_4 rfl (lv_at hl 0 rfl) ?_
    refine lv_iconst (v := 4) hx hb dX4_isStream_5 (by decide) ?_
    refine lv_icmp_ge (tgt := 13) hx hb dX4_isStream_6 (by decide) (fun c_6 => ?_) (fun c_6 => ?_)
    · refine lv_iconst (v := 0) hx hb dX4_isStream_13 (by decide) ?_
      exact sl_rz (v := 0) hC hr rfl hG () (by show _ = sl_bi (sl_in x 0 3); rw [sl_in_f (by simp only [sl_leI, sl_ltI, sl_i0, sl_i1, sl_i2, sl_i3, sl_i4, sl_i15, sl_i119, sl_i120, sl_i1000, sl_im1000] at *; omega)]; rfl) rfl (Nat.le_of_ble_eq_true rfl) (Nat.le_of_ble_eq_true rfl) dX4_isStream_14
    · refine lv_iconst (v := 1) hx hb dX4_isStream_9 (by decide) ?_
      refine lv_goto (tgt := 14) hx hb dX4_isStream_10 (by decide) ?_
      exact sl_rz (v := 1) hC hr rfl hG () (by show _ = sl_bi (sl_in x 0 3); rw [sl_in_t (by simp only [sl_leI, sl_ltI, sl_i0, sl_i1, sl_i2, sl_i3, sl_i4, sl_i15, sl_i119, sl_i120, sl_i1000, sl_im1000] at *; omega) (by simp only [sl_leI, sl_ltI, sl_i0, sl_i1, sl_i2, sl_i3, sl_i4, sl_i15, sl_i119, sl_i120, sl_i1000, sl_im1000] at *; omega)]; rfl) rfl (Nat.le_of_ble_eq_true rfl) (Nat.le_of_ble_eq_true rfl) dX4_isStream_14
set_option maxHeartbeats 4000000 in
set_option maxRecDepth 100000 in
theorem kX4_isSetOfStreams (l : Launch) (Γ : sl_G) (g : sl_W) (x : Int32) : Met l yX4_isSetOfStreams [Cond.code yX4_isSetOfStreams cX4_isSetOfStreams 1 (some .boolean)] ({ frames := 0, cells := 0, slots := 0, locals := 0 } : Room) (va_Pc [.int x] (sl_B Γ g)) (sl_Qi Γ (fun r (_ : Unit) => r = sl_bi (sl_in x 1 15)) (fun _ => g)) 0 0 (sl_A Γ) := by
  refine sl_ent (by decide) (Nat.le_of_ble_eq_true rfl) ?_
  intro p e s m below meth c ls hC hr hin hG hl
  have hx := hC.1
  have hb := hC.2.1
  have hl : lv_has ls 1 [(0, .int x)] := hl
  refine lv_iload_n hx hb dX4_isSetOfStreams_0 rfl (lv_at hl 0 rfl) ?_
  refine lv_iconst (v := 1) hx hb dX4_isSetOfStreams_1 (by decide) ?_
  refine lv_icmp_lt (tgt := 15) hx hb dX4_isSetOfStreams_2 (by decide) (fun c_2 => ?_) (fun c_2 => ?_)
  · refine lv_iconst (v := 0) hx hb dX4_isSetOfStreams_15 (by decide) ?_
    exact sl_rz (v := 0) hC hr rfl hG () (by show _ = sl_bi (sl_in x 1 15); rw [sl_in_f (by simp only [sl_leI, sl_ltI, sl_i0, sl_i1, sl_i2, sl_i3, sl_i4, sl_i15, sl_i119, sl_i120, sl_i1000, sl_im1000] at *; omega)]; rfl) rfl (Nat.le_of_ble_eq_true rfl) (Nat.le_of_ble_eq_true rfl) dX4_isSetOfStreams_16
  · refine lv_iload_n hx hb dX4_isSetOfStreams_5 rfl (lv_at hl 0 rfl) ?_
    refine lv_bipush (v := 15) hx hb dX4_isSetOfStreams_6 (by decide) ?_
    refine lv_icmp_gt (tgt := 15) hx hb dX4_isSetOfStreams_8 (by decide) (fun c_8 => ?_) (fun c_8 => ?_)
    · refine lv_iconst (v := 0) hx hb dX4_isSetOfStreams_15 (by decide) ?_
      exact sl_rz (v := 0) hC hr rfl hG () (by show _ = sl_bi (sl_in x 1 15); rw [sl_in_f (by simp only [sl_leI, sl_ltI, sl_i0, sl_i1, sl_i2, sl_i3, sl_i4, sl_i15, sl_i119, sl_i120, sl_i1000, sl_im1000] at *; omega)]; rfl) rfl (Nat.le_of_ble_eq_true rfl) (Nat.le_of_ble_eq_true rfl) dX4_isSetOfStreams_16
    · refine lv_iconst (v := 1) hx hb dX4_isSetOfStreams_11 (by decide) ?_
      refine lv_goto (tgt := 16) hx hb dX4_isSetOfStreams_12 (by decide) ?_
      exact sl_rz (v := 1) hC hr rfl hG () (by show _ = sl_bi (sl_in x 1 15); rw [sl_in_t (by simp only [sl_leI, sl_ltI, sl_i0, sl_i1, sl_i2, sl_i3, sl_i4, sl_i15, sl_i119, sl_i120, sl_i1000, sl_im1000] at *; omega) (by simp only [sl_leI, sl_ltI, sl_i0, sl_i1, sl_i2, sl_i3, sl_i4, sl_i15, sl_i119, sl_i120, sl_i1000, sl_im1000] at *; omega)]; rfl) rfl (Nat.le_of_ble_eq_true rfl) (Nat.le_of_ble_eq_true rfl) dX4_isSetOfStreams_16
set_option maxHeartbeats 4000000 in
set_option maxRecDepth 100000 in
theorem kX4_isAmount (l : Launch) (Γ : sl_G) (g : sl_W) (x : Int32) : Met l yX4_isAmount [Cond.code yX4_isAmount cX4_isAmount 1 (some .boolean)] ({ frames := 0, cells := 0, slots := 0, locals := 0 } : Room) (va_Pc [.int x] (sl_B Γ g)) (sl_Qi Γ (fun r (_ : Unit) => r = sl_bi (sl_in x (-1000) 1000)) (fun _ => g)) 0 0 (sl_A Γ) := by
  refine sl_ent (by decide) (Nat.le_of_ble_eq_true rfl) ?_
  intro p e s m below meth c ls hC hr hin hG hl
  have hx := hC.1
  have hb := hC.2.1
  have hl : lv_has ls 1 [(0, .int x)] := hl
  refine lv_iload_n hx hb dX4_isAmount_0 rfl (lv_at hl 0 rfl) ?_
  refine lv_sipush (v := (-1000)) hx hb dX4_isAmount_1 (by decide) ?_
  refine lv_icmp_lt (tgt := 18) hx hb dX4_isAmount_4 (by decide) (fun c_4 => ?_) (fun c_4 => ?_)
  · refine lv_iconst (v := 0) hx hb dX4_isAmount_18 (by decide) ?_
    exact sl_rz (v := 0) hC hr rfl hG () (by show _ = sl_bi (sl_in x (-1000) 1000); rw [sl_in_f (by simp only [sl_leI, sl_ltI, sl_i0, sl_i1, sl_i2, sl_i3, sl_i4, sl_i15, sl_i119, sl_i120, sl_i1000, sl_im1000] at *; omega)]; rfl) rfl (Nat.le_of_ble_eq_true rfl) (Nat.le_of_ble_eq_true rfl) dX4_isAmount_19
  · refine lv_iload_n hx hb dX4_isAmount_7 rfl (lv_at hl 0 rfl) ?_
    refine lv_sipush (v := 1000) hx hb dX4_isAmount_8 (by decide) ?_
    refine lv_icmp_gt (tgt := 18) hx hb dX4_isAmount_11 (by decide) (fun c_11 => ?_) (fun c_11 => ?_)
    · refine lv_iconst (v := 0) hx hb dX4_isAmount_18 (by decide) ?_
      exact sl_rz (v := 0) hC hr rfl hG () (by show _ = sl_bi (sl_in x (-1000) 1000); rw [sl_in_f (by simp only [sl_leI, sl_ltI, sl_i0, sl_i1, sl_i2, sl_i3, sl_i4, sl_i15, sl_i119, sl_i120, sl_i1000, sl_im1000] at *; omega)]; rfl) rfl (Nat.le_of_ble_eq_true rfl) (Nat.le_of_ble_eq_true rfl) dX4_isAmount_19
    · refine lv_iconst (v := 1) hx hb dX4_isAmount_14 (by decide) ?_
      refine lv_goto (tgt := 19) hx hb dX4_isAmount_15 (by decide) ?_
      exact sl_rz (v := 1) hC hr rfl hG () (by show _ = sl_bi (sl_in x (-1000) 1000); rw [sl_in_t (by simp only [sl_leI, sl_ltI, sl_i0, sl_i1, sl_i2, sl_i3, sl_i4, sl_i15, sl_i119, sl_i120, sl_i1000, sl_im1000] at *; omega) (by simp only [sl_leI, sl_ltI, sl_i0, sl_i1, sl_i2, sl_i3, sl_i4, sl_i15, sl_i119, sl_i120, sl_i1000, sl_im1000] at *; omega)]; rfl) rfl (Nat.le_of_ble_eq_true rfl) (Nat.le_of_ble_eq_true rfl) dX4_isAmount_19
set_option maxHeartbeats 4000000 in
set_option maxRecDepth 100000 in
theorem kX4_isPosition (l : Launch) (Γ : sl_G) (g : sl_W) (x : Int32) : Met l yX4_isPosition [Cond.code yX4_isPosition cX4_isPosition 1 (some .boolean)] ({ frames := 0, cells := 0, slots := 0, locals := 0 } : Room) (va_Pc [.int x] (sl_B Γ g)) (sl_Qi Γ (fun r (_ : Unit) => r = sl_bi (sl_in x 0 119)) (fun _ => g)) 0 0 (sl_A Γ) := by
  refine sl_ent (by decide) (Nat.le_of_ble_eq_true rfl) ?_
  intro p e s m below meth c ls hC hr hin hG hl
  have hx := hC.1
  have hb := hC.2.1
  have hl : lv_has ls 1 [(0, .int x)] := hl
  refine lv_iload_n hx hb dX4_isPosition_0 rfl (lv_at hl 0 rfl) ?_
  refine lv_if_lt (tgt := 14) hx hb dX4_isPosition_1 (by decide) (fun c_1 => ?_) (fun c_1 => ?_)
  · refine lv_iconst (v := 0) hx hb dX4_isPosition_14 (by decide) ?_
    exact sl_rz (v := 0) hC hr rfl hG () (by show _ = sl_bi (sl_in x 0 119); rw [sl_in_f (by simp only [sl_leI, sl_ltI, sl_i0, sl_i1, sl_i2, sl_i3, sl_i4, sl_i15, sl_i119, sl_i120, sl_i1000, sl_im1000] at *; omega)]; rfl) rfl (Nat.le_of_ble_eq_true rfl) (Nat.le_of_ble_eq_true rfl) dX4_isPosition_15
  · refine lv_iload_n hx hb dX4_isPosition_4 rfl (lv_at hl 0 rfl) ?_
    refine lv_bipush (v := 120) hx hb dX4_isPosition_5 (by decide) ?_
    refine lv_icmp_ge (tgt := 14) hx hb dX4_isPosition_7 (by decide) (fun c_7 => ?_) (fun c_7 => ?_)
    · refine lv_iconst (v := 0) hx hb dX4_isPosition_14 (by decide) ?_
      exact sl_rz (v := 0) hC hr rfl hG () (by show _ = sl_bi (sl_in x 0 119); rw [sl_in_f (by simp only [sl_leI, sl_ltI, sl_i0, sl_i1, sl_i2, sl_i3, sl_i4, sl_i15, sl_i119, sl_i120, sl_i1000, sl_im1000] at *; omega)]; rfl) rfl (Nat.le_of_ble_eq_true rfl) (Nat.le_of_ble_eq_true rfl) dX4_isPosition_15
    · refine lv_iconst (v := 1) hx hb dX4_isPosition_10 (by decide) ?_
      refine lv_goto (tgt := 15) hx hb dX4_isPosition_11 (by decide) ?_
      exact sl_rz (v := 1) hC hr rfl hG () (by show _ = sl_bi (sl_in x 0 119); rw [sl_in_t (by simp only [sl_leI, sl_ltI, sl_i0, sl_i1, sl_i2, sl_i3, sl_i4, sl_i15, sl_i119, sl_i120, sl_i1000, sl_im1000] at *; omega) (by simp only [sl_leI, sl_ltI, sl_i0, sl_i1, sl_i2, sl_i3, sl_i4, sl_i15, sl_i119, sl_i120, sl_i1000, sl_im1000] at *; omega)]; rfl) rfl (Nat.le_of_ble_eq_true rfl) (Nat.le_of_ble_eq_true rfl) dX4_isPosition_15
set_option maxHeartbeats 4000000 in
set_option maxRecDepth 100000 in
theorem kX4_isReplica (l : Launch) (Γ : sl_G) (g : sl_W) (x : Int32) : Met l yX4_isReplica [Cond.code yX4_isReplica cX4_isReplica 1 (some .boolean)] ({ frames := 0, cells := 0, slots := 0, locals := 0 } : Room) (va_Pc [.int x] (sl_B Γ g)) (sl_Qi Γ (fun r (_ : Unit) => r = sl_bi (sl_in x 0 2)) (fun _ => g)) 0 0 (sl_A Γ) := by
  refine sl_ent (by decide) (Nat.le_of_ble_eq_true rfl) ?_
  intro p e s m below meth c ls hC hr hin hG hl
  have hx := hC.1
  have hb := hC.2.1
  have hl : lv_has ls 1 [(0, .int x)] := hl
  refine lv_iload_n hx hb dX4_isReplica_0 rfl (lv_at hl 0 rfl) ?_
  refine lv_if_lt (tgt := 13) hx hb dX4_isReplica_1 (by decide) (fun c_1 => ?_) (fun c_1 => ?_)
  · refine lv_iconst (v := 0) hx hb dX4_isReplica_13 (by decide) ?_
    exact sl_rz (v := 0) hC hr rfl hG () (by show _ = sl_bi (sl_in x 0 2); rw [sl_in_f (by simp only [sl_leI, sl_ltI, sl_i0, sl_i1, sl_i2, sl_i3, sl_i4, sl_i15, sl_i119, sl_i120, sl_i1000, sl_im1000] at *; omega)]; rfl) rfl (Nat.le_of_ble_eq_true rfl) (Nat.le_of_ble_eq_true rfl) dX4_isReplica_14
  · refine lv_iload_n hx hb dX4_isReplica_4 rfl (lv_at hl 0 rfl) ?_
    refine lv_iconst (v := 3) hx hb dX4_isReplica_5 (by decide) ?_
    refine lv_icmp_ge (tgt := 13) hx hb dX4_isReplica_6 (by decide) (fun c_6 => ?_) (fun c_6 => ?_)
    · refine lv_iconst (v := 0) hx hb dX4_isReplica_13 (by decide) ?_
      exact sl_rz (v := 0) hC hr rfl hG () (by show _ = sl_bi (sl_in x 0 2); rw [sl_in_f (by simp only [sl_leI, sl_ltI, sl_i0, sl_i1, sl_i2, sl_i3, sl_i4, sl_i15, sl_i119, sl_i120, sl_i1000, sl_im1000] at *; omega)]; rfl) rfl (Nat.le_of_ble_eq_true rfl) (Nat.le_of_ble_eq_true rfl) dX4_isReplica_14
    · refine lv_iconst (v := 1) hx hb dX4_isReplica_9 (by decide) ?_
      refine lv_goto (tgt := 14) hx hb dX4_isReplica_10 (by decide) ?_
      exact sl_rz (v := 1) hC hr rfl hG () (by show _ = sl_bi (sl_in x 0 2); rw [sl_in_t (by simp only [sl_leI, sl_ltI, sl_i0, sl_i1, sl_i2, sl_i3, sl_i4, sl_i15, sl_i119, sl_i120, sl_i1000, sl_im1000] at *; omega) (by simp only [sl_leI, sl_ltI, sl_i0, sl_i1, sl_i2, sl_i3, sl_i4, sl_i15, sl_i119, sl_i120, sl_i1000, sl_im1000] at *; omega)]; rfl) rfl (Nat.le_of_ble_eq_true rfl) (Nat.le_of_ble_eq_true rfl) dX4_isReplica_14
set_option maxHeartbeats 4000000 in
set_option maxRecDepth 100000 in
theorem kX4_isPointerNumber (l : Launch) (Γ : sl_G) (g : sl_W) (x : Int32) : Met l yX4_isPointerNumber [Cond.code yX4_isPointerNumber cX4_isPointerNumber 1 (some .boolean)] ({ frames := 0, cells := 0, slots := 0, locals := 0 } : Room) (va_Pc [.int x] (sl_B Γ g)) (sl_Qi Γ (fun r (_ : Unit) => r = sl_bi (sl_in x 0 3)) (fun _ => g)) 0 0 (sl_A Γ) := by
  refine sl_ent (by decide) (Nat.le_of_ble_eq_true rfl) ?_
  intro p e s m below meth c ls hC hr hin hG hl
  have hx := hC.1
  have hb := hC.2.1
  have hl : lv_has ls 1 [(0, .int x)] := hl
  refine lv_iload_n hx hb dX4_isPointerNumber_0 rfl (lv_at hl 0 rfl) ?_
  refine lv_if_lt (tgt := 13) hx hb dX4_isPointerNumber_1 (by decide) (fun c_1 => ?_) (fun c_1 => ?_)
  · refine lv_iconst (v := 0) hx hb dX4_isPointerNumber_13 (by decide) ?_
    exact sl_rz (v := 0) hC hr rfl hG () (by show _ = sl_bi (sl_in x 0 3); rw [sl_in_f (by simp only [sl_leI, sl_ltI, sl_i0, sl_i1, sl_i2, sl_i3, sl_i4, sl_i15, sl_i119, sl_i120, sl_i1000, sl_im1000] at *; omega)]; rfl) rfl (Nat.le_of_ble_eq_true rfl) (Nat.le_of_ble_eq_true rfl) dX4_isPointerNumber_14
  · refine lv_iload_n hx hb dX4_isPointerNumber_4 rfl (lv_at hl 0 rfl) ?_
    refine lv_iconst (v := 4) hx hb dX4_isPointerNumber_5 (by decide) ?_
    refine lv_icmp_ge (tgt := 13) hx hb dX4_isPointerNumber_6 (by decide) (fun c_6 => ?_) (fun c_6 => ?_)
    · refine lv_iconst (v := 0) hx hb dX4_isPointerNumber_13 (by decide) ?_
      exact sl_rz (v := 0) hC hr rfl hG () (by show _ = sl_bi (sl_in x 0 3); rw [sl_in_f (by simp only [sl_leI, sl_ltI, sl_i0, sl_i1, sl_i2, sl_i3, sl_i4, sl_i15, sl_i119, sl_i120, sl_i1000, sl_im1000] at *; omega)]; rfl) rfl (Nat.le_of_ble_eq_true rfl) (Nat.le_of_ble_eq_true rfl) dX4_isPointerNumber_14
    · refine lv_iconst (v := 1) hx hb dX4_isPointerNumber_9 (by decide) ?_
      refine lv_goto (tgt := 14) hx hb dX4_isPointerNumber_10 (by decide) ?_
      exact sl_rz (v := 1) hC hr rfl hG () (by show _ = sl_bi (sl_in x 0 3); rw [sl_in_t (by simp only [sl_leI, sl_ltI, sl_i0, sl_i1, sl_i2, sl_i3, sl_i4, sl_i15, sl_i119, sl_i120, sl_i1000, sl_im1000] at *; omega) (by simp only [sl_leI, sl_ltI, sl_i0, sl_i1, sl_i2, sl_i3, sl_i4, sl_i15, sl_i119, sl_i120, sl_i1000, sl_im1000] at *; omega)]; rfl) rfl (Nat.le_of_ble_eq_true rfl) (Nat.le_of_ble_eq_true rfl) dX4_isPointerNumber_14
set_option maxHeartbeats 4000000 in
set_option maxRecDepth 100000 in
theorem kX4_isIn (l : Launch) (Γ : sl_G) (g : sl_W) (x ss : Int32) : Met l yX4_isIn [Cond.code yX4_isIn cX4_isIn 2 (some .boolean)] ({ frames := 0, cells := 0, slots := 0, locals := 0 } : Room) (va_Pc [.int x, .int ss] (sl_B Γ g)) (sl_Qi Γ (fun r (_ : Unit) => r = sl_bi (sl_has ss x)) (fun _ => g)) 0 0 (sl_A Γ) := by
  refine sl_ent (by decide) (Nat.le_of_ble_eq_true rfl) ?_
  intro p e s m below meth c ls hC hr hin hG hl
  have hx := hC.1
  have hb := hC.2.1
  have hl : lv_has ls 2 [(0, .int x), (1, .int ss)] := hl
  refine lv_iload_n hx hb dX4_isIn_0 rfl (lv_at hl 1 rfl) ?_
  refine lv_iload_n hx hb dX4_isIn_1 rfl (lv_at hl 0 rfl) ?_
  refine lv_ishr hx hb dX4_isIn_2 ?_
  refine lv_iconst (v := 1) hx hb dX4_isIn_3 (by decide) ?_
  refine lv_iand hx hb dX4_isIn_4 ?_
  refine lv_iconst (v := 1) hx hb dX4_isIn_5 (by decide) ?_
  refine lv_icmp_ne (tgt := 13) hx hb dX4_isIn_6 (by decide) (fun c_6 => ?_) (fun c_6 => ?_)
  · refine lv_iconst (v := 0) hx hb dX4_isIn_13 (by decide) ?_
    exact sl_rz (v := 0) hC hr rfl hG () (by show _ = sl_bi (sl_has ss x); simp [sl_has, sl_bi, c_6]) rfl (Nat.le_of_ble_eq_true rfl) (Nat.le_of_ble_eq_true rfl) dX4_isIn_14
  · refine lv_iconst (v := 1) hx hb dX4_isIn_9 (by decide) ?_
    refine lv_goto (tgt := 14) hx hb dX4_isIn_10 (by decide) ?_
    exact sl_rz (v := 1) hC hr rfl hG () (by show _ = sl_bi (sl_has ss x); simp [sl_has, sl_bi, c_6]) rfl (Nat.le_of_ble_eq_true rfl) (Nat.le_of_ble_eq_true rfl) dX4_isIn_14
end
section
/-! the cells: what a cell holds, a write, how many are written, what is whole -/
def sl_cg (C : Nat → Int32) (r p : Int32) : Int32 := if sl_in r 0 2 = true ∧ sl_in p 0 119 = true then C (120 * r.toNatClampNeg + p.toNatClampNeg) else -2
def sl_cp (C : Nat → Int32) (r p v : Int32) : Nat → Int32 := if sl_in r 0 2 = true ∧ sl_in p 0 119 = true ∧ sl_cg C r p = -2 then upd C (120 * r.toNatClampNeg + p.toNatClampNeg) v else C
theorem sl_c2 {r : Int32} (h : sl_in r 0 2 = true) : ∃ a : Nat, a ≤ 2 ∧ r = nI a := sl_inN (n := 2) h rfl (by omega)
theorem sl_c3 {r : Int32} (h : sl_in r 0 3 = true) : ∃ a : Nat, a ≤ 3 ∧ r = nI a := sl_inN (n := 3) h rfl (by omega)
theorem sl_c119 {r : Int32} (h : sl_in r 0 119 = true) : ∃ a : Nat, a ≤ 119 ∧ r = nI a := sl_inN (n := 119) h sl_i119 (by omega)
theorem sl_cix {r p : Int32} (h1 : sl_in r 0 2 = true) (h2 : sl_in p 0 119 = true) : r * 120 + p = nI (120 * r.toNatClampNeg + p.toNatClampNeg) := by
  obtain ⟨a, ha, rfl⟩ := sl_c2 h1
  obtain ⟨b, hb, rfl⟩ := sl_c119 h2
  rw [nI_clamp (by omega), nI_clamp (by omega), show (120 : Int32) = nI 120 from rfl, pk_mul, nI_add, Nat.mul_comm]
theorem sl_cil {r p : Int32} (h1 : sl_in r 0 2 = true) (h2 : sl_in p 0 119 = true) : 120 * r.toNatClampNeg + p.toNatClampNeg < 360 := by
  obtain ⟨a, ha, rfl⟩ := sl_c2 h1
  obtain ⟨b, hb, rfl⟩ := sl_c119 h2
  rw [nI_clamp (by omega), nI_clamp (by omega)]
  omega
theorem sl_cgN (C : Nat → Int32) {a b : Nat} (ha : a < 3) (hb : b < 120) : sl_cg C (nI a) (nI b) = C (120 * a + b) := by
  rw [sl_cg, if_pos ⟨sl_nIin (n := 2) rfl (by omega) (by omega), sl_nIin (n := 119) sl_i119 (by omega) (by omega)⟩, nI_clamp (by omega), nI_clamp (by omega)]
theorem sl_cpN (C : Nat → Int32) {a b : Nat} (v : Int32) (ha : a < 3) (hb : b < 120) : sl_cp C (nI a) (nI b) v = if C (120 * a + b) = -2 then upd C (120 * a + b) v else C := by
  rw [sl_cp, sl_cgN C ha hb, nI_clamp (by omega), nI_clamp (by omega)]
  by_cases h : C (120 * a + b) = -2
  · rw [if_pos ⟨sl_nIin (n := 2) rfl (by omega) (by omega), sl_nIin (n := 119) sl_i119 (by omega) (by omega), h⟩, if_pos h]
  · rw [if_neg (fun z => h z.2.2), if_neg h]
/-- how many of the first k replicas' cells are written at b -/
def sl_cw (C : Nat → Int32) (b : Nat) : Nat → Nat
  | 0 => 0
  | k + 1 => sl_cw C b k + if C (120 * k + b) = -2 then 0 else 1
theorem sl_cw_le (C : Nat → Int32) (b : Nat) : ∀ k, sl_cw C b k ≤ k
  | 0 => Nat.le_refl 0
  | k + 1 => by have := sl_cw_le C b k; rw [sl_cw]; split <;> omega
def sl_wh (C : Nat → Int32) (b : Nat) : Bool := !decide (C b = -2) && !decide (C (120 + b) = -2) && !decide (C (240 + b) = -2)
theorem sl_cw3 (C : Nat → Int32) (b : Nat) : sl_cw C b 3 = 3 ↔ sl_wh C b = true := by
  have e : sl_cw C b 3 = 0 + (if C (120 * 0 + b) = -2 then 0 else 1) + (if C (120 * 1 + b) = -2 then 0 else 1) + (if C (120 * 2 + b) = -2 then 0 else 1) := rfl
  rw [e, sl_wh, show 120 * 0 + b = b by omega, show 120 * 1 + b = 120 + b by omega, show 120 * 2 + b = 240 + b by omega]
  by_cases h1 : C b = -2 <;> by_cases h2 : C (120 + b) = -2 <;> by_cases h3 : C (240 + b) = -2 <;> simp [h1, h2, h3]
/-- how many positions from the first on are whole, of the first n -/
def sl_kf (C : Nat → Int32) : Nat → Nat
  | 0 => 0
  | n + 1 => if sl_kf C n = n ∧ sl_wh C n = true then n + 1 else sl_kf C n
theorem sl_kf_le (C : Nat → Int32) : ∀ n, sl_kf C n ≤ n
  | 0 => Nat.le_refl 0
  | n + 1 => by have := sl_kf_le C n; rw [sl_kf]; split <;> omega
theorem sl_kf_at (C : Nat → Int32) {i : Nat} (h : sl_kf C i = i) (hw : sl_wh C i = false) : ∀ n, i ≤ n → sl_kf C n = i
  | 0, hn => by have : i = 0 := by omega
                subst this; exact h
  | n + 1, hn => by
    by_cases e : i = n + 1
    · subst e; exact h
    · have h1 := sl_kf_at C h hw n (by omega)
      rw [sl_kf, h1]
      by_cases e2 : i = n
      · subst e2
        rw [if_neg (fun z => by rw [hw] at z; cases z.2)]
      · rw [if_neg (fun z => e2 z.1)]
theorem sl_kf_wh (C : Nat → Int32) : ∀ n k, k < sl_kf C n → sl_wh C k = true
  | 0, k, h => absurd h (Nat.not_lt_zero k)
  | n + 1, k, h => by
    rw [sl_kf] at h
    split at h
    · rename_i z
      by_cases e : k = n
      · subst e; exact z.2
      · exact sl_kf_wh C n k (by omega)
    · exact sl_kf_wh C n k h
def sl_kn (C : Nat → Int32) : Nat := sl_kf C 120
theorem sl_kn_le (C : Nat → Int32) : sl_kn C ≤ 120 := sl_kf_le C 120
/-- behind the greatest of the first n positions with a cell that is written -/
def sl_ef (C : Nat → Int32) : Nat → Nat
  | 0 => 0
  | n + 1 => if sl_cw C n 3 = 0 then sl_ef C n else n + 1
theorem sl_ef_le (C : Nat → Int32) : ∀ n, sl_ef C n ≤ n
  | 0 => Nat.le_refl 0
  | n + 1 => by have := sl_ef_le C n; rw [sl_ef]; split <;> omega
theorem sl_dnT {q : Int32} {k : Nat} (hq : q = nI k + (-1)) (hk : k ≤ 120) (h : q < 0) : k = 0 := by
  cases k with
  | zero => rfl
  | succ k => rw [hq, pk_m1] at h; exact absurd h (nI_pos (by omega))
theorem sl_dnF {q : Int32} {k : Nat} (hq : q = nI k + (-1)) (h : ¬ q < 0) : ∃ i : Nat, k = i + 1 ∧ q = nI i := by
  cases k with
  | zero => subst hq; exact absurd (by decide) h
  | succ k => exact ⟨k, rfl, by rw [hq, pk_m1]⟩
set_option maxHeartbeats 4000000 in
set_option maxRecDepth 100000 in
theorem kX0_get (l : Launch) (Γ : sl_G) (g : sl_W) (a2 a3 : Nat) (C : Nat → Int32) (h2 : g 2 = some (a2, .inr (0, [.ref a3]))) (h3 : g 3 = some (a3, .inl (Γ.2.1 0, 360, .inl C))) (x y : Int32) : Met l yX0_get [Cond.code yX0_get cX0_get 3 (some .int)] ({ frames := 1, cells := 0, slots := 0, locals := 20 } : Room) (va_Pc [.ref a2, .int x, .int y] (sl_B Γ g)) (sl_Qi Γ (fun r (_ : Unit) => r = sl_cg C x y) (fun _ => g)) 0 0 (sl_A Γ) := by
  refine sl_ent (by decide) (Nat.le_of_ble_eq_true rfl) ?_
  intro p e s m below meth c ls hC hr hin hG hl
  have hx := hC.1
  have hb := hC.2.1
  have hl : lv_has ls 3 [(0, .ref a2), (1, .int x), (2, .int y)] := hl
  refine lv_iload_n hx hb dX0_get_0 rfl (lv_at hl 1 rfl) ?_
  refine sl_calli (sl_runSN (As := [.int x]) (rest := []) hC hG (kX4_isReplica l Γ g x) mi_X4_isReplica lk_RX0_21 rfl rfl ⟨Nat.le_of_ble_eq_true rfl, Nat.le_of_ble_eq_true rfl⟩ rfl hl.1 rfl (by decide) dX0_get_1 ⟨Nat.le_of_ble_eq_true rfl, Nat.le_of_ble_eq_true rfl⟩) hG (fun r_1 u_1 H locs hr_1 hG => ?_)
  subst hr_1
  refine lv_if_eq (tgt := 28) hx hb dX0_get_4 (by decide) (fun c_4 => ?_) (fun c_4 => ?_)
  · have c_4 := sl_bF c_4
    refine lv_bipush (v := (-2)) hx hb dX0_get_28 (by decide) ?_
    exact sl_ri (v := (-2)) hC hr hG () (by show _ = sl_cg C x y; rw [sl_cg, if_neg (fun w => by rw [c_4] at w; cases w.1)]) rfl (Nat.le_of_ble_eq_true rfl) (Nat.le_of_ble_eq_true rfl) dX0_get_30
  · have c_4 := sl_bT c_4
    refine lv_iload_n hx hb dX0_get_7 rfl (lv_at hl 2 rfl) ?_
    refine sl_calli (sl_runSN (As := [.int y]) (rest := []) hC hG (kX4_isPosition l Γ g y) mi_X4_isPosition lk_RX0_25 rfl rfl ⟨Nat.le_of_ble_eq_true rfl, Nat.le_of_ble_eq_true rfl⟩ rfl hl.1 rfl (by decide) dX0_get_8 ⟨Nat.le_of_ble_eq_true rfl, Nat.le_of_ble_eq_true rfl⟩) hG (fun r_8 u_8 H locs hr_8 hG => ?_)
    subst hr_8
    refine lv_if_eq (tgt := 28) hx hb dX0_get_11 (by decide) (fun c_11 => ?_) (fun c_11 => ?_)
    · have c_11 := sl_bF c_11
      refine lv_bipush (v := (-2)) hx hb dX0_get_28 (by decide) ?_
      exact sl_ri (v := (-2)) hC hr hG () (by show _ = sl_cg C x y; rw [sl_cg, if_neg (fun w => by rw [c_11] at w; cases w.2)]) rfl (Nat.le_of_ble_eq_true rfl) (Nat.le_of_ble_eq_true rfl) dX0_get_30
    · have c_11 := sl_bT c_11
      refine lv_aload_n hx hb dX0_get_14 rfl (lv_at hl 0 rfl) ?_
      refine sl_get (C := RX0) (T := TX0) (N := 1) hC hG 2 h2 rfl la_0 0 (by decide) lk_RX0_9 rfl rfl dX0_get_15 ?_
      refine lv_iload_n hx hb dX0_get_18 rfl (lv_at hl 1 rfl) ?_
      refine lv_bipush (v := 120) hx hb dX0_get_19 (by decide) ?_
      refine lv_imul hx hb dX0_get_21 ?_
      refine lv_iload_n hx hb dX0_get_22 rfl (lv_at hl 2 rfl) ?_
      refine lv_iadd hx hb dX0_get_23 ?_
      refine sl_ialdN hC hG 3 h3 (j := 120 * x.toNatClampNeg + y.toNatClampNeg) (sl_cix c_4 c_11) (sl_cil c_4 c_11) (by decide) dX0_get_24 ?_
      refine lv_goto (tgt := 30) hx hb dX0_get_25 (by decide) ?_
      exact sl_ri (v := C (120 * x.toNatClampNeg + y.toNatClampNeg)) hC hr hG () (by show _ = sl_cg C x y; rw [sl_cg, if_pos ⟨c_4, c_11⟩]) rfl (Nat.le_of_ble_eq_true rfl) (Nat.le_of_ble_eq_true rfl) dX0_get_30
set_option maxHeartbeats 4000000 in
set_option maxRecDepth 100000 in
theorem kX0_put (l : Launch) (Γ : sl_G) (g : sl_W) (a2 a3 : Nat) (C : Nat → Int32) (h2 : g 2 = some (a2, .inr (0, [.ref a3]))) (h3 : g 3 = some (a3, .inl (Γ.2.1 0, 360, .inl C))) (x y z : Int32) : Met l yX0_put [Cond.code yX0_put cX0_put 4 none] ({ frames := 2, cells := 0, slots := 0, locals := 42 } : Room) (va_Pc [.ref a2, .int x, .int y, .int z] (sl_B Γ g)) (sl_Qv Γ (fun (_ : Unit) => True) (fun _ => sl_up g 3 (a3, .inl (Γ.2.1 0, 360, .inl (sl_cp C x y z))))) 0 0 (sl_A Γ) := by
  refine sl_ent (by decide) (Nat.le_of_ble_eq_true rfl) ?_
  intro p e s m below meth c ls hC hr hin hG hl
  have hx := hC.1
  have hb := hC.2.1
  have hl : lv_has ls 4 [(0, .ref a2), (1, .int x), (2, .int y), (3, .int z)] := hl
  refine lv_iload_n hx hb dX0_put_0 rfl (lv_at hl 1 rfl) ?_
  refine sl_calli (sl_runSN (As := [.int x]) (rest := []) hC hG (kX4_isReplica l Γ g x) mi_X4_isReplica lk_RX0_21 rfl rfl ⟨Nat.le_of_ble_eq_true rfl, Nat.le_of_ble_eq_true rfl⟩ rfl hl.1 rfl (by decide) dX0_put_1 ⟨Nat.le_of_ble_eq_true rfl, Nat.le_of_ble_eq_true rfl⟩) hG (fun r_1 u_1 H locs hr_1 hG => ?_)
  subst hr_1
  refine lv_if_eq (tgt := 37) hx hb dX0_put_4 (by decide) (fun c_4 => ?_) (fun c_4 => ?_)
  · have c_4 := sl_bF c_4
    exact sl_rv hC hr hG () trivial (by show sl_up g 3 (a3, .inl (Γ.2.1 0, 360, .inl (sl_cp C x y z))) = _; rw [sl_cp, if_neg (fun w => by rw [c_4] at w; cases w.1)]; exact sl_up_same h3) (Nat.le_of_ble_eq_true rfl) (Nat.le_of_ble_eq_true rfl) dX0_put_37
  · have c_4 := sl_bT c_4
    refine lv_iload_n hx hb dX0_put_7 rfl (lv_at hl 2 rfl) ?_
    refine sl_calli (sl_runSN (As := [.int y]) (rest := []) hC hG (kX4_isPosition l Γ g y) mi_X4_isPosition lk_RX0_25 rfl rfl ⟨Nat.le_of_ble_eq_true rfl, Nat.le_of_ble_eq_true rfl⟩ rfl hl.1 rfl (by decide) dX0_put_8 ⟨Nat.le_of_ble_eq_true rfl, Nat.le_of_ble_eq_true rfl⟩) hG (fun r_8 u_8 H locs hr_8 hG => ?_)
    subst hr_8
    refine lv_if_eq (tgt := 37) hx hb dX0_put_11 (by decide) (fun c_11 => ?_) (fun c_11 => ?_)
    · have c_11 := sl_bF c_11
      exact sl_rv hC hr hG () trivial (by show sl_up g 3 (a3, .inl (Γ.2.1 0, 360, .inl (sl_cp C x y z))) = _; rw [sl_cp, if_neg (fun w => by rw [c_11] at w; cases w.2.1)]; exact sl_up_same h3) (Nat.le_of_ble_eq_true rfl) (Nat.le_of_ble_eq_true rfl) dX0_put_37
    · have c_11 := sl_bT c_11
      refine lv_aload_n hx hb dX0_put_14 rfl (lv_at hl 0 rfl) ?_
      refine lv_iload_n hx hb dX0_put_15 rfl (lv_at hl 1 rfl) ?_
      refine lv_iload_n hx hb dX0_put_16 rfl (lv_at hl 2 rfl) ?_
      refine sl_calli (sl_runV (As := [.int x, .int y]) (rest := []) hC hG (kX0_get l Γ g a2 a3 C h2 h3 x y) mi_X0_get lk_RX0_28 2 h2 rfl rfl rfl ⟨Nat.le_of_ble_eq_true rfl, Nat.le_of_ble_eq_true rfl⟩ rfl hl.1 rfl (by decide) dX0_put_17 ⟨Nat.le_of_ble_eq_true rfl, Nat.le_of_ble_eq_true rfl⟩) hG (fun r_17 u_17 H locs hr_17 hG => ?_)
      subst hr_17
      refine lv_bipush (v := (-2)) hx hb dX0_put_20 (by decide) ?_
      refine lv_icmp_ne (tgt := 37) hx hb dX0_put_22 (by decide) (fun c_22 => ?_) (fun c_22 => ?_)
      · exact sl_rv hC hr hG () trivial (by show sl_up g 3 (a3, .inl (Γ.2.1 0, 360, .inl (sl_cp C x y z))) = _; rw [sl_cp, if_neg (fun w => c_22 w.2.2)]; exact sl_up_same h3) (Nat.le_of_ble_eq_true rfl) (Nat.le_of_ble_eq_true rfl) dX0_put_37
      · refine lv_aload_n hx hb dX0_put_25 rfl (lv_at hl 0 rfl) ?_
        refine sl_get (C := RX0) (T := TX0) (N := 1) hC hG 2 h2 rfl la_0 0 (by decide) lk_RX0_9 rfl rfl dX0_put_26 ?_
        refine lv_iload_n hx hb dX0_put_29 rfl (lv_at hl 1 rfl) ?_
        refine lv_bipush (v := 120) hx hb dX0_put_30 (by decide) ?_
        refine lv_imul hx hb dX0_put_32 ?_
        refine lv_iload_n hx hb dX0_put_33 rfl (lv_at hl 2 rfl) ?_
        refine lv_iadd hx hb dX0_put_34 ?_
        refine lv_iload_n hx hb dX0_put_35 rfl (lv_at hl 3 rfl) ?_
        refine sl_iastN hC hG 3 h3 (j := 120 * x.toNatClampNeg + y.toNatClampNeg) (sl_cix c_4 c_11) (sl_cil c_4 c_11) (by decide) dX0_put_36 (fun H locs hG => ?_)
        have hG : sl_I Γ (sl_up g 3 (a3, .inl (Γ.2.1 0, 360, .inl (upd C (120 * x.toNatClampNeg + y.toNatClampNeg) z)))) s H locs := hG
        exact sl_rv hC hr hG () trivial (by show sl_up g 3 (a3, .inl (Γ.2.1 0, 360, .inl (sl_cp C x y z))) = _; rw [sl_cp, if_pos ⟨c_4, c_11, c_22⟩]) (Nat.le_of_ble_eq_true rfl) (Nat.le_of_ble_eq_true rfl) dX0_put_37
set_option maxHeartbeats 4000000 in
set_option maxRecDepth 100000 in
theorem kX0_countWritten (l : Launch) (Γ : sl_G) (g : sl_W) (a2 a3 : Nat) (C : Nat → Int32) (h2 : g 2 = some (a2, .inr (0, [.ref a3]))) (h3 : g 3 = some (a3, .inl (Γ.2.1 0, 360, .inl C))) (b : Nat) (hb9 : b < 120) : Met l yX0_countWritten [Cond.code yX0_countWritten cX0_countWritten 4 (some .int)] ({ frames := 2, cells := 0, slots := 0, locals := 42 } : Room) (va_Pc [.ref a2, .int (nI b)] (sl_B Γ g)) (sl_Qi Γ (fun r (_ : Unit) => r = nI (sl_cw C b 3)) (fun _ => g)) 0 0 (sl_A Γ) := by
  refine sl_ent (by decide) (Nat.le_of_ble_eq_true rfl) ?_
  intro p e s m below meth c ls hC hr hin hG hl
  have hx := hC.1
  have hb := hC.2.1
  have hl : lv_has ls 4 [(0, .ref a2), (1, .int (nI b))] := hl
  refine lv_iconst (v := 0) hx hb dX0_countWritten_0 (by decide) ?_
  refine lv_istore_n (lv' := [(2, .int 0), (0, .ref a2), (1, .int (nI b))]) hx hb dX0_countWritten_1 rfl hl (by decide) rfl (fun ls hl => ?_)
  refine lv_iconst (v := 0) hx hb dX0_countWritten_2 (by decide) ?_
  refine lv_istore_n (lv' := [(3, .int 0), (2, .int 0), (0, .ref a2), (1, .int (nI b))]) hx hb dX0_countWritten_3 rfl hl (by decide) rfl (fun ls hl => ?_)
  have loop_4 : ∀ (n k : Nat), k ≤ 3 → 3 + 1 ≤ k + n → ∀ (H : Heap) (locs : List Loc), sl_I Γ g s H locs → ∀ (ls : Array Slot), lv_has ls 4 [(0, .ref a2), (1, .int (nI b)), (2, .int (nI (sl_cw C b k))), (3, .int (nI k))] → W p l e ({ frames := 2, cells := 0, slots := 0, locals := 42 } : Room) s m ([.ref a2, .int (nI b)] : List Value).toArray below meth c H locs 0 0 (MQ below (sl_Qi Γ (fun r (_ : Unit) => r = nI (sl_cw C b 3)) (fun _ => g)) ([.ref a2, .int (nI b)] : List Value).toArray s 0 0 (sl_A Γ)) (F0 m 4 ls []) := by
    intro n
    induction n with
    | zero =>
      intro k  h1 h2
      exact absurd h2 (by omega)
    | succ n ih_4 =>
      intro k  hk_4 hn_4  H locs hG ls hl
      refine lv_iload_n hx hb dX0_countWritten_4 rfl (lv_at hl 3 rfl) ?_
      refine lv_iconst (v := 3) hx hb dX0_countWritten_5 (by decide) ?_
      refine lv_icmp_ge (tgt := 29) hx hb dX0_countWritten_6 (by decide) (fun c_6 => ?_) (fun c_6 => ?_)
      · have n_6 : 3 ≤ k := (nI_leI (a := 3) (b := k) (by omega) (by omega)).mp c_6
        refine lv_iload_n hx hb dX0_countWritten_29 rfl (lv_at hl 2 rfl) ?_
        exact sl_ri (v := nI (sl_cw C b k)) hC hr hG () (by show _ = _; rw [show k = 3 by omega]) rfl (Nat.le_of_ble_eq_true rfl) (Nat.le_of_ble_eq_true rfl) dX0_countWritten_30
      · have n_6 : ¬ (3 ≤ k) := fun z => c_6 ((nI_leI (a := 3) (b := k) (by omega) (by omega)).mpr z)
        refine lv_aload_n hx hb dX0_countWritten_9 rfl (lv_at hl 0 rfl) ?_
        refine lv_iload_n hx hb dX0_countWritten_10 rfl (lv_at hl 3 rfl) ?_
        refine lv_iload_n hx hb dX0_countWritten_11 rfl (lv_at hl 1 rfl) ?_
        refine sl_calli (sl_runV (As := [.int (nI k), .int (nI b)]) (rest := []) hC hG (kX0_get l Γ g a2 a3 C h2 h3 (nI k) (nI b)) mi_X0_get lk_RX0_28 2 h2 rfl rfl rfl ⟨Nat.le_of_ble_eq_true rfl, Nat.le_of_ble_eq_true rfl⟩ rfl hl.1 rfl (by decide) dX0_countWritten_12 ⟨Nat.le_of_ble_eq_true rfl, Nat.le_of_ble_eq_true rfl⟩) hG (fun r_12 u_12 H locs hr_12 hG => ?_)
        subst hr_12
        refine sl_topi (sl_cgN C (a := k) (b := b) (by omega) hb9) ?_
        refine lv_bipush (v := (-2)) hx hb dX0_countWritten_15 (by decide) ?_
        refine lv_icmp_eq (tgt := 23) hx hb dX0_countWritten_17 (by decide) (fun c_17 => ?_) (fun c_17 => ?_)
        · have hl : lv_has ls 4 [(0, .ref a2), (1, .int (nI b)), (2, .int (nI (sl_cw C b (k + 1)))), (3, .int (nI k))] := by rw [show sl_cw C b (k + 1) = sl_cw C b k from (by rw [sl_cw, if_pos c_17]; rfl)]; exact hl
          refine lv_iinc (v := nI (k + 1)) (lv' := [(3, .int (nI (k + 1))), (0, .ref a2), (1, .int (nI b)), (2, .int (nI (sl_cw C b (k + 1))))]) hx hb dX0_countWritten_23 hl (k := 3) rfl (nI_1 k) (by decide) rfl (fun ls hl => ?_)
          refine lv_goto (tgt := 4) hx hb dX0_countWritten_26 (by decide) ?_
          exact ih_4 (k + 1) (by omega) (by omega) _ _ hG _ (lv_sub hl [1, 2, 3, 0] rfl)
        · refine lv_iinc (v := nI ((sl_cw C b k) + 1)) (lv' := [(2, .int (nI ((sl_cw C b k) + 1))), (0, .ref a2), (1, .int (nI b)), (3, .int (nI k))]) hx hb dX0_countWritten_20 hl (k := 2) rfl (nI_1 (sl_cw C b k)) (by decide) rfl (fun ls hl => ?_)
          have hl : lv_has ls 4 [(2, .int (nI (sl_cw C b (k + 1)))), (0, .ref a2), (1, .int (nI b)), (3, .int (nI k))] := by rw [show sl_cw C b (k + 1) = (sl_cw C b k) + 1 from (by rw [sl_cw, if_neg c_17])]; exact hl
          refine lv_iinc (v := nI (k + 1)) (lv' := [(3, .int (nI (k + 1))), (2, .int (nI (sl_cw C b (k + 1)))), (0, .ref a2), (1, .int (nI b))]) hx hb dX0_countWritten_23 hl (k := 3) rfl (nI_1 k) (by decide) rfl (fun ls hl => ?_)
          refine lv_goto (tgt := 4) hx hb dX0_countWritten_26 (by decide) ?_
          exact ih_4 (k + 1) (by omega) (by omega) _ _ hG _ (lv_sub hl [2, 3, 1, 0] rfl)
  exact loop_4 (3 + 1) 0 (by omega) (by omega) _ _ hG _ (lv_sub hl [2, 3, 1, 0] rfl)
set_option maxHeartbeats 4000000 in
set_option maxRecDepth 100000 in
theorem kX0_isComplete (l : Launch) (Γ : sl_G) (g : sl_W) (a2 a3 : Nat) (C : Nat → Int32) (h2 : g 2 = some (a2, .inr (0, [.ref a3]))) (h3 : g 3 = some (a3, .inl (Γ.2.1 0, 360, .inl C))) (b : Nat) (hb9 : b < 120) : Met l yX0_isComplete [Cond.code yX0_isComplete cX0_isComplete 2 (some .boolean)] ({ frames := 3, cells := 0, slots := 0, locals := 65 } : Room) (va_Pc [.ref a2, .int (nI b)] (sl_B Γ g)) (sl_Qi Γ (fun r (_ : Unit) => r = sl_bi (sl_wh C b)) (fun _ => g)) 0 0 (sl_A Γ) := by
  refine sl_ent (by decide) (Nat.le_of_ble_eq_true rfl) ?_
  intro p e s m below meth c ls hC hr hin hG hl
  have hx := hC.1
  have hb := hC.2.1
  have hl : lv_has ls 2 [(0, .ref a2), (1, .int (nI b))] := hl
  have hw9 := sl_cw_le C b 3
  refine lv_aload_n hx hb dX0_isComplete_0 rfl (lv_at hl 0 rfl) ?_
  refine lv_iload_n hx hb dX0_isComplete_1 rfl (lv_at hl 1 rfl) ?_
  refine sl_calli (sl_runV (As := [.int (nI b)]) (rest := []) hC hG (kX0_countWritten l Γ g a2 a3 C h2 h3 b (by omega)) mi_X0_countWritten lk_RX0_32 2 h2 rfl rfl rfl ⟨Nat.le_of_ble_eq_true rfl, Nat.le_of_ble_eq_true rfl⟩ rfl hl.1 rfl (by decide) dX0_isComplete_2 ⟨Nat.le_of_ble_eq_true rfl, Nat.le_of_ble_eq_true rfl⟩) hG (fun r_2 u_2 H locs hr_2 hG => ?_)
  subst hr_2
  refine lv_iconst (v := 3) hx hb dX0_isComplete_5 (by decide) ?_
  refine lv_icmp_ne (tgt := 13) hx hb dX0_isComplete_6 (by decide) (fun c_6 => ?_) (fun c_6 => ?_)
  · have n_6 : ¬ (sl_cw C b 3 = 3) := fun z => c_6 ((nI_eq (a := sl_cw C b 3) (b := 3) (by omega) (by omega)).mpr z)
    refine lv_iconst (v := 0) hx hb dX0_isComplete_13 (by decide) ?_
    exact sl_rz (v := 0) hC hr rfl hG () (by show _ = sl_bi (sl_wh C b); rw [Bool.eq_false_iff.mpr (fun w => n_6 ((sl_cw3 C b).mpr w))]; rfl) rfl (Nat.le_of_ble_eq_true rfl) (Nat.le_of_ble_eq_true rfl) dX0_isComplete_14
  · have n_6 : sl_cw C b 3 = 3 := (nI_eq (a := sl_cw C b 3) (b := 3) (by omega) (by omega)).mp c_6
    refine lv_iconst (v := 1) hx hb dX0_isComplete_9 (by decide) ?_
    refine lv_goto (tgt := 14) hx hb dX0_isComplete_10 (by decide) ?_
    exact sl_rz (v := 1) hC hr rfl hG () (by show _ = sl_bi (sl_wh C b); rw [(sl_cw3 C b).mp n_6]; rfl) rfl (Nat.le_of_ble_eq_true rfl) (Nat.le_of_ble_eq_true rfl) dX0_isComplete_14
set_option maxHeartbeats 4000000 in
set_option maxRecDepth 100000 in
theorem kX0_completeFromStart (l : Launch) (Γ : sl_G) (g : sl_W) (a2 a3 : Nat) (C : Nat → Int32) (h2 : g 2 = some (a2, .inr (0, [.ref a3]))) (h3 : g 3 = some (a3, .inl (Γ.2.1 0, 360, .inl C))) : Met l yX0_completeFromStart [Cond.code yX0_completeFromStart cX0_completeFromStart 2 (some .int)] ({ frames := 4, cells := 0, slots := 0, locals := 86 } : Room) (va_Pc [.ref a2] (sl_B Γ g)) (sl_Qi Γ (fun r (_ : Unit) => r = nI (sl_kn C)) (fun _ => g)) 0 0 (sl_A Γ) := by
  refine sl_ent (by decide) (Nat.le_of_ble_eq_true rfl) ?_
  intro p e s m below meth c ls hC hr hin hG hl
  have hx := hC.1
  have hb := hC.2.1
  have hl : lv_has ls 2 [(0, .ref a2)] := hl
  refine lv_iconst (v := 0) hx hb dX0_completeFromStart_0 (by decide) ?_
  refine lv_istore_n (lv' := [(1, .int 0), (0, .ref a2)]) hx hb dX0_completeFromStart_1 rfl hl (by decide) rfl (fun ls hl => ?_)
  have loop_2 : ∀ (n k : Nat), k ≤ 120 → 120 + 1 ≤ k + n → (sl_kf C k = k) → ∀ (H : Heap) (locs : List Loc), sl_I Γ g s H locs → ∀ (ls : Array Slot), lv_has ls 2 [(0, .ref a2), (1, .int (nI k))] → W p l e ({ frames := 4, cells := 0, slots := 0, locals := 86 } : Room) s m ([.ref a2] : List Value).toArray below meth c H locs 0 0 (MQ below (sl_Qi Γ (fun r (_ : Unit) => r = nI (sl_kn C)) (fun _ => g)) ([.ref a2] : List Value).toArray s 0 0 (sl_A Γ)) (F0 m 2 ls []) := by
    intro n
    induction n with
    | zero =>
      intro k  h1 h2
      exact absurd h2 (by omega)
    | succ n ih_2 =>
      intro k  hk_2 hn_2 hi H locs hG ls hl
      refine lv_iload_n hx hb dX0_completeFromStart_2 rfl (lv_at hl 1 rfl) ?_
      refine lv_bipush (v := 120) hx hb dX0_completeFromStart_3 (by decide) ?_
      refine lv_icmp_ge (tgt := 24) hx hb dX0_completeFromStart_5 (by decide) (fun c_5 => ?_) (fun c_5 => ?_)
      · have n_5 : 120 ≤ k := (nI_leI (a := 120) (b := k) (by omega) (by omega)).mp c_5
        refine lv_bipush (v := 120) hx hb dX0_completeFromStart_24 (by decide) ?_
        exact sl_ri (v := 120) hC hr hG () (by show _ = nI (sl_kf C 120); have hk9 : k = 120 := (by omega); subst hk9; rw [hi]; rfl) rfl (Nat.le_of_ble_eq_true rfl) (Nat.le_of_ble_eq_true rfl) dX0_completeFromStart_26
      · have n_5 : ¬ (120 ≤ k) := fun z => c_5 ((nI_leI (a := 120) (b := k) (by omega) (by omega)).mpr z)
        refine lv_aload_n hx hb dX0_completeFromStart_8 rfl (lv_at hl 0 rfl) ?_
        refine lv_iload_n hx hb dX0_completeFromStart_9 rfl (lv_at hl 1 rfl) ?_
        refine sl_calli (sl_runV (As := [.int (nI k)]) (rest := []) hC hG (kX0_isComplete l Γ g a2 a3 C h2 h3 k (by omega)) mi_X0_isComplete lk_RX0_36 2 h2 rfl rfl rfl ⟨Nat.le_of_ble_eq_true rfl, Nat.le_of_ble_eq_true rfl⟩ rfl hl.1 rfl (by decide) dX0_completeFromStart_10 ⟨Nat.le_of_ble_eq_true rfl, Nat.le_of_ble_eq_true rfl⟩) hG (fun r_10 u_10 H locs hr_10 hG => ?_)
        subst hr_10
        refine lv_if_ne (tgt := 18) hx hb dX0_completeFromStart_13 (by decide) (fun c_13 => ?_) (fun c_13 => ?_)
        · have c_13 := sl_bT c_13
          refine lv_iinc (v := nI (k + 1)) (lv' := [(1, .int (nI (k + 1))), (0, .ref a2)]) hx hb dX0_completeFromStart_18 hl (k := 1) rfl (nI_1 k) (by decide) rfl (fun ls hl => ?_)
          refine lv_goto (tgt := 2) hx hb dX0_completeFromStart_21 (by decide) ?_
          exact ih_2 (k + 1) (by omega) (by omega) (by rw [sl_kf, if_pos ⟨hi, c_13⟩]) _ _ hG _ (lv_sub hl [1, 0] rfl)
        · have c_13 := sl_bF c_13
          refine lv_iload_n hx hb dX0_completeFromStart_16 rfl (lv_at hl 1 rfl) ?_
          exact sl_ri (v := nI k) hC hr hG () (by show _ = nI (sl_kf C 120); rw [sl_kf_at C hi c_13 120 (by omega)]) rfl (Nat.le_of_ble_eq_true rfl) (Nat.le_of_ble_eq_true rfl) dX0_completeFromStart_17
  exact loop_2 (120 + 1) 0 (by omega) (by omega) rfl _ _ hG _ (lv_sub hl [1, 0] rfl)
set_option maxHeartbeats 4000000 in
set_option maxRecDepth 100000 in
theorem kX0_end (l : Launch) (Γ : sl_G) (g : sl_W) (a2 a3 : Nat) (C : Nat → Int32) (h2 : g 2 = some (a2, .inr (0, [.ref a3]))) (h3 : g 3 = some (a3, .inl (Γ.2.1 0, 360, .inl C))) : Met l yX0_end [Cond.code yX0_end cX0_end 2 (some .int)] ({ frames := 3, cells := 0, slots := 0, locals := 65 } : Room) (va_Pc [.ref a2] (sl_B Γ g)) (sl_Qi Γ (fun r (_ : Unit) => r = nI (sl_ef C 120)) (fun _ => g)) 0 0 (sl_A Γ) := by
  refine sl_ent (by decide) (Nat.le_of_ble_eq_true rfl) ?_
  intro p e s m below meth c ls hC hr hin hG hl
  have hx := hC.1
  have hb := hC.2.1
  have hl : lv_has ls 2 [(0, .ref a2)] := hl
  have hw9 := fun i => sl_cw_le C i 3
  refine lv_bipush (v := 119) hx hb dX0_end_0 (by decide) ?_
  refine lv_istore_n (lv' := [(1, .int 119), (0, .ref a2)]) hx hb dX0_end_2 rfl hl (by decide) rfl (fun ls hl => ?_)
  have loop_3 : ∀ (n k : Nat) (q : Int32), k ≤ 120 → k + 1 ≤ n → (q = nI k + (-1)) → (sl_ef C 120 = sl_ef C k) → ∀ (H : Heap) (locs : List Loc), sl_I Γ g s H locs → ∀ (ls : Array Slot), lv_has ls 2 [(0, .ref a2), (1, .int q)] → W p l e ({ frames := 3, cells := 0, slots := 0, locals := 65 } : Room) s m ([.ref a2] : List Value).toArray below meth c H locs 0 0 (MQ below (sl_Qi Γ (fun r (_ : Unit) => r = nI (sl_ef C 120)) (fun _ => g)) ([.ref a2] : List Value).toArray s 0 0 (sl_A Γ)) (F0 m 3 ls []) := by
    intro n
    induction n with
    | zero =>
      intro k q h1 h2
      exact absurd h2 (by omega)
    | succ n ih_3 =>
      intro k q hk_3 hn_3 hq hi H locs hG ls hl
      refine lv_iload_n hx hb dX0_end_3 rfl (lv_at hl 1 rfl) ?_
      refine lv_if_lt (tgt := 25) hx hb dX0_end_4 (by decide) (fun c_4 => ?_) (fun c_4 => ?_)
      · refine lv_iconst (v := 0) hx hb dX0_end_25 (by decide) ?_
        exact sl_ri (v := 0) hC hr hG () (by show _ = nI (sl_ef C 120); rw [hi, sl_dnT hq hk_3 c_4]; rfl) rfl (Nat.le_of_ble_eq_true rfl) (Nat.le_of_ble_eq_true rfl) dX0_end_26
      · obtain ⟨i, rfl, rfl⟩ := sl_dnF hq c_4
        have hw8 := sl_cw_le C i 3
        refine lv_aload_n hx hb dX0_end_7 rfl (lv_at hl 0 rfl) ?_
        refine lv_iload_n hx hb dX0_end_8 rfl (lv_at hl 1 rfl) ?_
        refine sl_calli (sl_runV (As := [.int (nI i)]) (rest := []) hC hG (kX0_countWritten l Γ g a2 a3 C h2 h3 i (by omega)) mi_X0_countWritten lk_RX0_32 2 h2 rfl rfl rfl ⟨Nat.le_of_ble_eq_true rfl, Nat.le_of_ble_eq_true rfl⟩ rfl hl.1 rfl (by decide) dX0_end_9 ⟨Nat.le_of_ble_eq_true rfl, Nat.le_of_ble_eq_true rfl⟩) hG (fun r_9 u_9 H locs hr_9 hG => ?_)
        subst hr_9
        refine lv_if_le (tgt := 19) hx hb dX0_end_12 (by decide) (fun c_12 => ?_) (fun c_12 => ?_)
        · have n_12 : sl_cw C i 3 ≤ 0 := (nI_leI (a := sl_cw C i 3) (b := 0) (by omega) (by omega)).mp c_12
          refine lv_iinc (v := (nI i) + (-1)) (lv' := [(1, .int ((nI i) + (-1))), (0, .ref a2)]) hx hb dX0_end_19 hl (k := 1) rfl rfl (by decide) rfl (fun ls hl => ?_)
          refine lv_goto (tgt := 3) hx hb dX0_end_22 (by decide) ?_
          exact ih_3 i (nI i + (-1)) (by omega) (by omega) rfl (by rw [hi, sl_ef, if_pos (by omega)]) _ _ hG _ (lv_sub hl [1, 0] rfl)
        · have n_12 : ¬ (sl_cw C i 3 ≤ 0) := fun z => c_12 ((nI_leI (a := sl_cw C i 3) (b := 0) (by omega) (by omega)).mpr z)
          refine lv_iload_n hx hb dX0_end_15 rfl (lv_at hl 1 rfl) ?_
          refine lv_iconst (v := 1) hx hb dX0_end_16 (by decide) ?_
          refine lv_iadd hx hb dX0_end_17 ?_
          exact sl_ri (v := (nI i) + 1) hC hr hG () (by show nI i + 1 = nI (sl_ef C 120); rw [hi, sl_ef, if_neg (by omega)]; exact nI_1 i) rfl (Nat.le_of_ble_eq_true rfl) (Nat.le_of_ble_eq_true rfl) dX0_end_18
  exact loop_3 (120 + 1) 120 119 (by omega) (by omega) (by decide) rfl _ _ hG _ (lv_sub hl [1, 0] rfl)
end
section
/-! trails, Arrays.fill, constructors, the fold -/
theorem sl_arrV_ext (cA : ClassId) (n : Nat) {f f' : Nat → Value} (h : ∀ j, j < n → f j = f' j) : arrV cA n f = arrV cA n f' := by
  unfold arrV
  congr 2
  funext j
  exact h j.val j.isLt
theorem sl_fnH {Γ : sl_G} {g : sl_W} {k a n : Nat} {cA : ClassId} {f f' : Nat → Int32} {H : Heap} (hG : sl_H Γ (sl_up g k (a, .inl (cA, n, .inl f))) H) (h : ∀ j, j < n → f j = f' j) : sl_H Γ (sl_up g k (a, .inl (cA, n, .inl f'))) H := by
  have e : sl_up g k (a, .inl (cA, n, .inl f')) = sl_up (sl_up g k (a, .inl (cA, n, .inl f))) k (a, .inl (cA, n, .inl f')) := (sl_up_up _ _ _ _).symm
  rw [e]
  refine sl_up_H hG (sl_up_s _ _ _) ?_ (fun _ _ => rfl)
  have h1 := hG.1 k _ (sl_up_s _ _ _)
  show H[a]? = some (vp_cell cA (n, .inl f'))
  rw [vp_cell_i, ← sl_arrV_ext cA n (f := fun j => .int (f j)) (fun j hj => by rw [h j hj])]
  exact h1
theorem sl_fnI {Γ : sl_G} {g : sl_W} {s : State} {k a n : Nat} {cA : ClassId} {f : Nat → Int32} (f' : Nat → Int32) {H : Heap} {locs : List Loc} (hG : sl_I Γ (sl_up g k (a, .inl (cA, n, .inl f))) s H locs) (h : ∀ j, j < n → f j = f' j) : sl_I Γ (sl_up g k (a, .inl (cA, n, .inl f'))) s H locs := ⟨sl_fnH hG.1 h, hG.2⟩
theorem sl_up_mid (g : sl_W) (a b : Nat) (x y z : Nat × va_E) : sl_up (sl_up (sl_up g a x) b y) a z = sl_up (sl_up g b y) a z := by
  funext j
  by_cases h1 : j = a
  · rw [h1, sl_up_s, sl_up_s]
  · rw [sl_up_n _ _ h1, sl_up_n _ _ h1]
    by_cases h2 : j = b
    · rw [h2, sl_up_s, sl_up_s]
    · rw [sl_up_n _ _ h2, sl_up_n _ _ h2, sl_up_n _ _ h1]
theorem sl_fl {F : Nat → Int32} {k : Nat} {z : Int32} (h : ∀ j, j < k → F j = z) : ∀ j, j < k + 1 → upd F k z j = z := by
  intro j hj
  by_cases e : j = k
  · rw [e, pk_us]
  · rw [pk_un e]; exact h j (by omega)
theorem upd_at (f : Nat → Int32) (k : Nat) (x : Int32) : upd f k x k = x := pk_us
/-- a trail's cell for a stream and a number -/
def sl_tg (T : Nat → Int32) (x y : Int32) : Int32 := if sl_in x 0 3 = true ∧ sl_in y 0 3 = true then T (4 * x.toNatClampNeg + y.toNatClampNeg) else -1
def sl_ts (T : Nat → Int32) (x y z : Int32) : Nat → Int32 := if sl_in x 0 3 = true ∧ sl_in y 0 3 = true then upd T (4 * x.toNatClampNeg + y.toNatClampNeg) z else T
theorem sl_tix {x y : Int32} (h1 : sl_in x 0 3 = true) (h2 : sl_in y 0 3 = true) : x * 4 + y = nI (4 * x.toNatClampNeg + y.toNatClampNeg) := by
  obtain ⟨a, ha, rfl⟩ := sl_c3 h1
  obtain ⟨b, hb, rfl⟩ := sl_c3 h2
  rw [nI_clamp (by omega), nI_clamp (by omega), show (4 : Int32) = nI 4 from rfl, pk_mul, nI_add, Nat.mul_comm]
theorem sl_til {x y : Int32} (h1 : sl_in x 0 3 = true) (h2 : sl_in y 0 3 = true) : 4 * x.toNatClampNeg + y.toNatClampNeg < 16 := by
  obtain ⟨a, ha, rfl⟩ := sl_c3 h1
  obtain ⟨b, hb, rfl⟩ := sl_c3 h2
  rw [nI_clamp (by omega), nI_clamp (by omega)]
  omega
theorem sl_tgN (T : Nat → Int32) {a b : Nat} (ha : a < 4) (hb : b < 4) : sl_tg T (nI a) (nI b) = T (4 * a + b) := by
  rw [sl_tg, if_pos ⟨sl_nIin (n := 3) rfl (by omega) (by omega), sl_nIin (n := 3) rfl (by omega) (by omega)⟩, nI_clamp (by omega), nI_clamp (by omega)]
theorem sl_tsN (T : Nat → Int32) {a b : Nat} (z : Int32) (ha : a < 4) (hb : b < 4) : sl_ts T (nI a) (nI b) z = upd T (4 * a + b) z := by
  rw [sl_ts, if_pos ⟨sl_nIin (n := 3) rfl (by omega) (by omega), sl_nIin (n := 3) rfl (by omega) (by omega)⟩, nI_clamp (by omega), nI_clamp (by omega)]
/-- one stream learns a position -/
def sl_t1 (T : Nat → Int32) (k : Nat) (z : Int32) : Nat → Int32 := upd (upd (upd (upd T (4 * k + 3) (T (4 * k + 2))) (4 * k + 2) (T (4 * k + 1))) (4 * k + 1) (T (4 * k))) (4 * k) z
/-- the first k streams, those of a set, learn a position -/
def sl_tp (T : Nat → Int32) (ss z : Int32) : Nat → Nat → Int32
  | 0 => T
  | k + 1 => if sl_has ss (nI k) = true then sl_t1 (sl_tp T ss z k) k z else sl_tp T ss z k
/-- a copy of the first k streams', those of a set -/
def sl_tc (T : Nat → Int32) (ss : Int32) (k : Nat) : Nat → Int32 := fun j => if j < 4 * k ∧ sl_has ss (nI (j / 4)) = true then T j else -1
theorem sl_tc_s1 {T : Nat → Int32} {ss : Int32} {k : Nat} (h : sl_has ss (nI k) = true) : upd (upd (upd (upd (sl_tc T ss k) (4 * k + 0) (T (4 * k + 0))) (4 * k + 1) (T (4 * k + 1))) (4 * k + 2) (T (4 * k + 2))) (4 * k + 3) (T (4 * k + 3)) = sl_tc T ss (k + 1) := by
  funext j
  by_cases h1 : j < 4 * k
  · have e : ∀ (f : Nat → Int32) (i : Nat) (x : Int32), j ≠ i → upd f i x j = f j := fun f i x hn => pk_un hn
    rw [e _ _ _ (by omega), e _ _ _ (by omega), e _ _ _ (by omega), e _ _ _ (by omega), sl_tc, sl_tc]
    by_cases h2 : sl_has ss (nI (j / 4)) = true
    · rw [if_pos ⟨h1, h2⟩, if_pos ⟨by omega, h2⟩]
    · rw [if_neg (fun z => h2 z.2), if_neg (fun z => h2 z.2)]
  · by_cases h2 : j < 4 * k + 4
    · have e9 : sl_tc T ss (k + 1) j = T j := by
        rw [sl_tc, if_pos ⟨by omega, by rw [show j / 4 = k by omega]; exact h⟩]
      rw [e9]
      have e : j = 4 * k + 0 ∨ j = 4 * k + 1 ∨ j = 4 * k + 2 ∨ j = 4 * k + 3 := by omega
      rcases e with rfl | rfl | rfl | rfl
      · rw [pk_un (by omega), pk_un (by omega), pk_un (by omega), pk_us]
      · rw [pk_un (by omega), pk_un (by omega), pk_us]
      · rw [pk_un (by omega), pk_us]
      · rw [pk_us]
    · rw [pk_un (by omega), pk_un (by omega), pk_un (by omega), pk_un (by omega), sl_tc, sl_tc, if_neg (fun z => h1 z.1), if_neg (fun z => h2 (by have := z.1; omega))]
theorem sl_tc_s0 {T : Nat → Int32} {ss : Int32} {k : Nat} (h : sl_has ss (nI k) = false) : sl_tc T ss k = sl_tc T ss (k + 1) := by
  funext j
  rw [sl_tc, sl_tc]
  by_cases h1 : j < 4 * k
  · by_cases h2 : sl_has ss (nI (j / 4)) = true
    · rw [if_pos ⟨h1, h2⟩, if_pos ⟨by omega, h2⟩]
    · rw [if_neg (fun z => h2 z.2), if_neg (fun z => h2 z.2)]
  · rw [if_neg (fun z => h1 z.1), if_neg]
    intro z
    have e : j / 4 = k := by omega
    rw [e, h] at z
    cases z.2
/-- no stream of a set has changed from a version on, of the first k -/
def sl_un (X : Nat → Int32) (ss ver : Int32) : Nat → Bool
  | 0 => true
  | k + 1 => sl_un X ss ver k && (!sl_has ss (nI k) || decide (X k < ver))
theorem sl_un_f {X : Nat → Int32} {ss ver : Int32} {k : Nat} (h : sl_un X ss ver k = false) : ∀ n, k ≤ n → sl_un X ss ver n = false
  | 0, hn => by have : k = 0 := by omega
                subst this; exact h
  | n + 1, hn => by
    by_cases e : k = n + 1
    · subst e; exact h
    · rw [sl_un, sl_un_f h n (by omega)]; rfl
/-- the first k streams, those of a set, changed at a position -/
def sl_nc (X : Nat → Int32) (ss z : Int32) (k : Nat) : Nat → Int32 := fun j => if j < k ∧ sl_has ss (nI j) = true then z else X j
theorem sl_nc_1 {X : Nat → Int32} {ss z : Int32} {k : Nat} (h : sl_has ss (nI k) = true) : upd (sl_nc X ss z k) k z = sl_nc X ss z (k + 1) := by
  funext j
  by_cases e : j = k
  · rw [e, pk_us, sl_nc, if_pos ⟨by omega, h⟩]
  · rw [pk_un e, sl_nc, sl_nc]
    by_cases h2 : sl_has ss (nI j) = true
    · by_cases h1 : j < k
      · rw [if_pos ⟨h1, h2⟩, if_pos ⟨by omega, h2⟩]
      · rw [if_neg (fun w => h1 w.1), if_neg (fun w => h1 (by have := w.1; omega))]
    · rw [if_neg (fun w => h2 w.2), if_neg (fun w => h2 w.2)]
theorem sl_nc_0 {X : Nat → Int32} {ss z : Int32} {k : Nat} (h : sl_has ss (nI k) = false) : sl_nc X ss z k = sl_nc X ss z (k + 1) := by
  funext j
  rw [sl_nc, sl_nc]
  by_cases h2 : sl_has ss (nI j) = true
  · by_cases h1 : j < k
    · rw [if_pos ⟨h1, h2⟩, if_pos ⟨by omega, h2⟩]
    · rw [if_neg (fun w => h1 w.1), if_neg]
      intro w
      have e : j = k := by have := w.1; omega
      rw [e, h] at h2
      cases h2
  · rw [if_neg (fun w => h2 w.2), if_neg (fun w => h2 w.2)]
set_option maxHeartbeats 4000000 in
set_option maxRecDepth 100000 in
theorem kJ7_fill_53178 (l : Launch) (Γ : sl_G) (g : sl_W) (k0 a n0 : Nat) (f : Nat → Int32) (h0 : g k0 = some (a, .inl (Γ.2.1 0, n0, .inl f))) (hn9 : n0 ≤ 65536) (z : Int32) : Met l yJ7_fill_53178 [Cond.code yJ7_fill_53178 cJ7_fill_53178 4 none] ({ frames := 0, cells := 0, slots := 0, locals := 0 } : Room) (va_Pc [.ref a, .int z] (sl_B Γ g)) (sl_Qv Γ (fun (_ : Unit) => True) (fun _ => sl_up g k0 (a, .inl (Γ.2.1 0, n0, .inl (fun _ => z))))) 0 0 (sl_A Γ) := by
  refine sl_ent (by decide) (Nat.le_of_ble_eq_true rfl) ?_
  intro p e s m below meth c ls hC hr hin hG hl
  have hx := hC.1
  have hb := hC.2.1
  have hl : lv_has ls 4 [(0, .ref a), (1, .int z)] := hl
  refine lv_iconst (v := 0) hx hb dJ7_fill_53178_0 (by decide) ?_
  refine lv_istore_n (lv' := [(2, .int 0), (0, .ref a), (1, .int z)]) hx hb dJ7_fill_53178_1 rfl hl (by decide) rfl (fun ls hl => ?_)
  refine lv_aload_n hx hb dJ7_fill_53178_2 rfl (lv_at hl 1 rfl) ?_
  refine sl_alen (v := nI n0) hC hG k0 0 h0 rfl rfl dJ7_fill_53178_3 ?_
  refine lv_istore_n (lv' := [(3, .int (nI n0)), (2, .int 0), (0, .ref a), (1, .int z)]) hx hb dJ7_fill_53178_4 rfl hl (by decide) rfl (fun ls hl => ?_)
  have loop_5 : ∀ (n k : Nat) (F : Nat → Int32), k ≤ n0 → n0 + 1 ≤ k + n → (∀ j, j < k → F j = z) → ∀ (H : Heap) (locs : List Loc), sl_I Γ (sl_up g k0 (a, .inl (Γ.2.1 0, n0, .inl F))) s H locs → ∀ (ls : Array Slot), lv_has ls 4 [(0, .ref a), (1, .int z), (2, .int (nI k)), (3, .int (nI n0))] → W p l e ({ frames := 0, cells := 0, slots := 0, locals := 0 } : Room) s m ([.ref a, .int z] : List Value).toArray below meth c H locs 0 0 (MQ below (sl_Qv Γ (fun (_ : Unit) => True) (fun _ => sl_up g k0 (a, .inl (Γ.2.1 0, n0, .inl (fun _ => z))))) ([.ref a, .int z] : List Value).toArray s 0 0 (sl_A Γ)) (F0 m 5 ls []) := by
    intro n
    induction n with
    | zero =>
      intro k F h1 h2
      exact absurd h2 (by omega)
    | succ n ih_5 =>
      intro k F hk_5 hn_5 hi H locs hG ls hl
      refine lv_iload_n hx hb dJ7_fill_53178_5 rfl (lv_at hl 2 rfl) ?_
      refine lv_iload_n hx hb dJ7_fill_53178_6 rfl (lv_at hl 3 rfl) ?_
      refine lv_icmp_ge (tgt := 20) hx hb dJ7_fill_53178_7 (by decide) (fun c_7 => ?_) (fun c_7 => ?_)
      · have n_7 : n0 ≤ k := (nI_leI (a := n0) (b := k) (by omega) (by omega)).mp c_7
        have hG := sl_fnI (fun _ => z) hG (fun j hj => hi j (by omega))
        exact sl_rv hC hr hG () trivial rfl (Nat.le_of_ble_eq_true rfl) (Nat.le_of_ble_eq_true rfl) dJ7_fill_53178_20
      · have n_7 : ¬ (n0 ≤ k) := fun z => c_7 ((nI_leI (a := n0) (b := k) (by omega) (by omega)).mpr z)
        refine lv_aload_n hx hb dJ7_fill_53178_10 rfl (lv_at hl 0 rfl) ?_
        refine lv_iload_n hx hb dJ7_fill_53178_11 rfl (lv_at hl 2 rfl) ?_
        refine lv_iload_n hx hb dJ7_fill_53178_12 rfl (lv_at hl 1 rfl) ?_
        refine sl_iastN hC hG k0 (sl_up_s _ _ _) (j := k) rfl (by omega) (by omega) dJ7_fill_53178_13 (fun H locs hG => ?_)
        have hG : sl_I Γ (sl_up (sl_up g k0 (a, .inl (Γ.2.1 0, n0, .inl F))) k0 (a, .inl (Γ.2.1 0, n0, .inl (upd F k z)))) s H locs := hG
        refine lv_iinc (v := nI (k + 1)) (lv' := [(2, .int (nI (k + 1))), (0, .ref a), (1, .int z), (3, .int (nI n0))]) hx hb dJ7_fill_53178_14 hl (k := 2) rfl (nI_1 k) (by decide) rfl (fun ls hl => ?_)
        refine lv_goto (tgt := 5) hx hb dJ7_fill_53178_17 (by decide) ?_
        rw [sl_up_up] at hG
        exact ih_5 (k + 1) (upd F k z) (by omega) (by omega) (sl_fl hi) _ _ hG _ (lv_sub hl [1, 2, 0, 3] rfl)
  rw [← sl_up_same h0] at hG
  exact loop_5 (n0 + 1) 0 f (by omega) (by omega) (fun j hj => absurd hj (Nat.not_lt_zero j)) _ _ hG _ (lv_sub hl [2, 3, 1, 0] rfl)
set_option maxHeartbeats 4000000 in
set_option maxRecDepth 100000 in
theorem kX3_get (l : Launch) (Γ : sl_G) (g : sl_W) (kt ka a b : Nat) (T : Nat → Int32) (ht : g kt = some (a, .inr (3, [.ref b]))) (ha : g ka = some (b, .inl (Γ.2.1 0, 16, .inl T))) (x y : Int32) : Met l yX3_get [Cond.code yX3_get cX3_get 3 (some .int)] ({ frames := 1, cells := 0, slots := 0, locals := 20 } : Room) (va_Pc [.ref a, .int x, .int y] (sl_B Γ g)) (sl_Qi Γ (fun r (_ : Unit) => r = sl_tg T x y) (fun _ => g)) 0 0 (sl_A Γ) := by
  refine sl_ent (by decide) (Nat.le_of_ble_eq_true rfl) ?_
  intro p e s m below meth c ls hC hr hin hG hl
  have hx := hC.1
  have hb := hC.2.1
  have hl : lv_has ls 3 [(0, .ref a), (1, .int x), (2, .int y)] := hl
  refine lv_iload_n hx hb dX3_get_0 rfl (lv_at hl 1 rfl) ?_
  refine sl_calli (sl_runSN (As := [.int x]) (rest := []) hC hG (kX4_isStream l Γ g x) mi_X4_isStream lk_RX3_21 rfl rfl ⟨Nat.le_of_ble_eq_true rfl, Nat.le_of_ble_eq_true rfl⟩ rfl hl.1 rfl (Nat.le_of_ble_eq_true rfl) dX3_get_1 ⟨Nat.le_of_ble_eq_true rfl, Nat.le_of_ble_eq_true rfl⟩) hG (fun r_1 u_1 H locs hr_1 hG => ?_)
  subst hr_1
  refine lv_if_eq (tgt := 27) hx hb dX3_get_4 (by decide) (fun c_4 => ?_) (fun c_4 => ?_)
  · have c_4 := sl_bF c_4
    refine lv_iconst (v := (-1)) hx hb dX3_get_27 (by decide) ?_
    exact sl_ri (v := (-1)) hC hr hG () (by show _ = sl_tg T x y; rw [sl_tg, if_neg (fun w => by rw [c_4] at w; cases w.1)]) rfl (Nat.le_of_ble_eq_true rfl) (Nat.le_of_ble_eq_true rfl) dX3_get_28
  · have c_4 := sl_bT c_4
    refine lv_iload_n hx hb dX3_get_7 rfl (lv_at hl 2 rfl) ?_
    refine sl_calli (sl_runSN (As := [.int y]) (rest := []) hC hG (kX4_isPointerNumber l Γ g y) mi_X4_isPointerNumber lk_RX3_25 rfl rfl ⟨Nat.le_of_ble_eq_true rfl, Nat.le_of_ble_eq_true rfl⟩ rfl hl.1 rfl (Nat.le_of_ble_eq_true rfl) dX3_get_8 ⟨Nat.le_of_ble_eq_true rfl, Nat.le_of_ble_eq_true rfl⟩) hG (fun r_8 u_8 H locs hr_8 hG => ?_)
    subst hr_8
    refine lv_if_eq (tgt := 27) hx hb dX3_get_11 (by decide) (fun c_11 => ?_) (fun c_11 => ?_)
    · have c_11 := sl_bF c_11
      refine lv_iconst (v := (-1)) hx hb dX3_get_27 (by decide) ?_
      exact sl_ri (v := (-1)) hC hr hG () (by show _ = sl_tg T x y; rw [sl_tg, if_neg (fun w => by rw [c_11] at w; cases w.2)]) rfl (Nat.le_of_ble_eq_true rfl) (Nat.le_of_ble_eq_true rfl) dX3_get_28
    · have c_11 := sl_bT c_11
      refine lv_aload_n hx hb dX3_get_14 rfl (lv_at hl 0 rfl) ?_
      refine sl_get (C := RX3) (T := TX3) (N := 1) hC hG kt ht rfl la_3 0 (by decide) lk_RX3_9 rfl rfl dX3_get_15 ?_
      refine lv_iload_n hx hb dX3_get_18 rfl (lv_at hl 1 rfl) ?_
      refine lv_iconst (v := 4) hx hb dX3_get_19 (by decide) ?_
      refine lv_imul hx hb dX3_get_20 ?_
      refine lv_iload_n hx hb dX3_get_21 rfl (lv_at hl 2 rfl) ?_
      refine lv_iadd hx hb dX3_get_22 ?_
      refine sl_ialdN hC hG ka ha (j := 4 * x.toNatClampNeg + y.toNatClampNeg) (sl_tix c_4 c_11) (sl_til c_4 c_11) (by omega) dX3_get_23 ?_
      refine lv_goto (tgt := 28) hx hb dX3_get_24 (by decide) ?_
      exact sl_ri (v := T (4 * x.toNatClampNeg + y.toNatClampNeg)) hC hr hG () (by show _ = sl_tg T x y; rw [sl_tg, if_pos ⟨c_4, c_11⟩]) rfl (Nat.le_of_ble_eq_true rfl) (Nat.le_of_ble_eq_true rfl) dX3_get_28
set_option maxHeartbeats 4000000 in
set_option maxRecDepth 100000 in
theorem kX3_set (l : Launch) (Γ : sl_G) (g : sl_W) (kt ka a b : Nat) (T : Nat → Int32) (ht : g kt = some (a, .inr (3, [.ref b]))) (ha : g ka = some (b, .inl (Γ.2.1 0, 16, .inl T))) (x y z : Int32) : Met l yX3_set [Cond.code yX3_set cX3_set 4 none] ({ frames := 1, cells := 0, slots := 0, locals := 20 } : Room) (va_Pc [.ref a, .int x, .int y, .int z] (sl_B Γ g)) (sl_Qv Γ (fun (_ : Unit) => True) (fun _ => sl_up g ka (b, .inl (Γ.2.1 0, 16, .inl (sl_ts T x y z))))) 0 0 (sl_A Γ) := by
  refine sl_ent (by decide) (Nat.le_of_ble_eq_true rfl) ?_
  intro p e s m below meth c ls hC hr hin hG hl
  have hx := hC.1
  have hb := hC.2.1
  have hl : lv_has ls 4 [(0, .ref a), (1, .int x), (2, .int y), (3, .int z)] := hl
  refine lv_iload_n hx hb dX3_set_0 rfl (lv_at hl 1 rfl) ?_
  refine sl_calli (sl_runSN (As := [.int x]) (rest := []) hC hG (kX4_isStream l Γ g x) mi_X4_isStream lk_RX3_21 rfl rfl ⟨Nat.le_of_ble_eq_true rfl, Nat.le_of_ble_eq_true rfl⟩ rfl hl.1 rfl (Nat.le_of_ble_eq_true rfl) dX3_set_1 ⟨Nat.le_of_ble_eq_true rfl, Nat.le_of_ble_eq_true rfl⟩) hG (fun r_1 u_1 H locs hr_1 hG => ?_)
  subst hr_1
  refine lv_if_eq (tgt := 25) hx hb dX3_set_4 (by decide) (fun c_4 => ?_) (fun c_4 => ?_)
  · have c_4 := sl_bF c_4
    exact sl_rv hC hr hG () trivial (by show sl_up g ka (b, .inl (Γ.2.1 0, 16, .inl (sl_ts T x y z))) = _; rw [sl_ts, if_neg (fun w => by rw [c_4] at w; cases w.1)]; exact sl_up_same ha) (Nat.le_of_ble_eq_true rfl) (Nat.le_of_ble_eq_true rfl) dX3_set_25
  · have c_4 := sl_bT c_4
    refine lv_iload_n hx hb dX3_set_7 rfl (lv_at hl 2 rfl) ?_
    refine sl_calli (sl_runSN (As := [.int y]) (rest := []) hC hG (kX4_isPointerNumber l Γ g y) mi_X4_isPointerNumber lk_RX3_25 rfl rfl ⟨Nat.le_of_ble_eq_true rfl, Nat.le_of_ble_eq_true rfl⟩ rfl hl.1 rfl (Nat.le_of_ble_eq_true rfl) dX3_set_8 ⟨Nat.le_of_ble_eq_true rfl, Nat.le_of_ble_eq_true rfl⟩) hG (fun r_8 u_8 H locs hr_8 hG => ?_)
    subst hr_8
    refine lv_if_eq (tgt := 25) hx hb dX3_set_11 (by decide) (fun c_11 => ?_) (fun c_11 => ?_)
    · have c_11 := sl_bF c_11
      exact sl_rv hC hr hG () trivial (by show sl_up g ka (b, .inl (Γ.2.1 0, 16, .inl (sl_ts T x y z))) = _; rw [sl_ts, if_neg (fun w => by rw [c_11] at w; cases w.2)]; exact sl_up_same ha) (Nat.le_of_ble_eq_true rfl) (Nat.le_of_ble_eq_true rfl) dX3_set_25
    · have c_11 := sl_bT c_11
      refine lv_aload_n hx hb dX3_set_14 rfl (lv_at hl 0 rfl) ?_
      refine sl_get (C := RX3) (T := TX3) (N := 1) hC hG kt ht rfl la_3 0 (by decide) lk_RX3_9 rfl rfl dX3_set_15 ?_
      refine lv_iload_n hx hb dX3_set_18 rfl (lv_at hl 1 rfl) ?_
      refine lv_iconst (v := 4) hx hb dX3_set_19 (by decide) ?_
      refine lv_imul hx hb dX3_set_20 ?_
      refine lv_iload_n hx hb dX3_set_21 rfl (lv_at hl 2 rfl) ?_
      refine lv_iadd hx hb dX3_set_22 ?_
      refine lv_iload_n hx hb dX3_set_23 rfl (lv_at hl 3 rfl) ?_
      refine sl_iastN hC hG ka ha (j := 4 * x.toNatClampNeg + y.toNatClampNeg) (sl_tix c_4 c_11) (sl_til c_4 c_11) (by omega) dX3_set_24 (fun H locs hG => ?_)
      have hG : sl_I Γ (sl_up g ka (b, .inl (Γ.2.1 0, 16, .inl (upd T (4 * x.toNatClampNeg + y.toNatClampNeg) z)))) s H locs := hG
      exact sl_rv hC hr hG () trivial (by show sl_up g ka (b, .inl (Γ.2.1 0, 16, .inl (sl_ts T x y z))) = _; rw [sl_ts, if_pos ⟨c_4, c_11⟩]) (Nat.le_of_ble_eq_true rfl) (Nat.le_of_ble_eq_true rfl) dX3_set_25
set_option maxHeartbeats 4000000 in
set_option maxRecDepth 100000 in
theorem kX3_clear (l : Launch) (Γ : sl_G) (g : sl_W) (kt ka a b : Nat) (T : Nat → Int32) (ht : g kt = some (a, .inr (3, [.ref b]))) (ha : g ka = some (b, .inl (Γ.2.1 0, 16, .inl T))) : Met l yX3_clear [Cond.code yX3_clear cX3_clear 1 none] ({ frames := 1, cells := 0, slots := 0, locals := 23 } : Room) (va_Pc [.ref a] (sl_B Γ g)) (sl_Qv Γ (fun (_ : Unit) => True) (fun _ => sl_up g ka (b, .inl (Γ.2.1 0, 16, .inl (fun _ => (-1)))))) 0 0 (sl_A Γ) := by
  refine sl_ent (by decide) (Nat.le_of_ble_eq_true rfl) ?_
  intro p e s m below meth c ls hC hr hin hG hl
  have hx := hC.1
  have hb := hC.2.1
  have hl : lv_has ls 1 [(0, .ref a)] := hl
  refine lv_aload_n hx hb dX3_clear_0 rfl (lv_at hl 0 rfl) ?_
  refine sl_get (C := RX3) (T := TX3) (N := 1) hC hG kt ht rfl la_3 0 (by decide) lk_RX3_9 rfl rfl dX3_clear_1 ?_
  refine lv_iconst (v := (-1)) hx hb dX3_clear_4 (by decide) ?_
  refine sl_callv (sl_runS (As := [.ref b, .int (-1)]) (rest := []) hC hG (kJ7_fill_53178 l Γ g ka b 16 T ha (by omega) (-1)) mi_J7_fill_53178 lk_RX3_15 rfl rfl ⟨Nat.le_of_ble_eq_true rfl, Nat.le_of_ble_eq_true rfl⟩ rfl hl.1 rfl (Nat.le_of_ble_eq_true rfl) dX3_clear_5 ⟨Nat.le_of_ble_eq_true rfl, Nat.le_of_ble_eq_true rfl⟩) hG (fun u_5 H locs hr_5 hG => ?_)
  have hG : sl_I Γ (sl_up g ka (b, .inl (Γ.2.1 0, 16, .inl (fun _ => (-1))))) s H locs := hG
  exact sl_rv hC hr hG () trivial rfl (Nat.le_of_ble_eq_true rfl) (Nat.le_of_ble_eq_true rfl) dX3_clear_8
theorem sl_push1 {T : Nat → Int32} {ss z : Int32} {k : Nat} (h : sl_has ss (nI k) = true) : upd (upd (upd (upd (sl_tp T ss z k) (4 * k + 3) (sl_tp T ss z k (4 * k + 2))) (4 * k + 2) (upd (sl_tp T ss z k) (4 * k + 3) (sl_tp T ss z k (4 * k + 2)) (4 * k + 1))) (4 * k + 1) (upd (upd (sl_tp T ss z k) (4 * k + 3) (sl_tp T ss z k (4 * k + 2))) (4 * k + 2) (upd (sl_tp T ss z k) (4 * k + 3) (sl_tp T ss z k (4 * k + 2)) (4 * k + 1)) (4 * k))) (4 * k) z = sl_tp T ss z (k + 1) := by
  rw [sl_tp, if_pos h, sl_t1, pk_un (k := 4 * k + 3) (j := 4 * k + 1) (by omega), pk_un (k := 4 * k + 2) (j := 4 * k) (by omega), pk_un (k := 4 * k + 3) (j := 4 * k) (by omega)]
theorem sl_push0 {T : Nat → Int32} {ss z : Int32} {k : Nat} (h : sl_has ss (nI k) = false) : sl_tp T ss z k = sl_tp T ss z (k + 1) := by
  rw [sl_tp, if_neg (fun w => by rw [h] at w; cases w)]
set_option maxHeartbeats 4000000 in
set_option maxRecDepth 100000 in
theorem kX3_push (l : Launch) (Γ : sl_G) (g : sl_W) (kt ka a b : Nat) (T : Nat → Int32) (ht : g kt = some (a, .inr (3, [.ref b]))) (ha : g ka = some (b, .inl (Γ.2.1 0, 16, .inl T))) (hne : kt ≠ ka) (ss z : Int32) : Met l yX3_push [Cond.code yX3_push cX3_push 5 none] ({ frames := 2, cells := 0, slots := 0, locals := 43 } : Room) (va_Pc [.ref a, .int ss, .int z] (sl_B Γ g)) (sl_Qv Γ (fun (_ : Unit) => True) (fun _ => sl_up g ka (b, .inl (Γ.2.1 0, 16, .inl (sl_tp T ss z 4))))) 0 0 (sl_A Γ) := by
  refine sl_ent (by decide) (Nat.le_of_ble_eq_true rfl) ?_
  intro p e s m below meth c ls hC hr hin hG hl
  have hx := hC.1
  have hb := hC.2.1
  have hl : lv_has ls 5 [(0, .ref a), (1, .int ss), (2, .int z)] := hl
  refine lv_iconst (v := 0) hx hb dX3_push_0 (by decide) ?_
  refine lv_istore_n (lv' := [(3, .int 0), (0, .ref a), (1, .int ss), (2, .int z)]) hx hb dX3_push_1 rfl hl (by decide) rfl (fun ls hl => ?_)
  have loop_2 : ∀ (n k : Nat), k ≤ 4 → 4 + 1 ≤ k + n → ∀ (H : Heap) (locs : List Loc), sl_I Γ (sl_up g ka (b, .inl (Γ.2.1 0, 16, .inl (sl_tp T ss z k)))) s H locs → ∀ (ls : Array Slot), lv_has ls 5 [(0, .ref a), (1, .int ss), (2, .int z), (3, .int (nI k))] → W p l e ({ frames := 2, cells := 0, slots := 0, locals := 43 } : Room) s m ([.ref a, .int ss, .int z] : List Value).toArray below meth c H locs 0 0 (MQ below (sl_Qv Γ (fun (_ : Unit) => True) (fun _ => sl_up g ka (b, .inl (Γ.2.1 0, 16, .inl (sl_tp T ss z 4))))) ([.ref a, .int ss, .int z] : List Value).toArray s 0 0 (sl_A Γ)) (F0 m 2 ls []) := by
    intro n
    induction n with
    | zero =>
      intro k  h1 h2
      exact absurd h2 (by omega)
    | succ n ih_2 =>
      intro k  hk_2 hn_2  H locs hG ls hl
      refine lv_iload_n hx hb dX3_push_2 rfl (lv_at hl 3 rfl) ?_
      refine lv_iconst (v := 4) hx hb dX3_push_3 (by decide) ?_
      refine lv_icmp_ge (tgt := 58) hx hb dX3_push_4 (by decide) (fun c_4 => ?_) (fun c_4 => ?_)
      · have n_4 : 4 ≤ k := (nI_leI (a := 4) (b := k) (by omega) (by omega)).mp c_4
        have hk9 : k = 4 := by omega
        subst hk9
        exact sl_rv hC hr hG () trivial rfl (Nat.le_of_ble_eq_true rfl) (Nat.le_of_ble_eq_true rfl) dX3_push_58
      · have n_4 : ¬ (4 ≤ k) := fun z => c_4 ((nI_leI (a := 4) (b := k) (by omega) (by omega)).mpr z)
        refine lv_iload_n hx hb dX3_push_7 rfl (lv_at hl 3 rfl) ?_
        refine lv_iload_n hx hb dX3_push_8 rfl (lv_at hl 1 rfl) ?_
        refine sl_calli (sl_runSN (As := [.int (nI k), .int ss]) (rest := []) hC hG (kX4_isIn l Γ (sl_up g ka (b, .inl (Γ.2.1 0, 16, .inl (sl_tp T ss z k)))) (nI k) ss) mi_X4_isIn lk_RX3_28 rfl rfl ⟨Nat.le_of_ble_eq_true rfl, Nat.le_of_ble_eq_true rfl⟩ rfl hl.1 rfl (Nat.le_of_ble_eq_true rfl) dX3_push_9 ⟨Nat.le_of_ble_eq_true rfl, Nat.le_of_ble_eq_true rfl⟩) hG (fun r_9 u_9 H locs hr_9 hG => ?_)
        subst hr_9
        refine lv_if_eq (tgt := 52) hx hb dX3_push_12 (by decide) (fun c_12 => ?_) (fun c_12 => ?_)
        · have c_12 := sl_bF c_12
          refine lv_iinc (v := nI (k + 1)) (lv' := [(3, .int (nI (k + 1))), (0, .ref a), (1, .int ss), (2, .int z)]) hx hb dX3_push_52 hl (k := 3) rfl (nI_1 k) (by decide) rfl (fun ls hl => ?_)
          refine lv_goto (tgt := 2) hx hb dX3_push_55 (by decide) ?_
          rw [sl_push0 (T := T) (z := z) c_12] at hG
          exact ih_2 (k + 1) (by omega) (by omega) _ _ hG _ (lv_sub hl [1, 2, 3, 0] rfl)
        · have c_12 := sl_bT c_12
          refine lv_iconst (v := 3) hx hb dX3_push_15 (by decide) ?_
          refine lv_istore (lv' := [(4, .int 3), (0, .ref a), (1, .int ss), (2, .int z), (3, .int (nI k))]) hx hb dX3_push_16 hl (by decide) rfl (fun ls hl => ?_)
          refine lv_iload hx hb dX3_push_18 (lv_at hl 0 rfl) ?_
          refine lv_if_le (tgt := 45) hx hb dX3_push_20 (by decide) (fun c_20 => ?_) (fun c_20 => ?_)
          · exact absurd c_20 (by decide)
          · refine lv_aload_n hx hb dX3_push_23 rfl (lv_at hl 1 rfl) ?_
            refine lv_iload_n hx hb dX3_push_24 rfl (lv_at hl 4 rfl) ?_
            refine lv_iload hx hb dX3_push_25 (lv_at hl 0 rfl) ?_
            refine lv_aload_n hx hb dX3_push_27 rfl (lv_at hl 1 rfl) ?_
            refine lv_iload_n hx hb dX3_push_28 rfl (lv_at hl 4 rfl) ?_
            refine lv_iload hx hb dX3_push_29 (lv_at hl 0 rfl) ?_
            refine lv_iconst (v := 1) hx hb dX3_push_31 (by decide) ?_
            refine lv_isub hx hb dX3_push_32 ?_
            refine sl_topi (y := 2) (by decide) ?_
            refine sl_calli (sl_runV (As := [.int (nI k), .int 2]) (rest := [.int 3, .int (nI k), .ref a]) hC hG (kX3_get l Γ (sl_up g ka (b, .inl (Γ.2.1 0, 16, .inl (sl_tp T ss z k)))) kt ka a b (sl_tp T ss z k) (sl_up_to (by omega) ht) (sl_up_s _ _ _) (nI k) 2) mi_X3_get lk_RX3_32 kt (sl_up_to (by omega) ht) rfl rfl rfl ⟨Nat.le_of_ble_eq_true rfl, Nat.le_of_ble_eq_true rfl⟩ rfl hl.1 rfl (Nat.le_of_ble_eq_true rfl) dX3_push_33 ⟨Nat.le_of_ble_eq_true rfl, Nat.le_of_ble_eq_true rfl⟩) hG (fun r_33 u_33 H locs hr_33 hG => ?_)
            subst hr_33
            refine sl_topi (y := (sl_tp T ss z k) (4 * k + 2)) (sl_tgN (sl_tp T ss z k) (a := k) (b := 2) (by omega) (by omega)) ?_
            refine sl_callv (sl_runV (As := [.int (nI k), .int 3, .int ((sl_tp T ss z k) (4 * k + 2))]) (rest := []) hC hG (kX3_set l Γ (sl_up g ka (b, .inl (Γ.2.1 0, 16, .inl (sl_tp T ss z k)))) kt ka a b (sl_tp T ss z k) (sl_up_to (by omega) ht) (sl_up_s _ _ _) (nI k) 3 ((sl_tp T ss z k) (4 * k + 2))) mi_X3_set lk_RX3_36 kt (sl_up_to (by omega) ht) rfl rfl rfl ⟨Nat.le_of_ble_eq_true rfl, Nat.le_of_ble_eq_true rfl⟩ rfl hl.1 rfl (Nat.le_of_ble_eq_true rfl) dX3_push_36 ⟨Nat.le_of_ble_eq_true rfl, Nat.le_of_ble_eq_true rfl⟩) hG (fun u_36 H locs hr_36 hG => ?_)
            have hG : sl_I Γ (sl_up (sl_up g ka (b, .inl (Γ.2.1 0, 16, .inl (sl_tp T ss z k)))) ka (b, .inl (Γ.2.1 0, 16, .inl (sl_ts (sl_tp T ss z k) (nI k) 3 ((sl_tp T ss z k) (4 * k + 2)))))) s H locs := hG
            rw [show sl_ts (sl_tp T ss z k) (nI k) 3 ((sl_tp T ss z k) (4 * k + 2)) = upd (sl_tp T ss z k) (4 * k + 3) ((sl_tp T ss z k) (4 * k + 2)) from sl_tsN (sl_tp T ss z k) (a := k) (b := 3) ((sl_tp T ss z k) (4 * k + 2)) (by omega) (by omega)] at hG
            refine lv_iinc (v := 2) (lv' := [(4, .int 2), (0, .ref a), (1, .int ss), (2, .int z), (3, .int (nI k))]) hx hb dX3_push_39 hl (k := 0) rfl (by decide) (by decide) rfl (fun ls hl => ?_)
            refine lv_goto (tgt := 18) hx hb dX3_push_42 (by decide) ?_
            refine lv_iload hx hb dX3_push_18 (lv_at hl 0 rfl) ?_
            refine lv_if_le (tgt := 45) hx hb dX3_push_20 (by decide) (fun c_20 => ?_) (fun c_20 => ?_)
            · exact absurd c_20 (by decide)
            · refine lv_aload_n hx hb dX3_push_23 rfl (lv_at hl 1 rfl) ?_
              refine lv_iload_n hx hb dX3_push_24 rfl (lv_at hl 4 rfl) ?_
              refine lv_iload hx hb dX3_push_25 (lv_at hl 0 rfl) ?_
              refine lv_aload_n hx hb dX3_push_27 rfl (lv_at hl 1 rfl) ?_
              refine lv_iload_n hx hb dX3_push_28 rfl (lv_at hl 4 rfl) ?_
              refine lv_iload hx hb dX3_push_29 (lv_at hl 0 rfl) ?_
              refine lv_iconst (v := 1) hx hb dX3_push_31 (by decide) ?_
              refine lv_isub hx hb dX3_push_32 ?_
              refine sl_topi (y := 1) (by decide) ?_
              refine sl_calli (sl_runV (As := [.int (nI k), .int 1]) (rest := [.int 2, .int (nI k), .ref a]) hC hG (kX3_get l Γ (sl_up (sl_up g ka (b, .inl (Γ.2.1 0, 16, .inl (sl_tp T ss z k)))) ka (b, .inl (Γ.2.1 0, 16, .inl (upd (sl_tp T ss z k) (4 * k + 3) ((sl_tp T ss z k) (4 * k + 2)))))) kt ka a b (upd (sl_tp T ss z k) (4 * k + 3) ((sl_tp T ss z k) (4 * k + 2))) (sl_up_to (by omega) (sl_up_to (by omega) ht)) (sl_up_s _ _ _) (nI k) 1) mi_X3_get lk_RX3_32 kt (sl_up_to (by omega) (sl_up_to (by omega) ht)) rfl rfl rfl ⟨Nat.le_of_ble_eq_true rfl, Nat.le_of_ble_eq_true rfl⟩ rfl hl.1 rfl (Nat.le_of_ble_eq_true rfl) dX3_push_33 ⟨Nat.le_of_ble_eq_true rfl, Nat.le_of_ble_eq_true rfl⟩) hG (fun r_33 u_33 H locs hr_33 hG => ?_)
              subst hr_33
              refine sl_topi (y := (upd (sl_tp T ss z k) (4 * k + 3) ((sl_tp T ss z k) (4 * k + 2))) (4 * k + 1)) (sl_tgN (upd (sl_tp T ss z k) (4 * k + 3) ((sl_tp T ss z k) (4 * k + 2))) (a := k) (b := 1) (by omega) (by omega)) ?_
              refine sl_callv (sl_runV (As := [.int (nI k), .int 2, .int ((upd (sl_tp T ss z k) (4 * k + 3) ((sl_tp T ss z k) (4 * k + 2))) (4 * k + 1))]) (rest := []) hC hG (kX3_set l Γ (sl_up (sl_up g ka (b, .inl (Γ.2.1 0, 16, .inl (sl_tp T ss z k)))) ka (b, .inl (Γ.2.1 0, 16, .inl (upd (sl_tp T ss z k) (4 * k + 3) ((sl_tp T ss z k) (4 * k + 2)))))) kt ka a b (upd (sl_tp T ss z k) (4 * k + 3) ((sl_tp T ss z k) (4 * k + 2))) (sl_up_to (by omega) (sl_up_to (by omega) ht)) (sl_up_s _ _ _) (nI k) 2 ((upd (sl_tp T ss z k) (4 * k + 3) ((sl_tp T ss z k) (4 * k + 2))) (4 * k + 1))) mi_X3_set lk_RX3_36 kt (sl_up_to (by omega) (sl_up_to (by omega) ht)) rfl rfl rfl ⟨Nat.le_of_ble_eq_true rfl, Nat.le_of_ble_eq_true rfl⟩ rfl hl.1 rfl (Nat.le_of_ble_eq_true rfl) dX3_push_36 ⟨Nat.le_of_ble_eq_true rfl, Nat.le_of_ble_eq_true rfl⟩) hG (fun u_36 H locs hr_36 hG => ?_)
              rw [sl_up_up] at hG
              have hG : sl_I Γ (sl_up (sl_up g ka (b, .inl (Γ.2.1 0, 16, .inl (sl_tp T ss z k)))) ka (b, .inl (Γ.2.1 0, 16, .inl (sl_ts (upd (sl_tp T ss z k) (4 * k + 3) ((sl_tp T ss z k) (4 * k + 2))) (nI k) 2 ((upd (sl_tp T ss z k) (4 * k + 3) ((sl_tp T ss z k) (4 * k + 2))) (4 * k + 1)))))) s H locs := hG
              rw [show sl_ts (upd (sl_tp T ss z k) (4 * k + 3) ((sl_tp T ss z k) (4 * k + 2))) (nI k) 2 ((upd (sl_tp T ss z k) (4 * k + 3) ((sl_tp T ss z k) (4 * k + 2))) (4 * k + 1)) = upd (upd (sl_tp T ss z k) (4 * k + 3) ((sl_tp T ss z k) (4 * k + 2))) (4 * k + 2) ((upd (sl_tp T ss z k) (4 * k + 3) ((sl_tp T ss z k) (4 * k + 2))) (4 * k + 1)) from sl_tsN (upd (sl_tp T ss z k) (4 * k + 3) ((sl_tp T ss z k) (4 * k + 2))) (a := k) (b := 2) ((upd (sl_tp T ss z k) (4 * k + 3) ((sl_tp T ss z k) (4 * k + 2))) (4 * k + 1)) (by omega) (by omega)] at hG
              refine lv_iinc (v := 1) (lv' := [(4, .int 1), (0, .ref a), (1, .int ss), (2, .int z), (3, .int (nI k))]) hx hb dX3_push_39 hl (k := 0) rfl (by decide) (by decide) rfl (fun ls hl => ?_)
              refine lv_goto (tgt := 18) hx hb dX3_push_42 (by decide) ?_
              refine lv_iload hx hb dX3_push_18 (lv_at hl 0 rfl) ?_
              refine lv_if_le (tgt := 45) hx hb dX3_push_20 (by decide) (fun c_20 => ?_) (fun c_20 => ?_)
              · exact absurd c_20 (by decide)
              · refine lv_aload_n hx hb dX3_push_23 rfl (lv_at hl 1 rfl) ?_
                refine lv_iload_n hx hb dX3_push_24 rfl (lv_at hl 4 rfl) ?_
                refine lv_iload hx hb dX3_push_25 (lv_at hl 0 rfl) ?_
                refine lv_aload_n hx hb dX3_push_27 rfl (lv_at hl 1 rfl) ?_
                refine lv_iload_n hx hb dX3_push_28 rfl (lv_at hl 4 rfl) ?_
                refine lv_iload hx hb dX3_push_29 (lv_at hl 0 rfl) ?_
                refine lv_iconst (v := 1) hx hb dX3_push_31 (by decide) ?_
                refine lv_isub hx hb dX3_push_32 ?_
                refine sl_topi (y := 0) (by decide) ?_
                refine sl_calli (sl_runV (As := [.int (nI k), .int 0]) (rest := [.int 1, .int (nI k), .ref a]) hC hG (kX3_get l Γ (sl_up (sl_up g ka (b, .inl (Γ.2.1 0, 16, .inl (sl_tp T ss z k)))) ka (b, .inl (Γ.2.1 0, 16, .inl (upd (upd (sl_tp T ss z k) (4 * k + 3) ((sl_tp T ss z k) (4 * k + 2))) (4 * k + 2) ((upd (sl_tp T ss z k) (4 * k + 3) ((sl_tp T ss z k) (4 * k + 2))) (4 * k + 1)))))) kt ka a b (upd (upd (sl_tp T ss z k) (4 * k + 3) ((sl_tp T ss z k) (4 * k + 2))) (4 * k + 2) ((upd (sl_tp T ss z k) (4 * k + 3) ((sl_tp T ss z k) (4 * k + 2))) (4 * k + 1))) (sl_up_to (by omega) (sl_up_to (by omega) ht)) (sl_up_s _ _ _) (nI k) 0) mi_X3_get lk_RX3_32 kt (sl_up_to (by omega) (sl_up_to (by omega) ht)) rfl rfl rfl ⟨Nat.le_of_ble_eq_true rfl, Nat.le_of_ble_eq_true rfl⟩ rfl hl.1 rfl (Nat.le_of_ble_eq_true rfl) dX3_push_33 ⟨Nat.le_of_ble_eq_true rfl, Nat.le_of_ble_eq_true rfl⟩) hG (fun r_33 u_33 H locs hr_33 hG => ?_)
                subst hr_33
                refine sl_topi (y := (upd (upd (sl_tp T ss z k) (4 * k + 3) ((sl_tp T ss z k) (4 * k + 2))) (4 * k + 2) ((upd (sl_tp T ss z k) (4 * k + 3) ((sl_tp T ss z k) (4 * k + 2))) (4 * k + 1))) (4 * k)) (sl_tgN (upd (upd (sl_tp T ss z k) (4 * k + 3) ((sl_tp T ss z k) (4 * k + 2))) (4 * k + 2) ((upd (sl_tp T ss z k) (4 * k + 3) ((sl_tp T ss z k) (4 * k + 2))) (4 * k + 1))) (a := k) (b := 0) (by omega) (by omega)) ?_
                refine sl_callv (sl_runV (As := [.int (nI k), .int 1, .int ((upd (upd (sl_tp T ss z k) (4 * k + 3) ((sl_tp T ss z k) (4 * k + 2))) (4 * k + 2) ((upd (sl_tp T ss z k) (4 * k + 3) ((sl_tp T ss z k) (4 * k + 2))) (4 * k + 1))) (4 * k))]) (rest := []) hC hG (kX3_set l Γ (sl_up (sl_up g ka (b, .inl (Γ.2.1 0, 16, .inl (sl_tp T ss z k)))) ka (b, .inl (Γ.2.1 0, 16, .inl (upd (upd (sl_tp T ss z k) (4 * k + 3) ((sl_tp T ss z k) (4 * k + 2))) (4 * k + 2) ((upd (sl_tp T ss z k) (4 * k + 3) ((sl_tp T ss z k) (4 * k + 2))) (4 * k + 1)))))) kt ka a b (upd (upd (sl_tp T ss z k) (4 * k + 3) ((sl_tp T ss z k) (4 * k + 2))) (4 * k + 2) ((upd (sl_tp T ss z k) (4 * k + 3) ((sl_tp T ss z k) (4 * k + 2))) (4 * k + 1))) (sl_up_to (by omega) (sl_up_to (by omega) ht)) (sl_up_s _ _ _) (nI k) 1 ((upd (upd (sl_tp T ss z k) (4 * k + 3) ((sl_tp T ss z k) (4 * k + 2))) (4 * k + 2) ((upd (sl_tp T ss z k) (4 * k + 3) ((sl_tp T ss z k) (4 * k + 2))) (4 * k + 1))) (4 * k))) mi_X3_set lk_RX3_36 kt (sl_up_to (by omega) (sl_up_to (by omega) ht)) rfl rfl rfl ⟨Nat.le_of_ble_eq_true rfl, Nat.le_of_ble_eq_true rfl⟩ rfl hl.1 rfl (Nat.le_of_ble_eq_true rfl) dX3_push_36 ⟨Nat.le_of_ble_eq_true rfl, Nat.le_of_ble_eq_true rfl⟩) hG (fun u_36 H locs hr_36 hG => ?_)
                rw [sl_up_up] at hG
                have hG : sl_I Γ (sl_up (sl_up g ka (b, .inl (Γ.2.1 0, 16, .inl (sl_tp T ss z k)))) ka (b, .inl (Γ.2.1 0, 16, .inl (sl_ts (upd (upd (sl_tp T ss z k) (4 * k + 3) ((sl_tp T ss z k) (4 * k + 2))) (4 * k + 2) ((upd (sl_tp T ss z k) (4 * k + 3) ((sl_tp T ss z k) (4 * k + 2))) (4 * k + 1))) (nI k) 1 ((upd (upd (sl_tp T ss z k) (4 * k + 3) ((sl_tp T ss z k) (4 * k + 2))) (4 * k + 2) ((upd (sl_tp T ss z k) (4 * k + 3) ((sl_tp T ss z k) (4 * k + 2))) (4 * k + 1))) (4 * k)))))) s H locs := hG
                rw [show sl_ts (upd (upd (sl_tp T ss z k) (4 * k + 3) ((sl_tp T ss z k) (4 * k + 2))) (4 * k + 2) ((upd (sl_tp T ss z k) (4 * k + 3) ((sl_tp T ss z k) (4 * k + 2))) (4 * k + 1))) (nI k) 1 ((upd (upd (sl_tp T ss z k) (4 * k + 3) ((sl_tp T ss z k) (4 * k + 2))) (4 * k + 2) ((upd (sl_tp T ss z k) (4 * k + 3) ((sl_tp T ss z k) (4 * k + 2))) (4 * k + 1))) (4 * k)) = upd (upd (upd (sl_tp T ss z k) (4 * k + 3) ((sl_tp T ss z k) (4 * k + 2))) (4 * k + 2) ((upd (sl_tp T ss z k) (4 * k + 3) ((sl_tp T ss z k) (4 * k + 2))) (4 * k + 1))) (4 * k + 1) ((upd (upd (sl_tp T ss z k) (4 * k + 3) ((sl_tp T ss z k) (4 * k + 2))) (4 * k + 2) ((upd (sl_tp T ss z k) (4 * k + 3) ((sl_tp T ss z k) (4 * k + 2))) (4 * k + 1))) (4 * k)) from sl_tsN (upd (upd (sl_tp T ss z k) (4 * k + 3) ((sl_tp T ss z k) (4 * k + 2))) (4 * k + 2) ((upd (sl_tp T ss z k) (4 * k + 3) ((sl_tp T ss z k) (4 * k + 2))) (4 * k + 1))) (a := k) (b := 1) ((upd (upd (sl_tp T ss z k) (4 * k + 3) ((sl_tp T ss z k) (4 * k + 2))) (4 * k + 2) ((upd (sl_tp T ss z k) (4 * k + 3) ((sl_tp T ss z k) (4 * k + 2))) (4 * k + 1))) (4 * k)) (by omega) (by omega)] at hG
                refine lv_iinc (v := 0) (lv' := [(4, .int 0), (0, .ref a), (1, .int ss), (2, .int z), (3, .int (nI k))]) hx hb dX3_push_39 hl (k := 0) rfl (by decide) (by decide) rfl (fun ls hl => ?_)
                refine lv_goto (tgt := 18) hx hb dX3_push_42 (by decide) ?_
                refine lv_iload hx hb dX3_push_18 (lv_at hl 0 rfl) ?_
                refine lv_if_le (tgt := 45) hx hb dX3_push_20 (by decide) (fun c_20 => ?_) (fun c_20 => ?_)
                · refine lv_aload_n hx hb dX3_push_45 rfl (lv_at hl 1 rfl) ?_
                  refine lv_iload_n hx hb dX3_push_46 rfl (lv_at hl 4 rfl) ?_
                  refine lv_iconst (v := 0) hx hb dX3_push_47 (by decide) ?_
                  refine lv_iload_n hx hb dX3_push_48 rfl (lv_at hl 3 rfl) ?_
                  refine sl_callv (sl_runV (As := [.int (nI k), .int 0, .int z]) (rest := []) hC hG (kX3_set l Γ (sl_up (sl_up g ka (b, .inl (Γ.2.1 0, 16, .inl (sl_tp T ss z k)))) ka (b, .inl (Γ.2.1 0, 16, .inl (upd (upd (upd (sl_tp T ss z k) (4 * k + 3) ((sl_tp T ss z k) (4 * k + 2))) (4 * k + 2) ((upd (sl_tp T ss z k) (4 * k + 3) ((sl_tp T ss z k) (4 * k + 2))) (4 * k + 1))) (4 * k + 1) ((upd (upd (sl_tp T ss z k) (4 * k + 3) ((sl_tp T ss z k) (4 * k + 2))) (4 * k + 2) ((upd (sl_tp T ss z k) (4 * k + 3) ((sl_tp T ss z k) (4 * k + 2))) (4 * k + 1))) (4 * k)))))) kt ka a b (upd (upd (upd (sl_tp T ss z k) (4 * k + 3) ((sl_tp T ss z k) (4 * k + 2))) (4 * k + 2) ((upd (sl_tp T ss z k) (4 * k + 3) ((sl_tp T ss z k) (4 * k + 2))) (4 * k + 1))) (4 * k + 1) ((upd (upd (sl_tp T ss z k) (4 * k + 3) ((sl_tp T ss z k) (4 * k + 2))) (4 * k + 2) ((upd (sl_tp T ss z k) (4 * k + 3) ((sl_tp T ss z k) (4 * k + 2))) (4 * k + 1))) (4 * k))) (sl_up_to (by omega) (sl_up_to (by omega) ht)) (sl_up_s _ _ _) (nI k) 0 z) mi_X3_set lk_RX3_36 kt (sl_up_to (by omega) (sl_up_to (by omega) ht)) rfl rfl rfl ⟨Nat.le_of_ble_eq_true rfl, Nat.le_of_ble_eq_true rfl⟩ rfl hl.1 rfl (Nat.le_of_ble_eq_true rfl) dX3_push_49 ⟨Nat.le_of_ble_eq_true rfl, Nat.le_of_ble_eq_true rfl⟩) hG (fun u_49 H locs hr_49 hG => ?_)
                  rw [sl_up_up] at hG
                  have hG : sl_I Γ (sl_up (sl_up g ka (b, .inl (Γ.2.1 0, 16, .inl (sl_tp T ss z k)))) ka (b, .inl (Γ.2.1 0, 16, .inl (sl_ts (upd (upd (upd (sl_tp T ss z k) (4 * k + 3) ((sl_tp T ss z k) (4 * k + 2))) (4 * k + 2) ((upd (sl_tp T ss z k) (4 * k + 3) ((sl_tp T ss z k) (4 * k + 2))) (4 * k + 1))) (4 * k + 1) ((upd (upd (sl_tp T ss z k) (4 * k + 3) ((sl_tp T ss z k) (4 * k + 2))) (4 * k + 2) ((upd (sl_tp T ss z k) (4 * k + 3) ((sl_tp T ss z k) (4 * k + 2))) (4 * k + 1))) (4 * k))) (nI k) 0 z)))) s H locs := hG
                  rw [show sl_ts (upd (upd (upd (sl_tp T ss z k) (4 * k + 3) ((sl_tp T ss z k) (4 * k + 2))) (4 * k + 2) ((upd (sl_tp T ss z k) (4 * k + 3) ((sl_tp T ss z k) (4 * k + 2))) (4 * k + 1))) (4 * k + 1) ((upd (upd (sl_tp T ss z k) (4 * k + 3) ((sl_tp T ss z k) (4 * k + 2))) (4 * k + 2) ((upd (sl_tp T ss z k) (4 * k + 3) ((sl_tp T ss z k) (4 * k + 2))) (4 * k + 1))) (4 * k))) (nI k) 0 z = upd (upd (upd (upd (sl_tp T ss z k) (4 * k + 3) ((sl_tp T ss z k) (4 * k + 2))) (4 * k + 2) ((upd (sl_tp T ss z k) (4 * k + 3) ((sl_tp T ss z k) (4 * k + 2))) (4 * k + 1))) (4 * k + 1) ((upd (upd (sl_tp T ss z k) (4 * k + 3) ((sl_tp T ss z k) (4 * k + 2))) (4 * k + 2) ((upd (sl_tp T ss z k) (4 * k + 3) ((sl_tp T ss z k) (4 * k + 2))) (4 * k + 1))) (4 * k))) (4 * k) z from sl_tsN (upd (upd (upd (sl_tp T ss z k) (4 * k + 3) ((sl_tp T ss z k) (4 * k + 2))) (4 * k + 2) ((upd (sl_tp T ss z k) (4 * k + 3) ((sl_tp T ss z k) (4 * k + 2))) (4 * k + 1))) (4 * k + 1) ((upd (upd (sl_tp T ss z k) (4 * k + 3) ((sl_tp T ss z k) (4 * k + 2))) (4 * k + 2) ((upd (sl_tp T ss z k) (4 * k + 3) ((sl_tp T ss z k) (4 * k + 2))) (4 * k + 1))) (4 * k))) (a := k) (b := 0) z (by omega) (by omega)] at hG
                  refine lv_iinc (v := nI (k + 1)) (lv' := [(3, .int (nI (k + 1))), (4, .int 0), (0, .ref a), (1, .int ss), (2, .int z)]) hx hb dX3_push_52 hl (k := 4) rfl (nI_1 k) (by decide) rfl (fun ls hl => ?_)
                  refine lv_goto (tgt := 2) hx hb dX3_push_55 (by decide) ?_
                  rw [sl_up_up] at hG
                  rw [sl_push1 (T := T) (ss := ss) (z := z) c_12] at hG
                  exact ih_2 (k + 1) (by omega) (by omega) _ _ hG _ (lv_sub hl [2, 3, 4, 0] rfl)
                · exact absurd c_20 (by decide)
  rw [← sl_up_same ha] at hG
  exact loop_2 (4 + 1) 0 (by omega) (by omega) _ _ hG _ (lv_sub hl [1, 2, 3, 0] rfl)
end
section
/-! constructors; a trail's copy -/
theorem sl_tc_0 (T : Nat → Int32) (ss : Int32) : (fun _ => (-1)) = sl_tc T ss 0 := by
  funext j
  rw [sl_tc, if_neg (fun z => by have := z.1; omega)]
theorem sl_ne_none {g : sl_W} {a b : Nat} {q : Nat × va_E} (h1 : g a = some q) (h2 : g b = none) : a ≠ b := fun e => by rw [e, h2] at h1; cases h1
set_option maxHeartbeats 4000000 in
set_option maxRecDepth 100000 in
theorem kX0_init (l : Launch) (Γ : sl_G) (g : sl_W) (a2 : Nat) (h2 : g 2 = some (a2, .inr (0, [.null]))) (h3 : g 3 = none) : Met l yX0_init [Cond.code yX0_init cX0_init 1 none] ({ frames := 1, cells := 1, slots := 360, locals := 23 } : Room) (va_Pc [.ref a2] (sl_B Γ g)) (sl_Qv Γ (fun (_ : Nat) => True) (fun q => sl_up (sl_up g 2 (a2, .inr (0, [.ref q]))) 3 (q, .inl (Γ.2.1 0, 360, .inl (fun _ => (-2)))))) 1 360 (sl_A Γ) := by
  refine sl_ent (by decide) (Nat.le_of_ble_eq_true rfl) ?_
  intro p e s m below meth c ls hC hr hin hG hl
  have hx := hC.1
  have hb := hC.2.1
  have hl : lv_has ls 1 [(0, .ref a2)] := hl
  refine lv_aload_n hx hb dX0_init_0 rfl (lv_at hl 0 rfl) ?_
  refine W.objInit hx hb hC.2.2.2.1 (sl_tab hC lk_RX0_3 rfl) (sl_tab hC oi_inst rfl) (sl_tab hC oi_code rfl) rfl (hl.1.trans hC.2.2.1.symm) rfl dX0_init_1 (Nat.le_of_ble_eq_true rfl) (Nat.le_of_ble_eq_true rfl) ?_
  refine W.eq (g2 := F0 m 4 ls []) rfl ?_
  refine lv_aload_n hx hb dX0_init_4 rfl (lv_at hl 0 rfl) ?_
  refine lv_sipush (v := 360) hx hb dX0_init_5 (by decide) ?_
  refine sl_newa (atype := .int) (ty := .int) (a0 := (360, .inl (fun _ => 0))) hC hG 3 0 h3 ac_int rfl rfl (fun _ => rfl) (by decide) (by decide) (Nat.le_of_ble_eq_true rfl) (Nat.le_of_ble_eq_true rfl) (Nat.le_of_ble_eq_true rfl) dX0_init_8 (fun q_8 H hG => ?_)
  have hG : sl_I Γ (sl_up g 3 (q_8, .inl (Γ.2.1 0, 360, .inl (fun _ => 0)))) s H _ := hG
  refine sl_putF (C := RX0) (T := TX0) (N := 1) (ty := .array .int) (v := .ref q_8) hC hG 2 (sl_up_to (by decide) h2) rfl la_0 tyX0 tyX0_ok nmX0 0 (by decide) lk_RX0_9 rfl rfl hin rfl (by decide +kernel) rfl rfl (Nat.le_of_ble_eq_true rfl) dX0_init_10 (fun H locs hG => ?_)
  have hG : sl_I Γ (sl_up (sl_up g 3 (q_8, .inl (Γ.2.1 0, 360, .inl (fun _ => 0)))) 2 (a2, .inr (0, [.ref q_8]))) s H _ := hG
  refine lv_aload_n hx hb dX0_init_13 rfl (lv_at hl 0 rfl) ?_
  refine sl_get (C := RX0) (T := TX0) (N := 1) hC hG 2 (sl_up_s _ _ _) rfl la_0 0 (by decide) lk_RX0_9 rfl rfl dX0_init_14 ?_
  refine lv_bipush (v := (-2)) hx hb dX0_init_17 (by decide) ?_
  refine sl_callv (sl_runS (As := [.ref q_8, .int (-2)]) (rest := []) hC hG (kJ7_fill_53178 l Γ (sl_up (sl_up g 3 (q_8, .inl (Γ.2.1 0, 360, .inl (fun _ => 0)))) 2 (a2, .inr (0, [.ref q_8]))) 3 q_8 360 (fun _ => 0) (sl_up_to (by decide) (sl_up_s _ _ _)) (by omega) (-2)) mi_J7_fill_53178 lk_RX0_15 rfl rfl ⟨Nat.le_of_ble_eq_true rfl, Nat.le_of_ble_eq_true rfl⟩ rfl hl.1 rfl (Nat.le_of_ble_eq_true rfl) dX0_init_19 ⟨Nat.le_of_ble_eq_true rfl, Nat.le_of_ble_eq_true rfl⟩) hG (fun u_19 H locs hr_19 hG => ?_)
  have hG : sl_I Γ (sl_up (sl_up (sl_up g 3 (q_8, .inl (Γ.2.1 0, 360, .inl (fun _ => 0)))) 2 (a2, .inr (0, [.ref q_8]))) 3 (q_8, .inl (Γ.2.1 0, 360, .inl (fun _ => (-2))))) s H _ := hG
  exact sl_rv hC hr hG q_8 trivial (sl_up_mid _ _ _ _ _ _).symm (Nat.le_of_ble_eq_true rfl) (Nat.le_of_ble_eq_true rfl) dX0_init_22
set_option maxHeartbeats 4000000 in
set_option maxRecDepth 100000 in
theorem kX3_init (l : Launch) (Γ : sl_G) (g : sl_W) (kt ka a : Nat) (ht : g kt = some (a, .inr (3, [.null]))) (ha : g ka = none) (hne : kt ≠ ka) : Met l yX3_init [Cond.code yX3_init cX3_init 1 none] ({ frames := 1, cells := 1, slots := 16, locals := 23 } : Room) (va_Pc [.ref a] (sl_B Γ g)) (sl_Qv Γ (fun (_ : Nat) => True) (fun q => sl_up (sl_up g kt (a, .inr (3, [.ref q]))) ka (q, .inl (Γ.2.1 0, 16, .inl (fun _ => (-1)))))) 1 16 (sl_A Γ) := by
  refine sl_ent (by decide) (Nat.le_of_ble_eq_true rfl) ?_
  intro p e s m below meth c ls hC hr hin hG hl
  have hx := hC.1
  have hb := hC.2.1
  have hl : lv_has ls 1 [(0, .ref a)] := hl
  refine lv_aload_n hx hb dX3_init_0 rfl (lv_at hl 0 rfl) ?_
  refine W.objInit hx hb hC.2.2.2.1 (sl_tab hC lk_RX3_3 rfl) (sl_tab hC oi_inst rfl) (sl_tab hC oi_code rfl) rfl (hl.1.trans hC.2.2.1.symm) rfl dX3_init_1 (Nat.le_of_ble_eq_true rfl) (Nat.le_of_ble_eq_true rfl) ?_
  refine W.eq (g2 := F0 m 4 ls []) rfl ?_
  refine lv_aload_n hx hb dX3_init_4 rfl (lv_at hl 0 rfl) ?_
  refine lv_bipush (v := 16) hx hb dX3_init_5 (by decide) ?_
  refine sl_newa (atype := .int) (ty := .int) (a0 := (16, .inl (fun _ => 0))) hC hG ka 0 ha ac_int rfl rfl (fun _ => rfl) (by decide) (by decide) (Nat.le_of_ble_eq_true rfl) (Nat.le_of_ble_eq_true rfl) (Nat.le_of_ble_eq_true rfl) dX3_init_7 (fun q_7 H hG => ?_)
  have hG : sl_I Γ (sl_up g ka (q_7, .inl (Γ.2.1 0, 16, .inl (fun _ => 0)))) s H _ := hG
  refine sl_putF (C := RX3) (T := TX3) (N := 1) (ty := .array .int) (v := .ref q_7) hC hG kt (sl_up_to (by omega) ht) rfl la_3 tyX3 tyX3_ok nmX3 0 (by decide) lk_RX3_9 rfl rfl hin rfl (by decide +kernel) rfl rfl (Nat.le_of_ble_eq_true rfl) dX3_init_9 (fun H locs hG => ?_)
  have hG : sl_I Γ (sl_up (sl_up g ka (q_7, .inl (Γ.2.1 0, 16, .inl (fun _ => 0)))) kt (a, .inr (3, [.ref q_7]))) s H _ := hG
  refine lv_aload_n hx hb dX3_init_12 rfl (lv_at hl 0 rfl) ?_
  refine sl_get (C := RX3) (T := TX3) (N := 1) hC hG kt (sl_up_s _ _ _) rfl la_3 0 (by decide) lk_RX3_9 rfl rfl dX3_init_13 ?_
  refine lv_iconst (v := (-1)) hx hb dX3_init_16 (by decide) ?_
  refine sl_callv (sl_runS (As := [.ref q_7, .int (-1)]) (rest := []) hC hG (kJ7_fill_53178 l Γ (sl_up (sl_up g ka (q_7, .inl (Γ.2.1 0, 16, .inl (fun _ => 0)))) kt (a, .inr (3, [.ref q_7]))) ka q_7 16 (fun _ => 0) (sl_up_to (by omega) (sl_up_s _ _ _)) (by omega) (-1)) mi_J7_fill_53178 lk_RX3_15 rfl rfl ⟨Nat.le_of_ble_eq_true rfl, Nat.le_of_ble_eq_true rfl⟩ rfl hl.1 rfl (Nat.le_of_ble_eq_true rfl) dX3_init_17 ⟨Nat.le_of_ble_eq_true rfl, Nat.le_of_ble_eq_true rfl⟩) hG (fun u_17 H locs hr_17 hG => ?_)
  have hG : sl_I Γ (sl_up (sl_up (sl_up g ka (q_7, .inl (Γ.2.1 0, 16, .inl (fun _ => 0)))) kt (a, .inr (3, [.ref q_7]))) ka (q_7, .inl (Γ.2.1 0, 16, .inl (fun _ => (-1))))) s H _ := hG
  exact sl_rv hC hr hG q_7 trivial (sl_up_mid _ _ _ _ _ _).symm (Nat.le_of_ble_eq_true rfl) (Nat.le_of_ble_eq_true rfl) dX3_init_20
set_option maxHeartbeats 4000000 in
set_option maxRecDepth 100000 in
theorem kX1_init (l : Launch) (Γ : sl_G) (g : sl_W) (ke a b : Nat) (he : g ke = some (a, .inr (1, [.int 0, .int 0, .int 0, .int 0, .int 0, .int 0, .null, .int 0]))) (x1 x2 x3 x4 x5 x6 : Int32) : Met l yX1_init [Cond.code yX1_init cX1_init 8 none] ({ frames := 1, cells := 0, slots := 0, locals := 20 } : Room) (va_Pc [.ref a, .int x1, .int x2, .int x3, .int x4, .int x5, .int x6, .ref b] (sl_B Γ g)) (sl_Qv Γ (fun (_ : Unit) => True) (fun _ => sl_up g ke (a, .inr (1, [.int x1, .int x2, .int x3, .int x4, .int x5, .int x6, .ref b, .int 0])))) 0 0 (sl_A Γ) := by
  refine sl_ent (by decide) (Nat.le_of_ble_eq_true rfl) ?_
  intro p e s m below meth c ls hC hr hin hG hl
  have hx := hC.1
  have hb := hC.2.1
  have hl : lv_has ls 8 [(0, .ref a), (1, .int x1), (2, .int x2), (3, .int x3), (4, .int x4), (5, .int x5), (6, .int x6), (7, .ref b)] := hl
  refine lv_aload_n hx hb dX1_init_0 rfl (lv_at hl 0 rfl) ?_
  refine W.objInit hx hb hC.2.2.2.1 (sl_tab hC lk_RX1_1 rfl) (sl_tab hC oi_inst rfl) (sl_tab hC oi_code rfl) rfl (hl.1.trans hC.2.2.1.symm) rfl dX1_init_1 (Nat.le_of_ble_eq_true rfl) (Nat.le_of_ble_eq_true rfl) ?_
  refine W.eq (g2 := F0 m 4 ls []) rfl ?_
  refine lv_aload_n hx hb dX1_init_4 rfl (lv_at hl 0 rfl) ?_
  refine lv_iconst (v := 0) hx hb dX1_init_5 (by decide) ?_
  refine sl_put (C := RX1) (T := TX1) (N := 8) (ty := .int) (v := .int 0) hC hG ke he rfl la_1 tyX1 tyX1_ok nmX1 7 (by decide) lk_RX1_7 rfl rfl (by decide +kernel) rfl rfl (Nat.le_of_ble_eq_true rfl) dX1_init_6 (fun H locs hG => ?_)
  have hG : sl_I Γ (sl_up g ke (a, .inr (1, [.int 0, .int 0, .int 0, .int 0, .int 0, .int 0, .null, .int 0]))) s H _ := hG
  refine lv_aload_n hx hb dX1_init_9 rfl (lv_at hl 0 rfl) ?_
  refine lv_iload_n hx hb dX1_init_10 rfl (lv_at hl 1 rfl) ?_
  refine sl_putF (C := RX1) (T := TX1) (N := 8) (ty := .int) (v := .int x1) hC hG ke (sl_up_s _ _ _) rfl la_1 tyX1 tyX1_ok nmX1 0 (by decide) lk_RX1_13 rfl rfl hin rfl (by decide +kernel) rfl rfl (Nat.le_of_ble_eq_true rfl) dX1_init_11 (fun H locs hG => ?_)
  rw [sl_up_up] at hG
  have hG : sl_I Γ (sl_up g ke (a, .inr (1, [.int x1, .int 0, .int 0, .int 0, .int 0, .int 0, .null, .int 0]))) s H _ := hG
  refine lv_aload_n hx hb dX1_init_14 rfl (lv_at hl 0 rfl) ?_
  refine lv_iload_n hx hb dX1_init_15 rfl (lv_at hl 2 rfl) ?_
  refine sl_putF (C := RX1) (T := TX1) (N := 8) (ty := .int) (v := .int x2) hC hG ke (sl_up_s _ _ _) rfl la_1 tyX1 tyX1_ok nmX1 1 (by decide) lk_RX1_16 rfl rfl hin rfl (by decide +kernel) rfl rfl (Nat.le_of_ble_eq_true rfl) dX1_init_16 (fun H locs hG => ?_)
  rw [sl_up_up] at hG
  have hG : sl_I Γ (sl_up g ke (a, .inr (1, [.int x1, .int x2, .int 0, .int 0, .int 0, .int 0, .null, .int 0]))) s H _ := hG
  refine lv_aload_n hx hb dX1_init_19 rfl (lv_at hl 0 rfl) ?_
  refine lv_iload_n hx hb dX1_init_20 rfl (lv_at hl 3 rfl) ?_
  refine sl_putF (C := RX1) (T := TX1) (N := 8) (ty := .int) (v := .int x3) hC hG ke (sl_up_s _ _ _) rfl la_1 tyX1 tyX1_ok nmX1 2 (by decide) lk_RX1_19 rfl rfl hin rfl (by decide +kernel) rfl rfl (Nat.le_of_ble_eq_true rfl) dX1_init_21 (fun H locs hG => ?_)
  rw [sl_up_up] at hG
  have hG : sl_I Γ (sl_up g ke (a, .inr (1, [.int x1, .int x2, .int x3, .int 0, .int 0, .int 0, .null, .int 0]))) s H _ := hG
  refine lv_aload_n hx hb dX1_init_24 rfl (lv_at hl 0 rfl) ?_
  refine lv_iload hx hb dX1_init_25 (lv_at hl 4 rfl) ?_
  refine sl_putF (C := RX1) (T := TX1) (N := 8) (ty := .int) (v := .int x4) hC hG ke (sl_up_s _ _ _) rfl la_1 tyX1 tyX1_ok nmX1 3 (by decide) lk_RX1_22 rfl rfl hin rfl (by decide +kernel) rfl rfl (Nat.le_of_ble_eq_true rfl) dX1_init_27 (fun H locs hG => ?_)
  rw [sl_up_up] at hG
  have hG : sl_I Γ (sl_up g ke (a, .inr (1, [.int x1, .int x2, .int x3, .int x4, .int 0, .int 0, .null, .int 0]))) s H _ := hG
  refine lv_aload_n hx hb dX1_init_30 rfl (lv_at hl 0 rfl) ?_
  refine lv_iload hx hb dX1_init_31 (lv_at hl 5 rfl) ?_
  refine sl_putF (C := RX1) (T := TX1) (N := 8) (ty := .int) (v := .int x5) hC hG ke (sl_up_s _ _ _) rfl la_1 tyX1 tyX1_ok nmX1 4 (by decide) lk_RX1_25 rfl rfl hin rfl (by decide +kernel) rfl rfl (Nat.le_of_ble_eq_true rfl) dX1_init_33 (fun H locs hG => ?_)
  rw [sl_up_up] at hG
  have hG : sl_I Γ (sl_up g ke (a, .inr (1, [.int x1, .int x2, .int x3, .int x4, .int x5, .int 0, .null, .int 0]))) s H _ := hG
  refine lv_aload_n hx hb dX1_init_36 rfl (lv_at hl 0 rfl) ?_
  refine lv_iload hx hb dX1_init_37 (lv_at hl 6 rfl) ?_
  refine sl_putF (C := RX1) (T := TX1) (N := 8) (ty := .int) (v := .int x6) hC hG ke (sl_up_s _ _ _) rfl la_1 tyX1 tyX1_ok nmX1 5 (by decide) lk_RX1_28 rfl rfl hin rfl (by decide +kernel) rfl rfl (Nat.le_of_ble_eq_true rfl) dX1_init_39 (fun H locs hG => ?_)
  rw [sl_up_up] at hG
  have hG : sl_I Γ (sl_up g ke (a, .inr (1, [.int x1, .int x2, .int x3, .int x4, .int x5, .int x6, .null, .int 0]))) s H _ := hG
  refine lv_aload_n hx hb dX1_init_42 rfl (lv_at hl 0 rfl) ?_
  refine lv_aload hx hb dX1_init_43 (lv_at hl 7 rfl) ?_
  refine sl_putF (C := RX1) (T := TX1) (N := 8) (ty := .object "SharedLog$Trail") (v := .ref b) hC hG ke (sl_up_s _ _ _) rfl la_1 tyX1 tyX1_ok nmX1 6 (by decide) lk_RX1_31 rfl rfl hin rfl (by decide +kernel) rfl rfl (Nat.le_of_ble_eq_true rfl) dX1_init_45 (fun H locs hG => ?_)
  rw [sl_up_up] at hG
  have hG : sl_I Γ (sl_up g ke (a, .inr (1, [.int x1, .int x2, .int x3, .int x4, .int x5, .int x6, .ref b, .int 0]))) s H _ := hG
  exact sl_rv hC hr hG () trivial rfl (Nat.le_of_ble_eq_true rfl) (Nat.le_of_ble_eq_true rfl) dX1_init_48
set_option maxHeartbeats 4000000 in
set_option maxRecDepth 100000 in
theorem kX2_init (l : Launch) (Γ : sl_G) (g : sl_W) (a6 : Nat) (h6 : g 6 = some (a6, .inr (2, [.null, .null, .int 0]))) (h7 : g 7 = none) (h8 : g 8 = none) : Met l yX2_init [Cond.code yX2_init cX2_init 1 none] ({ frames := 1, cells := 2, slots := 124, locals := 20 } : Room) (va_Pc [.ref a6] (sl_B Γ g)) (sl_Qv Γ (fun (_ : Nat × Nat) => True) (fun u => sl_up (sl_up (sl_up g 6 (a6, .inr (2, [.ref u.1, .ref u.2, .int 0]))) 7 (u.1, .inl (Γ.2.1 1, 120, .inl (fun _ => 0)))) 8 (u.2, .inl (Γ.2.1 0, 4, .inl (fun _ => 0))))) 2 124 (sl_A Γ) := by
  refine sl_ent (by decide) (Nat.le_of_ble_eq_true rfl) ?_
  intro p e s m below meth c ls hC hr hin hG hl
  have hx := hC.1
  have hb := hC.2.1
  have hl : lv_has ls 1 [(0, .ref a6)] := hl
  refine lv_aload_n hx hb dX2_init_0 rfl (lv_at hl 0 rfl) ?_
  refine W.objInit hx hb hC.2.2.2.1 (sl_tab hC lk_RX2_3 rfl) (sl_tab hC oi_inst rfl) (sl_tab hC oi_code rfl) rfl (hl.1.trans hC.2.2.1.symm) rfl dX2_init_1 (Nat.le_of_ble_eq_true rfl) (Nat.le_of_ble_eq_true rfl) ?_
  refine W.eq (g2 := F0 m 4 ls []) rfl ?_
  refine lv_aload_n hx hb dX2_init_4 rfl (lv_at hl 0 rfl) ?_
  refine lv_bipush (v := 120) hx hb dX2_init_5 (by decide) ?_
  refine sl_newa (atype := .boolean) (ty := .boolean) (a0 := (120, .inl (fun _ => 0))) hC hG 7 1 h7 ac_boolean rfl rfl (fun _ => rfl) (by decide) (by decide) (Nat.le_of_ble_eq_true rfl) (Nat.le_of_ble_eq_true rfl) (Nat.le_of_ble_eq_true rfl) dX2_init_7 (fun q_7 H hG => ?_)
  have hG : sl_I Γ (sl_up g 7 (q_7, .inl (Γ.2.1 1, 120, .inl (fun _ => 0)))) s H _ := hG
  refine sl_putF (C := RX2) (T := TX2) (N := 3) (ty := .array .boolean) (v := .ref q_7) hC hG 6 (sl_up_to (by decide) h6) rfl la_2 tyX2 tyX2_ok nmX2 0 (by decide) lk_RX2_9 rfl rfl hin rfl (by decide +kernel) rfl rfl (Nat.le_of_ble_eq_true rfl) dX2_init_9 (fun H locs hG => ?_)
  have hG : sl_I Γ (sl_up (sl_up g 7 (q_7, .inl (Γ.2.1 1, 120, .inl (fun _ => 0)))) 6 (a6, .inr (2, [.ref q_7, .null, .int 0]))) s H _ := hG
  refine lv_aload_n hx hb dX2_init_12 rfl (lv_at hl 0 rfl) ?_
  refine lv_iconst (v := 4) hx hb dX2_init_13 (by decide) ?_
  refine sl_newa (atype := .int) (ty := .int) (a0 := (4, .inl (fun _ => 0))) hC hG 8 0 (sl_up_to (by decide) (sl_up_to (by decide) h8)) ac_int rfl rfl (fun _ => rfl) (by decide) (by decide) (Nat.le_of_ble_eq_true rfl) (Nat.le_of_ble_eq_true rfl) (Nat.le_of_ble_eq_true rfl) dX2_init_14 (fun q_14 H hG => ?_)
  have hG : sl_I Γ (sl_up (sl_up (sl_up g 7 (q_7, .inl (Γ.2.1 1, 120, .inl (fun _ => 0)))) 6 (a6, .inr (2, [.ref q_7, .null, .int 0]))) 8 (q_14, .inl (Γ.2.1 0, 4, .inl (fun _ => 0)))) s H _ := hG
  refine sl_putF (C := RX2) (T := TX2) (N := 3) (ty := .array .int) (v := .ref q_14) hC hG 6 (sl_up_to (by decide) (sl_up_s _ _ _)) rfl la_2 tyX2 tyX2_ok nmX2 1 (by decide) lk_RX2_15 rfl rfl hin rfl (by decide +kernel) rfl rfl (Nat.le_of_ble_eq_true rfl) dX2_init_16 (fun H locs hG => ?_)
  have hG : sl_I Γ (sl_up (sl_up (sl_up (sl_up g 7 (q_7, .inl (Γ.2.1 1, 120, .inl (fun _ => 0)))) 6 (a6, .inr (2, [.ref q_7, .null, .int 0]))) 8 (q_14, .inl (Γ.2.1 0, 4, .inl (fun _ => 0)))) 6 (a6, .inr (2, [.ref q_7, .ref q_14, .int 0]))) s H _ := hG
  refine lv_aload_n hx hb dX2_init_19 rfl (lv_at hl 0 rfl) ?_
  refine lv_iconst (v := 0) hx hb dX2_init_20 (by decide) ?_
  refine sl_put (C := RX2) (T := TX2) (N := 3) (ty := .int) (v := .int 0) hC hG 6 (sl_up_s _ _ _) rfl la_2 tyX2 tyX2_ok nmX2 2 (by decide) lk_RX2_19 rfl rfl (by decide +kernel) rfl rfl (Nat.le_of_ble_eq_true rfl) dX2_init_21 (fun H locs hG => ?_)
  rw [sl_up_up] at hG
  have hG : sl_I Γ (sl_up (sl_up (sl_up (sl_up g 7 (q_7, .inl (Γ.2.1 1, 120, .inl (fun _ => 0)))) 6 (a6, .inr (2, [.ref q_7, .null, .int 0]))) 8 (q_14, .inl (Γ.2.1 0, 4, .inl (fun _ => 0)))) 6 (a6, .inr (2, [.ref q_7, .ref q_14, .int 0]))) s H _ := hG
  exact sl_rv hC hr hG (q_7, q_14) trivial (by funext j; by_cases e6 : j = 6 <;> by_cases e7 : j = 7 <;> by_cases e8 : j = 8 <;> simp [sl_up, e6, e7, e8]) (Nat.le_of_ble_eq_true rfl) (Nat.le_of_ble_eq_true rfl) dX2_init_24
set_option maxHeartbeats 4000000 in
set_option maxRecDepth 100000 in
theorem kX3_copyFor (l : Launch) (Γ : sl_G) (g : sl_W) (kn kna : Nat) (kt ka a b : Nat) (T : Nat → Int32) (ht : g kt = some (a, .inr (3, [.ref b]))) (ha : g ka = some (b, .inl (Γ.2.1 0, 16, .inl T))) (hn : g kn = none) (hna : g kna = none) (hne : kn ≠ kna) (hne2 : kt ≠ ka) (ss : Int32) : Met l yX3_copyFor [Cond.code yX3_copyFor cX3_copyFor 5 (some (.object "SharedLog$Trail"))] ({ frames := 2, cells := 2, slots := 17, locals := 43 } : Room) (va_Pc [.ref a, .int ss] (sl_B Γ g)) (sl_Qq Γ (fun (r : Option Nat) (u : Nat × Nat) => r = some u.1) (fun u => sl_up (sl_up g kn (u.1, .inr (3, [.ref u.2]))) kna (u.2, .inl (Γ.2.1 0, 16, .inl (sl_tc T ss 4))))) 2 17 (sl_A Γ) := by
  refine sl_ent (by decide) (Nat.le_of_ble_eq_true rfl) ?_
  intro p e s m below meth c ls hC hr hin hG hl
  have hx := hC.1
  have hb := hC.2.1
  have hl : lv_has ls 5 [(0, .ref a), (1, .int ss)] := hl
  have hd1 := sl_ne_none ht hn
  have hd2 := sl_ne_none ht hna
  have hd3 := sl_ne_none ha hn
  have hd4 := sl_ne_none ha hna
  refine sl_new (ci := 3) hC hG kn hn (C := RX3) (T := TX3) (N := 1) (fs := [.null]) rfl la_3 tyX3 tyX3_ok (sl_f3) lk_RX3_10 in_RX3 ini_RX3 (Nat.le_of_ble_eq_true rfl) (Nat.le_of_ble_eq_true rfl) dX3_copyFor_0 (fun q_0 H hG => ?_)
  have hG : sl_I Γ (sl_up g kn (q_0, .inr (3, [.null]))) s H _ := hG
  refine lv_dup hx hb dX3_copyFor_3 rfl ?_
  refine sl_callv (sl_runI (As := []) (rest := [.ref q_0]) hC hG (kX3_init l Γ (sl_up g kn (q_0, .inr (3, [.null]))) kn kna q_0 (sl_up_s _ _ _) (sl_up_to (by omega) hna) (by omega)) mi_X3_init lk_RX3_40 rfl rfl ⟨Nat.le_of_ble_eq_true rfl, Nat.le_of_ble_eq_true rfl⟩ rfl hl.1 rfl (Nat.le_of_ble_eq_true rfl) dX3_copyFor_4 ⟨Nat.le_of_ble_eq_true rfl, Nat.le_of_ble_eq_true rfl⟩) hG (fun u_4 H locs hr_4 hG => ?_)
  rw [sl_up_up] at hG
  have hG : sl_I Γ (sl_up (sl_up g kn (q_0, .inr (3, [.ref u_4]))) kna (u_4, .inl (Γ.2.1 0, 16, .inl (fun _ => (-1))))) s H _ := hG
  refine lv_astore_n (lv' := [(2, .ref q_0), (0, .ref a), (1, .int ss)]) hx hb dX3_copyFor_7 rfl hl (by decide) rfl (fun ls hl => ?_)
  refine lv_iconst (v := 0) hx hb dX3_copyFor_8 (by decide) ?_
  refine lv_istore_n (lv' := [(3, .int 0), (2, .ref q_0), (0, .ref a), (1, .int ss)]) hx hb dX3_copyFor_9 rfl hl (by decide) rfl (fun ls hl => ?_)
  have loop_10 : ∀ (n k : Nat), k ≤ 4 → 4 + 1 ≤ k + n → ∀ (H : Heap) (locs : List Loc), sl_I Γ (sl_up (sl_up g kn (q_0, .inr (3, [.ref u_4]))) kna (u_4, .inl (Γ.2.1 0, 16, .inl (sl_tc T ss k)))) s H locs → ∀ (ls : Array Slot), lv_has ls 5 [(0, .ref a), (1, .int ss), (2, .ref q_0), (3, .int (nI k))] → W p l e ({ frames := 2, cells := 2, slots := 17, locals := 43 } : Room) s m ([.ref a, .int ss] : List Value).toArray below meth c H locs 2 17 (MQ below (sl_Qq Γ (fun (r : Option Nat) (u : Nat × Nat) => r = some u.1) (fun u => sl_up (sl_up g kn (u.1, .inr (3, [.ref u.2]))) kna (u.2, .inl (Γ.2.1 0, 16, .inl (sl_tc T ss 4))))) ([.ref a, .int ss] : List Value).toArray s 2 17 (sl_A Γ)) (F0 m 10 ls []) := by
    intro n
    induction n with
    | zero =>
      intro k  h1 h2
      exact absurd h2 (by omega)
    | succ n ih_10 =>
      intro k  hk_10 hn_10  H locs hG ls hl
      refine lv_iload_n hx hb dX3_copyFor_10 rfl (lv_at hl 3 rfl) ?_
      refine lv_iconst (v := 4) hx hb dX3_copyFor_11 (by decide) ?_
      refine lv_icmp_ge (tgt := 58) hx hb dX3_copyFor_12 (by decide) (fun c_12 => ?_) (fun c_12 => ?_)
      · have n_12 : 4 ≤ k := (nI_leI (a := 4) (b := k) (by omega) (by omega)).mp c_12
        refine lv_aload_n hx hb dX3_copyFor_58 rfl (lv_at hl 2 rfl) ?_
        have hk9 : k = 4 := by omega
        subst hk9
        exact sl_rq (v := some q_0) hC hr hG (q_0, u_4) rfl rfl (Nat.le_of_ble_eq_true rfl) (Nat.le_of_ble_eq_true rfl) dX3_copyFor_59
      · have n_12 : ¬ (4 ≤ k) := fun z => c_12 ((nI_leI (a := 4) (b := k) (by omega) (by omega)).mpr z)
        refine lv_iload_n hx hb dX3_copyFor_15 rfl (lv_at hl 3 rfl) ?_
        refine lv_iload_n hx hb dX3_copyFor_16 rfl (lv_at hl 1 rfl) ?_
        refine sl_calli (sl_runSN (As := [.int (nI k), .int ss]) (rest := []) hC hG (kX4_isIn l Γ (sl_up (sl_up g kn (q_0, .inr (3, [.ref u_4]))) kna (u_4, .inl (Γ.2.1 0, 16, .inl (sl_tc T ss k)))) (nI k) ss) mi_X4_isIn lk_RX3_28 rfl rfl ⟨Nat.le_of_ble_eq_true rfl, Nat.le_of_ble_eq_true rfl⟩ rfl hl.1 rfl (Nat.le_of_ble_eq_true rfl) dX3_copyFor_17 ⟨Nat.le_of_ble_eq_true rfl, Nat.le_of_ble_eq_true rfl⟩) hG (fun r_17 u_17 H locs hr_17 hG => ?_)
        subst hr_17
        refine lv_if_eq (tgt := 52) hx hb dX3_copyFor_20 (by decide) (fun c_20 => ?_) (fun c_20 => ?_)
        · have c_20 := sl_bF c_20
          refine lv_iinc (v := nI (k + 1)) (lv' := [(3, .int (nI (k + 1))), (0, .ref a), (1, .int ss), (2, .ref q_0)]) hx hb dX3_copyFor_52 hl (k := 3) rfl (nI_1 k) (by decide) rfl (fun ls hl => ?_)
          refine lv_goto (tgt := 10) hx hb dX3_copyFor_55 (by decide) ?_
          rw [sl_tc_s0 (T := T) (ss := ss) c_20] at hG
          exact ih_10 (k + 1) (by omega) (by omega) _ _ hG _ (lv_sub hl [1, 2, 3, 0] rfl)
        · have c_20 := sl_bT c_20
          refine lv_iconst (v := 0) hx hb dX3_copyFor_23 (by decide) ?_
          refine lv_istore (lv' := [(4, .int 0), (0, .ref a), (1, .int ss), (2, .ref q_0), (3, .int (nI k))]) hx hb dX3_copyFor_24 hl (by decide) rfl (fun ls hl => ?_)
          refine lv_iload hx hb dX3_copyFor_26 (lv_at hl 0 rfl) ?_
          refine lv_iconst (v := 4) hx hb dX3_copyFor_28 (by decide) ?_
          refine lv_icmp_ge (tgt := 52) hx hb dX3_copyFor_29 (by decide) (fun c_29 => ?_) (fun c_29 => ?_)
          · exact absurd c_29 (by decide)
          · refine lv_aload_n hx hb dX3_copyFor_32 rfl (lv_at hl 3 rfl) ?_
            refine lv_iload_n hx hb dX3_copyFor_33 rfl (lv_at hl 4 rfl) ?_
            refine lv_iload hx hb dX3_copyFor_34 (lv_at hl 0 rfl) ?_
            refine lv_aload_n hx hb dX3_copyFor_36 rfl (lv_at hl 1 rfl) ?_
            refine lv_iload_n hx hb dX3_copyFor_37 rfl (lv_at hl 4 rfl) ?_
            refine lv_iload hx hb dX3_copyFor_38 (lv_at hl 0 rfl) ?_
            refine sl_calli (sl_runV (As := [.int (nI k), .int 0]) (rest := [.int 0, .int (nI k), .ref q_0]) hC hG (kX3_get l Γ (sl_up (sl_up g kn (q_0, .inr (3, [.ref u_4]))) kna (u_4, .inl (Γ.2.1 0, 16, .inl (sl_tc T ss k)))) kt ka a b T (sl_up_to (by omega) (sl_up_to (by omega) ht)) (sl_up_to (by omega) (sl_up_to (by omega) ha)) (nI k) 0) mi_X3_get lk_RX3_32 kt (sl_up_to (by omega) (sl_up_to (by omega) ht)) rfl rfl rfl ⟨Nat.le_of_ble_eq_true rfl, Nat.le_of_ble_eq_true rfl⟩ rfl hl.1 rfl (Nat.le_of_ble_eq_true rfl) dX3_copyFor_40 ⟨Nat.le_of_ble_eq_true rfl, Nat.le_of_ble_eq_true rfl⟩) hG (fun r_40 u_40 H locs hr_40 hG => ?_)
            subst hr_40
            refine sl_topi (y := T (4 * k + 0)) (sl_tgN T (a := k) (b := 0) (by omega) (by omega)) ?_
            refine sl_callv (sl_runV (As := [.int (nI k), .int 0, .int (T (4 * k + 0))]) (rest := []) hC hG (kX3_set l Γ (sl_up (sl_up g kn (q_0, .inr (3, [.ref u_4]))) kna (u_4, .inl (Γ.2.1 0, 16, .inl (sl_tc T ss k)))) kn kna q_0 u_4 (sl_tc T ss k) (sl_up_to (by omega) (sl_up_s _ _ _)) (sl_up_s _ _ _) (nI k) 0 (T (4 * k + 0))) mi_X3_set lk_RX3_36 kn (sl_up_to (by omega) (sl_up_s _ _ _)) rfl rfl rfl ⟨Nat.le_of_ble_eq_true rfl, Nat.le_of_ble_eq_true rfl⟩ rfl hl.1 rfl (Nat.le_of_ble_eq_true rfl) dX3_copyFor_43 ⟨Nat.le_of_ble_eq_true rfl, Nat.le_of_ble_eq_true rfl⟩) hG (fun u_43 H locs hr_43 hG => ?_)
            have hG : sl_I Γ (sl_up (sl_up (sl_up g kn (q_0, .inr (3, [.ref u_4]))) kna (u_4, .inl (Γ.2.1 0, 16, .inl (sl_tc T ss k)))) kna (u_4, .inl (Γ.2.1 0, 16, .inl (sl_ts (sl_tc T ss k) (nI k) 0 (T (4 * k + 0)))))) s H _ := hG
            rw [show sl_ts (sl_tc T ss k) (nI k) 0 (T (4 * k + 0)) = upd (sl_tc T ss k) (4 * k + 0) (T (4 * k + 0)) from sl_tsN (sl_tc T ss k) (a := k) (b := 0) (T (4 * k + 0)) (by omega) (by omega)] at hG
            refine lv_iinc (v := 1) (lv' := [(4, .int 1), (0, .ref a), (1, .int ss), (2, .ref q_0), (3, .int (nI k))]) hx hb dX3_copyFor_46 hl (k := 0) rfl (by decide) (by decide) rfl (fun ls hl => ?_)
            refine lv_goto (tgt := 26) hx hb dX3_copyFor_49 (by decide) ?_
            refine lv_iload hx hb dX3_copyFor_26 (lv_at hl 0 rfl) ?_
            refine lv_iconst (v := 4) hx hb dX3_copyFor_28 (by decide) ?_
            refine lv_icmp_ge (tgt := 52) hx hb dX3_copyFor_29 (by decide) (fun c_29 => ?_) (fun c_29 => ?_)
            · exact absurd c_29 (by decide)
            · refine lv_aload_n hx hb dX3_copyFor_32 rfl (lv_at hl 3 rfl) ?_
              refine lv_iload_n hx hb dX3_copyFor_33 rfl (lv_at hl 4 rfl) ?_
              refine lv_iload hx hb dX3_copyFor_34 (lv_at hl 0 rfl) ?_
              refine lv_aload_n hx hb dX3_copyFor_36 rfl (lv_at hl 1 rfl) ?_
              refine lv_iload_n hx hb dX3_copyFor_37 rfl (lv_at hl 4 rfl) ?_
              refine lv_iload hx hb dX3_copyFor_38 (lv_at hl 0 rfl) ?_
              refine sl_calli (sl_runV (As := [.int (nI k), .int 1]) (rest := [.int 1, .int (nI k), .ref q_0]) hC hG (kX3_get l Γ (sl_up (sl_up (sl_up g kn (q_0, .inr (3, [.ref u_4]))) kna (u_4, .inl (Γ.2.1 0, 16, .inl (sl_tc T ss k)))) kna (u_4, .inl (Γ.2.1 0, 16, .inl (upd (sl_tc T ss k) (4 * k + 0) (T (4 * k + 0)))))) kt ka a b T (sl_up_to (by omega) (sl_up_to (by omega) (sl_up_to (by omega) ht))) (sl_up_to (by omega) (sl_up_to (by omega) (sl_up_to (by omega) ha))) (nI k) 1) mi_X3_get lk_RX3_32 kt (sl_up_to (by omega) (sl_up_to (by omega) (sl_up_to (by omega) ht))) rfl rfl rfl ⟨Nat.le_of_ble_eq_true rfl, Nat.le_of_ble_eq_true rfl⟩ rfl hl.1 rfl (Nat.le_of_ble_eq_true rfl) dX3_copyFor_40 ⟨Nat.le_of_ble_eq_true rfl, Nat.le_of_ble_eq_true rfl⟩) hG (fun r_40 u_40 H locs hr_40 hG => ?_)
              subst hr_40
              refine sl_topi (y := T (4 * k + 1)) (sl_tgN T (a := k) (b := 1) (by omega) (by omega)) ?_
              refine sl_callv (sl_runV (As := [.int (nI k), .int 1, .int (T (4 * k + 1))]) (rest := []) hC hG (kX3_set l Γ (sl_up (sl_up (sl_up g kn (q_0, .inr (3, [.ref u_4]))) kna (u_4, .inl (Γ.2.1 0, 16, .inl (sl_tc T ss k)))) kna (u_4, .inl (Γ.2.1 0, 16, .inl (upd (sl_tc T ss k) (4 * k + 0) (T (4 * k + 0)))))) kn kna q_0 u_4 (upd (sl_tc T ss k) (4 * k + 0) (T (4 * k + 0))) (sl_up_to (by omega) (sl_up_to (by omega) (sl_up_s _ _ _))) (sl_up_s _ _ _) (nI k) 1 (T (4 * k + 1))) mi_X3_set lk_RX3_36 kn (sl_up_to (by omega) (sl_up_to (by omega) (sl_up_s _ _ _))) rfl rfl rfl ⟨Nat.le_of_ble_eq_true rfl, Nat.le_of_ble_eq_true rfl⟩ rfl hl.1 rfl (Nat.le_of_ble_eq_true rfl) dX3_copyFor_43 ⟨Nat.le_of_ble_eq_true rfl, Nat.le_of_ble_eq_true rfl⟩) hG (fun u_43 H locs hr_43 hG => ?_)
              rw [sl_up_up] at hG
              have hG : sl_I Γ (sl_up (sl_up (sl_up g kn (q_0, .inr (3, [.ref u_4]))) kna (u_4, .inl (Γ.2.1 0, 16, .inl (sl_tc T ss k)))) kna (u_4, .inl (Γ.2.1 0, 16, .inl (sl_ts (upd (sl_tc T ss k) (4 * k + 0) (T (4 * k + 0))) (nI k) 1 (T (4 * k + 1)))))) s H _ := hG
              rw [show sl_ts (upd (sl_tc T ss k) (4 * k + 0) (T (4 * k + 0))) (nI k) 1 (T (4 * k + 1)) = upd (upd (sl_tc T ss k) (4 * k + 0) (T (4 * k + 0))) (4 * k + 1) (T (4 * k + 1)) from sl_tsN (upd (sl_tc T ss k) (4 * k + 0) (T (4 * k + 0))) (a := k) (b := 1) (T (4 * k + 1)) (by omega) (by omega)] at hG
              refine lv_iinc (v := 2) (lv' := [(4, .int 2), (0, .ref a), (1, .int ss), (2, .ref q_0), (3, .int (nI k))]) hx hb dX3_copyFor_46 hl (k := 0) rfl (by decide) (by decide) rfl (fun ls hl => ?_)
              refine lv_goto (tgt := 26) hx hb dX3_copyFor_49 (by decide) ?_
              refine lv_iload hx hb dX3_copyFor_26 (lv_at hl 0 rfl) ?_
              refine lv_iconst (v := 4) hx hb dX3_copyFor_28 (by decide) ?_
              refine lv_icmp_ge (tgt := 52) hx hb dX3_copyFor_29 (by decide) (fun c_29 => ?_) (fun c_29 => ?_)
              · exact absurd c_29 (by decide)
              · refine lv_aload_n hx hb dX3_copyFor_32 rfl (lv_at hl 3 rfl) ?_
                refine lv_iload_n hx hb dX3_copyFor_33 rfl (lv_at hl 4 rfl) ?_
                refine lv_iload hx hb dX3_copyFor_34 (lv_at hl 0 rfl) ?_
                refine lv_aload_n hx hb dX3_copyFor_36 rfl (lv_at hl 1 rfl) ?_
                refine lv_iload_n hx hb dX3_copyFor_37 rfl (lv_at hl 4 rfl) ?_
                refine lv_iload hx hb dX3_copyFor_38 (lv_at hl 0 rfl) ?_
                refine sl_calli (sl_runV (As := [.int (nI k), .int 2]) (rest := [.int 2, .int (nI k), .ref q_0]) hC hG (kX3_get l Γ (sl_up (sl_up (sl_up g kn (q_0, .inr (3, [.ref u_4]))) kna (u_4, .inl (Γ.2.1 0, 16, .inl (sl_tc T ss k)))) kna (u_4, .inl (Γ.2.1 0, 16, .inl (upd (upd (sl_tc T ss k) (4 * k + 0) (T (4 * k + 0))) (4 * k + 1) (T (4 * k + 1)))))) kt ka a b T (sl_up_to (by omega) (sl_up_to (by omega) (sl_up_to (by omega) ht))) (sl_up_to (by omega) (sl_up_to (by omega) (sl_up_to (by omega) ha))) (nI k) 2) mi_X3_get lk_RX3_32 kt (sl_up_to (by omega) (sl_up_to (by omega) (sl_up_to (by omega) ht))) rfl rfl rfl ⟨Nat.le_of_ble_eq_true rfl, Nat.le_of_ble_eq_true rfl⟩ rfl hl.1 rfl (Nat.le_of_ble_eq_true rfl) dX3_copyFor_40 ⟨Nat.le_of_ble_eq_true rfl, Nat.le_of_ble_eq_true rfl⟩) hG (fun r_40 u_40 H locs hr_40 hG => ?_)
                subst hr_40
                refine sl_topi (y := T (4 * k + 2)) (sl_tgN T (a := k) (b := 2) (by omega) (by omega)) ?_
                refine sl_callv (sl_runV (As := [.int (nI k), .int 2, .int (T (4 * k + 2))]) (rest := []) hC hG (kX3_set l Γ (sl_up (sl_up (sl_up g kn (q_0, .inr (3, [.ref u_4]))) kna (u_4, .inl (Γ.2.1 0, 16, .inl (sl_tc T ss k)))) kna (u_4, .inl (Γ.2.1 0, 16, .inl (upd (upd (sl_tc T ss k) (4 * k + 0) (T (4 * k + 0))) (4 * k + 1) (T (4 * k + 1)))))) kn kna q_0 u_4 (upd (upd (sl_tc T ss k) (4 * k + 0) (T (4 * k + 0))) (4 * k + 1) (T (4 * k + 1))) (sl_up_to (by omega) (sl_up_to (by omega) (sl_up_s _ _ _))) (sl_up_s _ _ _) (nI k) 2 (T (4 * k + 2))) mi_X3_set lk_RX3_36 kn (sl_up_to (by omega) (sl_up_to (by omega) (sl_up_s _ _ _))) rfl rfl rfl ⟨Nat.le_of_ble_eq_true rfl, Nat.le_of_ble_eq_true rfl⟩ rfl hl.1 rfl (Nat.le_of_ble_eq_true rfl) dX3_copyFor_43 ⟨Nat.le_of_ble_eq_true rfl, Nat.le_of_ble_eq_true rfl⟩) hG (fun u_43 H locs hr_43 hG => ?_)
                rw [sl_up_up] at hG
                have hG : sl_I Γ (sl_up (sl_up (sl_up g kn (q_0, .inr (3, [.ref u_4]))) kna (u_4, .inl (Γ.2.1 0, 16, .inl (sl_tc T ss k)))) kna (u_4, .inl (Γ.2.1 0, 16, .inl (sl_ts (upd (upd (sl_tc T ss k) (4 * k + 0) (T (4 * k + 0))) (4 * k + 1) (T (4 * k + 1))) (nI k) 2 (T (4 * k + 2)))))) s H _ := hG
                rw [show sl_ts (upd (upd (sl_tc T ss k) (4 * k + 0) (T (4 * k + 0))) (4 * k + 1) (T (4 * k + 1))) (nI k) 2 (T (4 * k + 2)) = upd (upd (upd (sl_tc T ss k) (4 * k + 0) (T (4 * k + 0))) (4 * k + 1) (T (4 * k + 1))) (4 * k + 2) (T (4 * k + 2)) from sl_tsN (upd (upd (sl_tc T ss k) (4 * k + 0) (T (4 * k + 0))) (4 * k + 1) (T (4 * k + 1))) (a := k) (b := 2) (T (4 * k + 2)) (by omega) (by omega)] at hG
                refine lv_iinc (v := 3) (lv' := [(4, .int 3), (0, .ref a), (1, .int ss), (2, .ref q_0), (3, .int (nI k))]) hx hb dX3_copyFor_46 hl (k := 0) rfl (by decide) (by decide) rfl (fun ls hl => ?_)
                refine lv_goto (tgt := 26) hx hb dX3_copyFor_49 (by decide) ?_
                refine lv_iload hx hb dX3_copyFor_26 (lv_at hl 0 rfl) ?_
                refine lv_iconst (v := 4) hx hb dX3_copyFor_28 (by decide) ?_
                refine lv_icmp_ge (tgt := 52) hx hb dX3_copyFor_29 (by decide) (fun c_29 => ?_) (fun c_29 => ?_)
                · exact absurd c_29 (by decide)
                · refine lv_aload_n hx hb dX3_copyFor_32 rfl (lv_at hl 3 rfl) ?_
                  refine lv_iload_n hx hb dX3_copyFor_33 rfl (lv_at hl 4 rfl) ?_
                  refine lv_iload hx hb dX3_copyFor_34 (lv_at hl 0 rfl) ?_
                  refine lv_aload_n hx hb dX3_copyFor_36 rfl (lv_at hl 1 rfl) ?_
                  refine lv_iload_n hx hb dX3_copyFor_37 rfl (lv_at hl 4 rfl) ?_
                  refine lv_iload hx hb dX3_copyFor_38 (lv_at hl 0 rfl) ?_
                  refine sl_calli (sl_runV (As := [.int (nI k), .int 3]) (rest := [.int 3, .int (nI k), .ref q_0]) hC hG (kX3_get l Γ (sl_up (sl_up (sl_up g kn (q_0, .inr (3, [.ref u_4]))) kna (u_4, .inl (Γ.2.1 0, 16, .inl (sl_tc T ss k)))) kna (u_4, .inl (Γ.2.1 0, 16, .inl (upd (upd (upd (sl_tc T ss k) (4 * k + 0) (T (4 * k + 0))) (4 * k + 1) (T (4 * k + 1))) (4 * k + 2) (T (4 * k + 2)))))) kt ka a b T (sl_up_to (by omega) (sl_up_to (by omega) (sl_up_to (by omega) ht))) (sl_up_to (by omega) (sl_up_to (by omega) (sl_up_to (by omega) ha))) (nI k) 3) mi_X3_get lk_RX3_32 kt (sl_up_to (by omega) (sl_up_to (by omega) (sl_up_to (by omega) ht))) rfl rfl rfl ⟨Nat.le_of_ble_eq_true rfl, Nat.le_of_ble_eq_true rfl⟩ rfl hl.1 rfl (Nat.le_of_ble_eq_true rfl) dX3_copyFor_40 ⟨Nat.le_of_ble_eq_true rfl, Nat.le_of_ble_eq_true rfl⟩) hG (fun r_40 u_40 H locs hr_40 hG => ?_)
                  subst hr_40
                  refine sl_topi (y := T (4 * k + 3)) (sl_tgN T (a := k) (b := 3) (by omega) (by omega)) ?_
                  refine sl_callv (sl_runV (As := [.int (nI k), .int 3, .int (T (4 * k + 3))]) (rest := []) hC hG (kX3_set l Γ (sl_up (sl_up (sl_up g kn (q_0, .inr (3, [.ref u_4]))) kna (u_4, .inl (Γ.2.1 0, 16, .inl (sl_tc T ss k)))) kna (u_4, .inl (Γ.2.1 0, 16, .inl (upd (upd (upd (sl_tc T ss k) (4 * k + 0) (T (4 * k + 0))) (4 * k + 1) (T (4 * k + 1))) (4 * k + 2) (T (4 * k + 2)))))) kn kna q_0 u_4 (upd (upd (upd (sl_tc T ss k) (4 * k + 0) (T (4 * k + 0))) (4 * k + 1) (T (4 * k + 1))) (4 * k + 2) (T (4 * k + 2))) (sl_up_to (by omega) (sl_up_to (by omega) (sl_up_s _ _ _))) (sl_up_s _ _ _) (nI k) 3 (T (4 * k + 3))) mi_X3_set lk_RX3_36 kn (sl_up_to (by omega) (sl_up_to (by omega) (sl_up_s _ _ _))) rfl rfl rfl ⟨Nat.le_of_ble_eq_true rfl, Nat.le_of_ble_eq_true rfl⟩ rfl hl.1 rfl (Nat.le_of_ble_eq_true rfl) dX3_copyFor_43 ⟨Nat.le_of_ble_eq_true rfl, Nat.le_of_ble_eq_true rfl⟩) hG (fun u_43 H locs hr_43 hG => ?_)
                  rw [sl_up_up] at hG
                  have hG : sl_I Γ (sl_up (sl_up (sl_up g kn (q_0, .inr (3, [.ref u_4]))) kna (u_4, .inl (Γ.2.1 0, 16, .inl (sl_tc T ss k)))) kna (u_4, .inl (Γ.2.1 0, 16, .inl (sl_ts (upd (upd (upd (sl_tc T ss k) (4 * k + 0) (T (4 * k + 0))) (4 * k + 1) (T (4 * k + 1))) (4 * k + 2) (T (4 * k + 2))) (nI k) 3 (T (4 * k + 3)))))) s H _ := hG
                  rw [show sl_ts (upd (upd (upd (sl_tc T ss k) (4 * k + 0) (T (4 * k + 0))) (4 * k + 1) (T (4 * k + 1))) (4 * k + 2) (T (4 * k + 2))) (nI k) 3 (T (4 * k + 3)) = upd (upd (upd (upd (sl_tc T ss k) (4 * k + 0) (T (4 * k + 0))) (4 * k + 1) (T (4 * k + 1))) (4 * k + 2) (T (4 * k + 2))) (4 * k + 3) (T (4 * k + 3)) from sl_tsN (upd (upd (upd (sl_tc T ss k) (4 * k + 0) (T (4 * k + 0))) (4 * k + 1) (T (4 * k + 1))) (4 * k + 2) (T (4 * k + 2))) (a := k) (b := 3) (T (4 * k + 3)) (by omega) (by omega)] at hG
                  refine lv_iinc (v := 4) (lv' := [(4, .int 4), (0, .ref a), (1, .int ss), (2, .ref q_0), (3, .int (nI k))]) hx hb dX3_copyFor_46 hl (k := 0) rfl (by decide) (by decide) rfl (fun ls hl => ?_)
                  refine lv_goto (tgt := 26) hx hb dX3_copyFor_49 (by decide) ?_
                  refine lv_iload hx hb dX3_copyFor_26 (lv_at hl 0 rfl) ?_
                  refine lv_iconst (v := 4) hx hb dX3_copyFor_28 (by decide) ?_
                  refine lv_icmp_ge (tgt := 52) hx hb dX3_copyFor_29 (by decide) (fun c_29 => ?_) (fun c_29 => ?_)
                  · refine lv_iinc (v := nI (k + 1)) (lv' := [(3, .int (nI (k + 1))), (4, .int 4), (0, .ref a), (1, .int ss), (2, .ref q_0)]) hx hb dX3_copyFor_52 hl (k := 4) rfl (nI_1 k) (by decide) rfl (fun ls hl => ?_)
                    refine lv_goto (tgt := 10) hx hb dX3_copyFor_55 (by decide) ?_
                    rw [sl_up_up] at hG
                    rw [sl_tc_s1 (T := T) (ss := ss) c_20] at hG
                    exact ih_10 (k + 1) (by omega) (by omega) _ _ hG _ (lv_sub hl [2, 3, 4, 0] rfl)
                  · exact absurd c_29 (by decide)
  rw [sl_tc_0 T ss] at hG
  exact loop_10 (4 + 1) 0 (by omega) (by omega) _ _ hG _ (lv_sub hl [2, 3, 1, 0] rfl)
end
section
/-! the fold -/
set_option maxHeartbeats 4000000 in
set_option maxRecDepth 100000 in
theorem kX2_restart (l : Launch) (Γ : sl_G) (g : sl_W) (a6 a7 a8 : Nat) (F X : Nat → Int32) (fd : Int32) (h6 : g 6 = some (a6, .inr (2, [.ref a7, .ref a8, .int fd]))) (h7 : g 7 = some (a7, .inl (Γ.2.1 1, 120, .inl F))) (h8 : g 8 = some (a8, .inl (Γ.2.1 0, 4, .inl X))) : Met l yX2_restart [Cond.code yX2_restart cX2_restart 1 none] ({ frames := 1, cells := 0, slots := 0, locals := 23 } : Room) (va_Pc [.ref a6] (sl_B Γ g)) (sl_Qv Γ (fun (_ : Unit) => True) (fun _ => sl_up (sl_up g 6 (a6, .inr (2, [.ref a7, .ref a8, .int 0]))) 8 (a8, .inl (Γ.2.1 0, 4, .inl (fun _ => (-1)))))) 0 0 (sl_A Γ) := by
  refine sl_ent (by decide) (Nat.le_of_ble_eq_true rfl) ?_
  intro p e s m below meth c ls hC hr hin hG hl
  have hx := hC.1
  have hb := hC.2.1
  have hl : lv_has ls 1 [(0, .ref a6)] := hl
  refine lv_aload_n hx hb dX2_restart_0 rfl (lv_at hl 0 rfl) ?_
  refine lv_iconst (v := 0) hx hb dX2_restart_1 (by decide) ?_
  refine sl_put (C := RX2) (T := TX2) (N := 3) (ty := .int) (v := .int 0) hC hG 6 h6 rfl la_2 tyX2 tyX2_ok nmX2 2 (by decide) lk_RX2_19 rfl rfl (by decide +kernel) rfl rfl (Nat.le_of_ble_eq_true rfl) dX2_restart_2 (fun H locs hG => ?_)
  have hG : sl_I Γ (sl_up g 6 (a6, .inr (2, [.ref a7, .ref a8, .int 0]))) s H _ := hG
  refine lv_aload_n hx hb dX2_restart_5 rfl (lv_at hl 0 rfl) ?_
  refine sl_get (C := RX2) (T := TX2) (N := 3) hC hG 6 (sl_up_s _ _ _) rfl la_2 1 (by decide) lk_RX2_15 rfl rfl dX2_restart_6 ?_
  refine lv_iconst (v := (-1)) hx hb dX2_restart_9 (by decide) ?_
  refine sl_callv (sl_runS (As := [.ref a8, .int (-1)]) (rest := []) hC hG (kJ7_fill_53178 l Γ (sl_up g 6 (a6, .inr (2, [.ref a7, .ref a8, .int 0]))) 8 a8 4 X (sl_up_to (by decide) h8) (by omega) (-1)) mi_J7_fill_53178 lk_RX2_23 rfl rfl ⟨Nat.le_of_ble_eq_true rfl, Nat.le_of_ble_eq_true rfl⟩ rfl hl.1 rfl (Nat.le_of_ble_eq_true rfl) dX2_restart_10 ⟨Nat.le_of_ble_eq_true rfl, Nat.le_of_ble_eq_true rfl⟩) hG (fun u_10 H locs hr_10 hG => ?_)
  have hG : sl_I Γ (sl_up (sl_up g 6 (a6, .inr (2, [.ref a7, .ref a8, .int 0]))) 8 (a8, .inl (Γ.2.1 0, 4, .inl (fun _ => (-1))))) s H _ := hG
  exact sl_rv hC hr hG () trivial rfl (Nat.le_of_ble_eq_true rfl) (Nat.le_of_ble_eq_true rfl) dX2_restart_13
set_option maxHeartbeats 4000000 in
set_option maxRecDepth 100000 in
theorem kX2_isUnchanged (l : Launch) (Γ : sl_G) (g : sl_W) (a6 a7 a8 : Nat) (F X : Nat → Int32) (fd : Int32) (h6 : g 6 = some (a6, .inr (2, [.ref a7, .ref a8, .int fd]))) (h7 : g 7 = some (a7, .inl (Γ.2.1 1, 120, .inl F))) (h8 : g 8 = some (a8, .inl (Γ.2.1 0, 4, .inl X))) (ss ver : Int32) : Met l yX2_isUnchanged [Cond.code yX2_isUnchanged cX2_isUnchanged 4 (some .boolean)] ({ frames := 1, cells := 0, slots := 0, locals := 21 } : Room) (va_Pc [.ref a6, .int ss, .int ver] (sl_B Γ g)) (sl_Qi Γ (fun r (_ : Unit) => r = sl_bi (sl_un X ss ver 4)) (fun _ => g)) 0 0 (sl_A Γ) := by
  refine sl_ent (by decide) (Nat.le_of_ble_eq_true rfl) ?_
  intro p e s m below meth c ls hC hr hin hG hl
  have hx := hC.1
  have hb := hC.2.1
  have hl : lv_has ls 4 [(0, .ref a6), (1, .int ss), (2, .int ver)] := hl
  refine lv_iconst (v := 0) hx hb dX2_isUnchanged_0 (by decide) ?_
  refine lv_istore_n (lv' := [(3, .int 0), (0, .ref a6), (1, .int ss), (2, .int ver)]) hx hb dX2_isUnchanged_1 rfl hl (by decide) rfl (fun ls hl => ?_)
  have loop_2 : ∀ (n k : Nat), k ≤ 4 → 4 + 1 ≤ k + n → (sl_un X ss ver k = true) → ∀ (H : Heap) (locs : List Loc), sl_I Γ g s H locs → ∀ (ls : Array Slot), lv_has ls 4 [(0, .ref a6), (1, .int ss), (2, .int ver), (3, .int (nI k))] → W p l e ({ frames := 1, cells := 0, slots := 0, locals := 21 } : Room) s m ([.ref a6, .int ss, .int ver] : List Value).toArray below meth c H locs 0 0 (MQ below (sl_Qi Γ (fun r (_ : Unit) => r = sl_bi (sl_un X ss ver 4)) (fun _ => g)) ([.ref a6, .int ss, .int ver] : List Value).toArray s 0 0 (sl_A Γ)) (F0 m 2 ls []) := by
    intro n
    induction n with
    | zero =>
      intro k  h1 h2
      exact absurd h2 (by omega)
    | succ n ih_2 =>
      intro k  hk_2 hn_2 hi H locs hG ls hl
      refine lv_iload_n hx hb dX2_isUnchanged_2 rfl (lv_at hl 3 rfl) ?_
      refine lv_aload_n hx hb dX2_isUnchanged_3 rfl (lv_at hl 0 rfl) ?_
      refine sl_get (C := RX2) (T := TX2) (N := 3) hC hG 6 h6 rfl la_2 1 (by decide) lk_RX2_15 rfl rfl dX2_isUnchanged_4 ?_
      refine sl_alen (v := 4) hC hG 8 0 h8 rfl rfl dX2_isUnchanged_7 ?_
      refine lv_icmp_ge (tgt := 37) hx hb dX2_isUnchanged_8 (by decide) (fun c_8 => ?_) (fun c_8 => ?_)
      · have n_8 : 4 ≤ k := (nI_leI (a := 4) (b := k) (by omega) (by omega)).mp c_8
        refine lv_iconst (v := 1) hx hb dX2_isUnchanged_37 (by decide) ?_
        have hk9 : k = 4 := by omega
        subst hk9
        exact sl_rz (v := 1) hC hr rfl hG () (by show _ = sl_bi (sl_un X ss ver 4); rw [hi]; rfl) rfl (Nat.le_of_ble_eq_true rfl) (Nat.le_of_ble_eq_true rfl) dX2_isUnchanged_38
      · have n_8 : ¬ (4 ≤ k) := fun z => c_8 ((nI_leI (a := 4) (b := k) (by omega) (by omega)).mpr z)
        refine lv_iload_n hx hb dX2_isUnchanged_11 rfl (lv_at hl 3 rfl) ?_
        refine lv_iload_n hx hb dX2_isUnchanged_12 rfl (lv_at hl 1 rfl) ?_
        refine sl_calli (sl_runSN (As := [.int (nI k), .int ss]) (rest := []) hC hG (kX4_isIn l Γ g (nI k) ss) mi_X4_isIn lk_RX2_48 rfl rfl ⟨Nat.le_of_ble_eq_true rfl, Nat.le_of_ble_eq_true rfl⟩ rfl hl.1 rfl (Nat.le_of_ble_eq_true rfl) dX2_isUnchanged_13 ⟨Nat.le_of_ble_eq_true rfl, Nat.le_of_ble_eq_true rfl⟩) hG (fun r_13 u_13 H locs hr_13 hG => ?_)
        subst hr_13
        refine lv_if_eq (tgt := 31) hx hb dX2_isUnchanged_16 (by decide) (fun c_16 => ?_) (fun c_16 => ?_)
        · have c_16 := sl_bF c_16
          refine lv_iinc (v := nI (k + 1)) (lv' := [(3, .int (nI (k + 1))), (0, .ref a6), (1, .int ss), (2, .int ver)]) hx hb dX2_isUnchanged_31 hl (k := 3) rfl (nI_1 k) (by decide) rfl (fun ls hl => ?_)
          refine lv_goto (tgt := 2) hx hb dX2_isUnchanged_34 (by decide) ?_
          exact ih_2 (k + 1) (by omega) (by omega) (by rw [sl_un, hi, c_16]; rfl) _ _ hG _ (lv_sub hl [1, 2, 3, 0] rfl)
        · have c_16 := sl_bT c_16
          refine lv_aload_n hx hb dX2_isUnchanged_19 rfl (lv_at hl 0 rfl) ?_
          refine sl_get (C := RX2) (T := TX2) (N := 3) hC hG 6 h6 rfl la_2 1 (by decide) lk_RX2_15 rfl rfl dX2_isUnchanged_20 ?_
          refine lv_iload_n hx hb dX2_isUnchanged_23 rfl (lv_at hl 3 rfl) ?_
          refine sl_ialdN hC hG 8 h8 (j := k) rfl (by omega) (by omega) dX2_isUnchanged_24 ?_
          refine lv_iload_n hx hb dX2_isUnchanged_25 rfl (lv_at hl 2 rfl) ?_
          refine lv_icmp_lt (tgt := 31) hx hb dX2_isUnchanged_26 (by decide) (fun c_26 => ?_) (fun c_26 => ?_)
          · refine lv_iinc (v := nI (k + 1)) (lv' := [(3, .int (nI (k + 1))), (0, .ref a6), (1, .int ss), (2, .int ver)]) hx hb dX2_isUnchanged_31 hl (k := 3) rfl (nI_1 k) (by decide) rfl (fun ls hl => ?_)
            refine lv_goto (tgt := 2) hx hb dX2_isUnchanged_34 (by decide) ?_
            exact ih_2 (k + 1) (by omega) (by omega) (by rw [sl_un, hi, c_16, decide_eq_true c_26]; rfl) _ _ hG _ (lv_sub hl [1, 2, 3, 0] rfl)
          · refine lv_iconst (v := 0) hx hb dX2_isUnchanged_29 (by decide) ?_
            exact sl_rz (v := 0) hC hr rfl hG () (by show _ = sl_bi (sl_un X ss ver 4); rw [sl_un_f (k := k + 1) (by rw [sl_un, hi, c_16, decide_eq_false c_26]; rfl) 4 (by omega)]; rfl) rfl (Nat.le_of_ble_eq_true rfl) (Nat.le_of_ble_eq_true rfl) dX2_isUnchanged_30
  exact loop_2 (4 + 1) 0 (by omega) (by omega) rfl _ _ hG _ (lv_sub hl [1, 2, 3, 0] rfl)
theorem sl_nc_z (X : Nat → Int32) (ss z : Int32) : X = sl_nc X ss z 0 := by
  funext j
  rw [sl_nc, if_neg (fun w => absurd w.1 (Nat.not_lt_zero j))]
set_option maxHeartbeats 4000000 in
set_option maxRecDepth 100000 in
theorem kX2_noteChange (l : Launch) (Γ : sl_G) (g : sl_W) (a6 a7 a8 : Nat) (F X : Nat → Int32) (fd : Int32) (h6 : g 6 = some (a6, .inr (2, [.ref a7, .ref a8, .int fd]))) (h7 : g 7 = some (a7, .inl (Γ.2.1 1, 120, .inl F))) (h8 : g 8 = some (a8, .inl (Γ.2.1 0, 4, .inl X))) (ss : Int32) : Met l yX2_noteChange [Cond.code yX2_noteChange cX2_noteChange 3 none] ({ frames := 1, cells := 0, slots := 0, locals := 21 } : Room) (va_Pc [.ref a6, .int ss] (sl_B Γ g)) (sl_Qv Γ (fun (_ : Unit) => True) (fun _ => sl_up g 8 (a8, .inl (Γ.2.1 0, 4, .inl (sl_nc X ss fd 4))))) 0 0 (sl_A Γ) := by
  refine sl_ent (by decide) (Nat.le_of_ble_eq_true rfl) ?_
  intro p e s m below meth c ls hC hr hin hG hl
  have hx := hC.1
  have hb := hC.2.1
  have hl : lv_has ls 3 [(0, .ref a6), (1, .int ss)] := hl
  refine lv_iconst (v := 0) hx hb dX2_noteChange_0 (by decide) ?_
  refine lv_istore_n (lv' := [(2, .int 0), (0, .ref a6), (1, .int ss)]) hx hb dX2_noteChange_1 rfl hl (by decide) rfl (fun ls hl => ?_)
  have loop_2 : ∀ (n k : Nat), k ≤ 4 → 4 + 1 ≤ k + n → ∀ (H : Heap) (locs : List Loc), sl_I Γ (sl_up g 8 (a8, .inl (Γ.2.1 0, 4, .inl (sl_nc X ss fd k)))) s H locs → ∀ (ls : Array Slot), lv_has ls 3 [(0, .ref a6), (1, .int ss), (2, .int (nI k))] → W p l e ({ frames := 1, cells := 0, slots := 0, locals := 21 } : Room) s m ([.ref a6, .int ss] : List Value).toArray below meth c H locs 0 0 (MQ below (sl_Qv Γ (fun (_ : Unit) => True) (fun _ => sl_up g 8 (a8, .inl (Γ.2.1 0, 4, .inl (sl_nc X ss fd 4))))) ([.ref a6, .int ss] : List Value).toArray s 0 0 (sl_A Γ)) (F0 m 2 ls []) := by
    intro n
    induction n with
    | zero =>
      intro k  h1 h2
      exact absurd h2 (by omega)
    | succ n ih_2 =>
      intro k  hk_2 hn_2  H locs hG ls hl
      refine lv_iload_n hx hb dX2_noteChange_2 rfl (lv_at hl 2 rfl) ?_
      refine lv_aload_n hx hb dX2_noteChange_3 rfl (lv_at hl 0 rfl) ?_
      refine sl_get (C := RX2) (T := TX2) (N := 3) hC hG 6 (sl_up_to (by decide) h6) rfl la_2 1 (by decide) lk_RX2_15 rfl rfl dX2_noteChange_4 ?_
      refine sl_alen (v := 4) hC hG 8 0 (sl_up_s _ _ _) rfl rfl dX2_noteChange_7 ?_
      refine lv_icmp_ge (tgt := 35) hx hb dX2_noteChange_8 (by decide) (fun c_8 => ?_) (fun c_8 => ?_)
      · have n_8 : 4 ≤ k := (nI_leI (a := 4) (b := k) (by omega) (by omega)).mp c_8
        have hk9 : k = 4 := by omega
        subst hk9
        exact sl_rv hC hr hG () trivial rfl (Nat.le_of_ble_eq_true rfl) (Nat.le_of_ble_eq_true rfl) dX2_noteChange_35
      · have n_8 : ¬ (4 ≤ k) := fun z => c_8 ((nI_leI (a := 4) (b := k) (by omega) (by omega)).mpr z)
        refine lv_iload_n hx hb dX2_noteChange_11 rfl (lv_at hl 2 rfl) ?_
        refine lv_iload_n hx hb dX2_noteChange_12 rfl (lv_at hl 1 rfl) ?_
        refine sl_calli (sl_runSN (As := [.int (nI k), .int ss]) (rest := []) hC hG (kX4_isIn l Γ (sl_up g 8 (a8, .inl (Γ.2.1 0, 4, .inl (sl_nc X ss fd k)))) (nI k) ss) mi_X4_isIn lk_RX2_48 rfl rfl ⟨Nat.le_of_ble_eq_true rfl, Nat.le_of_ble_eq_true rfl⟩ rfl hl.1 rfl (Nat.le_of_ble_eq_true rfl) dX2_noteChange_13 ⟨Nat.le_of_ble_eq_true rfl, Nat.le_of_ble_eq_true rfl⟩) hG (fun r_13 u_13 H locs hr_13 hG => ?_)
        subst hr_13
        refine lv_if_eq (tgt := 29) hx hb dX2_noteChange_16 (by decide) (fun c_16 => ?_) (fun c_16 => ?_)
        · have c_16 := sl_bF c_16
          refine lv_iinc (v := nI (k + 1)) (lv' := [(2, .int (nI (k + 1))), (0, .ref a6), (1, .int ss)]) hx hb dX2_noteChange_29 hl (k := 2) rfl (nI_1 k) (by decide) rfl (fun ls hl => ?_)
          refine lv_goto (tgt := 2) hx hb dX2_noteChange_32 (by decide) ?_
          rw [sl_nc_0 (X := X) (z := fd) c_16] at hG
          exact ih_2 (k + 1) (by omega) (by omega) _ _ hG _ (lv_sub hl [1, 2, 0] rfl)
        · have c_16 := sl_bT c_16
          refine lv_aload_n hx hb dX2_noteChange_19 rfl (lv_at hl 0 rfl) ?_
          refine sl_get (C := RX2) (T := TX2) (N := 3) hC hG 6 (sl_up_to (by decide) h6) rfl la_2 1 (by decide) lk_RX2_15 rfl rfl dX2_noteChange_20 ?_
          refine lv_iload_n hx hb dX2_noteChange_23 rfl (lv_at hl 2 rfl) ?_
          refine lv_aload_n hx hb dX2_noteChange_24 rfl (lv_at hl 0 rfl) ?_
          refine sl_get (C := RX2) (T := TX2) (N := 3) hC hG 6 (sl_up_to (by decide) h6) rfl la_2 2 (by decide) lk_RX2_19 rfl rfl dX2_noteChange_25 ?_
          refine sl_iastN hC hG 8 (sl_up_s _ _ _) (j := k) rfl (by omega) (by omega) dX2_noteChange_28 (fun H locs hG => ?_)
          have hG : sl_I Γ (sl_up (sl_up g 8 (a8, .inl (Γ.2.1 0, 4, .inl (sl_nc X ss fd k)))) 8 (a8, .inl (Γ.2.1 0, 4, .inl (upd (sl_nc X ss fd k) k fd)))) s H _ := hG
          refine lv_iinc (v := nI (k + 1)) (lv' := [(2, .int (nI (k + 1))), (0, .ref a6), (1, .int ss)]) hx hb dX2_noteChange_29 hl (k := 2) rfl (nI_1 k) (by decide) rfl (fun ls hl => ?_)
          refine lv_goto (tgt := 2) hx hb dX2_noteChange_32 (by decide) ?_
          rw [sl_up_up, sl_nc_1 c_16] at hG
          exact ih_2 (k + 1) (by omega) (by omega) _ _ hG _ (lv_sub hl [1, 2, 0] rfl)
  rw [← sl_up_same h8, sl_nc_z X ss fd] at hG
  exact loop_2 (4 + 1) 0 (by omega) (by omega) _ _ hG _ (lv_sub hl [1, 2, 0] rfl)
set_option maxHeartbeats 4000000 in
set_option maxRecDepth 100000 in
theorem kX2_hasEffect (l : Launch) (Γ : sl_G) (g : sl_W) (a6 a7 a8 : Nat) (F X : Nat → Int32) (d : Nat) (h6 : g 6 = some (a6, .inr (2, [.ref a7, .ref a8, .int (nI d)]))) (h7 : g 7 = some (a7, .inl (Γ.2.1 1, 120, .inl F))) (h8 : g 8 = some (a8, .inl (Γ.2.1 0, 4, .inl X))) (hd9 : d ≤ 120) (q : Nat) (hq9 : q < 120) : Met l yX2_hasEffect [Cond.code yX2_hasEffect cX2_hasEffect 2 (some .boolean)] ({ frames := 0, cells := 0, slots := 0, locals := 0 } : Room) (va_Pc [.ref a6, .int (nI q)] (sl_B Γ g)) (sl_Qi Γ (fun r (_ : Unit) => r = sl_bi (decide (q < d) && !decide (F q = 0))) (fun _ => g)) 0 0 (sl_A Γ) := by
  refine sl_ent (by decide) (Nat.le_of_ble_eq_true rfl) ?_
  intro p e s m below meth c ls hC hr hin hG hl
  have hx := hC.1
  have hb := hC.2.1
  have hl : lv_has ls 2 [(0, .ref a6), (1, .int (nI q))] := hl
  refine lv_iload_n hx hb dX2_hasEffect_0 rfl (lv_at hl 1 rfl) ?_
  refine lv_if_lt (tgt := 34) hx hb dX2_hasEffect_1 (by decide) (fun c_1 => ?_) (fun c_1 => ?_)
  · exact absurd ((nI_ltI (a := q) (b := 0) (by omega) (by omega)).mp c_1) (by omega)
  · have n_1 : ¬ (q < 0) := fun z => c_1 ((nI_ltI (a := q) (b := 0) (by omega) (by omega)).mpr z)
    refine lv_iload_n hx hb dX2_hasEffect_4 rfl (lv_at hl 1 rfl) ?_
    refine lv_aload_n hx hb dX2_hasEffect_5 rfl (lv_at hl 0 rfl) ?_
    refine sl_get (C := RX2) (T := TX2) (N := 3) hC hG 6 h6 rfl la_2 2 (by decide) lk_RX2_19 rfl rfl dX2_hasEffect_6 ?_
    refine lv_icmp_ge (tgt := 34) hx hb dX2_hasEffect_9 (by decide) (fun c_9 => ?_) (fun c_9 => ?_)
    · have n_9 : d ≤ q := (nI_leI (a := d) (b := q) (by omega) (by omega)).mp c_9
      refine lv_iconst (v := 0) hx hb dX2_hasEffect_34 (by decide) ?_
      exact sl_rz (v := 0) hC hr rfl hG () (by show _ = sl_bi (decide (q < d) && !decide (F q = 0)); rw [decide_eq_false (by omega : ¬ q < d)]; rfl) rfl (Nat.le_of_ble_eq_true rfl) (Nat.le_of_ble_eq_true rfl) dX2_hasEffect_35
    · have n_9 : ¬ (d ≤ q) := fun z => c_9 ((nI_leI (a := d) (b := q) (by omega) (by omega)).mpr z)
      refine lv_iload_n hx hb dX2_hasEffect_12 rfl (lv_at hl 1 rfl) ?_
      refine lv_aload_n hx hb dX2_hasEffect_13 rfl (lv_at hl 0 rfl) ?_
      refine sl_get (C := RX2) (T := TX2) (N := 3) hC hG 6 h6 rfl la_2 0 (by decide) lk_RX2_9 rfl rfl dX2_hasEffect_14 ?_
      refine sl_alen (v := 120) hC hG 7 1 h7 rfl rfl dX2_hasEffect_17 ?_
      refine lv_icmp_ge (tgt := 34) hx hb dX2_hasEffect_18 (by decide) (fun c_18 => ?_) (fun c_18 => ?_)
      · exact absurd ((nI_leI (a := 120) (b := q) (by omega) (by omega)).mp c_18) (by omega)
      · have n_18 : ¬ (120 ≤ q) := fun z => c_18 ((nI_leI (a := 120) (b := q) (by omega) (by omega)).mpr z)
        refine lv_aload_n hx hb dX2_hasEffect_21 rfl (lv_at hl 0 rfl) ?_
        refine sl_get (C := RX2) (T := TX2) (N := 3) hC hG 6 h6 rfl la_2 0 (by decide) lk_RX2_9 rfl rfl dX2_hasEffect_22 ?_
        refine lv_iload_n hx hb dX2_hasEffect_25 rfl (lv_at hl 1 rfl) ?_
        refine sl_zaldN hC hG 7 h7 (j := q) rfl (by omega) (by omega) dX2_hasEffect_26 ?_
        refine lv_if_eq (tgt := 34) hx hb dX2_hasEffect_27 (by decide) (fun c_27 => ?_) (fun c_27 => ?_)
        · refine lv_iconst (v := 0) hx hb dX2_hasEffect_34 (by decide) ?_
          exact sl_rz (v := 0) hC hr rfl hG () (by show _ = sl_bi (decide (q < d) && !decide (F q = 0)); rw [decide_eq_true (by omega : q < d), decide_eq_true c_27]; rfl) rfl (Nat.le_of_ble_eq_true rfl) (Nat.le_of_ble_eq_true rfl) dX2_hasEffect_35
        · refine lv_iconst (v := 1) hx hb dX2_hasEffect_30 (by decide) ?_
          refine lv_goto (tgt := 35) hx hb dX2_hasEffect_31 (by decide) ?_
          exact sl_rz (v := 1) hC hr rfl hG () (by show _ = sl_bi (decide (q < d) && !decide (F q = 0)); rw [decide_eq_true (by omega : q < d), decide_eq_false c_27]; rfl) rfl (Nat.le_of_ble_eq_true rfl) (Nat.le_of_ble_eq_true rfl) dX2_hasEffect_35
set_option maxHeartbeats 4000000 in
set_option maxRecDepth 100000 in
theorem kX2_addN (l : Launch) (Γ : sl_G) (g : sl_W) (a6 a7 a8 : Nat) (F X : Nat → Int32) (d : Nat) (h6 : g 6 = some (a6, .inr (2, [.ref a7, .ref a8, .int (nI d)]))) (h7 : g 7 = some (a7, .inl (Γ.2.1 1, 120, .inl F))) (h8 : g 8 = some (a8, .inl (Γ.2.1 0, 4, .inl X))) (hd9 : d < 120) : Met l yX2_add [Cond.code yX2_add cX2_add 3 none] ({ frames := 2, cells := 0, slots := 0, locals := 44 } : Room) (va_Pc [.ref a6, .null] (sl_B Γ g)) (sl_Qv Γ (fun (_ : Unit) => True) (fun _ => sl_up (sl_up (sl_up g 7 (a7, .inl (Γ.2.1 1, 120, .inl (upd F d (sl_bi false))))) 8 (a8, .inl (Γ.2.1 0, 4, .inl X))) 6 (a6, .inr (2, [.ref a7, .ref a8, .int (nI (d + 1))])))) 0 0 (sl_A Γ) := by
  refine sl_ent (by decide) (Nat.le_of_ble_eq_true rfl) ?_
  intro p e s m below meth c ls hC hr hin hG hl
  have hx := hC.1
  have hb := hC.2.1
  have hl : lv_has ls 3 [(0, .ref a6), (1, .null)] := hl
  refine lv_aload_n hx hb dX2_add_0 rfl (lv_at hl 0 rfl) ?_
  refine sl_get (C := RX2) (T := TX2) (N := 3) hC hG 6 h6 rfl la_2 2 (by decide) lk_RX2_19 rfl rfl dX2_add_1 ?_
  refine lv_if_lt (tgt := 19) hx hb dX2_add_4 (by decide) (fun c_4 => ?_) (fun c_4 => ?_)
  · exact absurd ((nI_ltI (a := d) (b := 0) (by omega) (by omega)).mp c_4) (by omega)
  · have n_4 : ¬ (d < 0) := fun z => c_4 ((nI_ltI (a := d) (b := 0) (by omega) (by omega)).mpr z)
    refine lv_aload_n hx hb dX2_add_7 rfl (lv_at hl 0 rfl) ?_
    refine sl_get (C := RX2) (T := TX2) (N := 3) hC hG 6 h6 rfl la_2 2 (by decide) lk_RX2_19 rfl rfl dX2_add_8 ?_
    refine lv_aload_n hx hb dX2_add_11 rfl (lv_at hl 0 rfl) ?_
    refine sl_get (C := RX2) (T := TX2) (N := 3) hC hG 6 h6 rfl la_2 0 (by decide) lk_RX2_9 rfl rfl dX2_add_12 ?_
    refine sl_alen (v := 120) hC hG 7 1 h7 rfl rfl dX2_add_15 ?_
    refine lv_icmp_lt (tgt := 20) hx hb dX2_add_16 (by decide) (fun c_16 => ?_) (fun c_16 => ?_)
    · have n_16 : d < 120 := (nI_ltI (a := d) (b := 120) (by omega) (by omega)).mp c_16
      refine lv_aload_nN hx hb dX2_add_20 rfl (lv_at hl 1 rfl) ?_
      refine lv_ifnullN (tgt := 43) hx hb dX2_add_21 (by decide) ?_
      refine lv_iconst (v := 0) hx hb dX2_add_43 (by decide) ?_
      refine lv_istore_n (lv' := [(2, .int 0), (0, .ref a6), (1, .null)]) hx hb dX2_add_44 rfl hl (by decide) rfl (fun ls hl => ?_)
      refine lv_aload_n hx hb dX2_add_45 rfl (lv_at hl 1 rfl) ?_
      refine sl_get (C := RX2) (T := TX2) (N := 3) hC hG 6 h6 rfl la_2 0 (by decide) lk_RX2_9 rfl rfl dX2_add_46 ?_
      refine lv_aload_n hx hb dX2_add_49 rfl (lv_at hl 1 rfl) ?_
      refine sl_get (C := RX2) (T := TX2) (N := 3) hC hG 6 h6 rfl la_2 2 (by decide) lk_RX2_19 rfl rfl dX2_add_50 ?_
      refine lv_iload_n hx hb dX2_add_53 rfl (lv_at hl 0 rfl) ?_
      refine sl_zastN hC hG 7 h7 (j := d) rfl rfl (by omega) (by omega) dX2_add_54 (fun H locs hG => ?_)
      have hG : sl_I Γ (sl_up g 7 (a7, .inl (Γ.2.1 1, 120, .inl (upd F d 0)))) s H _ := hG
      refine lv_iload_n hx hb dX2_add_55 rfl (lv_at hl 0 rfl) ?_
      refine lv_if_eq (tgt := 67) hx hb dX2_add_56 (by decide) (fun c_56 => ?_) (fun c_56 => ?_)
      · refine lv_aload_n hx hb dX2_add_67 rfl (lv_at hl 1 rfl) ?_
        refine lv_dup hx hb dX2_add_68 rfl ?_
        refine sl_get (C := RX2) (T := TX2) (N := 3) hC hG 6 (sl_up_to (by decide) h6) rfl la_2 2 (by decide) lk_RX2_19 rfl rfl dX2_add_69 ?_
        refine lv_iconst (v := 1) hx hb dX2_add_72 (by decide) ?_
        refine lv_iadd hx hb dX2_add_73 ?_
        refine sl_topi (nI_add d 1) ?_
        refine sl_put (C := RX2) (T := TX2) (N := 3) (ty := .int) (v := .int (nI (d + 1))) hC hG 6 (sl_up_to (by decide) h6) rfl la_2 tyX2 tyX2_ok nmX2 2 (by decide) lk_RX2_19 rfl rfl (by decide +kernel) rfl rfl (Nat.le_of_ble_eq_true rfl) dX2_add_74 (fun H locs hG => ?_)
        have hG : sl_I Γ (sl_up (sl_up g 7 (a7, .inl (Γ.2.1 1, 120, .inl (upd F d 0)))) 6 (a6, .inr (2, [.ref a7, .ref a8, .int (nI (d + 1))]))) s H _ := hG
        exact sl_rv hC hr hG () trivial (by show sl_up (sl_up _ 8 _) 6 _ = _; rw [sl_up_same (sl_up_to (by decide) h8)]; rfl) (Nat.le_of_ble_eq_true rfl) (Nat.le_of_ble_eq_true rfl) dX2_add_77
      · exact absurd c_56 (by decide)
    · exact absurd ((nI_ltI (a := d) (b := 120) (by omega) (by omega)).mpr (by omega)) c_16
set_option maxHeartbeats 4000000 in
set_option maxRecDepth 100000 in
theorem kX2_addE (l : Launch) (Γ : sl_G) (g : sl_W) (a6 a7 a8 : Nat) (F X : Nat → Int32) (d : Nat) (h6 : g 6 = some (a6, .inr (2, [.ref a7, .ref a8, .int (nI d)]))) (h7 : g 7 = some (a7, .inl (Γ.2.1 1, 120, .inl F))) (h8 : g 8 = some (a8, .inl (Γ.2.1 0, 4, .inl X))) (hd9 : d < 120) (ke a b : Nat) (x1 x2 x3 x4 x5 x6 x8 : Int32) (he : g ke = some (a, .inr (1, [.int x1, .int x2, .int x3, .int x4, .int x5, .int x6, .ref b, .int x8]))) (hke : 8 < ke) : Met l yX2_add [Cond.code yX2_add cX2_add 3 none] ({ frames := 2, cells := 0, slots := 0, locals := 44 } : Room) (va_Pc [.ref a6, .ref a] (sl_B Γ g)) (sl_Qv Γ (fun (_ : Unit) => True) (fun _ => sl_up (sl_up (sl_up g 7 (a7, .inl (Γ.2.1 1, 120, .inl (upd F d (sl_bi (sl_un X x5 x6 4)))))) 8 (a8, .inl (Γ.2.1 0, 4, .inl (if (sl_un X x5 x6 4) = true then sl_nc X x3 (nI d) 4 else X)))) 6 (a6, .inr (2, [.ref a7, .ref a8, .int (nI (d + 1))])))) 0 0 (sl_A Γ) := by
  refine sl_ent (by decide) (Nat.le_of_ble_eq_true rfl) ?_
  intro p e s m below meth c ls hC hr hin hG hl
  have hx := hC.1
  have hb := hC.2.1
  have hl : lv_has ls 3 [(0, .ref a6), (1, .ref a)] := hl
  refine lv_aload_n hx hb dX2_add_0 rfl (lv_at hl 0 rfl) ?_
  refine sl_get (C := RX2) (T := TX2) (N := 3) hC hG 6 h6 rfl la_2 2 (by decide) lk_RX2_19 rfl rfl dX2_add_1 ?_
  refine lv_if_lt (tgt := 19) hx hb dX2_add_4 (by decide) (fun c_4 => ?_) (fun c_4 => ?_)
  · exact absurd ((nI_ltI (a := d) (b := 0) (by omega) (by omega)).mp c_4) (by omega)
  · have n_4 : ¬ (d < 0) := fun z => c_4 ((nI_ltI (a := d) (b := 0) (by omega) (by omega)).mpr z)
    refine lv_aload_n hx hb dX2_add_7 rfl (lv_at hl 0 rfl) ?_
    refine sl_get (C := RX2) (T := TX2) (N := 3) hC hG 6 h6 rfl la_2 2 (by decide) lk_RX2_19 rfl rfl dX2_add_8 ?_
    refine lv_aload_n hx hb dX2_add_11 rfl (lv_at hl 0 rfl) ?_
    refine sl_get (C := RX2) (T := TX2) (N := 3) hC hG 6 h6 rfl la_2 0 (by decide) lk_RX2_9 rfl rfl dX2_add_12 ?_
    refine sl_alen (v := 120) hC hG 7 1 h7 rfl rfl dX2_add_15 ?_
    refine lv_icmp_lt (tgt := 20) hx hb dX2_add_16 (by decide) (fun c_16 => ?_) (fun c_16 => ?_)
    · have n_16 : d < 120 := (nI_ltI (a := d) (b := 120) (by omega) (by omega)).mp c_16
      refine lv_aload_n hx hb dX2_add_20 rfl (lv_at hl 1 rfl) ?_
      refine lv_ifnull hx hb dX2_add_21 ?_
      refine lv_aload_n hx hb dX2_add_24 rfl (lv_at hl 0 rfl) ?_
      refine lv_aload_n hx hb dX2_add_25 rfl (lv_at hl 1 rfl) ?_
      refine sl_getN (C := RX1) (T := TX1) (N := 8) hC hG ke he rfl la_1 4 (by decide) lk_RX2_29 rfl rfl dX2_add_26 ?_
      refine lv_aload_n hx hb dX2_add_29 rfl (lv_at hl 1 rfl) ?_
      refine sl_getN (C := RX1) (T := TX1) (N := 8) hC hG ke he rfl la_1 5 (by decide) lk_RX2_34 rfl rfl dX2_add_30 ?_
      refine sl_calli (sl_runV (As := [.int x5, .int x6]) (rest := []) hC hG (kX2_isUnchanged l Γ g a6 a7 a8 F X (nI d) h6 h7 h8 x5 x6) mi_X2_isUnchanged lk_RX2_37 6 h6 rfl rfl rfl ⟨Nat.le_of_ble_eq_true rfl, Nat.le_of_ble_eq_true rfl⟩ rfl hl.1 rfl (Nat.le_of_ble_eq_true rfl) dX2_add_33 ⟨Nat.le_of_ble_eq_true rfl, Nat.le_of_ble_eq_true rfl⟩) hG (fun r_33 u_33 H locs hr_33 hG => ?_)
      subst hr_33
      refine lv_if_eq (tgt := 43) hx hb dX2_add_36 (by decide) (fun c_36 => ?_) (fun c_36 => ?_)
      · have c_36 := sl_bF c_36
        refine lv_iconst (v := 0) hx hb dX2_add_43 (by decide) ?_
        refine lv_istore_n (lv' := [(2, .int 0), (0, .ref a6), (1, .ref a)]) hx hb dX2_add_44 rfl hl (by decide) rfl (fun ls hl => ?_)
        refine lv_aload_n hx hb dX2_add_45 rfl (lv_at hl 1 rfl) ?_
        refine sl_get (C := RX2) (T := TX2) (N := 3) hC hG 6 h6 rfl la_2 0 (by decide) lk_RX2_9 rfl rfl dX2_add_46 ?_
        refine lv_aload_n hx hb dX2_add_49 rfl (lv_at hl 1 rfl) ?_
        refine sl_get (C := RX2) (T := TX2) (N := 3) hC hG 6 h6 rfl la_2 2 (by decide) lk_RX2_19 rfl rfl dX2_add_50 ?_
        refine lv_iload_n hx hb dX2_add_53 rfl (lv_at hl 0 rfl) ?_
        refine sl_zastN hC hG 7 h7 (j := d) rfl rfl (by omega) (by omega) dX2_add_54 (fun H locs hG => ?_)
        have hG : sl_I Γ (sl_up g 7 (a7, .inl (Γ.2.1 1, 120, .inl (upd F d 0)))) s H _ := hG
        refine lv_iload_n hx hb dX2_add_55 rfl (lv_at hl 0 rfl) ?_
        refine lv_if_eq (tgt := 67) hx hb dX2_add_56 (by decide) (fun c_56 => ?_) (fun c_56 => ?_)
        · refine lv_aload_n hx hb dX2_add_67 rfl (lv_at hl 1 rfl) ?_
          refine lv_dup hx hb dX2_add_68 rfl ?_
          refine sl_get (C := RX2) (T := TX2) (N := 3) hC hG 6 (sl_up_to (by decide) h6) rfl la_2 2 (by decide) lk_RX2_19 rfl rfl dX2_add_69 ?_
          refine lv_iconst (v := 1) hx hb dX2_add_72 (by decide) ?_
          refine lv_iadd hx hb dX2_add_73 ?_
          refine sl_topi (nI_add d 1) ?_
          refine sl_put (C := RX2) (T := TX2) (N := 3) (ty := .int) (v := .int (nI (d + 1))) hC hG 6 (sl_up_to (by decide) h6) rfl la_2 tyX2 tyX2_ok nmX2 2 (by decide) lk_RX2_19 rfl rfl (by decide +kernel) rfl rfl (Nat.le_of_ble_eq_true rfl) dX2_add_74 (fun H locs hG => ?_)
          have hG : sl_I Γ (sl_up (sl_up g 7 (a7, .inl (Γ.2.1 1, 120, .inl (upd F d 0)))) 6 (a6, .inr (2, [.ref a7, .ref a8, .int (nI (d + 1))]))) s H _ := hG
          exact sl_rv hC hr hG () trivial (by show sl_up (sl_up (sl_up g 7 (a7, .inl (Γ.2.1 1, 120, .inl (upd F d (sl_bi (sl_un X x5 x6 4)))))) 8 (a8, .inl (Γ.2.1 0, 4, .inl (if (sl_un X x5 x6 4) = true then sl_nc X x3 (nI d) 4 else X)))) 6 _ = _; rw [c_36]; rw [if_neg (by decide), sl_up_same (sl_up_to (by decide) h8)]; rfl) (Nat.le_of_ble_eq_true rfl) (Nat.le_of_ble_eq_true rfl) dX2_add_77
        · exact absurd c_56 (by decide)
      · have c_36 := sl_bT c_36
        refine lv_iconst (v := 1) hx hb dX2_add_39 (by decide) ?_
        refine lv_goto (tgt := 44) hx hb dX2_add_40 (by decide) ?_
        refine lv_istore_n (lv' := [(2, .int 1), (0, .ref a6), (1, .ref a)]) hx hb dX2_add_44 rfl hl (by decide) rfl (fun ls hl => ?_)
        refine lv_aload_n hx hb dX2_add_45 rfl (lv_at hl 1 rfl) ?_
        refine sl_get (C := RX2) (T := TX2) (N := 3) hC hG 6 h6 rfl la_2 0 (by decide) lk_RX2_9 rfl rfl dX2_add_46 ?_
        refine lv_aload_n hx hb dX2_add_49 rfl (lv_at hl 1 rfl) ?_
        refine sl_get (C := RX2) (T := TX2) (N := 3) hC hG 6 h6 rfl la_2 2 (by decide) lk_RX2_19 rfl rfl dX2_add_50 ?_
        refine lv_iload_n hx hb dX2_add_53 rfl (lv_at hl 0 rfl) ?_
        refine sl_zastN hC hG 7 h7 (j := d) rfl rfl (by omega) (by omega) dX2_add_54 (fun H locs hG => ?_)
        have hG : sl_I Γ (sl_up g 7 (a7, .inl (Γ.2.1 1, 120, .inl (upd F d 1)))) s H _ := hG
        refine lv_iload_n hx hb dX2_add_55 rfl (lv_at hl 0 rfl) ?_
        refine lv_if_eq (tgt := 67) hx hb dX2_add_56 (by decide) (fun c_56 => ?_) (fun c_56 => ?_)
        · exact absurd c_56 (by decide)
        · refine lv_aload_n hx hb dX2_add_59 rfl (lv_at hl 1 rfl) ?_
          refine lv_aload_n hx hb dX2_add_60 rfl (lv_at hl 2 rfl) ?_
          refine sl_getN (C := RX1) (T := TX1) (N := 8) hC hG ke (sl_up_to (by omega) he) rfl la_1 2 (by decide) lk_RX2_41 rfl rfl dX2_add_61 ?_
          refine sl_callv (sl_runV (As := [.int x3]) (rest := []) hC hG (kX2_noteChange l Γ (sl_up g 7 (a7, .inl (Γ.2.1 1, 120, .inl (upd F d 1)))) a6 a7 a8 (upd F d 1) X (nI d) (sl_up_to (by decide) h6) (sl_up_s _ _ _) (sl_up_to (by decide) h8) x3) mi_X2_noteChange lk_RX2_44 6 (sl_up_to (by decide) h6) rfl rfl rfl ⟨Nat.le_of_ble_eq_true rfl, Nat.le_of_ble_eq_true rfl⟩ rfl hl.1 rfl (Nat.le_of_ble_eq_true rfl) dX2_add_64 ⟨Nat.le_of_ble_eq_true rfl, Nat.le_of_ble_eq_true rfl⟩) hG (fun u_64 H locs hr_64 hG => ?_)
          have hG : sl_I Γ (sl_up (sl_up g 7 (a7, .inl (Γ.2.1 1, 120, .inl (upd F d 1)))) 8 (a8, .inl (Γ.2.1 0, 4, .inl (sl_nc X x3 (nI d) 4)))) s H _ := hG
          refine lv_aload_n hx hb dX2_add_67 rfl (lv_at hl 1 rfl) ?_
          refine lv_dup hx hb dX2_add_68 rfl ?_
          refine sl_get (C := RX2) (T := TX2) (N := 3) hC hG 6 (sl_up_to (by decide) (sl_up_to (by decide) h6)) rfl la_2 2 (by decide) lk_RX2_19 rfl rfl dX2_add_69 ?_
          refine lv_iconst (v := 1) hx hb dX2_add_72 (by decide) ?_
          refine lv_iadd hx hb dX2_add_73 ?_
          refine sl_topi (nI_add d 1) ?_
          refine sl_put (C := RX2) (T := TX2) (N := 3) (ty := .int) (v := .int (nI (d + 1))) hC hG 6 (sl_up_to (by decide) (sl_up_to (by decide) h6)) rfl la_2 tyX2 tyX2_ok nmX2 2 (by decide) lk_RX2_19 rfl rfl (by decide +kernel) rfl rfl (Nat.le_of_ble_eq_true rfl) dX2_add_74 (fun H locs hG => ?_)
          have hG : sl_I Γ (sl_up (sl_up (sl_up g 7 (a7, .inl (Γ.2.1 1, 120, .inl (upd F d 1)))) 8 (a8, .inl (Γ.2.1 0, 4, .inl (sl_nc X x3 (nI d) 4)))) 6 (a6, .inr (2, [.ref a7, .ref a8, .int (nI (d + 1))]))) s H _ := hG
          exact sl_rv hC hr hG () trivial (by show sl_up (sl_up (sl_up g 7 (a7, .inl (Γ.2.1 1, 120, .inl (upd F d (sl_bi (sl_un X x5 x6 4)))))) 8 (a8, .inl (Γ.2.1 0, 4, .inl (if (sl_un X x5 x6 4) = true then sl_nc X x3 (nI d) 4 else X)))) 6 _ = _; rw [c_36]; rfl) (Nat.le_of_ble_eq_true rfl) (Nat.le_of_ble_eq_true rfl) dX2_add_77
    · exact absurd ((nI_ltI (a := d) (b := 120) (by omega) (by omega)).mpr (by omega)) c_16
end
section
/-! the class's state, and what it answers -/
/-- an entry: position, epoch, streams, amount, read, version, pointers, steps -/
abbrev sl_Ent : Type := Int32 × Int32 × Int32 × Int32 × Int32 × Int32 × (Nat → Int32) × Int32
theorem sl_opt (o : Option Nat) : o = none ∨ ∃ t, o = some t := by cases o with | none => exact Or.inl rfl | some t => exact Or.inr ⟨t, rfl⟩
theorem sl_subm (x : Int32) : x - 1 = x + (-1) := by rw [Int32.sub_eq_add_neg]
def sl_ea (n : Nat) (β : Nat → Nat × Nat × Nat) : Nat → Option Nat := fun i => if i < n then some (β i).1 else none
/-- the entries' cells -/
def sl_Es (Γ : sl_G) (β : Nat → Nat × Nat × Nat) (n : Nat) (E : Nat → sl_Ent) (g : sl_W) : Prop := ∀ i, i < n → g (100 + 3 * i) = some ((β i).1, .inr (1, [.int (E i).1, .int (E i).2.1, .int (E i).2.2.1, .int (E i).2.2.2.1, .int (E i).2.2.2.2.1, .int (E i).2.2.2.2.2.1, .ref (β i).2.1, .int (E i).2.2.2.2.2.2.2])) ∧ g (101 + 3 * i) = some ((β i).2.1, .inr (3, [.ref (β i).2.2])) ∧ g (102 + 3 * i) = some ((β i).2.2, .inl (Γ.2.1 0, 16, .inl (E i).2.2.2.2.2.2.1))
/-- what the reading methods need -/
def sl_Ro (Γ : sl_G) (α : Nat → Nat) (β : Nat → Nat × Nat × Nat) (n : Nat) (C : Nat → Int32) (E : Nat → sl_Ent) (g : sl_W) : Prop :=
  (∃ z4 z5 z6 z7 : Int32, g 0 = some (α 0, .inr (4, [.ref (α 1), .ref (α 2), .ref (α 4), .ref (α 6), .int z4, .int z5, .int z6, .int z7]))) ∧
  g 1 = some (α 1, .inl (Γ.2.1 2, 150, .inr (.inr (.inr (.inr (sl_ea n β)))))) ∧
  g 2 = some (α 2, .inr (0, [.ref (α 3)])) ∧
  g 3 = some (α 3, .inl (Γ.2.1 0, 360, .inl C)) ∧ sl_Es Γ β n E g ∧ n ≤ 150
theorem sl_Es.mono {Γ : sl_G} {β : Nat → Nat × Nat × Nat} {n : Nat} {E : Nat → sl_Ent} {g g' : sl_W} (h : sl_Es Γ β n E g) (hg : ∀ k, 100 ≤ k → g' k = g k) : sl_Es Γ β n E g' := by
  intro i hi
  obtain ⟨h1, h2, h3⟩ := h i hi
  exact ⟨(hg _ (by omega)).trans h1, (hg _ (by omega)).trans h2, (hg _ (by omega)).trans h3⟩
theorem sl_Ro_up {Γ : sl_G} {α : Nat → Nat} {β : Nat → Nat × Nat × Nat} {n : Nat} {C : Nat → Int32} {E : Nat → sl_Ent} {g : sl_W} {k : Nat} {q : Nat × va_E} (hk : 3 < k ∧ k < 100) (h : sl_Ro Γ α β n C E g) : sl_Ro Γ α β n C E (sl_up g k q) := by
  obtain ⟨⟨z4, z5, z6, z7, h0⟩, h1, h2, h3, hE, hn⟩ := h
  exact ⟨⟨z4, z5, z6, z7, sl_up_to (by omega) h0⟩, sl_up_to (by omega) h1, sl_up_to (by omega) h2, sl_up_to (by omega) h3, hE.mono (fun j hj => sl_up_n _ _ (by omega)), hn⟩
theorem sl_Ro_up0 {Γ : sl_G} {α : Nat → Nat} {β : Nat → Nat × Nat × Nat} {n : Nat} {C : Nat → Int32} {E : Nat → sl_Ent} {g : sl_W} {z4 z5 z6 z7 : Int32} (h : sl_Ro Γ α β n C E g) : sl_Ro Γ α β n C E (sl_up g 0 (α 0, .inr (4, [.ref (α 1), .ref (α 2), .ref (α 4), .ref (α 6), .int z4, .int z5, .int z6, .int z7]))) := by
  obtain ⟨-, h1, h2, h3, hE, hn⟩ := h
  exact ⟨⟨z4, z5, z6, z7, sl_up_s _ _ _⟩, sl_up_to (by omega) h1, sl_up_to (by omega) h2, sl_up_to (by omega) h3, hE.mono (fun j hj => sl_up_n _ _ (by omega)), hn⟩
theorem sl_Ro_w {Γ : sl_G} {α : Nat → Nat} {β : Nat → Nat × Nat × Nat} {n : Nat} {C : Nat → Int32} {E : Nat → sl_Ent} {g g' : sl_W} (h : sl_Ro Γ α β n C E g) (hg : ∀ k, k ≠ 6 → k ≠ 7 → k ≠ 8 → g' k = g k) : sl_Ro Γ α β n C E g' := by
  obtain ⟨⟨z4, z5, z6, z7, h0⟩, h1, h2, h3, hE, hn⟩ := h
  exact ⟨⟨z4, z5, z6, z7, (hg 0 (by omega) (by omega) (by omega)).trans h0⟩, (hg 1 (by omega) (by omega) (by omega)).trans h1, (hg 2 (by omega) (by omega) (by omega)).trans h2, (hg 3 (by omega) (by omega) (by omega)).trans h3, hE.mono (fun j hj => hg j (by omega) (by omega) (by omega)), hn⟩
/-- the token that a number names -/
def sl_tok (n : Nat) (x : Int32) : Option Nat := if 0 ≤ x.toInt ∧ x.toInt < n then some x.toNatClampNeg else none
theorem sl_tok_lt {n t : Nat} {x : Int32} (h : sl_tok n x = some t) : t < n := by
  rw [sl_tok] at h
  split at h
  · rename_i z
    cases h
    rw [Int32.toNatClampNeg]
    omega
  · cases h
theorem sl_tok_eq {n t : Nat} {x : Int32} (hn : n ≤ 150) (h : sl_tok n x = some t) : x = nI t := by
  have ht := sl_tok_lt h
  rw [sl_tok] at h
  split at h
  · rename_i z
    obtain ⟨j, hj, rfl⟩ := sl_nat (v := x) (n := 150) z.1 (by omega) (by omega)
    cases h
    rw [nI_clamp (by omega)]
  · cases h
theorem sl_tokN {n t : Nat} (h : t < n) (hn : n ≤ 150) : sl_tok n (nI t) = some t := by
  rw [sl_tok, nI_toInt (by omega), if_pos ⟨by omega, by omega⟩, nI_clamp (by omega)]
theorem sl_tok_neg {n : Nat} {x : Int32} (h : x.toInt < 0) : sl_tok n x = none := by
  rw [sl_tok, if_neg (by omega)]
theorem sl_tok_m1 (n : Nat) : sl_tok n (-1) = none := sl_tok_neg (by decide)
theorem sl_tok_m2 (n : Nat) : sl_tok n (-2) = none := sl_tok_neg (by decide)
theorem sl_tok_lo {n : Nat} {x : Int32} (h : x < 0) : none = (sl_tok n x) := by
  rw [sl_tok_neg (by rw [sl_ltI, sl_i0] at h; exact h)]
theorem sl_tok_hi {n : Nat} {x : Int32} (hn : n ≤ 150) (h : 150 ≤ x) : none = (sl_tok n x) := by
  have h2 : (150 : Int32).toInt = 150 := by decide
  rw [sl_leI, h2] at h
  rw [sl_tok, if_neg (by omega)]
theorem sl_vp150 {x : Int32} (h1 : ¬ x < 0) (h2 : ¬ 150 ≤ x) : vp_in x 150 := by
  have h3 : (150 : Int32).toInt = 150 := by decide
  rw [sl_ltI, sl_i0] at h1
  rw [sl_leI, h3] at h2
  exact vp_in_iff.mpr ⟨by omega, by omega⟩
theorem sl_tok_at {n : Nat} {x : Int32} {β : Nat → Nat × Nat × Nat} (hn : n ≤ 150) (h1 : ¬ x < 0) (h2 : ¬ 150 ≤ x) : sl_ea n β x.toNatClampNeg = (sl_tok n x).map (fun i => (β i).1) := by
  obtain ⟨j, hj, rfl⟩ := vp_in_of (sl_vp150 h1 h2) (by omega)
  rw [nI_clamp (by omega), sl_ea, sl_tok, nI_toInt (by omega)]
  by_cases h : j < n
  · rw [if_pos h, if_pos ⟨by omega, by omega⟩, nI_clamp (by omega)]; rfl
  · rw [if_neg h, if_neg (by omega)]; rfl
theorem sl_cg0 (C : Nat → Int32) {b : Nat} (hb : b < 120) : sl_cg C 0 (nI b) = C b := by
  have h := sl_cgN C (a := 0) (b := b) (by omega) hb
  rw [show 120 * 0 + b = b by omega] at h
  exact h
theorem sl_cg_m1 (C : Nat → Int32) : sl_cg C 0 (-1) = -2 := by
  rw [sl_cg, if_neg]
  intro z
  exact absurd z.2 (by decide)
/-- the entry at a position has the stream -/
def sl_hs (n : Nat) (C : Nat → Int32) (E : Nat → sl_Ent) (x : Int32) (q : Nat) : Bool := match sl_tok n (C q) with
  | none => false
  | some t => sl_has (E t).2.2.1 x
theorem sl_hs_0 {n : Nat} {C : Nat → Int32} {E : Nat → sl_Ent} {x : Int32} {q : Nat} (h : sl_tok n (C q) = none) : sl_hs n C E x q = false := by rw [sl_hs, h]
theorem sl_hs_1 {n t : Nat} {C : Nat → Int32} {E : Nat → sl_Ent} {x : Int32} {q : Nat} (h : sl_tok n (C q) = some t) : sl_hs n C E x q = sl_has (E t).2.2.1 x := by rw [sl_hs, h]
/-- the latest entry of a stream ahead of a position -/
def sl_la (n : Nat) (C : Nat → Int32) (E : Nat → sl_Ent) (x : Int32) : Nat → Int32
  | 0 => -1
  | q + 1 => if sl_hs n C E x q = true then nI q else sl_la n C E x q
theorem sl_la_in (n : Nat) (C : Nat → Int32) (E : Nat → sl_Ent) (x : Int32) : ∀ b, sl_la n C E x b = -1 ∨ ∃ q, q < b ∧ sl_la n C E x b = nI q ∧ sl_hs n C E x q = true
  | 0 => Or.inl rfl
  | b + 1 => by
    rw [sl_la]
    by_cases h : sl_hs n C E x b = true
    · rw [if_pos h]; exact Or.inr ⟨b, by omega, rfl, h⟩
    · rw [if_neg h]
      rcases sl_la_in n C E x b with e | ⟨q, h1, h2, h3⟩
      · exact Or.inl e
      · exact Or.inr ⟨q, by omega, h2, h3⟩
/-- a pointer: none, or a position -/
def sl_pt (x : Int32) : Prop := x = -1 ∨ ∃ q : Nat, q < 120 ∧ x = nI q
def sl_ta (n : Nat) (C : Nat → Int32) (x : Int32) : Option Nat := sl_tok n (sl_cg C 0 x)
/-- the entry ahead by the pointers of a token's entry -/
def sl_pb (n : Nat) (C : Nat → Int32) (E : Nat → sl_Ent) (k t : Nat) : Int32 :=
  if (E t).2.2.2.2.2.2.1 (4 * k + 0) = -1 then -1 else if (sl_ta n C ((E t).2.2.2.2.2.2.1 (4 * k + 0))).isSome = true then (E t).2.2.2.2.2.2.1 (4 * k + 0) else
  if (E t).2.2.2.2.2.2.1 (4 * k + 1) = -1 then -1 else if (sl_ta n C ((E t).2.2.2.2.2.2.1 (4 * k + 1))).isSome = true then (E t).2.2.2.2.2.2.1 (4 * k + 1) else
  if (E t).2.2.2.2.2.2.1 (4 * k + 2) = -1 then -1 else if (sl_ta n C ((E t).2.2.2.2.2.2.1 (4 * k + 2))).isSome = true then (E t).2.2.2.2.2.2.1 (4 * k + 2) else
  if (E t).2.2.2.2.2.2.1 (4 * k + 3) = -1 then -1 else if (sl_ta n C ((E t).2.2.2.2.2.2.1 (4 * k + 3))).isSome = true then (E t).2.2.2.2.2.2.1 (4 * k + 3) else
  sl_la n C E (nI k) ((E t).2.2.2.2.2.2.1 (4 * k + 3)).toNatClampNeg
def sl_pq (n : Nat) (C : Nat → Int32) (E : Nat → sl_Ent) (k q : Nat) : Int32 := match sl_tok n (C q) with
  | none => -1
  | some t => sl_pb n C E k t
/-- the fold: for each stream the latest position that took effect, of the first so many -/
def sl_fX (n : Nat) (C : Nat → Int32) (E : Nat → sl_Ent) : Nat → Nat → Int32
  | 0 => fun _ => -1
  | q + 1 => match sl_tok n (C q) with
    | none => sl_fX n C E q
    | some t => if sl_un (sl_fX n C E q) (E t).2.2.2.2.1 (E t).2.2.2.2.2.1 4 = true then sl_nc (sl_fX n C E q) (E t).2.2.1 (nI q) 4 else sl_fX n C E q
/-- the entry at a position takes effect -/
def sl_ev (n : Nat) (C : Nat → Int32) (E : Nat → sl_Ent) (q : Nat) : Bool := match sl_tok n (C q) with
  | none => false
  | some t => sl_un (sl_fX n C E q) (E t).2.2.2.2.1 (E t).2.2.2.2.2.1 4
theorem sl_fX_0 {n : Nat} {C : Nat → Int32} {E : Nat → sl_Ent} {q : Nat} (h : sl_tok n (C q) = none) : sl_fX n C E (q + 1) = sl_fX n C E q := by rw [sl_fX, h]
theorem sl_fX_1 {n t : Nat} {C : Nat → Int32} {E : Nat → sl_Ent} {q : Nat} (h : sl_tok n (C q) = some t) : sl_fX n C E (q + 1) = if sl_un (sl_fX n C E q) (E t).2.2.2.2.1 (E t).2.2.2.2.2.1 4 = true then sl_nc (sl_fX n C E q) (E t).2.2.1 (nI q) 4 else sl_fX n C E q := by rw [sl_fX, h]
theorem sl_ev_0 {n : Nat} {C : Nat → Int32} {E : Nat → sl_Ent} {q : Nat} (h : sl_tok n (C q) = none) : sl_ev n C E q = false := by rw [sl_ev, h]
theorem sl_ev_1 {n t : Nat} {C : Nat → Int32} {E : Nat → sl_Ent} {q : Nat} (h : sl_tok n (C q) = some t) : sl_ev n C E q = sl_un (sl_fX n C E q) (E t).2.2.2.2.1 (E t).2.2.2.2.2.1 4 := by rw [sl_ev, h]
/-- what the entry at a position adds -/
def sl_am (n : Nat) (C : Nat → Int32) (E : Nat → sl_Ent) (q : Nat) : Int32 := match sl_tok n (C q) with
  | none => 0
  | some t => if sl_ev n C E q = true then (E t).2.2.2.1 else 0
theorem sl_am_0 {n : Nat} {C : Nat → Int32} {E : Nat → sl_Ent} {q : Nat} (h : sl_tok n (C q) = none) : sl_am n C E q = 0 := by rw [sl_am, h]
theorem sl_am_1 {n t : Nat} {C : Nat → Int32} {E : Nat → sl_Ent} {q : Nat} (h : sl_tok n (C q) = some t) : sl_am n C E q = if sl_ev n C E q = true then (E t).2.2.2.1 else 0 := by rw [sl_am, h]
set_option maxHeartbeats 4000000 in
set_option maxRecDepth 100000 in
theorem kX4_entryOf (l : Launch) (Γ : sl_G) (g : sl_W) (α : Nat → Nat) (β : Nat → Nat × Nat × Nat) (n : Nat) (C : Nat → Int32) (E : Nat → sl_Ent) (hS : sl_Ro Γ α β n C E g) (x : Int32) : Met l yX4_entryOf [Cond.code yX4_entryOf cX4_entryOf 2 (some (.object "SharedLog$Entry"))] ({ frames := 0, cells := 0, slots := 0, locals := 0 } : Room) (va_Pc [.ref (α 0), .int x] (sl_B Γ g)) (sl_Qq Γ (fun r (_ : Unit) => r = (sl_tok n x).map (fun i => (β i).1)) (fun _ => g)) 0 0 (sl_A Γ) := by
  refine sl_ent (by decide) (Nat.le_of_ble_eq_true rfl) ?_
  intro p e s m below meth c ls hC hr hin hG hl
  have hx := hC.1
  have hb := hC.2.1
  have hl : lv_has ls 2 [(0, .ref (α 0)), (1, .int x)] := hl
  obtain ⟨⟨z4, z5, z6, z7, h0⟩, h1, h2, h3, hE, hn9⟩ := id hS
  refine lv_iload_n hx hb dX4_entryOf_0 rfl (lv_at hl 1 rfl) ?_
  refine lv_if_lt (tgt := 22) hx hb dX4_entryOf_1 (by decide) (fun c_1 => ?_) (fun c_1 => ?_)
  · refine lv_null hx hb dX4_entryOf_22 ?_
    exact sl_rq (v := none) hC hr hG () (by show none = (sl_tok n x).map _; rw [← sl_tok_lo c_1]; rfl) rfl (Nat.le_of_ble_eq_true rfl) (Nat.le_of_ble_eq_true rfl) dX4_entryOf_23
  · refine lv_iload_n hx hb dX4_entryOf_4 rfl (lv_at hl 1 rfl) ?_
    refine lv_aload_n hx hb dX4_entryOf_5 rfl (lv_at hl 0 rfl) ?_
    refine sl_get (C := RX4) (T := TX4) (N := 8) hC hG 0 h0 rfl la_4 0 (by decide) lk_RX4_11 rfl rfl dX4_entryOf_6 ?_
    refine sl_alen (v := 150) hC hG 1 2 h1 rfl rfl dX4_entryOf_9 ?_
    refine lv_icmp_ge (tgt := 22) hx hb dX4_entryOf_10 (by decide) (fun c_10 => ?_) (fun c_10 => ?_)
    · refine lv_null hx hb dX4_entryOf_22 ?_
      exact sl_rq (v := none) hC hr hG () (by show none = (sl_tok n x).map _; rw [← sl_tok_hi hn9 c_10]; rfl) rfl (Nat.le_of_ble_eq_true rfl) (Nat.le_of_ble_eq_true rfl) dX4_entryOf_23
    · refine lv_aload_n hx hb dX4_entryOf_13 rfl (lv_at hl 0 rfl) ?_
      refine sl_get (C := RX4) (T := TX4) (N := 8) hC hG 0 h0 rfl la_4 0 (by decide) lk_RX4_11 rfl rfl dX4_entryOf_14 ?_
      refine lv_iload_n hx hb dX4_entryOf_17 rfl (lv_at hl 1 rfl) ?_
      refine sl_aldq hC hG 1 h1 (sl_vp150 c_1 c_10) dX4_entryOf_18 ?_
      refine lv_goto (tgt := 23) hx hb dX4_entryOf_19 (by decide) ?_
      exact sl_rq (v := (sl_ea n β) x.toNatClampNeg) hC hr hG () (sl_tok_at hn9 c_1 c_10) rfl (Nat.le_of_ble_eq_true rfl) (Nat.le_of_ble_eq_true rfl) dX4_entryOf_23
set_option maxHeartbeats 4000000 in
set_option maxRecDepth 100000 in
theorem kX4_entryIn (l : Launch) (Γ : sl_G) (g : sl_W) (α : Nat → Nat) (β : Nat → Nat × Nat × Nat) (n : Nat) (C : Nat → Int32) (E : Nat → sl_Ent) (hS : sl_Ro Γ α β n C E g) (x : Int32) : Met l yX4_entryIn [Cond.code yX4_entryIn cX4_entryIn 2 (some (.object "SharedLog$Entry"))] ({ frames := 2, cells := 0, slots := 0, locals := 42 } : Room) (va_Pc [.ref (α 0), .int x] (sl_B Γ g)) (sl_Qq Γ (fun r (_ : Unit) => r = (sl_ta n C x).map (fun i => (β i).1)) (fun _ => g)) 0 0 (sl_A Γ) := by
  refine sl_ent (by decide) (Nat.le_of_ble_eq_true rfl) ?_
  intro p e s m below meth c ls hC hr hin hG hl
  have hx := hC.1
  have hb := hC.2.1
  have hl : lv_has ls 2 [(0, .ref (α 0)), (1, .int x)] := hl
  obtain ⟨⟨z4, z5, z6, z7, h0⟩, h1, h2, h3, hE, hn9⟩ := id hS
  refine lv_aload_n hx hb dX4_entryIn_0 rfl (lv_at hl 0 rfl) ?_
  refine lv_aload_n hx hb dX4_entryIn_1 rfl (lv_at hl 0 rfl) ?_
  refine sl_get (C := RX4) (T := TX4) (N := 8) hC hG 0 h0 rfl la_4 1 (by decide) lk_RX4_18 rfl rfl dX4_entryIn_2 ?_
  refine lv_iconst (v := 0) hx hb dX4_entryIn_5 (by decide) ?_
  refine lv_iload_n hx hb dX4_entryIn_6 rfl (lv_at hl 1 rfl) ?_
  refine sl_calli (sl_runVN (As := [.int 0, .int x]) (rest := [.ref (α 0)]) hC hG (kX0_get l Γ g (α 2) (α 3) C h2 h3 0 x) mi_X0_get lk_RX4_112 2 h2 rfl rfl rfl ⟨Nat.le_of_ble_eq_true rfl, Nat.le_of_ble_eq_true rfl⟩ rfl hl.1 rfl (Nat.le_of_ble_eq_true rfl) dX4_entryIn_7 ⟨Nat.le_of_ble_eq_true rfl, Nat.le_of_ble_eq_true rfl⟩) hG (fun r_7 u_7 H locs hr_7 hG => ?_)
  subst hr_7
  refine sl_callq (sl_runV (As := [.int (sl_cg C 0 x)]) (rest := []) hC hG (kX4_entryOf l Γ g α β n C E hS (sl_cg C 0 x)) mi_X4_entryOf lk_RX4_95 0 h0 rfl rfl rfl ⟨Nat.le_of_ble_eq_true rfl, Nat.le_of_ble_eq_true rfl⟩ rfl hl.1 rfl (Nat.le_of_ble_eq_true rfl) dX4_entryIn_10 ⟨Nat.le_of_ble_eq_true rfl, Nat.le_of_ble_eq_true rfl⟩) hG (fun r_10 u_10 H locs hr_10 hG => ?_)
  subst hr_10
  exact sl_rq (v := Option.map (fun i => (β i).1) (sl_tok n (sl_cg C 0 x))) hC hr hG () rfl rfl (Nat.le_of_ble_eq_true rfl) (Nat.le_of_ble_eq_true rfl) dX4_entryIn_13
set_option maxHeartbeats 4000000 in
set_option maxRecDepth 100000 in
theorem kX4_holdsStream (l : Launch) (Γ : sl_G) (g : sl_W) (α : Nat → Nat) (β : Nat → Nat × Nat × Nat) (n : Nat) (C : Nat → Int32) (E : Nat → sl_Ent) (hS : sl_Ro Γ α β n C E g) (b : Nat) (hb9 : b < 120) (x : Int32) : Met l yX4_holdsStream [Cond.code yX4_holdsStream cX4_holdsStream 4 (some .boolean)] ({ frames := 3, cells := 0, slots := 0, locals := 63 } : Room) (va_Pc [.ref (α 0), .int (nI b), .int x] (sl_B Γ g)) (sl_Qi Γ (fun r (_ : Unit) => r = sl_bi (sl_hs n C E x b)) (fun _ => g)) 0 0 (sl_A Γ) := by
  refine sl_ent (by decide) (Nat.le_of_ble_eq_true rfl) ?_
  intro p e s m below meth c ls hC hr hin hG hl
  have hx := hC.1
  have hb := hC.2.1
  have hl : lv_has ls 4 [(0, .ref (α 0)), (1, .int (nI b)), (2, .int x)] := hl
  obtain ⟨⟨z4, z5, z6, z7, h0⟩, h1, h2, h3, hE, hn9⟩ := id hS
  refine lv_aload_n hx hb dX4_holdsStream_0 rfl (lv_at hl 0 rfl) ?_
  refine lv_iload_n hx hb dX4_holdsStream_1 rfl (lv_at hl 1 rfl) ?_
  refine sl_callq (sl_runV (As := [.int (nI b)]) (rest := []) hC hG (kX4_entryIn l Γ g α β n C E hS (nI b)) mi_X4_entryIn lk_RX4_84 0 h0 rfl rfl rfl ⟨Nat.le_of_ble_eq_true rfl, Nat.le_of_ble_eq_true rfl⟩ rfl hl.1 rfl (Nat.le_of_ble_eq_true rfl) dX4_holdsStream_2 ⟨Nat.le_of_ble_eq_true rfl, Nat.le_of_ble_eq_true rfl⟩) hG (fun r_2 u_2 H locs hr_2 hG => ?_)
  subst hr_2
  rw [show sl_ta n C (nI b) = sl_tok n (C b) from congrArg (sl_tok n) (sl_cg0 C (by omega))]
  rcases sl_opt (sl_tok n (C b)) with hq_2 | ⟨t_2, hq_2⟩
  · refine sl_top (w := .null) (by rw [hq_2]; rfl) ?_
    refine lv_astore_nN (lv' := [(3, .null), (0, .ref (α 0)), (1, .int (nI b)), (2, .int x)]) hx hb dX4_holdsStream_5 rfl hl (by decide) rfl (fun ls hl => ?_)
    refine lv_aload_nN hx hb dX4_holdsStream_6 rfl (lv_at hl 0 rfl) ?_
    refine lv_ifnullN (tgt := 25) hx hb dX4_holdsStream_7 (by decide) ?_
    refine lv_iconst (v := 0) hx hb dX4_holdsStream_25 (by decide) ?_
    exact sl_rz (v := 0) hC hr rfl hG () (by show _ = sl_bi (sl_hs n C E x b); rw [sl_hs_0 hq_2]; rfl) rfl (Nat.le_of_ble_eq_true rfl) (Nat.le_of_ble_eq_true rfl) dX4_holdsStream_26
  · refine sl_top (w := .ref ((β t_2).1)) (by rw [hq_2]; rfl) ?_
    have ht_t_2 := sl_tok_lt hq_2
    refine lv_astore_n (lv' := [(3, .ref ((β t_2).1)), (0, .ref (α 0)), (1, .int (nI b)), (2, .int x)]) hx hb dX4_holdsStream_5 rfl hl (by decide) rfl (fun ls hl => ?_)
    refine lv_aload_n hx hb dX4_holdsStream_6 rfl (lv_at hl 0 rfl) ?_
    refine lv_ifnull hx hb dX4_holdsStream_7 ?_
    refine lv_iload_n hx hb dX4_holdsStream_10 rfl (lv_at hl 3 rfl) ?_
    refine lv_aload_n hx hb dX4_holdsStream_11 rfl (lv_at hl 0 rfl) ?_
    refine sl_getN (C := RX1) (T := TX1) (N := 8) hC hG (100 + 3 * t_2) (hE t_2 ht_t_2).1 rfl la_1 2 (by decide) lk_RX4_88 rfl rfl dX4_holdsStream_12 ?_
    refine sl_calli (sl_runS (As := [.int x, .int ((E t_2).2.2.1)]) (rest := []) hC hG (kX4_isIn l Γ g x ((E t_2).2.2.1)) mi_X4_isIn lk_RX4_187 rfl rfl ⟨Nat.le_of_ble_eq_true rfl, Nat.le_of_ble_eq_true rfl⟩ rfl hl.1 rfl (Nat.le_of_ble_eq_true rfl) dX4_holdsStream_15 ⟨Nat.le_of_ble_eq_true rfl, Nat.le_of_ble_eq_true rfl⟩) hG (fun r_15 u_15 H locs hr_15 hG => ?_)
    subst hr_15
    refine lv_if_eq (tgt := 25) hx hb dX4_holdsStream_18 (by decide) (fun c_18 => ?_) (fun c_18 => ?_)
    · have c_18 := sl_bF c_18
      refine lv_iconst (v := 0) hx hb dX4_holdsStream_25 (by decide) ?_
      exact sl_rz (v := 0) hC hr rfl hG () (by show _ = sl_bi (sl_hs n C E x b); rw [sl_hs_1 hq_2, c_18]; rfl) rfl (Nat.le_of_ble_eq_true rfl) (Nat.le_of_ble_eq_true rfl) dX4_holdsStream_26
    · have c_18 := sl_bT c_18
      refine lv_iconst (v := 1) hx hb dX4_holdsStream_21 (by decide) ?_
      refine lv_goto (tgt := 26) hx hb dX4_holdsStream_22 (by decide) ?_
      exact sl_rz (v := 1) hC hr rfl hG () (by show _ = sl_bi (sl_hs n C E x b); rw [sl_hs_1 hq_2, c_18]; rfl) rfl (Nat.le_of_ble_eq_true rfl) (Nat.le_of_ble_eq_true rfl) dX4_holdsStream_26
set_option maxHeartbeats 4000000 in
set_option maxRecDepth 100000 in
theorem kX4_latestAhead (l : Launch) (Γ : sl_G) (g : sl_W) (α : Nat → Nat) (β : Nat → Nat × Nat × Nat) (n : Nat) (C : Nat → Int32) (E : Nat → sl_Ent) (hS : sl_Ro Γ α β n C E g) (b : Nat) (hb9 : b ≤ 120) (x : Int32) : Met l yX4_latestAhead [Cond.code yX4_latestAhead cX4_latestAhead 4 (some .int)] ({ frames := 4, cells := 0, slots := 0, locals := 86 } : Room) (va_Pc [.ref (α 0), .int x, .int (nI b)] (sl_B Γ g)) (sl_Qi Γ (fun r (_ : Unit) => r = sl_la n C E x b) (fun _ => g)) 0 0 (sl_A Γ) := by
  refine sl_ent (by decide) (Nat.le_of_ble_eq_true rfl) ?_
  intro p e s m below meth c ls hC hr hin hG hl
  have hx := hC.1
  have hb := hC.2.1
  have hl : lv_has ls 4 [(0, .ref (α 0)), (1, .int x), (2, .int (nI b))] := hl
  obtain ⟨⟨z4, z5, z6, z7, h0⟩, h1, h2, h3, hE, hn9⟩ := id hS
  refine lv_iload_n hx hb dX4_latestAhead_0 rfl (lv_at hl 2 rfl) ?_
  refine lv_iconst (v := 1) hx hb dX4_latestAhead_1 (by decide) ?_
  refine lv_isub hx hb dX4_latestAhead_2 ?_
  refine lv_istore_n (lv' := [(3, .int ((nI b) - 1)), (0, .ref (α 0)), (1, .int x), (2, .int (nI b))]) hx hb dX4_latestAhead_3 rfl hl (by decide) rfl (fun ls hl => ?_)
  have loop_4 : ∀ (fuel k : Nat) (q : Int32), k ≤ b → k + 1 ≤ fuel → (q = nI k + (-1)) → (sl_la n C E x b = sl_la n C E x k) → ∀ (H : Heap) (locs : List Loc), sl_I Γ g s H locs → ∀ (ls : Array Slot), lv_has ls 4 [(0, .ref (α 0)), (1, .int x), (2, .int (nI b)), (3, .int q)] → W p l e ({ frames := 4, cells := 0, slots := 0, locals := 86 } : Room) s m ([.ref (α 0), .int x, .int (nI b)] : List Value).toArray below meth c H locs 0 0 (MQ below (sl_Qi Γ (fun r (_ : Unit) => r = sl_la n C E x b) (fun _ => g)) ([.ref (α 0), .int x, .int (nI b)] : List Value).toArray s 0 0 (sl_A Γ)) (F0 m 4 ls []) := by
    intro fuel
    induction fuel with
    | zero =>
      intro k q h1 h2
      exact absurd h2 (by omega)
    | succ fuel ih_4 =>
      intro k q hk_4 hn_4 hq hi H locs hG ls hl
      refine lv_iload_n hx hb dX4_latestAhead_4 rfl (lv_at hl 3 rfl) ?_
      refine lv_if_lt (tgt := 25) hx hb dX4_latestAhead_5 (by decide) (fun c_5 => ?_) (fun c_5 => ?_)
      · refine lv_iconst (v := (-1)) hx hb dX4_latestAhead_25 (by decide) ?_
        exact sl_ri (v := (-1)) hC hr hG () (by show _ = sl_la n C E x b; rw [hi, sl_dnT hq (by omega) c_5]; rfl) rfl (Nat.le_of_ble_eq_true rfl) (Nat.le_of_ble_eq_true rfl) dX4_latestAhead_26
      · obtain ⟨i, rfl, rfl⟩ := sl_dnF hq c_5
        refine lv_aload_n hx hb dX4_latestAhead_8 rfl (lv_at hl 0 rfl) ?_
        refine lv_iload_n hx hb dX4_latestAhead_9 rfl (lv_at hl 3 rfl) ?_
        refine lv_iload_n hx hb dX4_latestAhead_10 rfl (lv_at hl 1 rfl) ?_
        refine sl_calli (sl_runV (As := [.int (nI i), .int x]) (rest := []) hC hG (kX4_holdsStream l Γ g α β n C E hS i (by omega) x) mi_X4_holdsStream lk_RX4_164 0 h0 rfl rfl rfl ⟨Nat.le_of_ble_eq_true rfl, Nat.le_of_ble_eq_true rfl⟩ rfl hl.1 rfl (Nat.le_of_ble_eq_true rfl) dX4_latestAhead_11 ⟨Nat.le_of_ble_eq_true rfl, Nat.le_of_ble_eq_true rfl⟩) hG (fun r_11 u_11 H locs hr_11 hG => ?_)
        subst hr_11
        refine lv_if_eq (tgt := 19) hx hb dX4_latestAhead_14 (by decide) (fun c_14 => ?_) (fun c_14 => ?_)
        · have c_14 := sl_bF c_14
          refine lv_iinc (v := (nI i) + (-1)) (lv' := [(3, .int ((nI i) + (-1))), (0, .ref (α 0)), (1, .int x), (2, .int (nI b))]) hx hb dX4_latestAhead_19 hl (k := 3) rfl rfl (by decide) rfl (fun ls hl => ?_)
          refine lv_goto (tgt := 4) hx hb dX4_latestAhead_22 (by decide) ?_
          exact ih_4 i (nI i + (-1)) (by omega) (by omega) rfl (by rw [hi, sl_la, if_neg (by rw [c_14]; decide)]) _ _ hG _ (lv_sub hl [1, 2, 3, 0] rfl)
        · have c_14 := sl_bT c_14
          refine lv_iload_n hx hb dX4_latestAhead_17 rfl (lv_at hl 3 rfl) ?_
          exact sl_ri (v := nI i) hC hr hG () (by show _ = sl_la n C E x b; rw [hi, sl_la, if_pos c_14]) rfl (Nat.le_of_ble_eq_true rfl) (Nat.le_of_ble_eq_true rfl) dX4_latestAhead_18
  exact loop_4 (b + 1) b (nI b - 1) (by omega) (by omega) (sl_subm _) rfl _ _ hG _ (lv_sub hl [1, 2, 3, 0] rfl)
end
section
/-! pointers, the fold of the log -/
theorem sl_pq_0 {n : Nat} {C : Nat → Int32} {E : Nat → sl_Ent} {k q : Nat} (h : sl_tok n (C q) = none) : sl_pq n C E k q = -1 := by rw [sl_pq, h]
theorem sl_pq_1 {n t : Nat} {C : Nat → Int32} {E : Nat → sl_Ent} {k q : Nat} (h : sl_tok n (C q) = some t) : sl_pq n C E k q = sl_pb n C E k t := by rw [sl_pq, h]
theorem sl_isS {o : Option Nat} {t : Nat} (h : o = some t) : o.isSome = true := by rw [h]; rfl
theorem sl_isN {o : Option Nat} (h : o = none) : ¬ o.isSome = true := by rw [h]; decide
theorem sl_pt_q {x : Int32} (h : sl_pt x) (hn : ¬ x = -1) : ∃ q : Nat, q < 120 ∧ x = nI q := h.elim (fun e => absurd e hn) id
theorem sl_up_comm (g : sl_W) {a b : Nat} (x y : Nat × va_E) (h : a ≠ b) : sl_up (sl_up g a x) b y = sl_up (sl_up g b y) a x := by
  funext j
  by_cases h1 : j = a
  · subst h1
    rw [sl_up_n _ _ h, sl_up_s, sl_up_s]
  · by_cases h2 : j = b
    · subst h2
      rw [sl_up_s, sl_up_n _ _ h1, sl_up_s]
    · rw [sl_up_n _ _ h2, sl_up_n _ _ h1, sl_up_n _ _ h1, sl_up_n _ _ h2]
theorem sl_up_678 (g : sl_W) (a b c a' b' c' : Nat × va_E) : sl_up (sl_up (sl_up (sl_up (sl_up (sl_up g 7 a) 8 b) 6 c) 7 a') 8 b') 6 c' = sl_up (sl_up (sl_up g 7 a') 8 b') 6 c' := by
  funext j
  by_cases e6 : j = 6 <;> by_cases e7 : j = 7 <;> by_cases e8 : j = 8 <;> simp [sl_up, e6, e7, e8]
theorem sl_fF {n k : Nat} {C : Nat → Int32} {E : Nat → sl_Ent} {F : Nat → Int32} (h : ∀ q, q < k → F q = sl_bi (sl_ev n C E q)) : ∀ q, q < k + 1 → upd F k (sl_bi (sl_ev n C E k)) q = sl_bi (sl_ev n C E q) := by
  intro q hq
  by_cases e : q = k
  · rw [e, pk_us]
  · rw [pk_un e]; exact h q (by omega)
theorem sl_bi_ne {b : Bool} (h : decide (sl_bi b = 0) = false) : b = true := by cases b; exact absurd h (by decide); rfl
theorem sl_bi_eq {b : Bool} (h : decide (sl_bi b = 0) = true) : b = false := by cases b; rfl; exact absurd h (by decide)
/-- what a fold leaves -/
def sl_FW (Γ : sl_G) (α : Nat → Nat) (d : Nat) (n : Nat) (C : Nat → Int32) (E : Nat → sl_Ent) (g g' : sl_W) : Prop :=
  g' 6 = some (α 6, .inr (2, [.ref (α 7), .ref (α 8), .int (nI d)])) ∧ (∃ F : Nat → Int32, g' 7 = some (α 7, .inl (Γ.2.1 1, 120, .inl F)) ∧ ∀ q, q < d → F q = sl_bi (sl_ev n C E q)) ∧ (∃ X : Nat → Int32, g' 8 = some (α 8, .inl (Γ.2.1 0, 4, .inl X))) ∧ ∀ k, k ≠ 6 → k ≠ 7 → k ≠ 8 → g' k = g k
set_option maxHeartbeats 4000000 in
set_option maxRecDepth 100000 in
theorem kX4_previousByPointers (l : Launch) (Γ : sl_G) (g : sl_W) (α : Nat → Nat) (β : Nat → Nat × Nat × Nat) (n : Nat) (C : Nat → Int32) (E : Nat → sl_Ent) (hS : sl_Ro Γ α β n C E g) (hP : ∀ t, t < n → ∀ j, j < 16 → sl_pt ((E t).2.2.2.2.2.2.1 j)) (k b : Nat) (hk9 : k < 4) (hb9 : b < 120) : Met l yX4_previousByPointers [Cond.code yX4_previousByPointers cX4_previousByPointers 7 (some .int)] ({ frames := 5, cells := 0, slots := 0, locals := 109 } : Room) (va_Pc [.ref (α 0), .int (nI k), .int (nI b)] (sl_B Γ g)) (sl_Qi Γ (fun r (_ : Unit) => r = sl_pq n C E k b) (fun _ => g)) 0 0 (sl_A Γ) := by
  refine sl_ent (by decide) (Nat.le_of_ble_eq_true rfl) ?_
  intro p e s m below meth c ls hC hr hin hG hl
  have hx := hC.1
  have hb := hC.2.1
  have hl : lv_has ls 7 [(0, .ref (α 0)), (1, .int (nI k)), (2, .int (nI b))] := hl
  obtain ⟨⟨z4, z5, z6, z7, h0⟩, h1, h2, h3, hE, hn9⟩ := id hS
  refine lv_aload_n hx hb dX4_previousByPointers_0 rfl (lv_at hl 0 rfl) ?_
  refine lv_iload_n hx hb dX4_previousByPointers_1 rfl (lv_at hl 2 rfl) ?_
  refine sl_callq (sl_runV (As := [.int (nI b)]) (rest := []) hC hG (kX4_entryIn l Γ g α β n C E hS (nI b)) mi_X4_entryIn lk_RX4_84 0 h0 rfl rfl rfl ⟨Nat.le_of_ble_eq_true rfl, Nat.le_of_ble_eq_true rfl⟩ rfl hl.1 rfl (Nat.le_of_ble_eq_true rfl) dX4_previousByPointers_2 ⟨Nat.le_of_ble_eq_true rfl, Nat.le_of_ble_eq_true rfl⟩) hG (fun r_2 u_2 H locs hr_2 hG => ?_)
  subst hr_2
  rw [show sl_ta n C (nI b) = sl_tok n (C b) from congrArg (sl_tok n) (sl_cg0 C (by omega))]
  rcases sl_opt (sl_tok n (C b)) with hq_2 | ⟨t_2, hq_2⟩
  · refine sl_top (w := .null) (by rw [hq_2]; rfl) ?_
    refine lv_astore_nN (lv' := [(3, .null), (0, .ref (α 0)), (1, .int (nI k)), (2, .int (nI b))]) hx hb dX4_previousByPointers_5 rfl hl (by decide) rfl (fun ls hl => ?_)
    refine lv_aload_nN hx hb dX4_previousByPointers_6 rfl (lv_at hl 0 rfl) ?_
    refine lv_ifnonnullN hx hb dX4_previousByPointers_7 ?_
    refine lv_iconst (v := (-1)) hx hb dX4_previousByPointers_10 (by decide) ?_
    exact sl_ri (v := (-1)) hC hr hG () (sl_pq_0 hq_2).symm rfl (Nat.le_of_ble_eq_true rfl) (Nat.le_of_ble_eq_true rfl) dX4_previousByPointers_11
  · refine sl_top (w := .ref ((β t_2).1)) (by rw [hq_2]; rfl) ?_
    have ht_t_2 := sl_tok_lt hq_2
    refine lv_astore_n (lv' := [(3, .ref ((β t_2).1)), (0, .ref (α 0)), (1, .int (nI k)), (2, .int (nI b))]) hx hb dX4_previousByPointers_5 rfl hl (by decide) rfl (fun ls hl => ?_)
    refine lv_aload_n hx hb dX4_previousByPointers_6 rfl (lv_at hl 0 rfl) ?_
    refine lv_ifnonnull (tgt := 12) hx hb dX4_previousByPointers_7 (by decide) ?_
    refine lv_iconst (v := (-1)) hx hb dX4_previousByPointers_12 (by decide) ?_
    refine lv_istore (lv' := [(4, .int (-1)), (3, .ref ((β t_2).1)), (0, .ref (α 0)), (1, .int (nI k)), (2, .int (nI b))]) hx hb dX4_previousByPointers_13 hl (by decide) rfl (fun ls hl => ?_)
    refine lv_iconst (v := 0) hx hb dX4_previousByPointers_15 (by decide) ?_
    refine lv_istore (lv' := [(5, .int 0), (4, .int (-1)), (3, .ref ((β t_2).1)), (0, .ref (α 0)), (1, .int (nI k)), (2, .int (nI b))]) hx hb dX4_previousByPointers_16 hl (by decide) rfl (fun ls hl => ?_)
    refine lv_iload hx hb dX4_previousByPointers_18 (lv_at hl 0 rfl) ?_
    refine lv_iconst (v := 4) hx hb dX4_previousByPointers_20 (by decide) ?_
    refine lv_icmp_ge (tgt := 66) hx hb dX4_previousByPointers_21 (by decide) (fun c_21_0 => ?_) (fun c_21_0 => ?_)
    · exact absurd c_21_0 (by decide)
    · refine lv_aload_n hx hb dX4_previousByPointers_24 rfl (lv_at hl 2 rfl) ?_
      refine sl_getN (C := RX1) (T := TX1) (N := 8) hC hG (100 + 3 * t_2) (hE t_2 ht_t_2).1 rfl la_1 6 (by decide) lk_RX4_138 rfl rfl dX4_previousByPointers_25 ?_
      refine lv_iload_n hx hb dX4_previousByPointers_28 rfl (lv_at hl 4 rfl) ?_
      refine lv_iload hx hb dX4_previousByPointers_29 (lv_at hl 0 rfl) ?_
      refine sl_calli (sl_runVN (As := [.int (nI k), .int 0]) (rest := []) hC hG (kX3_get l Γ g (101 + 3 * t_2) (102 + 3 * t_2) (β t_2).2.1 (β t_2).2.2 ((E t_2).2.2.2.2.2.2.1) (hE t_2 ht_t_2).2.1 (hE t_2 ht_t_2).2.2 (nI k) 0) mi_X3_get lk_RX4_141 (101 + 3 * t_2) (hE t_2 ht_t_2).2.1 rfl rfl rfl ⟨Nat.le_of_ble_eq_true rfl, Nat.le_of_ble_eq_true rfl⟩ rfl hl.1 rfl (Nat.le_of_ble_eq_true rfl) dX4_previousByPointers_31 ⟨Nat.le_of_ble_eq_true rfl, Nat.le_of_ble_eq_true rfl⟩) hG (fun r_31_0 u_31_0 H locs hr_31_0 hG => ?_)
      subst hr_31_0
      refine sl_topi (y := ((E t_2).2.2.2.2.2.2.1) (4 * k + 0)) (sl_tgN ((E t_2).2.2.2.2.2.2.1) (a := k) (b := 0) (by omega) (by omega)) ?_
      refine lv_istore (lv' := [(6, .int (((E t_2).2.2.2.2.2.2.1) (4 * k + 0))), (5, .int 0), (4, .int (-1)), (3, .ref ((β t_2).1)), (0, .ref (α 0)), (1, .int (nI k)), (2, .int (nI b))]) hx hb dX4_previousByPointers_34 hl (by decide) rfl (fun ls hl => ?_)
      refine lv_iload hx hb dX4_previousByPointers_36 (lv_at hl 0 rfl) ?_
      refine lv_iconst (v := (-1)) hx hb dX4_previousByPointers_38 (by decide) ?_
      refine lv_icmp_ne (tgt := 44) hx hb dX4_previousByPointers_39 (by decide) (fun c_39_0 => ?_) (fun c_39_0 => ?_)
      · refine lv_aload_n hx hb dX4_previousByPointers_44 rfl (lv_at hl 4 rfl) ?_
        refine lv_iload hx hb dX4_previousByPointers_45 (lv_at hl 0 rfl) ?_
        refine sl_callq (sl_runV (As := [.int (((E t_2).2.2.2.2.2.2.1) (4 * k + 0))]) (rest := []) hC hG (kX4_entryIn l Γ g α β n C E hS (((E t_2).2.2.2.2.2.2.1) (4 * k + 0))) mi_X4_entryIn lk_RX4_84 0 h0 rfl rfl rfl ⟨Nat.le_of_ble_eq_true rfl, Nat.le_of_ble_eq_true rfl⟩ rfl hl.1 rfl (Nat.le_of_ble_eq_true rfl) dX4_previousByPointers_47 ⟨Nat.le_of_ble_eq_true rfl, Nat.le_of_ble_eq_true rfl⟩) hG (fun r_47_0 u_47_0 H locs hr_47_0 hG => ?_)
        subst hr_47_0
        rcases sl_opt (sl_ta n C (((E t_2).2.2.2.2.2.2.1) (4 * k + 0))) with hq_47_0 | ⟨t_47_0, hq_47_0⟩
        · refine sl_top (w := .null) (by rw [hq_47_0]; rfl) ?_
          refine lv_ifnullN (tgt := 56) hx hb dX4_previousByPointers_50 (by decide) ?_
          refine lv_iload hx hb dX4_previousByPointers_56 (lv_at hl 0 rfl) ?_
          refine lv_istore (lv' := [(4, .int (((E t_2).2.2.2.2.2.2.1) (4 * k + 0))), (6, .int (((E t_2).2.2.2.2.2.2.1) (4 * k + 0))), (5, .int 0), (3, .ref ((β t_2).1)), (0, .ref (α 0)), (1, .int (nI k)), (2, .int (nI b))]) hx hb dX4_previousByPointers_58 hl (by decide) rfl (fun ls hl => ?_)
          refine lv_iinc (v := 1) (lv' := [(5, .int 1), (4, .int (((E t_2).2.2.2.2.2.2.1) (4 * k + 0))), (6, .int (((E t_2).2.2.2.2.2.2.1) (4 * k + 0))), (3, .ref ((β t_2).1)), (0, .ref (α 0)), (1, .int (nI k)), (2, .int (nI b))]) hx hb dX4_previousByPointers_60 hl (k := 2) rfl (by decide) (by decide) rfl (fun ls hl => ?_)
          refine lv_goto (tgt := 18) hx hb dX4_previousByPointers_63 (by decide) ?_
          refine lv_iload hx hb dX4_previousByPointers_18 (lv_at hl 0 rfl) ?_
          refine lv_iconst (v := 4) hx hb dX4_previousByPointers_20 (by decide) ?_
          refine lv_icmp_ge (tgt := 66) hx hb dX4_previousByPointers_21 (by decide) (fun c_21_1 => ?_) (fun c_21_1 => ?_)
          · exact absurd c_21_1 (by decide)
          · refine lv_aload_n hx hb dX4_previousByPointers_24 rfl (lv_at hl 3 rfl) ?_
            refine sl_getN (C := RX1) (T := TX1) (N := 8) hC hG (100 + 3 * t_2) (hE t_2 ht_t_2).1 rfl la_1 6 (by decide) lk_RX4_138 rfl rfl dX4_previousByPointers_25 ?_
            refine lv_iload_n hx hb dX4_previousByPointers_28 rfl (lv_at hl 5 rfl) ?_
            refine lv_iload hx hb dX4_previousByPointers_29 (lv_at hl 0 rfl) ?_
            refine sl_calli (sl_runVN (As := [.int (nI k), .int 1]) (rest := []) hC hG (kX3_get l Γ g (101 + 3 * t_2) (102 + 3 * t_2) (β t_2).2.1 (β t_2).2.2 ((E t_2).2.2.2.2.2.2.1) (hE t_2 ht_t_2).2.1 (hE t_2 ht_t_2).2.2 (nI k) 1) mi_X3_get lk_RX4_141 (101 + 3 * t_2) (hE t_2 ht_t_2).2.1 rfl rfl rfl ⟨Nat.le_of_ble_eq_true rfl, Nat.le_of_ble_eq_true rfl⟩ rfl hl.1 rfl (Nat.le_of_ble_eq_true rfl) dX4_previousByPointers_31 ⟨Nat.le_of_ble_eq_true rfl, Nat.le_of_ble_eq_true rfl⟩) hG (fun r_31_1 u_31_1 H locs hr_31_1 hG => ?_)
            subst hr_31_1
            refine sl_topi (y := ((E t_2).2.2.2.2.2.2.1) (4 * k + 1)) (sl_tgN ((E t_2).2.2.2.2.2.2.1) (a := k) (b := 1) (by omega) (by omega)) ?_
            refine lv_istore (lv' := [(6, .int (((E t_2).2.2.2.2.2.2.1) (4 * k + 1))), (5, .int 1), (4, .int (((E t_2).2.2.2.2.2.2.1) (4 * k + 0))), (3, .ref ((β t_2).1)), (0, .ref (α 0)), (1, .int (nI k)), (2, .int (nI b))]) hx hb dX4_previousByPointers_34 hl (by decide) rfl (fun ls hl => ?_)
            refine lv_iload hx hb dX4_previousByPointers_36 (lv_at hl 0 rfl) ?_
            refine lv_iconst (v := (-1)) hx hb dX4_previousByPointers_38 (by decide) ?_
            refine lv_icmp_ne (tgt := 44) hx hb dX4_previousByPointers_39 (by decide) (fun c_39_1 => ?_) (fun c_39_1 => ?_)
            · refine lv_aload_n hx hb dX4_previousByPointers_44 rfl (lv_at hl 4 rfl) ?_
              refine lv_iload hx hb dX4_previousByPointers_45 (lv_at hl 0 rfl) ?_
              refine sl_callq (sl_runV (As := [.int (((E t_2).2.2.2.2.2.2.1) (4 * k + 1))]) (rest := []) hC hG (kX4_entryIn l Γ g α β n C E hS (((E t_2).2.2.2.2.2.2.1) (4 * k + 1))) mi_X4_entryIn lk_RX4_84 0 h0 rfl rfl rfl ⟨Nat.le_of_ble_eq_true rfl, Nat.le_of_ble_eq_true rfl⟩ rfl hl.1 rfl (Nat.le_of_ble_eq_true rfl) dX4_previousByPointers_47 ⟨Nat.le_of_ble_eq_true rfl, Nat.le_of_ble_eq_true rfl⟩) hG (fun r_47_1 u_47_1 H locs hr_47_1 hG => ?_)
              subst hr_47_1
              rcases sl_opt (sl_ta n C (((E t_2).2.2.2.2.2.2.1) (4 * k + 1))) with hq_47_1 | ⟨t_47_1, hq_47_1⟩
              · refine sl_top (w := .null) (by rw [hq_47_1]; rfl) ?_
                refine lv_ifnullN (tgt := 56) hx hb dX4_previousByPointers_50 (by decide) ?_
                refine lv_iload hx hb dX4_previousByPointers_56 (lv_at hl 0 rfl) ?_
                refine lv_istore (lv' := [(4, .int (((E t_2).2.2.2.2.2.2.1) (4 * k + 1))), (6, .int (((E t_2).2.2.2.2.2.2.1) (4 * k + 1))), (5, .int 1), (3, .ref ((β t_2).1)), (0, .ref (α 0)), (1, .int (nI k)), (2, .int (nI b))]) hx hb dX4_previousByPointers_58 hl (by decide) rfl (fun ls hl => ?_)
                refine lv_iinc (v := 2) (lv' := [(5, .int 2), (4, .int (((E t_2).2.2.2.2.2.2.1) (4 * k + 1))), (6, .int (((E t_2).2.2.2.2.2.2.1) (4 * k + 1))), (3, .ref ((β t_2).1)), (0, .ref (α 0)), (1, .int (nI k)), (2, .int (nI b))]) hx hb dX4_previousByPointers_60 hl (k := 2) rfl (by decide) (by decide) rfl (fun ls hl => ?_)
                refine lv_goto (tgt := 18) hx hb dX4_previousByPointers_63 (by decide) ?_
                refine lv_iload hx hb dX4_previousByPointers_18 (lv_at hl 0 rfl) ?_
                refine lv_iconst (v := 4) hx hb dX4_previousByPointers_20 (by decide) ?_
                refine lv_icmp_ge (tgt := 66) hx hb dX4_previousByPointers_21 (by decide) (fun c_21_2 => ?_) (fun c_21_2 => ?_)
                · exact absurd c_21_2 (by decide)
                · refine lv_aload_n hx hb dX4_previousByPointers_24 rfl (lv_at hl 3 rfl) ?_
                  refine sl_getN (C := RX1) (T := TX1) (N := 8) hC hG (100 + 3 * t_2) (hE t_2 ht_t_2).1 rfl la_1 6 (by decide) lk_RX4_138 rfl rfl dX4_previousByPointers_25 ?_
                  refine lv_iload_n hx hb dX4_previousByPointers_28 rfl (lv_at hl 5 rfl) ?_
                  refine lv_iload hx hb dX4_previousByPointers_29 (lv_at hl 0 rfl) ?_
                  refine sl_calli (sl_runVN (As := [.int (nI k), .int 2]) (rest := []) hC hG (kX3_get l Γ g (101 + 3 * t_2) (102 + 3 * t_2) (β t_2).2.1 (β t_2).2.2 ((E t_2).2.2.2.2.2.2.1) (hE t_2 ht_t_2).2.1 (hE t_2 ht_t_2).2.2 (nI k) 2) mi_X3_get lk_RX4_141 (101 + 3 * t_2) (hE t_2 ht_t_2).2.1 rfl rfl rfl ⟨Nat.le_of_ble_eq_true rfl, Nat.le_of_ble_eq_true rfl⟩ rfl hl.1 rfl (Nat.le_of_ble_eq_true rfl) dX4_previousByPointers_31 ⟨Nat.le_of_ble_eq_true rfl, Nat.le_of_ble_eq_true rfl⟩) hG (fun r_31_2 u_31_2 H locs hr_31_2 hG => ?_)
                  subst hr_31_2
                  refine sl_topi (y := ((E t_2).2.2.2.2.2.2.1) (4 * k + 2)) (sl_tgN ((E t_2).2.2.2.2.2.2.1) (a := k) (b := 2) (by omega) (by omega)) ?_
                  refine lv_istore (lv' := [(6, .int (((E t_2).2.2.2.2.2.2.1) (4 * k + 2))), (5, .int 2), (4, .int (((E t_2).2.2.2.2.2.2.1) (4 * k + 1))), (3, .ref ((β t_2).1)), (0, .ref (α 0)), (1, .int (nI k)), (2, .int (nI b))]) hx hb dX4_previousByPointers_34 hl (by decide) rfl (fun ls hl => ?_)
                  refine lv_iload hx hb dX4_previousByPointers_36 (lv_at hl 0 rfl) ?_
                  refine lv_iconst (v := (-1)) hx hb dX4_previousByPointers_38 (by decide) ?_
                  refine lv_icmp_ne (tgt := 44) hx hb dX4_previousByPointers_39 (by decide) (fun c_39_2 => ?_) (fun c_39_2 => ?_)
                  · refine lv_aload_n hx hb dX4_previousByPointers_44 rfl (lv_at hl 4 rfl) ?_
                    refine lv_iload hx hb dX4_previousByPointers_45 (lv_at hl 0 rfl) ?_
                    refine sl_callq (sl_runV (As := [.int (((E t_2).2.2.2.2.2.2.1) (4 * k + 2))]) (rest := []) hC hG (kX4_entryIn l Γ g α β n C E hS (((E t_2).2.2.2.2.2.2.1) (4 * k + 2))) mi_X4_entryIn lk_RX4_84 0 h0 rfl rfl rfl ⟨Nat.le_of_ble_eq_true rfl, Nat.le_of_ble_eq_true rfl⟩ rfl hl.1 rfl (Nat.le_of_ble_eq_true rfl) dX4_previousByPointers_47 ⟨Nat.le_of_ble_eq_true rfl, Nat.le_of_ble_eq_true rfl⟩) hG (fun r_47_2 u_47_2 H locs hr_47_2 hG => ?_)
                    subst hr_47_2
                    rcases sl_opt (sl_ta n C (((E t_2).2.2.2.2.2.2.1) (4 * k + 2))) with hq_47_2 | ⟨t_47_2, hq_47_2⟩
                    · refine sl_top (w := .null) (by rw [hq_47_2]; rfl) ?_
                      refine lv_ifnullN (tgt := 56) hx hb dX4_previousByPointers_50 (by decide) ?_
                      refine lv_iload hx hb dX4_previousByPointers_56 (lv_at hl 0 rfl) ?_
                      refine lv_istore (lv' := [(4, .int (((E t_2).2.2.2.2.2.2.1) (4 * k + 2))), (6, .int (((E t_2).2.2.2.2.2.2.1) (4 * k + 2))), (5, .int 2), (3, .ref ((β t_2).1)), (0, .ref (α 0)), (1, .int (nI k)), (2, .int (nI b))]) hx hb dX4_previousByPointers_58 hl (by decide) rfl (fun ls hl => ?_)
                      refine lv_iinc (v := 3) (lv' := [(5, .int 3), (4, .int (((E t_2).2.2.2.2.2.2.1) (4 * k + 2))), (6, .int (((E t_2).2.2.2.2.2.2.1) (4 * k + 2))), (3, .ref ((β t_2).1)), (0, .ref (α 0)), (1, .int (nI k)), (2, .int (nI b))]) hx hb dX4_previousByPointers_60 hl (k := 2) rfl (by decide) (by decide) rfl (fun ls hl => ?_)
                      refine lv_goto (tgt := 18) hx hb dX4_previousByPointers_63 (by decide) ?_
                      refine lv_iload hx hb dX4_previousByPointers_18 (lv_at hl 0 rfl) ?_
                      refine lv_iconst (v := 4) hx hb dX4_previousByPointers_20 (by decide) ?_
                      refine lv_icmp_ge (tgt := 66) hx hb dX4_previousByPointers_21 (by decide) (fun c_21_3 => ?_) (fun c_21_3 => ?_)
                      · exact absurd c_21_3 (by decide)
                      · refine lv_aload_n hx hb dX4_previousByPointers_24 rfl (lv_at hl 3 rfl) ?_
                        refine sl_getN (C := RX1) (T := TX1) (N := 8) hC hG (100 + 3 * t_2) (hE t_2 ht_t_2).1 rfl la_1 6 (by decide) lk_RX4_138 rfl rfl dX4_previousByPointers_25 ?_
                        refine lv_iload_n hx hb dX4_previousByPointers_28 rfl (lv_at hl 5 rfl) ?_
                        refine lv_iload hx hb dX4_previousByPointers_29 (lv_at hl 0 rfl) ?_
                        refine sl_calli (sl_runVN (As := [.int (nI k), .int 3]) (rest := []) hC hG (kX3_get l Γ g (101 + 3 * t_2) (102 + 3 * t_2) (β t_2).2.1 (β t_2).2.2 ((E t_2).2.2.2.2.2.2.1) (hE t_2 ht_t_2).2.1 (hE t_2 ht_t_2).2.2 (nI k) 3) mi_X3_get lk_RX4_141 (101 + 3 * t_2) (hE t_2 ht_t_2).2.1 rfl rfl rfl ⟨Nat.le_of_ble_eq_true rfl, Nat.le_of_ble_eq_true rfl⟩ rfl hl.1 rfl (Nat.le_of_ble_eq_true rfl) dX4_previousByPointers_31 ⟨Nat.le_of_ble_eq_true rfl, Nat.le_of_ble_eq_true rfl⟩) hG (fun r_31_3 u_31_3 H locs hr_31_3 hG => ?_)
                        subst hr_31_3
                        refine sl_topi (y := ((E t_2).2.2.2.2.2.2.1) (4 * k + 3)) (sl_tgN ((E t_2).2.2.2.2.2.2.1) (a := k) (b := 3) (by omega) (by omega)) ?_
                        refine lv_istore (lv' := [(6, .int (((E t_2).2.2.2.2.2.2.1) (4 * k + 3))), (5, .int 3), (4, .int (((E t_2).2.2.2.2.2.2.1) (4 * k + 2))), (3, .ref ((β t_2).1)), (0, .ref (α 0)), (1, .int (nI k)), (2, .int (nI b))]) hx hb dX4_previousByPointers_34 hl (by decide) rfl (fun ls hl => ?_)
                        refine lv_iload hx hb dX4_previousByPointers_36 (lv_at hl 0 rfl) ?_
                        refine lv_iconst (v := (-1)) hx hb dX4_previousByPointers_38 (by decide) ?_
                        refine lv_icmp_ne (tgt := 44) hx hb dX4_previousByPointers_39 (by decide) (fun c_39_3 => ?_) (fun c_39_3 => ?_)
                        · refine lv_aload_n hx hb dX4_previousByPointers_44 rfl (lv_at hl 4 rfl) ?_
                          refine lv_iload hx hb dX4_previousByPointers_45 (lv_at hl 0 rfl) ?_
                          refine sl_callq (sl_runV (As := [.int (((E t_2).2.2.2.2.2.2.1) (4 * k + 3))]) (rest := []) hC hG (kX4_entryIn l Γ g α β n C E hS (((E t_2).2.2.2.2.2.2.1) (4 * k + 3))) mi_X4_entryIn lk_RX4_84 0 h0 rfl rfl rfl ⟨Nat.le_of_ble_eq_true rfl, Nat.le_of_ble_eq_true rfl⟩ rfl hl.1 rfl (Nat.le_of_ble_eq_true rfl) dX4_previousByPointers_47 ⟨Nat.le_of_ble_eq_true rfl, Nat.le_of_ble_eq_true rfl⟩) hG (fun r_47_3 u_47_3 H locs hr_47_3 hG => ?_)
                          subst hr_47_3
                          rcases sl_opt (sl_ta n C (((E t_2).2.2.2.2.2.2.1) (4 * k + 3))) with hq_47_3 | ⟨t_47_3, hq_47_3⟩
                          · refine sl_top (w := .null) (by rw [hq_47_3]; rfl) ?_
                            refine lv_ifnullN (tgt := 56) hx hb dX4_previousByPointers_50 (by decide) ?_
                            refine lv_iload hx hb dX4_previousByPointers_56 (lv_at hl 0 rfl) ?_
                            refine lv_istore (lv' := [(4, .int (((E t_2).2.2.2.2.2.2.1) (4 * k + 3))), (6, .int (((E t_2).2.2.2.2.2.2.1) (4 * k + 3))), (5, .int 3), (3, .ref ((β t_2).1)), (0, .ref (α 0)), (1, .int (nI k)), (2, .int (nI b))]) hx hb dX4_previousByPointers_58 hl (by decide) rfl (fun ls hl => ?_)
                            refine lv_iinc (v := 4) (lv' := [(5, .int 4), (4, .int (((E t_2).2.2.2.2.2.2.1) (4 * k + 3))), (6, .int (((E t_2).2.2.2.2.2.2.1) (4 * k + 3))), (3, .ref ((β t_2).1)), (0, .ref (α 0)), (1, .int (nI k)), (2, .int (nI b))]) hx hb dX4_previousByPointers_60 hl (k := 2) rfl (by decide) (by decide) rfl (fun ls hl => ?_)
                            refine lv_goto (tgt := 18) hx hb dX4_previousByPointers_63 (by decide) ?_
                            refine lv_iload hx hb dX4_previousByPointers_18 (lv_at hl 0 rfl) ?_
                            refine lv_iconst (v := 4) hx hb dX4_previousByPointers_20 (by decide) ?_
                            refine lv_icmp_ge (tgt := 66) hx hb dX4_previousByPointers_21 (by decide) (fun c_21_4 => ?_) (fun c_21_4 => ?_)
                            · obtain ⟨q3, hq3, e3⟩ := sl_pt_q (hP t_2 ht_t_2 (4 * k + 3) (by omega)) c_39_3
                              rw [e3] at hl
                              refine lv_aload_n hx hb dX4_previousByPointers_66 rfl (lv_at hl 4 rfl) ?_
                              refine lv_iload_n hx hb dX4_previousByPointers_67 rfl (lv_at hl 5 rfl) ?_
                              refine lv_iload hx hb dX4_previousByPointers_68 (lv_at hl 1 rfl) ?_
                              refine sl_calli (sl_runV (As := [.int (nI k), .int (nI q3)]) (rest := []) hC hG (kX4_latestAhead l Γ g α β n C E hS q3 (by omega) (nI k)) mi_X4_latestAhead lk_RX4_172 0 h0 rfl rfl rfl ⟨Nat.le_of_ble_eq_true rfl, Nat.le_of_ble_eq_true rfl⟩ rfl hl.1 rfl (Nat.le_of_ble_eq_true rfl) dX4_previousByPointers_70 ⟨Nat.le_of_ble_eq_true rfl, Nat.le_of_ble_eq_true rfl⟩) hG (fun r_70_4 u_70_4 H locs hr_70_4 hG => ?_)
                              subst hr_70_4
                              exact sl_ri (v := sl_la n C E (nI k) q3) hC hr hG () (by show _ = sl_pq n C E k b; rw [sl_pq_1 hq_2, sl_pb, if_neg c_39_0, if_neg (sl_isN hq_47_0), if_neg c_39_1, if_neg (sl_isN hq_47_1), if_neg c_39_2, if_neg (sl_isN hq_47_2), if_neg c_39_3, if_neg (sl_isN hq_47_3), e3, nI_clamp (by omega)]) rfl (Nat.le_of_ble_eq_true rfl) (Nat.le_of_ble_eq_true rfl) dX4_previousByPointers_73
                            · exact absurd c_21_4 (by decide)
                          · refine sl_top (w := .ref ((β t_47_3).1)) (by rw [hq_47_3]; rfl) ?_
                            have ht_t_47_3 := sl_tok_lt hq_47_3
                            refine lv_ifnull hx hb dX4_previousByPointers_50 ?_
                            refine lv_iload hx hb dX4_previousByPointers_53 (lv_at hl 0 rfl) ?_
                            exact sl_ri (v := ((E t_2).2.2.2.2.2.2.1) (4 * k + 3)) hC hr hG () (by show _ = sl_pq n C E k b; rw [sl_pq_1 hq_2, sl_pb, if_neg c_39_0, if_neg (sl_isN hq_47_0), if_neg c_39_1, if_neg (sl_isN hq_47_1), if_neg c_39_2, if_neg (sl_isN hq_47_2), if_neg c_39_3, if_pos (sl_isS hq_47_3)]) rfl (Nat.le_of_ble_eq_true rfl) (Nat.le_of_ble_eq_true rfl) dX4_previousByPointers_55
                        · refine lv_iconst (v := (-1)) hx hb dX4_previousByPointers_42 (by decide) ?_
                          exact sl_ri (v := (-1)) hC hr hG () (by show _ = sl_pq n C E k b; rw [sl_pq_1 hq_2, sl_pb, if_neg c_39_0, if_neg (sl_isN hq_47_0), if_neg c_39_1, if_neg (sl_isN hq_47_1), if_neg c_39_2, if_neg (sl_isN hq_47_2), if_pos c_39_3]) rfl (Nat.le_of_ble_eq_true rfl) (Nat.le_of_ble_eq_true rfl) dX4_previousByPointers_43
                    · refine sl_top (w := .ref ((β t_47_2).1)) (by rw [hq_47_2]; rfl) ?_
                      have ht_t_47_2 := sl_tok_lt hq_47_2
                      refine lv_ifnull hx hb dX4_previousByPointers_50 ?_
                      refine lv_iload hx hb dX4_previousByPointers_53 (lv_at hl 0 rfl) ?_
                      exact sl_ri (v := ((E t_2).2.2.2.2.2.2.1) (4 * k + 2)) hC hr hG () (by show _ = sl_pq n C E k b; rw [sl_pq_1 hq_2, sl_pb, if_neg c_39_0, if_neg (sl_isN hq_47_0), if_neg c_39_1, if_neg (sl_isN hq_47_1), if_neg c_39_2, if_pos (sl_isS hq_47_2)]) rfl (Nat.le_of_ble_eq_true rfl) (Nat.le_of_ble_eq_true rfl) dX4_previousByPointers_55
                  · refine lv_iconst (v := (-1)) hx hb dX4_previousByPointers_42 (by decide) ?_
                    exact sl_ri (v := (-1)) hC hr hG () (by show _ = sl_pq n C E k b; rw [sl_pq_1 hq_2, sl_pb, if_neg c_39_0, if_neg (sl_isN hq_47_0), if_neg c_39_1, if_neg (sl_isN hq_47_1), if_pos c_39_2]) rfl (Nat.le_of_ble_eq_true rfl) (Nat.le_of_ble_eq_true rfl) dX4_previousByPointers_43
              · refine sl_top (w := .ref ((β t_47_1).1)) (by rw [hq_47_1]; rfl) ?_
                have ht_t_47_1 := sl_tok_lt hq_47_1
                refine lv_ifnull hx hb dX4_previousByPointers_50 ?_
                refine lv_iload hx hb dX4_previousByPointers_53 (lv_at hl 0 rfl) ?_
                exact sl_ri (v := ((E t_2).2.2.2.2.2.2.1) (4 * k + 1)) hC hr hG () (by show _ = sl_pq n C E k b; rw [sl_pq_1 hq_2, sl_pb, if_neg c_39_0, if_neg (sl_isN hq_47_0), if_neg c_39_1, if_pos (sl_isS hq_47_1)]) rfl (Nat.le_of_ble_eq_true rfl) (Nat.le_of_ble_eq_true rfl) dX4_previousByPointers_55
            · refine lv_iconst (v := (-1)) hx hb dX4_previousByPointers_42 (by decide) ?_
              exact sl_ri (v := (-1)) hC hr hG () (by show _ = sl_pq n C E k b; rw [sl_pq_1 hq_2, sl_pb, if_neg c_39_0, if_neg (sl_isN hq_47_0), if_pos c_39_1]) rfl (Nat.le_of_ble_eq_true rfl) (Nat.le_of_ble_eq_true rfl) dX4_previousByPointers_43
        · refine sl_top (w := .ref ((β t_47_0).1)) (by rw [hq_47_0]; rfl) ?_
          have ht_t_47_0 := sl_tok_lt hq_47_0
          refine lv_ifnull hx hb dX4_previousByPointers_50 ?_
          refine lv_iload hx hb dX4_previousByPointers_53 (lv_at hl 0 rfl) ?_
          exact sl_ri (v := ((E t_2).2.2.2.2.2.2.1) (4 * k + 0)) hC hr hG () (by show _ = sl_pq n C E k b; rw [sl_pq_1 hq_2, sl_pb, if_neg c_39_0, if_pos (sl_isS hq_47_0)]) rfl (Nat.le_of_ble_eq_true rfl) (Nat.le_of_ble_eq_true rfl) dX4_previousByPointers_55
      · refine lv_iconst (v := (-1)) hx hb dX4_previousByPointers_42 (by decide) ?_
        exact sl_ri (v := (-1)) hC hr hG () (by show _ = sl_pq n C E k b; rw [sl_pq_1 hq_2, sl_pb, if_pos c_39_0]) rfl (Nat.le_of_ble_eq_true rfl) (Nat.le_of_ble_eq_true rfl) dX4_previousByPointers_43
set_option maxHeartbeats 4000000 in
set_option maxRecDepth 100000 in
theorem kX4_foldUpTo (l : Launch) (Γ : sl_G) (g : sl_W) (α : Nat → Nat) (β : Nat → Nat × Nat × Nat) (n : Nat) (C : Nat → Int32) (E : Nat → sl_Ent) (hS : sl_Ro Γ α β n C E g) (F X : Nat → Int32) (fd : Int32) (h6 : g 6 = some ((α 6), .inr (2, [.ref (α 7), .ref (α 8), .int fd]))) (h7 : g 7 = some ((α 7), .inl (Γ.2.1 1, 120, .inl F))) (h8 : g 8 = some ((α 8), .inl (Γ.2.1 0, 4, .inl X))) (b : Nat) (hb9 : b ≤ 120) : Met l yX4_foldUpTo [Cond.code yX4_foldUpTo cX4_foldUpTo 3 none] ({ frames := 3, cells := 0, slots := 0, locals := 66 } : Room) (va_Pc [.ref (α 0), .int (nI b)] (sl_B Γ g)) (sl_Qv Γ (fun g' => sl_FW Γ α b n C E g g') (fun g' => g')) 0 0 (sl_A Γ) := by
  refine sl_ent (by decide) (Nat.le_of_ble_eq_true rfl) ?_
  intro p e s m below meth c ls hC hr hin hG hl
  have hx := hC.1
  have hb := hC.2.1
  have hl : lv_has ls 3 [(0, .ref (α 0)), (1, .int (nI b))] := hl
  obtain ⟨⟨z4, z5, z6, z7, h0⟩, h1, h2, h3, hE, hn9⟩ := id hS
  refine lv_aload_n hx hb dX4_foldUpTo_0 rfl (lv_at hl 0 rfl) ?_
  refine sl_get (C := RX4) (T := TX4) (N := 8) hC hG 0 h0 rfl la_4 3 (by decide) lk_RX4_32 rfl rfl dX4_foldUpTo_1 ?_
  refine sl_callv (sl_runVN (As := []) (rest := []) hC hG (kX2_restart l Γ g (α 6) (α 7) (α 8) F X fd h6 h7 h8) mi_X2_restart lk_RX4_190 6 h6 rfl rfl rfl ⟨Nat.le_of_ble_eq_true rfl, Nat.le_of_ble_eq_true rfl⟩ rfl hl.1 rfl (Nat.le_of_ble_eq_true rfl) dX4_foldUpTo_4 ⟨Nat.le_of_ble_eq_true rfl, Nat.le_of_ble_eq_true rfl⟩) hG (fun u_4 H locs hr_4 hG => ?_)
  have hG : sl_I Γ (sl_up (sl_up g 6 ((α 6), .inr (2, [.ref (α 7), .ref (α 8), .int 0]))) 8 ((α 8), .inl (Γ.2.1 0, 4, .inl (fun _ => (-1))))) s H _ := hG
  refine lv_iconst (v := 0) hx hb dX4_foldUpTo_7 (by decide) ?_
  refine lv_istore_n (lv' := [(2, .int 0), (0, .ref (α 0)), (1, .int (nI b))]) hx hb dX4_foldUpTo_8 rfl hl (by decide) rfl (fun ls hl => ?_)
  have loop_9 : ∀ (fuel k : Nat) (F : Nat → Int32), k ≤ b → b + 1 ≤ k + fuel → (∀ q, q < k → F q = sl_bi (sl_ev n C E q)) → ∀ (H : Heap) (locs : List Loc), sl_I Γ (sl_up (sl_up (sl_up g 7 ((α 7), .inl (Γ.2.1 1, 120, .inl F))) 8 ((α 8), .inl (Γ.2.1 0, 4, .inl (sl_fX n C E k)))) 6 ((α 6), .inr (2, [.ref (α 7), .ref (α 8), .int (nI k)]))) s H locs → ∀ (ls : Array Slot), lv_has ls 3 [(0, .ref (α 0)), (1, .int (nI b)), (2, .int (nI k))] → W p l e ({ frames := 3, cells := 0, slots := 0, locals := 66 } : Room) s m ([.ref (α 0), .int (nI b)] : List Value).toArray below meth c H locs 0 0 (MQ below (sl_Qv Γ (fun g' => sl_FW Γ α b n C E g g') (fun g' => g')) ([.ref (α 0), .int (nI b)] : List Value).toArray s 0 0 (sl_A Γ)) (F0 m 9 ls []) := by
    intro fuel
    induction fuel with
    | zero =>
      intro k F h1 h2
      exact absurd h2 (by omega)
    | succ fuel ih_9 =>
      intro k F hk_9 hn_9 hF H locs hG ls hl
      refine lv_iload_n hx hb dX4_foldUpTo_9 rfl (lv_at hl 2 rfl) ?_
      refine lv_iload_n hx hb dX4_foldUpTo_10 rfl (lv_at hl 1 rfl) ?_
      refine lv_icmp_ge (tgt := 32) hx hb dX4_foldUpTo_11 (by decide) (fun c_11 => ?_) (fun c_11 => ?_)
      · have n_11 : b ≤ k := (nI_leI (a := b) (b := k) (by omega) (by omega)).mp c_11
        have hk9 : k = b := by omega
        subst hk9
        exact sl_rv hC hr hG (sl_up (sl_up (sl_up g 7 ((α 7), .inl (Γ.2.1 1, 120, .inl F))) 8 ((α 8), .inl (Γ.2.1 0, 4, .inl (sl_fX n C E k)))) 6 ((α 6), .inr (2, [.ref (α 7), .ref (α 8), .int (nI k)]))) ⟨sl_up_s _ _ _, ⟨F, sl_up_to (by decide) (sl_up_to (by decide) (sl_up_s _ _ _)), hF⟩, ⟨_, sl_up_to (by decide) (sl_up_s _ _ _)⟩, fun j h6 h7 h8 => (sl_up_n _ _ h6).trans ((sl_up_n _ _ h8).trans (sl_up_n _ _ h7))⟩ rfl (Nat.le_of_ble_eq_true rfl) (Nat.le_of_ble_eq_true rfl) dX4_foldUpTo_32
      · have n_11 : ¬ (b ≤ k) := fun z => c_11 ((nI_leI (a := b) (b := k) (by omega) (by omega)).mpr z)
        refine lv_aload_n hx hb dX4_foldUpTo_14 rfl (lv_at hl 0 rfl) ?_
        refine sl_get (C := RX4) (T := TX4) (N := 8) hC hG 0 (sl_up_to (by decide) (sl_up_to (by decide) (sl_up_to (by decide) h0))) rfl la_4 3 (by decide) lk_RX4_32 rfl rfl dX4_foldUpTo_15 ?_
        refine lv_aload_n hx hb dX4_foldUpTo_18 rfl (lv_at hl 0 rfl) ?_
        refine lv_iload_n hx hb dX4_foldUpTo_19 rfl (lv_at hl 2 rfl) ?_
        refine sl_callq (sl_runV (As := [.int (nI k)]) (rest := [.ref (α 6)]) hC hG (kX4_entryIn l Γ (sl_up (sl_up (sl_up g 7 ((α 7), .inl (Γ.2.1 1, 120, .inl F))) 8 ((α 8), .inl (Γ.2.1 0, 4, .inl (sl_fX n C E k)))) 6 ((α 6), .inr (2, [.ref (α 7), .ref (α 8), .int (nI k)]))) α β n C E (sl_Ro_up (by decide) (sl_Ro_up (by decide) (sl_Ro_up (by decide) hS))) (nI k)) mi_X4_entryIn lk_RX4_84 0 (sl_up_to (by decide) (sl_up_to (by decide) (sl_up_to (by decide) h0))) rfl rfl rfl ⟨Nat.le_of_ble_eq_true rfl, Nat.le_of_ble_eq_true rfl⟩ rfl hl.1 rfl (Nat.le_of_ble_eq_true rfl) dX4_foldUpTo_20 ⟨Nat.le_of_ble_eq_true rfl, Nat.le_of_ble_eq_true rfl⟩) hG (fun r_20 u_20 H locs hr_20 hG => ?_)
        subst hr_20
        rw [show sl_ta n C (nI k) = sl_tok n (C k) from congrArg (sl_tok n) (sl_cg0 C (by omega))]
        rcases sl_opt (sl_tok n (C k)) with hq_20 | ⟨t_20, hq_20⟩
        · refine sl_top (w := .null) (by rw [hq_20]; rfl) ?_
          refine sl_callv (sl_runVN (As := [.null]) (rest := []) hC hG (kX2_addN l Γ (sl_up (sl_up (sl_up g 7 ((α 7), .inl (Γ.2.1 1, 120, .inl F))) 8 ((α 8), .inl (Γ.2.1 0, 4, .inl (sl_fX n C E k)))) 6 ((α 6), .inr (2, [.ref (α 7), .ref (α 8), .int (nI k)]))) (α 6) (α 7) (α 8) F (sl_fX n C E k) k (sl_up_s _ _ _) (sl_up_to (by decide) (sl_up_to (by decide) (sl_up_s _ _ _))) (sl_up_to (by decide) (sl_up_s _ _ _)) (by omega)) mi_X2_add lk_RX4_193 6 (sl_up_s _ _ _) rfl rfl rfl ⟨Nat.le_of_ble_eq_true rfl, Nat.le_of_ble_eq_true rfl⟩ rfl hl.1 rfl (Nat.le_of_ble_eq_true rfl) dX4_foldUpTo_23 ⟨Nat.le_of_ble_eq_true rfl, Nat.le_of_ble_eq_true rfl⟩) hG (fun u_23 H locs hr_23 hG => ?_)
          have hG : sl_I Γ (sl_up (sl_up (sl_up (sl_up (sl_up (sl_up g 7 ((α 7), .inl (Γ.2.1 1, 120, .inl F))) 8 ((α 8), .inl (Γ.2.1 0, 4, .inl (sl_fX n C E k)))) 6 ((α 6), .inr (2, [.ref (α 7), .ref (α 8), .int (nI k)]))) 7 ((α 7), .inl (Γ.2.1 1, 120, .inl (upd F k (sl_bi false))))) 8 ((α 8), .inl (Γ.2.1 0, 4, .inl (sl_fX n C E k)))) 6 ((α 6), .inr (2, [.ref (α 7), .ref (α 8), .int (nI (k + 1))]))) s H _ := hG
          refine lv_iinc (v := nI (k + 1)) (lv' := [(2, .int (nI (k + 1))), (0, .ref (α 0)), (1, .int (nI b))]) hx hb dX4_foldUpTo_26 hl (k := 2) rfl (nI_1 k) (by decide) rfl (fun ls hl => ?_)
          refine lv_goto (tgt := 9) hx hb dX4_foldUpTo_29 (by decide) ?_
          rw [sl_up_678, ← sl_fX_0 hq_20, show sl_bi false = sl_bi (sl_ev n C E k) from (by rw [sl_ev_0 hq_20])] at hG
          exact ih_9 (k + 1) (upd F k (sl_bi (sl_ev n C E k))) (by omega) (by omega) (sl_fF hF) _ _ hG _ (lv_sub hl [1, 2, 0] rfl)
        · refine sl_top (w := .ref ((β t_20).1)) (by rw [hq_20]; rfl) ?_
          have ht_t_20 := sl_tok_lt hq_20
          refine sl_callv (sl_runVN (As := [.ref ((β t_20).1)]) (rest := []) hC hG (kX2_addE l Γ (sl_up (sl_up (sl_up g 7 ((α 7), .inl (Γ.2.1 1, 120, .inl F))) 8 ((α 8), .inl (Γ.2.1 0, 4, .inl (sl_fX n C E k)))) 6 ((α 6), .inr (2, [.ref (α 7), .ref (α 8), .int (nI k)]))) (α 6) (α 7) (α 8) F (sl_fX n C E k) k (sl_up_s _ _ _) (sl_up_to (by decide) (sl_up_to (by decide) (sl_up_s _ _ _))) (sl_up_to (by decide) (sl_up_s _ _ _)) (by omega) (100 + 3 * t_20) (β t_20).1 (β t_20).2.1 ((E t_20).1) ((E t_20).2.1) ((E t_20).2.2.1) ((E t_20).2.2.2.1) ((E t_20).2.2.2.2.1) ((E t_20).2.2.2.2.2.1) ((E t_20).2.2.2.2.2.2.2) ((sl_Es.mono hE (fun j hj => (sl_up_n _ _ (by omega)).trans ((sl_up_n _ _ (by omega)).trans (sl_up_n _ _ (by omega))))) t_20 ht_t_20).1 (by omega)) mi_X2_add lk_RX4_193 6 (sl_up_s _ _ _) rfl rfl rfl ⟨Nat.le_of_ble_eq_true rfl, Nat.le_of_ble_eq_true rfl⟩ rfl hl.1 rfl (Nat.le_of_ble_eq_true rfl) dX4_foldUpTo_23 ⟨Nat.le_of_ble_eq_true rfl, Nat.le_of_ble_eq_true rfl⟩) hG (fun u_23 H locs hr_23 hG => ?_)
          have hG : sl_I Γ (sl_up (sl_up (sl_up (sl_up (sl_up (sl_up g 7 ((α 7), .inl (Γ.2.1 1, 120, .inl F))) 8 ((α 8), .inl (Γ.2.1 0, 4, .inl (sl_fX n C E k)))) 6 ((α 6), .inr (2, [.ref (α 7), .ref (α 8), .int (nI k)]))) 7 ((α 7), .inl (Γ.2.1 1, 120, .inl (upd F k (sl_bi (sl_un (sl_fX n C E k) ((E t_20).2.2.2.2.1) ((E t_20).2.2.2.2.2.1) 4)))))) 8 ((α 8), .inl (Γ.2.1 0, 4, .inl (if sl_un (sl_fX n C E k) ((E t_20).2.2.2.2.1) ((E t_20).2.2.2.2.2.1) 4 = true then sl_nc (sl_fX n C E k) ((E t_20).2.2.1) (nI k) 4 else sl_fX n C E k)))) 6 ((α 6), .inr (2, [.ref (α 7), .ref (α 8), .int (nI (k + 1))]))) s H _ := hG
          refine lv_iinc (v := nI (k + 1)) (lv' := [(2, .int (nI (k + 1))), (0, .ref (α 0)), (1, .int (nI b))]) hx hb dX4_foldUpTo_26 hl (k := 2) rfl (nI_1 k) (by decide) rfl (fun ls hl => ?_)
          refine lv_goto (tgt := 9) hx hb dX4_foldUpTo_29 (by decide) ?_
          rw [sl_up_678, ← sl_fX_1 hq_20, ← sl_ev_1 hq_20] at hG
          exact ih_9 (k + 1) (upd F k (sl_bi (sl_ev n C E k))) (by omega) (by omega) (sl_fF hF) _ _ hG _ (lv_sub hl [1, 2, 0] rfl)
  rw [sl_up_comm _ _ _ (by decide)] at hG
  rw [← sl_up_same h7] at hG
  exact loop_9 (b + 1) 0 F (by omega) (by omega) (fun q hq => absurd hq (Nat.not_lt_zero q)) _ _ hG _ (lv_sub hl [1, 2, 0] rfl)
set_option maxHeartbeats 4000000 in
set_option maxRecDepth 100000 in
theorem kX4_effectOf (l : Launch) (Γ : sl_G) (g : sl_W) (α : Nat → Nat) (β : Nat → Nat × Nat × Nat) (n : Nat) (C : Nat → Int32) (E : Nat → sl_Ent) (hS : sl_Ro Γ α β n C E g) (F X : Nat → Int32) (d : Nat) (h6 : g 6 = some ((α 6), .inr (2, [.ref (α 7), .ref (α 8), .int (nI d)]))) (h7 : g 7 = some ((α 7), .inl (Γ.2.1 1, 120, .inl F))) (h8 : g 8 = some ((α 8), .inl (Γ.2.1 0, 4, .inl X))) (hF : ∀ q, q < d → F q = sl_bi (sl_ev n C E q)) (hd9 : d ≤ 120) (b : Nat) (hbd : b < d) : Met l yX4_effectOf [Cond.code yX4_effectOf cX4_effectOf 3 (some .int)] ({ frames := 3, cells := 0, slots := 0, locals := 63 } : Room) (va_Pc [.ref (α 0), .int (nI b)] (sl_B Γ g)) (sl_Qi Γ (fun r (_ : Unit) => r = sl_am n C E b) (fun _ => g)) 0 0 (sl_A Γ) := by
  refine sl_ent (by decide) (Nat.le_of_ble_eq_true rfl) ?_
  intro p e s m below meth c ls hC hr hin hG hl
  have hx := hC.1
  have hb := hC.2.1
  have hl : lv_has ls 3 [(0, .ref (α 0)), (1, .int (nI b))] := hl
  obtain ⟨⟨z4, z5, z6, z7, h0⟩, h1, h2, h3, hE, hn9⟩ := id hS
  refine lv_aload_n hx hb dX4_effectOf_0 rfl (lv_at hl 0 rfl) ?_
  refine lv_iload_n hx hb dX4_effectOf_1 rfl (lv_at hl 1 rfl) ?_
  refine sl_callq (sl_runV (As := [.int (nI b)]) (rest := []) hC hG (kX4_entryIn l Γ g α β n C E hS (nI b)) mi_X4_entryIn lk_RX4_84 0 h0 rfl rfl rfl ⟨Nat.le_of_ble_eq_true rfl, Nat.le_of_ble_eq_true rfl⟩ rfl hl.1 rfl (Nat.le_of_ble_eq_true rfl) dX4_effectOf_2 ⟨Nat.le_of_ble_eq_true rfl, Nat.le_of_ble_eq_true rfl⟩) hG (fun r_2 u_2 H locs hr_2 hG => ?_)
  subst hr_2
  rw [show sl_ta n C (nI b) = sl_tok n (C b) from congrArg (sl_tok n) (sl_cg0 C (by omega))]
  rcases sl_opt (sl_tok n (C b)) with hq_2 | ⟨t_2, hq_2⟩
  · refine sl_top (w := .null) (by rw [hq_2]; rfl) ?_
    refine lv_astore_nN (lv' := [(2, .null), (0, .ref (α 0)), (1, .int (nI b))]) hx hb dX4_effectOf_5 rfl hl (by decide) rfl (fun ls hl => ?_)
    refine lv_aload_nN hx hb dX4_effectOf_6 rfl (lv_at hl 0 rfl) ?_
    refine lv_ifnullN (tgt := 28) hx hb dX4_effectOf_7 (by decide) ?_
    refine lv_iconst (v := 0) hx hb dX4_effectOf_28 (by decide) ?_
    exact sl_ri (v := 0) hC hr hG () (sl_am_0 hq_2).symm rfl (Nat.le_of_ble_eq_true rfl) (Nat.le_of_ble_eq_true rfl) dX4_effectOf_29
  · refine sl_top (w := .ref ((β t_2).1)) (by rw [hq_2]; rfl) ?_
    have ht_t_2 := sl_tok_lt hq_2
    refine lv_astore_n (lv' := [(2, .ref ((β t_2).1)), (0, .ref (α 0)), (1, .int (nI b))]) hx hb dX4_effectOf_5 rfl hl (by decide) rfl (fun ls hl => ?_)
    refine lv_aload_n hx hb dX4_effectOf_6 rfl (lv_at hl 0 rfl) ?_
    refine lv_ifnull hx hb dX4_effectOf_7 ?_
    refine lv_aload_n hx hb dX4_effectOf_10 rfl (lv_at hl 1 rfl) ?_
    refine sl_get (C := RX4) (T := TX4) (N := 8) hC hG 0 h0 rfl la_4 3 (by decide) lk_RX4_32 rfl rfl dX4_effectOf_11 ?_
    refine lv_iload_n hx hb dX4_effectOf_14 rfl (lv_at hl 2 rfl) ?_
    refine sl_calli (sl_runVN (As := [.int (nI b)]) (rest := []) hC hG (kX2_hasEffect l Γ g (α 6) (α 7) (α 8) F X d h6 h7 h8 (by omega) b (by omega)) mi_X2_hasEffect lk_RX4_156 6 h6 rfl rfl rfl ⟨Nat.le_of_ble_eq_true rfl, Nat.le_of_ble_eq_true rfl⟩ rfl hl.1 rfl (Nat.le_of_ble_eq_true rfl) dX4_effectOf_15 ⟨Nat.le_of_ble_eq_true rfl, Nat.le_of_ble_eq_true rfl⟩) hG (fun r_15 u_15 H locs hr_15 hG => ?_)
    subst hr_15
    refine lv_if_eq (tgt := 28) hx hb dX4_effectOf_18 (by decide) (fun c_18 => ?_) (fun c_18 => ?_)
    · have c_18 := sl_bF c_18
      refine lv_iconst (v := 0) hx hb dX4_effectOf_28 (by decide) ?_
      rw [decide_eq_true hbd, Bool.true_and, Bool.not_eq_false', hF b hbd] at c_18
      exact sl_ri (v := 0) hC hr hG () (by show _ = sl_am n C E b; rw [sl_am_1 hq_2, if_neg (by rw [sl_bi_eq c_18]; decide)]) rfl (Nat.le_of_ble_eq_true rfl) (Nat.le_of_ble_eq_true rfl) dX4_effectOf_29
    · have c_18 := sl_bT c_18
      refine lv_aload_n hx hb dX4_effectOf_21 rfl (lv_at hl 0 rfl) ?_
      refine sl_getN (C := RX1) (T := TX1) (N := 8) hC hG (100 + 3 * t_2) (hE t_2 ht_t_2).1 rfl la_1 3 (by decide) lk_RX4_197 rfl rfl dX4_effectOf_22 ?_
      refine lv_goto (tgt := 29) hx hb dX4_effectOf_25 (by decide) ?_
      rw [decide_eq_true hbd, Bool.true_and, Bool.not_eq_true', hF b hbd] at c_18
      exact sl_ri (v := (E t_2).2.2.2.1) hC hr hG () (by show _ = sl_am n C E b; rw [sl_am_1 hq_2, if_pos (sl_bi_ne c_18)]) rfl (Nat.le_of_ble_eq_true rfl) (Nat.le_of_ble_eq_true rfl) dX4_effectOf_29
end
section
/-! the class's answers -/
/-- the class's cells hold: n tokens, epoch, tail, lost, the sequencer's trail, the cells, the entries -/
def sl_Cls (Γ : sl_G) (α : Nat → Nat) (β : Nat → Nat × Nat × Nat) (n : Nat) (ep : Int32) (tl : Nat) (lo : Bool) (T C : Nat → Int32) (E : Nat → sl_Ent) (g : sl_W) : Prop :=
  g 0 = some (α 0, .inr (4, [.ref (α 1), .ref (α 2), .ref (α 4), .ref (α 6), .int (nI n), .int ep, .int (nI tl), .int (sl_bi lo)])) ∧
  g 1 = some (α 1, .inl (Γ.2.1 2, 150, .inr (.inr (.inr (.inr (sl_ea n β)))))) ∧
  g 2 = some (α 2, .inr (0, [.ref (α 3)])) ∧
  g 3 = some (α 3, .inl (Γ.2.1 0, 360, .inl C)) ∧
  g 4 = some (α 4, .inr (3, [.ref (α 5)])) ∧
  g 5 = some (α 5, .inl (Γ.2.1 0, 16, .inl T)) ∧
  (∃ (F X : Nat → Int32) (fd : Int32), g 6 = some (α 6, .inr (2, [.ref (α 7), .ref (α 8), .int fd])) ∧ g 7 = some (α 7, .inl (Γ.2.1 1, 120, .inl F)) ∧ g 8 = some (α 8, .inl (Γ.2.1 0, 4, .inl X))) ∧
  sl_Es Γ β n E g ∧ (∀ k, 100 + 3 * n ≤ k → g k = none) ∧ n ≤ 150 ∧ tl ≤ 120
theorem sl_Cls.ro {Γ : sl_G} {α : Nat → Nat} {β : Nat → Nat × Nat × Nat} {n : Nat} {ep : Int32} {tl : Nat} {lo : Bool} {T C : Nat → Int32} {E : Nat → sl_Ent} {g : sl_W} (h : sl_Cls Γ α β n ep tl lo T C E g) : sl_Ro Γ α β n C E g := by
  obtain ⟨h0, h1, h2, h3, h4, h5, h6, hE, hN, hn, ht⟩ := h
  exact ⟨⟨_, _, _, _, h0⟩, h1, h2, h3, hE, hn⟩
/-- what isn't the class's stays -/
def sl_fr (g g' : sl_W) : Prop := ∀ k, 9 ≤ k → k < 100 → g' k = g k
theorem sl_fr.rf (g : sl_W) : sl_fr g g := fun _ _ _ => rfl
theorem sl_fr.up {g g' : sl_W} (h : sl_fr g g') {k : Nat} (q : Nat × va_E) (hk : k < 9 ∨ 100 ≤ k) : sl_fr g (sl_up g' k q) := fun j h1 h2 => (sl_up_n _ _ (by omega)).trans (h j h1 h2)
theorem sl_Cls_w {Γ : sl_G} {α : Nat → Nat} {β : Nat → Nat × Nat × Nat} {n : Nat} {ep : Int32} {tl : Nat} {lo : Bool} {T C : Nat → Int32} {E : Nat → sl_Ent} {g g' : sl_W} {d : Nat} (h : sl_Cls Γ α β n ep tl lo T C E g) (hw : sl_FW Γ α d n C E g g') : sl_Cls Γ α β n ep tl lo T C E g' ∧ sl_fr g g' := by
  obtain ⟨h0, h1, h2, h3, h4, h5, h6, hE, hN, hn, ht⟩ := h
  obtain ⟨w6, ⟨F, w7, -⟩, ⟨X, w8⟩, w⟩ := hw
  exact ⟨⟨(w 0 (by omega) (by omega) (by omega)).trans h0, (w 1 (by omega) (by omega) (by omega)).trans h1, (w 2 (by omega) (by omega) (by omega)).trans h2, (w 3 (by omega) (by omega) (by omega)).trans h3, (w 4 (by omega) (by omega) (by omega)).trans h4, (w 5 (by omega) (by omega) (by omega)).trans h5, ⟨F, X, _, w6, w7, w8⟩, hE.mono (fun k hk => w k (by omega) (by omega) (by omega)), fun k hk => (w k (by omega) (by omega) (by omega)).trans (hN k hk), hn, ht⟩, fun k h1 h2 => w k (by omega) (by omega) (by omega)⟩
set_option maxHeartbeats 4000000 in
set_option maxRecDepth 100000 in
theorem kX4_epoch (l : Launch) (Γ : sl_G) (g : sl_W) (α : Nat → Nat) (β : Nat → Nat × Nat × Nat) (n : Nat) (ep : Int32) (tl : Nat) (lo : Bool) (T C : Nat → Int32) (E : Nat → sl_Ent) (hK : sl_Cls Γ α β n ep tl lo T C E g) : Met l yX4_epoch [Cond.code yX4_epoch cX4_epoch 1 (some .int)] ({ frames := 0, cells := 0, slots := 0, locals := 0 } : Room) (va_Pc [.ref (α 0)] (sl_B Γ g)) (sl_Qi Γ (fun r (_ : Unit) => r = ep) (fun _ => g)) 0 0 (sl_A Γ) := by
  refine sl_ent (by decide) (Nat.le_of_ble_eq_true rfl) ?_
  intro p e s m below meth c ls hC hr hin hG hl
  have hx := hC.1
  have hb := hC.2.1
  have hl : lv_has ls 1 [(0, .ref (α 0))] := hl
  have hS := hK.ro
  obtain ⟨h0, h1, h2, h3, h4, h5, ⟨F, X, fd, h6, h7, h8⟩, hE, hN, hn9, ht9⟩ := id hK
  refine lv_aload_n hx hb dX4_epoch_0 rfl (lv_at hl 0 rfl) ?_
  refine sl_get (C := RX4) (T := TX4) (N := 8) hC hG 0 h0 rfl la_4 5 (by decide) lk_RX4_40 rfl rfl dX4_epoch_1 ?_
  exact sl_ri (v := ep) hC hr hG () rfl rfl (Nat.le_of_ble_eq_true rfl) (Nat.le_of_ble_eq_true rfl) dX4_epoch_4
set_option maxHeartbeats 4000000 in
set_option maxRecDepth 100000 in
theorem kX4_tail (l : Launch) (Γ : sl_G) (g : sl_W) (α : Nat → Nat) (β : Nat → Nat × Nat × Nat) (n : Nat) (ep : Int32) (tl : Nat) (lo : Bool) (T C : Nat → Int32) (E : Nat → sl_Ent) (hK : sl_Cls Γ α β n ep tl lo T C E g) : Met l yX4_tail [Cond.code yX4_tail cX4_tail 1 (some .int)] ({ frames := 0, cells := 0, slots := 0, locals := 0 } : Room) (va_Pc [.ref (α 0)] (sl_B Γ g)) (sl_Qi Γ (fun r (_ : Unit) => r = if lo = true then -1 else nI tl) (fun _ => g)) 0 0 (sl_A Γ) := by
  refine sl_ent (by decide) (Nat.le_of_ble_eq_true rfl) ?_
  intro p e s m below meth c ls hC hr hin hG hl
  have hx := hC.1
  have hb := hC.2.1
  have hl : lv_has ls 1 [(0, .ref (α 0))] := hl
  have hS := hK.ro
  obtain ⟨h0, h1, h2, h3, h4, h5, ⟨F, X, fd, h6, h7, h8⟩, hE, hN, hn9, ht9⟩ := id hK
  refine lv_aload_n hx hb dX4_tail_0 rfl (lv_at hl 0 rfl) ?_
  refine sl_get (C := RX4) (T := TX4) (N := 8) hC hG 0 h0 rfl la_4 7 (by decide) lk_RX4_46 rfl rfl dX4_tail_1 ?_
  refine lv_if_eq (tgt := 11) hx hb dX4_tail_4 (by decide) (fun c_4 => ?_) (fun c_4 => ?_)
  · have c_4 := sl_bF c_4
    refine lv_aload_n hx hb dX4_tail_11 rfl (lv_at hl 0 rfl) ?_
    refine sl_get (C := RX4) (T := TX4) (N := 8) hC hG 0 h0 rfl la_4 6 (by decide) lk_RX4_43 rfl rfl dX4_tail_12 ?_
    exact sl_ri (v := nI tl) hC hr hG () (by show _ = if lo = true then -1 else nI tl; rw [c_4]; rfl) rfl (Nat.le_of_ble_eq_true rfl) (Nat.le_of_ble_eq_true rfl) dX4_tail_15
  · have c_4 := sl_bT c_4
    refine lv_iconst (v := (-1)) hx hb dX4_tail_7 (by decide) ?_
    refine lv_goto (tgt := 15) hx hb dX4_tail_8 (by decide) ?_
    exact sl_ri (v := (-1)) hC hr hG () (by show _ = if lo = true then -1 else nI tl; rw [c_4]; rfl) rfl (Nat.le_of_ble_eq_true rfl) (Nat.le_of_ble_eq_true rfl) dX4_tail_15
set_option maxHeartbeats 4000000 in
set_option maxRecDepth 100000 in
theorem kX4_known (l : Launch) (Γ : sl_G) (g : sl_W) (α : Nat → Nat) (β : Nat → Nat × Nat × Nat) (n : Nat) (ep : Int32) (tl : Nat) (lo : Bool) (T C : Nat → Int32) (E : Nat → sl_Ent) (hK : sl_Cls Γ α β n ep tl lo T C E g) : Met l yX4_known [Cond.code yX4_known cX4_known 1 (some .int)] ({ frames := 5, cells := 0, slots := 0, locals := 107 } : Room) (va_Pc [.ref (α 0)] (sl_B Γ g)) (sl_Qi Γ (fun r (_ : Unit) => r = nI (sl_kn C)) (fun _ => g)) 0 0 (sl_A Γ) := by
  refine sl_ent (by decide) (Nat.le_of_ble_eq_true rfl) ?_
  intro p e s m below meth c ls hC hr hin hG hl
  have hx := hC.1
  have hb := hC.2.1
  have hl : lv_has ls 1 [(0, .ref (α 0))] := hl
  have hS := hK.ro
  obtain ⟨h0, h1, h2, h3, h4, h5, ⟨F, X, fd, h6, h7, h8⟩, hE, hN, hn9, ht9⟩ := id hK
  refine lv_aload_n hx hb dX4_known_0 rfl (lv_at hl 0 rfl) ?_
  refine sl_get (C := RX4) (T := TX4) (N := 8) hC hG 0 h0 rfl la_4 1 (by decide) lk_RX4_18 rfl rfl dX4_known_1 ?_
  refine sl_calli (sl_runVN (As := []) (rest := []) hC hG (kX0_completeFromStart l Γ g (α 2) (α 3) C h2 h3) mi_X0_completeFromStart lk_RX4_147 2 h2 rfl rfl rfl ⟨Nat.le_of_ble_eq_true rfl, Nat.le_of_ble_eq_true rfl⟩ rfl hl.1 rfl (Nat.le_of_ble_eq_true rfl) dX4_known_4 ⟨Nat.le_of_ble_eq_true rfl, Nat.le_of_ble_eq_true rfl⟩) hG (fun r_4 u_4 H locs hr_4 hG => ?_)
  subst hr_4
  exact sl_ri (v := nI (sl_kn C)) hC hr hG () rfl rfl (Nat.le_of_ble_eq_true rfl) (Nat.le_of_ble_eq_true rfl) dX4_known_7
set_option maxHeartbeats 4000000 in
set_option maxRecDepth 100000 in
theorem kX4_isEndOfKnown (l : Launch) (Γ : sl_G) (g : sl_W) (α : Nat → Nat) (β : Nat → Nat × Nat × Nat) (n : Nat) (C : Nat → Int32) (E : Nat → sl_Ent) (hS : sl_Ro Γ α β n C E g) (x : Int32) : Met l yX4_isEndOfKnown [Cond.code yX4_isEndOfKnown cX4_isEndOfKnown 2 (some .boolean)] ({ frames := 5, cells := 0, slots := 0, locals := 107 } : Room) (va_Pc [.ref (α 0), .int x] (sl_B Γ g)) (sl_Qi Γ (fun r (_ : Unit) => r = sl_bi (sl_in x 0 (nI (sl_kn C)))) (fun _ => g)) 0 0 (sl_A Γ) := by
  refine sl_ent (by decide) (Nat.le_of_ble_eq_true rfl) ?_
  intro p e s m below meth c ls hC hr hin hG hl
  have hx := hC.1
  have hb := hC.2.1
  have hl : lv_has ls 2 [(0, .ref (α 0)), (1, .int x)] := hl
  obtain ⟨⟨z4, z5, z6, z7, h0⟩, h1, h2, h3, hE, hn9⟩ := id hS
  refine lv_iload_n hx hb dX4_isEndOfKnown_0 rfl (lv_at hl 1 rfl) ?_
  refine lv_if_lt (tgt := 19) hx hb dX4_isEndOfKnown_1 (by decide) (fun c_1 => ?_) (fun c_1 => ?_)
  · refine lv_iconst (v := 0) hx hb dX4_isEndOfKnown_19 (by decide) ?_
    exact sl_rz (v := 0) hC hr rfl hG () (by show _ = sl_bi (sl_in x 0 (nI (sl_kn C))); rw [sl_in_f (by rw [sl_ltI, sl_i0] at c_1; rw [sl_i0]; omega)]; rfl) rfl (Nat.le_of_ble_eq_true rfl) (Nat.le_of_ble_eq_true rfl) dX4_isEndOfKnown_20
  · refine lv_iload_n hx hb dX4_isEndOfKnown_4 rfl (lv_at hl 1 rfl) ?_
    refine lv_aload_n hx hb dX4_isEndOfKnown_5 rfl (lv_at hl 0 rfl) ?_
    refine sl_get (C := RX4) (T := TX4) (N := 8) hC hG 0 h0 rfl la_4 1 (by decide) lk_RX4_18 rfl rfl dX4_isEndOfKnown_6 ?_
    refine sl_calli (sl_runVN (As := []) (rest := [.int x]) hC hG (kX0_completeFromStart l Γ g (α 2) (α 3) C h2 h3) mi_X0_completeFromStart lk_RX4_147 2 h2 rfl rfl rfl ⟨Nat.le_of_ble_eq_true rfl, Nat.le_of_ble_eq_true rfl⟩ rfl hl.1 rfl (Nat.le_of_ble_eq_true rfl) dX4_isEndOfKnown_9 ⟨Nat.le_of_ble_eq_true rfl, Nat.le_of_ble_eq_true rfl⟩) hG (fun r_9 u_9 H locs hr_9 hG => ?_)
    subst hr_9
    refine lv_icmp_gt (tgt := 19) hx hb dX4_isEndOfKnown_12 (by decide) (fun c_12 => ?_) (fun c_12 => ?_)
    · refine lv_iconst (v := 0) hx hb dX4_isEndOfKnown_19 (by decide) ?_
      exact sl_rz (v := 0) hC hr rfl hG () (by show _ = sl_bi (sl_in x 0 (nI (sl_kn C))); rw [sl_in_f (by rw [sl_ltI] at c_12; omega)]; rfl) rfl (Nat.le_of_ble_eq_true rfl) (Nat.le_of_ble_eq_true rfl) dX4_isEndOfKnown_20
    · refine lv_iconst (v := 1) hx hb dX4_isEndOfKnown_15 (by decide) ?_
      refine lv_goto (tgt := 20) hx hb dX4_isEndOfKnown_16 (by decide) ?_
      exact sl_rz (v := 1) hC hr rfl hG () (by show _ = sl_bi (sl_in x 0 (nI (sl_kn C))); rw [sl_in_t (by rw [sl_i0]; rw [sl_ltI, sl_i0] at c_1; omega) (by rw [sl_ltI] at c_12; omega)]; rfl) rfl (Nat.le_of_ble_eq_true rfl) (Nat.le_of_ble_eq_true rfl) dX4_isEndOfKnown_20
set_option maxHeartbeats 4000000 in
set_option maxRecDepth 100000 in
theorem kX4_positionOf (l : Launch) (hlt : l.stackTraces = false) (Γ : sl_G) (g : sl_W) (α : Nat → Nat) (β : Nat → Nat × Nat × Nat) (n : Nat) (ep : Int32) (tl : Nat) (lo : Bool) (T C : Nat → Int32) (E : Nat → sl_Ent) (hK : sl_Cls Γ α β n ep tl lo T C E g) (x : Int32) : vx_Met l yX4_positionOf [Cond.code yX4_positionOf cX4_positionOf 3 (some .int)] ({ frames := 6, cells := 1, slots := 6, locals := 100 } : Room) (va_Pc [.ref (α 0), .int x] (sl_B Γ g)) (sl_Qi Γ (fun r (_ : Unit) => ∃ t, sl_tok n x = some t ∧ r = (E t).1) (fun _ => g)) (sl_X Γ g (fun E0 => E0 = "java/lang/IndexOutOfBoundsException" ∧ sl_tok n x = none)) 1 6 (sl_A Γ) := by
  refine sl_entx (by decide) (Nat.le_of_ble_eq_true rfl) ?_
  intro p e s m below meth c ls hC hr hno hG hl
  have hx := hC.1
  have hb := hC.2.1
  have hl : lv_has ls 3 [(0, .ref (α 0)), (1, .int x)] := hl
  have hS := hK.ro
  obtain ⟨h0, h1, h2, h3, h4, h5, ⟨F, X, fd, h6, h7, h8⟩, hE, hN, hn9, ht9⟩ := id hK
  refine lv_aload_n hx hb dX4_positionOf_0 rfl (lv_at hl 0 rfl) ?_
  refine lv_iload_n hx hb dX4_positionOf_1 rfl (lv_at hl 1 rfl) ?_
  refine sl_callq (sl_runV (As := [.int x]) (rest := []) hC hG (kX4_entryOf l Γ g α β n C E hS x) mi_X4_entryOf lk_RX4_95 0 h0 rfl rfl rfl ⟨Nat.le_of_ble_eq_true rfl, Nat.le_of_ble_eq_true rfl⟩ rfl hl.1 rfl (Nat.le_of_ble_eq_true rfl) dX4_positionOf_2 ⟨Nat.le_of_ble_eq_true rfl, Nat.le_of_ble_eq_true rfl⟩) hG (fun r_2 u_2 H locs hr_2 hG => ?_)
  subst hr_2
  rcases sl_opt (sl_tok n x) with hq_2 | ⟨t_2, hq_2⟩
  · refine sl_top (w := .null) (by rw [hq_2]; rfl) ?_
    refine lv_astore_nN (lv' := [(2, .null), (0, .ref (α 0)), (1, .int x)]) hx hb dX4_positionOf_5 rfl hl (by decide) rfl (fun ls hl => ?_)
    refine lv_aload_nN hx hb dX4_positionOf_6 rfl (lv_at hl 0 rfl) ?_
    refine lv_ifnonnullN hx hb dX4_positionOf_7 ?_
    exact sl_thr (text := "no such token") (rest := []) hlt hC hG ⟨rfl, hq_2⟩ (by decide) lk_RX4_98 ini_IndexOutOfBoundsException (by decide +kernel) sl_hatO sl_otO hl.1 dX4_positionOf_10 dX4_positionOf_13 dX4_positionOf_14 dX4_positionOf_16 dX4_positionOf_19 hno (Nat.le_of_ble_eq_true rfl) (Nat.le_of_ble_eq_true rfl) (Nat.le_of_ble_eq_true rfl) (Nat.le_of_ble_eq_true rfl) (Nat.le_of_ble_eq_true rfl) (Nat.le_of_ble_eq_true rfl)
  · refine sl_top (w := .ref ((β t_2).1)) (by rw [hq_2]; rfl) ?_
    have ht_t_2 := sl_tok_lt hq_2
    refine lv_astore_n (lv' := [(2, .ref ((β t_2).1)), (0, .ref (α 0)), (1, .int x)]) hx hb dX4_positionOf_5 rfl hl (by decide) rfl (fun ls hl => ?_)
    refine lv_aload_n hx hb dX4_positionOf_6 rfl (lv_at hl 0 rfl) ?_
    refine lv_ifnonnull (tgt := 20) hx hb dX4_positionOf_7 (by decide) ?_
    refine lv_aload_n hx hb dX4_positionOf_20 rfl (lv_at hl 0 rfl) ?_
    refine sl_getN (C := RX1) (T := TX1) (N := 8) hC hG (100 + 3 * t_2) (hE t_2 ht_t_2).1 rfl la_1 0 (by decide) lk_RX4_109 rfl rfl dX4_positionOf_21 ?_
    exact vx_ret (sl_ri (v := (E t_2).1) hC hr hG () ⟨t_2, hq_2, rfl⟩ rfl (Nat.le_of_ble_eq_true rfl) (Nat.le_of_ble_eq_true rfl) dX4_positionOf_24)
set_option maxHeartbeats 4000000 in
set_option maxRecDepth 100000 in
theorem kX4_stateOf (l : Launch) (hlt : l.stackTraces = false) (Γ : sl_G) (g : sl_W) (α : Nat → Nat) (β : Nat → Nat × Nat × Nat) (n : Nat) (ep : Int32) (tl : Nat) (lo : Bool) (T C : Nat → Int32) (E : Nat → sl_Ent) (hK : sl_Cls Γ α β n ep tl lo T C E g) (x : Int32) : vx_Met l yX4_stateOf [Cond.code yX4_stateOf cX4_stateOf 3 (some .int)] ({ frames := 6, cells := 1, slots := 6, locals := 100 } : Room) (va_Pc [.ref (α 0), .int x] (sl_B Γ g)) (sl_Qi Γ (fun r (_ : Unit) => ∃ t, sl_tok n x = some t ∧ r = (E t).2.2.2.2.2.2.2) (fun _ => g)) (sl_X Γ g (fun E0 => E0 = "java/lang/IndexOutOfBoundsException" ∧ sl_tok n x = none)) 1 6 (sl_A Γ) := by
  refine sl_entx (by decide) (Nat.le_of_ble_eq_true rfl) ?_
  intro p e s m below meth c ls hC hr hno hG hl
  have hx := hC.1
  have hb := hC.2.1
  have hl : lv_has ls 3 [(0, .ref (α 0)), (1, .int x)] := hl
  have hS := hK.ro
  obtain ⟨h0, h1, h2, h3, h4, h5, ⟨F, X, fd, h6, h7, h8⟩, hE, hN, hn9, ht9⟩ := id hK
  refine lv_aload_n hx hb dX4_stateOf_0 rfl (lv_at hl 0 rfl) ?_
  refine lv_iload_n hx hb dX4_stateOf_1 rfl (lv_at hl 1 rfl) ?_
  refine sl_callq (sl_runV (As := [.int x]) (rest := []) hC hG (kX4_entryOf l Γ g α β n C E hS x) mi_X4_entryOf lk_RX4_95 0 h0 rfl rfl rfl ⟨Nat.le_of_ble_eq_true rfl, Nat.le_of_ble_eq_true rfl⟩ rfl hl.1 rfl (Nat.le_of_ble_eq_true rfl) dX4_stateOf_2 ⟨Nat.le_of_ble_eq_true rfl, Nat.le_of_ble_eq_true rfl⟩) hG (fun r_2 u_2 H locs hr_2 hG => ?_)
  subst hr_2
  rcases sl_opt (sl_tok n x) with hq_2 | ⟨t_2, hq_2⟩
  · refine sl_top (w := .null) (by rw [hq_2]; rfl) ?_
    refine lv_astore_nN (lv' := [(2, .null), (0, .ref (α 0)), (1, .int x)]) hx hb dX4_stateOf_5 rfl hl (by decide) rfl (fun ls hl => ?_)
    refine lv_aload_nN hx hb dX4_stateOf_6 rfl (lv_at hl 0 rfl) ?_
    refine lv_ifnonnullN hx hb dX4_stateOf_7 ?_
    exact sl_thr (text := "no such token") (rest := []) hlt hC hG ⟨rfl, hq_2⟩ (by decide) lk_RX4_98 ini_IndexOutOfBoundsException (by decide +kernel) sl_hatO sl_otO hl.1 dX4_stateOf_10 dX4_stateOf_13 dX4_stateOf_14 dX4_stateOf_16 dX4_stateOf_19 hno (Nat.le_of_ble_eq_true rfl) (Nat.le_of_ble_eq_true rfl) (Nat.le_of_ble_eq_true rfl) (Nat.le_of_ble_eq_true rfl) (Nat.le_of_ble_eq_true rfl) (Nat.le_of_ble_eq_true rfl)
  · refine sl_top (w := .ref ((β t_2).1)) (by rw [hq_2]; rfl) ?_
    have ht_t_2 := sl_tok_lt hq_2
    refine lv_astore_n (lv' := [(2, .ref ((β t_2).1)), (0, .ref (α 0)), (1, .int x)]) hx hb dX4_stateOf_5 rfl hl (by decide) rfl (fun ls hl => ?_)
    refine lv_aload_n hx hb dX4_stateOf_6 rfl (lv_at hl 0 rfl) ?_
    refine lv_ifnonnull (tgt := 20) hx hb dX4_stateOf_7 (by decide) ?_
    refine lv_aload_n hx hb dX4_stateOf_20 rfl (lv_at hl 0 rfl) ?_
    refine sl_getN (C := RX1) (T := TX1) (N := 8) hC hG (100 + 3 * t_2) (hE t_2 ht_t_2).1 rfl la_1 7 (by decide) lk_RX4_103 rfl rfl dX4_stateOf_21 ?_
    exact vx_ret (sl_ri (v := (E t_2).2.2.2.2.2.2.2) hC hr hG () ⟨t_2, hq_2, rfl⟩ rfl (Nat.le_of_ble_eq_true rfl) (Nat.le_of_ble_eq_true rfl) dX4_stateOf_24)
set_option maxHeartbeats 4000000 in
set_option maxRecDepth 100000 in
theorem kX4_cellAt (l : Launch) (hlt : l.stackTraces = false) (Γ : sl_G) (g : sl_W) (α : Nat → Nat) (β : Nat → Nat × Nat × Nat) (n : Nat) (ep : Int32) (tl : Nat) (lo : Bool) (T C : Nat → Int32) (E : Nat → sl_Ent) (hK : sl_Cls Γ α β n ep tl lo T C E g) (x y : Int32) : vx_Met l yX4_cellAt [Cond.code yX4_cellAt cX4_cellAt 3 (some .int)] ({ frames := 6, cells := 1, slots := 6, locals := 100 } : Room) (va_Pc [.ref (α 0), .int x, .int y] (sl_B Γ g)) (sl_Qi Γ (fun r (_ : Unit) => (sl_in x 0 2 && sl_in y 0 119) = true ∧ r = sl_cg C x y) (fun _ => g)) (sl_X Γ g (fun E0 => E0 = "java/lang/IndexOutOfBoundsException" ∧ (sl_in x 0 2 && sl_in y 0 119) = false)) 1 6 (sl_A Γ) := by
  refine sl_entx (by decide) (Nat.le_of_ble_eq_true rfl) ?_
  intro p e s m below meth c ls hC hr hno hG hl
  have hx := hC.1
  have hb := hC.2.1
  have hl : lv_has ls 3 [(0, .ref (α 0)), (1, .int x), (2, .int y)] := hl
  have hS := hK.ro
  obtain ⟨h0, h1, h2, h3, h4, h5, ⟨F, X, fd, h6, h7, h8⟩, hE, hN, hn9, ht9⟩ := id hK
  refine lv_iload_n hx hb dX4_cellAt_0 rfl (lv_at hl 1 rfl) ?_
  refine sl_calli (sl_runS (As := [.int x]) (rest := []) hC hG (kX4_isReplica l Γ g x) mi_X4_isReplica lk_RX4_142 rfl rfl ⟨Nat.le_of_ble_eq_true rfl, Nat.le_of_ble_eq_true rfl⟩ rfl hl.1 rfl (Nat.le_of_ble_eq_true rfl) dX4_cellAt_1 ⟨Nat.le_of_ble_eq_true rfl, Nat.le_of_ble_eq_true rfl⟩) hG (fun r_1 u_1 H locs hr_1 hG => ?_)
  subst hr_1
  refine lv_if_eq (tgt := 14) hx hb dX4_cellAt_4 (by decide) (fun c_4 => ?_) (fun c_4 => ?_)
  · have c_4 := sl_bF c_4
    exact sl_thr (text := "no such replica or position") (rest := []) hlt hC hG ⟨rfl, (by rw [c_4]; rfl)⟩ (by decide) lk_RX4_98 ini_IndexOutOfBoundsException (by decide +kernel) sl_hatO sl_otO hl.1 dX4_cellAt_14 dX4_cellAt_17 dX4_cellAt_18 dX4_cellAt_20 dX4_cellAt_23 hno (Nat.le_of_ble_eq_true rfl) (Nat.le_of_ble_eq_true rfl) (Nat.le_of_ble_eq_true rfl) (Nat.le_of_ble_eq_true rfl) (Nat.le_of_ble_eq_true rfl) (Nat.le_of_ble_eq_true rfl)
  · have c_4 := sl_bT c_4
    refine lv_iload_n hx hb dX4_cellAt_7 rfl (lv_at hl 2 rfl) ?_
    refine sl_calli (sl_runS (As := [.int y]) (rest := []) hC hG (kX4_isPosition l Γ g y) mi_X4_isPosition lk_RX4_120 rfl rfl ⟨Nat.le_of_ble_eq_true rfl, Nat.le_of_ble_eq_true rfl⟩ rfl hl.1 rfl (Nat.le_of_ble_eq_true rfl) dX4_cellAt_8 ⟨Nat.le_of_ble_eq_true rfl, Nat.le_of_ble_eq_true rfl⟩) hG (fun r_8 u_8 H locs hr_8 hG => ?_)
    subst hr_8
    refine lv_if_ne (tgt := 24) hx hb dX4_cellAt_11 (by decide) (fun c_11 => ?_) (fun c_11 => ?_)
    · have c_11 := sl_bT c_11
      refine lv_aload_n hx hb dX4_cellAt_24 rfl (lv_at hl 0 rfl) ?_
      refine sl_get (C := RX4) (T := TX4) (N := 8) hC hG 0 h0 rfl la_4 1 (by decide) lk_RX4_18 rfl rfl dX4_cellAt_25 ?_
      refine lv_iload_n hx hb dX4_cellAt_28 rfl (lv_at hl 1 rfl) ?_
      refine lv_iload_n hx hb dX4_cellAt_29 rfl (lv_at hl 2 rfl) ?_
      refine sl_calli (sl_runVN (As := [.int x, .int y]) (rest := []) hC hG (kX0_get l Γ g (α 2) (α 3) C h2 h3 x y) mi_X0_get lk_RX4_112 2 h2 rfl rfl rfl ⟨Nat.le_of_ble_eq_true rfl, Nat.le_of_ble_eq_true rfl⟩ rfl hl.1 rfl (Nat.le_of_ble_eq_true rfl) dX4_cellAt_30 ⟨Nat.le_of_ble_eq_true rfl, Nat.le_of_ble_eq_true rfl⟩) hG (fun r_30 u_30 H locs hr_30 hG => ?_)
      subst hr_30
      exact vx_ret (sl_ri (v := sl_cg C x y) hC hr hG () ⟨(by rw [c_4, c_11]; rfl), rfl⟩ rfl (Nat.le_of_ble_eq_true rfl) (Nat.le_of_ble_eq_true rfl) dX4_cellAt_33)
    · have c_11 := sl_bF c_11
      exact sl_thr (text := "no such replica or position") (rest := []) hlt hC hG ⟨rfl, (by rw [c_11]; exact Bool.and_false _)⟩ (by decide) lk_RX4_98 ini_IndexOutOfBoundsException (by decide +kernel) sl_hatO sl_otO hl.1 dX4_cellAt_14 dX4_cellAt_17 dX4_cellAt_18 dX4_cellAt_20 dX4_cellAt_23 hno (Nat.le_of_ble_eq_true rfl) (Nat.le_of_ble_eq_true rfl) (Nat.le_of_ble_eq_true rfl) (Nat.le_of_ble_eq_true rfl) (Nat.le_of_ble_eq_true rfl) (Nat.le_of_ble_eq_true rfl)
end
section
/-! the class's folding calls -/
theorem sl_he {n d : Nat} {C : Nat → Int32} {E : Nat → sl_Ent} {F : Nat → Int32} (hF : ∀ q, q < d → F q = sl_bi (sl_ev n C E q)) {b : Nat} (hb : b < d) : (decide (b < d) && !decide (F b = 0)) = sl_ev n C E b := by
  rw [decide_eq_true hb, Bool.true_and, hF b hb]
  cases sl_ev n C E b <;> rfl
def sl_vs (n : Nat) (C : Nat → Int32) (E : Nat → sl_Ent) (x : Int32) : Nat → Int32
  | 0 => 0
  | q + 1 => if sl_hs n C E x q = true then sl_vs n C E x q + sl_am n C E q else sl_vs n C E x q
def sl_vp (n : Nat) (C : Nat → Int32) (E : Nat → sl_Ent) (j : Nat) : Nat → Int32 → Int32 → Int32
  | 0, _, sum => sum
  | f + 1, at', sum => if at' = -1 then sum else sl_vp n C E j f (sl_pq n C E j at'.toNatClampNeg) (sum + sl_am n C E at'.toNatClampNeg)
/-- an entry's pointers are ahead of it -/
def sl_PP (n : Nat) (C : Nat → Int32) (E : Nat → sl_Ent) : Prop := ∀ q t, q < 120 → sl_tok n (C q) = some t → ∀ j, j < 16 → (E t).2.2.2.2.2.2.1 j = -1 ∨ ∃ q', q' < q ∧ (E t).2.2.2.2.2.2.1 j = nI q'
theorem sl_pq_lt {n : Nat} {C : Nat → Int32} {E : Nat → sl_Ent} (hP : sl_PP n C E) {q j : Nat} (hq : q < 120) (hj : j < 4) : sl_pq n C E j q = -1 ∨ ∃ q', q' < q ∧ sl_pq n C E j q = nI q' := by
  rcases sl_opt (sl_tok n (C q)) with h | ⟨t, h⟩
  · exact Or.inl (sl_pq_0 h)
  · rw [sl_pq_1 h, sl_pb]
    have h0 := hP q t hq h (4 * j + 0) (by omega)
    have h1 := hP q t hq h (4 * j + 1) (by omega)
    have h2 := hP q t hq h (4 * j + 2) (by omega)
    have h3 := hP q t hq h (4 * j + 3) (by omega)
    split
    · exact Or.inl rfl
    · split
      · exact h0
      · split
        · exact Or.inl rfl
        · split
          · exact h1
          · split
            · exact Or.inl rfl
            · split
              · exact h2
              · split
                · exact Or.inl rfl
                · rename_i hn
                  split
                  · exact h3
                  · rcases h3 with e | ⟨q', h5, h6⟩
                    · exact absurd e hn
                    · rw [h6, nI_clamp (by omega)]
                      rcases sl_la_in n C E (nI j) q' with e | ⟨q2, h7, h8, -⟩
                      · exact Or.inl e
                      · exact Or.inr ⟨q2, by omega, h8⟩
theorem sl_and_t {a b : Bool} (h1 : a = true) (h2 : b = true) : (a && b) = true := by rw [h1, h2]; rfl
set_option maxHeartbeats 4000000 in
set_option maxRecDepth 100000 in
theorem kX4_takesEffect (l : Launch) (hlt : l.stackTraces = false) (Γ : sl_G) (g : sl_W) (α : Nat → Nat) (β : Nat → Nat × Nat × Nat) (n : Nat) (ep : Int32) (tl : Nat) (lo : Bool) (T C : Nat → Int32) (E : Nat → sl_Ent) (hK : sl_Cls Γ α β n ep tl lo T C E g) (x : Int32) : vx_Met l yX4_takesEffect [Cond.code yX4_takesEffect cX4_takesEffect 2 (some .boolean)] ({ frames := 6, cells := 1, slots := 6, locals := 107 } : Room) (va_Pc [.ref (α 0), .int x] (sl_B Γ g)) (sl_Qi Γ (fun r g' => (∃ b, x = nI b ∧ b < sl_kn C ∧ r = sl_bi (sl_ev n C E b)) ∧ sl_Cls Γ α β n ep tl lo T C E g' ∧ sl_fr g g') (fun g' => g')) (sl_X Γ g (fun E0 => E0 = "java/lang/IndexOutOfBoundsException" ∧ ¬ (0 ≤ x.toInt ∧ x.toInt < sl_kn C))) 1 6 (sl_A Γ) := by
  refine sl_entx (by decide) (Nat.le_of_ble_eq_true rfl) ?_
  intro p e s m below meth c ls hC hr hno hG hl
  have hx := hC.1
  have hb := hC.2.1
  have hl : lv_has ls 2 [(0, .ref (α 0)), (1, .int x)] := hl
  have hS := hK.ro
  obtain ⟨h0, h1, h2, h3, h4, h5, ⟨F, X, fd, h6, h7, h8⟩, hE, hN, hn9, ht9⟩ := id hK
  refine lv_iload_n hx hb dX4_takesEffect_0 rfl (lv_at hl 1 rfl) ?_
  refine lv_if_lt (tgt := 15) hx hb dX4_takesEffect_1 (by decide) (fun c_1 => ?_) (fun c_1 => ?_)
  · exact sl_thr (text := "not a known position") (rest := []) hlt hC hG ⟨rfl, fun z => by rw [sl_ltI, sl_i0] at c_1; omega⟩ (by decide) lk_RX4_98 ini_IndexOutOfBoundsException (by decide +kernel) sl_hatO sl_otO hl.1 dX4_takesEffect_15 dX4_takesEffect_18 dX4_takesEffect_19 dX4_takesEffect_21 dX4_takesEffect_24 hno (Nat.le_of_ble_eq_true rfl) (Nat.le_of_ble_eq_true rfl) (Nat.le_of_ble_eq_true rfl) (Nat.le_of_ble_eq_true rfl) (Nat.le_of_ble_eq_true rfl) (Nat.le_of_ble_eq_true rfl)
  · refine lv_iload_n hx hb dX4_takesEffect_4 rfl (lv_at hl 1 rfl) ?_
    refine lv_aload_n hx hb dX4_takesEffect_5 rfl (lv_at hl 0 rfl) ?_
    refine sl_get (C := RX4) (T := TX4) (N := 8) hC hG 0 h0 rfl la_4 1 (by decide) lk_RX4_18 rfl rfl dX4_takesEffect_6 ?_
    refine sl_calli (sl_runVN (As := []) (rest := [.int x]) hC hG (kX0_completeFromStart l Γ g (α 2) (α 3) C h2 h3) mi_X0_completeFromStart lk_RX4_147 2 h2 rfl rfl rfl ⟨Nat.le_of_ble_eq_true rfl, Nat.le_of_ble_eq_true rfl⟩ rfl hl.1 rfl (Nat.le_of_ble_eq_true rfl) dX4_takesEffect_9 ⟨Nat.le_of_ble_eq_true rfl, Nat.le_of_ble_eq_true rfl⟩) hG (fun r_9 u_9 H locs hr_9 hG => ?_)
    subst hr_9
    refine lv_icmp_lt (tgt := 25) hx hb dX4_takesEffect_12 (by decide) (fun c_12 => ?_) (fun c_12 => ?_)
    · have hx1 : 0 ≤ x.toInt := by rw [sl_ltI, sl_i0] at c_1; omega
      have hx2 : x.toInt < sl_kn C := by rw [sl_ltI, nI_toInt (by have := sl_kn_le C; omega)] at c_12; exact c_12
      have hkn := sl_kn_le C
      obtain ⟨b, hb9, rfl⟩ := sl_nat (v := x) (n := 119) hx1 (by omega) (by omega)
      rw [nI_toInt (by omega)] at hx2
      refine lv_aload_n hx hb dX4_takesEffect_25 rfl (lv_at hl 0 rfl) ?_
      refine lv_iload_n hx hb dX4_takesEffect_26 rfl (lv_at hl 1 rfl) ?_
      refine lv_iconst (v := 1) hx hb dX4_takesEffect_27 (by decide) ?_
      refine lv_iadd hx hb dX4_takesEffect_28 ?_
      refine sl_topi (y := nI (b + 1)) (nI_add b 1) ?_
      refine sl_callv (sl_runV (As := [.int (nI (b + 1))]) (rest := []) hC hG (kX4_foldUpTo l Γ g α β n C E hS F X fd h6 h7 h8 (b + 1) (by omega)) mi_X4_foldUpTo lk_RX4_152 0 h0 rfl rfl rfl ⟨Nat.le_of_ble_eq_true rfl, Nat.le_of_ble_eq_true rfl⟩ rfl hl.1 rfl (Nat.le_of_ble_eq_true rfl) dX4_takesEffect_29 ⟨Nat.le_of_ble_eq_true rfl, Nat.le_of_ble_eq_true rfl⟩) hG (fun u_29 H locs hr_29 hG => ?_)
      obtain ⟨w6, ⟨F9, w7, hF⟩, ⟨X9, w8⟩, hw⟩ := id hr_29
      refine lv_aload_n hx hb dX4_takesEffect_32 rfl (lv_at hl 0 rfl) ?_
      refine sl_get (C := RX4) (T := TX4) (N := 8) hC hG 0 ((hw 0 (by decide) (by decide) (by decide)).trans h0) rfl la_4 3 (by decide) lk_RX4_32 rfl rfl dX4_takesEffect_33 ?_
      refine lv_iload_n hx hb dX4_takesEffect_36 rfl (lv_at hl 1 rfl) ?_
      refine sl_calli (sl_runVN (As := [.int (nI b)]) (rest := []) hC hG (kX2_hasEffect l Γ u_29 (α 6) (α 7) (α 8) F9 X9 (b + 1) w6 w7 w8 (by omega) b (by omega)) mi_X2_hasEffect lk_RX4_156 6 w6 rfl rfl rfl ⟨Nat.le_of_ble_eq_true rfl, Nat.le_of_ble_eq_true rfl⟩ rfl hl.1 rfl (Nat.le_of_ble_eq_true rfl) dX4_takesEffect_37 ⟨Nat.le_of_ble_eq_true rfl, Nat.le_of_ble_eq_true rfl⟩) hG (fun r_37 u_37 H locs hr_37 hG => ?_)
      subst hr_37
      exact vx_ret (sl_rz (v := sl_bi (decide (b < b + 1) && !decide (F9 b = 0))) hC hr (sl_nb _) hG u_29 ⟨⟨b, rfl, by omega, congrArg sl_bi (sl_he hF (by omega))⟩, sl_Cls_w hK hr_29⟩ rfl (Nat.le_of_ble_eq_true rfl) (Nat.le_of_ble_eq_true rfl) dX4_takesEffect_40)
    · exact sl_thr (text := "not a known position") (rest := []) hlt hC hG ⟨rfl, fun z => by rw [sl_ltI, nI_toInt (by have := sl_kn_le C; omega)] at c_12; omega⟩ (by decide) lk_RX4_98 ini_IndexOutOfBoundsException (by decide +kernel) sl_hatO sl_otO hl.1 dX4_takesEffect_15 dX4_takesEffect_18 dX4_takesEffect_19 dX4_takesEffect_21 dX4_takesEffect_24 hno (Nat.le_of_ble_eq_true rfl) (Nat.le_of_ble_eq_true rfl) (Nat.le_of_ble_eq_true rfl) (Nat.le_of_ble_eq_true rfl) (Nat.le_of_ble_eq_true rfl) (Nat.le_of_ble_eq_true rfl)
set_option maxHeartbeats 4000000 in
set_option maxRecDepth 100000 in
theorem kX4_latest (l : Launch) (hlt : l.stackTraces = false) (Γ : sl_G) (g : sl_W) (α : Nat → Nat) (β : Nat → Nat × Nat × Nat) (n : Nat) (ep : Int32) (tl : Nat) (lo : Bool) (T C : Nat → Int32) (E : Nat → sl_Ent) (hK : sl_Cls Γ α β n ep tl lo T C E g) (x y : Int32) : vx_Met l yX4_latest [Cond.code yX4_latest cX4_latest 3 (some .int)] ({ frames := 6, cells := 1, slots := 6, locals := 128 } : Room) (va_Pc [.ref (α 0), .int x, .int y] (sl_B Γ g)) (sl_Qi Γ (fun r (_ : Unit) => (sl_in x 0 3 && sl_in y 0 (nI (sl_kn C))) = true ∧ r = sl_la n C E x y.toNatClampNeg) (fun _ => g)) (sl_X Γ g (fun E0 => E0 = "java/lang/IndexOutOfBoundsException" ∧ (sl_in x 0 3 && sl_in y 0 (nI (sl_kn C))) = false)) 1 6 (sl_A Γ) := by
  refine sl_entx (by decide) (Nat.le_of_ble_eq_true rfl) ?_
  intro p e s m below meth c ls hC hr hno hG hl
  have hx := hC.1
  have hb := hC.2.1
  have hl : lv_has ls 3 [(0, .ref (α 0)), (1, .int x), (2, .int y)] := hl
  have hS := hK.ro
  obtain ⟨h0, h1, h2, h3, h4, h5, ⟨F, X, fd, h6, h7, h8⟩, hE, hN, hn9, ht9⟩ := id hK
  refine lv_iload_n hx hb dX4_latest_0 rfl (lv_at hl 1 rfl) ?_
  refine sl_calli (sl_runS (As := [.int x]) (rest := []) hC hG (kX4_isStream l Γ g x) mi_X4_isStream lk_RX4_130 rfl rfl ⟨Nat.le_of_ble_eq_true rfl, Nat.le_of_ble_eq_true rfl⟩ rfl hl.1 rfl (Nat.le_of_ble_eq_true rfl) dX4_latest_1 ⟨Nat.le_of_ble_eq_true rfl, Nat.le_of_ble_eq_true rfl⟩) hG (fun r_1 u_1 H locs hr_1 hG => ?_)
  subst hr_1
  refine lv_if_eq (tgt := 15) hx hb dX4_latest_4 (by decide) (fun c_4 => ?_) (fun c_4 => ?_)
  · have c_4 := sl_bF c_4
    exact sl_thr (text := "no such stream or known position") (rest := []) hlt hC hG ⟨rfl, by rw [c_4]; rfl⟩ (by decide) lk_RX4_98 ini_IndexOutOfBoundsException (by decide +kernel) sl_hatO sl_otO hl.1 dX4_latest_15 dX4_latest_18 dX4_latest_19 dX4_latest_21 dX4_latest_24 hno (Nat.le_of_ble_eq_true rfl) (Nat.le_of_ble_eq_true rfl) (Nat.le_of_ble_eq_true rfl) (Nat.le_of_ble_eq_true rfl) (Nat.le_of_ble_eq_true rfl) (Nat.le_of_ble_eq_true rfl)
  · have c_4 := sl_bT c_4
    refine lv_aload_n hx hb dX4_latest_7 rfl (lv_at hl 0 rfl) ?_
    refine lv_iload_n hx hb dX4_latest_8 rfl (lv_at hl 2 rfl) ?_
    refine sl_calli (sl_runV (As := [.int y]) (rest := []) hC hG (kX4_isEndOfKnown l Γ g α β n C E hS y) mi_X4_isEndOfKnown lk_RX4_159 0 h0 rfl rfl rfl ⟨Nat.le_of_ble_eq_true rfl, Nat.le_of_ble_eq_true rfl⟩ rfl hl.1 rfl (Nat.le_of_ble_eq_true rfl) dX4_latest_9 ⟨Nat.le_of_ble_eq_true rfl, Nat.le_of_ble_eq_true rfl⟩) hG (fun r_9 u_9 H locs hr_9 hG => ?_)
    subst hr_9
    refine lv_if_ne (tgt := 25) hx hb dX4_latest_12 (by decide) (fun c_12 => ?_) (fun c_12 => ?_)
    · have c_12 := sl_bT c_12
      have hkn := sl_kn_le C
      obtain ⟨b, hb9, rfl⟩ := sl_inN (n := sl_kn C) c_12 (nI_toInt (by omega)) (by omega)
      refine lv_aload_n hx hb dX4_latest_25 rfl (lv_at hl 0 rfl) ?_
      refine lv_iload_n hx hb dX4_latest_26 rfl (lv_at hl 1 rfl) ?_
      refine lv_iload_n hx hb dX4_latest_27 rfl (lv_at hl 2 rfl) ?_
      refine sl_calli (sl_runV (As := [.int x, .int (nI b)]) (rest := []) hC hG (kX4_latestAhead l Γ g α β n C E hS b (by omega) x) mi_X4_latestAhead lk_RX4_172 0 h0 rfl rfl rfl ⟨Nat.le_of_ble_eq_true rfl, Nat.le_of_ble_eq_true rfl⟩ rfl hl.1 rfl (Nat.le_of_ble_eq_true rfl) dX4_latest_28 ⟨Nat.le_of_ble_eq_true rfl, Nat.le_of_ble_eq_true rfl⟩) hG (fun r_28 u_28 H locs hr_28 hG => ?_)
      subst hr_28
      exact vx_ret (sl_ri (v := sl_la n C E x b) hC hr hG () ⟨sl_and_t c_4 c_12, by rw [nI_clamp (by omega)]⟩ rfl (Nat.le_of_ble_eq_true rfl) (Nat.le_of_ble_eq_true rfl) dX4_latest_31)
    · have c_12 := sl_bF c_12
      exact sl_thr (text := "no such stream or known position") (rest := []) hlt hC hG ⟨rfl, by rw [c_12]; exact Bool.and_false _⟩ (by decide) lk_RX4_98 ini_IndexOutOfBoundsException (by decide +kernel) sl_hatO sl_otO hl.1 dX4_latest_15 dX4_latest_18 dX4_latest_19 dX4_latest_21 dX4_latest_24 hno (Nat.le_of_ble_eq_true rfl) (Nat.le_of_ble_eq_true rfl) (Nat.le_of_ble_eq_true rfl) (Nat.le_of_ble_eq_true rfl) (Nat.le_of_ble_eq_true rfl) (Nat.le_of_ble_eq_true rfl)
set_option maxHeartbeats 4000000 in
set_option maxRecDepth 100000 in
theorem kX4_value (l : Launch) (hlt : l.stackTraces = false) (Γ : sl_G) (g : sl_W) (α : Nat → Nat) (β : Nat → Nat × Nat × Nat) (n : Nat) (ep : Int32) (tl : Nat) (lo : Bool) (T C : Nat → Int32) (E : Nat → sl_Ent) (hK : sl_Cls Γ α β n ep tl lo T C E g) (x y : Int32) : vx_Met l yX4_value [Cond.code yX4_value cX4_value 5 (some .int)] ({ frames := 6, cells := 1, slots := 6, locals := 128 } : Room) (va_Pc [.ref (α 0), .int x, .int y] (sl_B Γ g)) (sl_Qi Γ (fun r g' => ((sl_in x 0 3 && sl_in y 0 (nI (sl_kn C))) = true ∧ r = sl_vs n C E x y.toNatClampNeg) ∧ sl_Cls Γ α β n ep tl lo T C E g' ∧ sl_fr g g') (fun g' => g')) (sl_X Γ g (fun E0 => E0 = "java/lang/IndexOutOfBoundsException" ∧ (sl_in x 0 3 && sl_in y 0 (nI (sl_kn C))) = false)) 1 6 (sl_A Γ) := by
  refine sl_entx (by decide) (Nat.le_of_ble_eq_true rfl) ?_
  intro p e s m below meth c ls hC hr hno hG hl
  have hx := hC.1
  have hb := hC.2.1
  have hl : lv_has ls 5 [(0, .ref (α 0)), (1, .int x), (2, .int y)] := hl
  have hS := hK.ro
  obtain ⟨h0, h1, h2, h3, h4, h5, ⟨F, X, fd, h6, h7, h8⟩, hE, hN, hn9, ht9⟩ := id hK
  refine lv_iload_n hx hb dX4_value_0 rfl (lv_at hl 1 rfl) ?_
  refine sl_calli (sl_runS (As := [.int x]) (rest := []) hC hG (kX4_isStream l Γ g x) mi_X4_isStream lk_RX4_130 rfl rfl ⟨Nat.le_of_ble_eq_true rfl, Nat.le_of_ble_eq_true rfl⟩ rfl hl.1 rfl (Nat.le_of_ble_eq_true rfl) dX4_value_1 ⟨Nat.le_of_ble_eq_true rfl, Nat.le_of_ble_eq_true rfl⟩) hG (fun r_1 u_1 H locs hr_1 hG => ?_)
  subst hr_1
  refine lv_if_eq (tgt := 15) hx hb dX4_value_4 (by decide) (fun c_4 => ?_) (fun c_4 => ?_)
  · have c_4 := sl_bF c_4
    exact sl_thr (text := "no such stream or known position") (rest := []) hlt hC hG ⟨rfl, by rw [c_4]; rfl⟩ (by decide) lk_RX4_98 ini_IndexOutOfBoundsException (by decide +kernel) sl_hatO sl_otO hl.1 dX4_value_15 dX4_value_18 dX4_value_19 dX4_value_21 dX4_value_24 hno (Nat.le_of_ble_eq_true rfl) (Nat.le_of_ble_eq_true rfl) (Nat.le_of_ble_eq_true rfl) (Nat.le_of_ble_eq_true rfl) (Nat.le_of_ble_eq_true rfl) (Nat.le_of_ble_eq_true rfl)
  · have c_4 := sl_bT c_4
    refine lv_aload_n hx hb dX4_value_7 rfl (lv_at hl 0 rfl) ?_
    refine lv_iload_n hx hb dX4_value_8 rfl (lv_at hl 2 rfl) ?_
    refine sl_calli (sl_runV (As := [.int y]) (rest := []) hC hG (kX4_isEndOfKnown l Γ g α β n C E hS y) mi_X4_isEndOfKnown lk_RX4_159 0 h0 rfl rfl rfl ⟨Nat.le_of_ble_eq_true rfl, Nat.le_of_ble_eq_true rfl⟩ rfl hl.1 rfl (Nat.le_of_ble_eq_true rfl) dX4_value_9 ⟨Nat.le_of_ble_eq_true rfl, Nat.le_of_ble_eq_true rfl⟩) hG (fun r_9 u_9 H locs hr_9 hG => ?_)
    subst hr_9
    refine lv_if_ne (tgt := 25) hx hb dX4_value_12 (by decide) (fun c_12 => ?_) (fun c_12 => ?_)
    · have c_12 := sl_bT c_12
      have hkn := sl_kn_le C
      obtain ⟨b, hb9, rfl⟩ := sl_inN (n := sl_kn C) c_12 (nI_toInt (by omega)) (by omega)
      refine lv_aload_n hx hb dX4_value_25 rfl (lv_at hl 0 rfl) ?_
      refine lv_iload_n hx hb dX4_value_26 rfl (lv_at hl 2 rfl) ?_
      refine sl_callv (sl_runV (As := [.int (nI b)]) (rest := []) hC hG (kX4_foldUpTo l Γ g α β n C E hS F X fd h6 h7 h8 b (by omega)) mi_X4_foldUpTo lk_RX4_152 0 h0 rfl rfl rfl ⟨Nat.le_of_ble_eq_true rfl, Nat.le_of_ble_eq_true rfl⟩ rfl hl.1 rfl (Nat.le_of_ble_eq_true rfl) dX4_value_27 ⟨Nat.le_of_ble_eq_true rfl, Nat.le_of_ble_eq_true rfl⟩) hG (fun u_27 H locs hr_27 hG => ?_)
      obtain ⟨w6, ⟨F9, w7, hF⟩, ⟨X9, w8⟩, hw⟩ := id hr_27
      refine lv_iconst (v := 0) hx hb dX4_value_30 (by decide) ?_
      refine lv_istore_n (lv' := [(3, .int 0), (0, .ref (α 0)), (1, .int x), (2, .int (nI b))]) hx hb dX4_value_31 rfl hl (by decide) rfl (fun ls hl => ?_)
      refine lv_iconst (v := 0) hx hb dX4_value_32 (by decide) ?_
      refine lv_istore (lv' := [(4, .int 0), (3, .int 0), (0, .ref (α 0)), (1, .int x), (2, .int (nI b))]) hx hb dX4_value_33 hl (by decide) rfl (fun ls hl => ?_)
      have loop_35 : ∀ (fuel k : Nat), k ≤ b → b + 1 ≤ k + fuel → ∀ (H : Heap) (locs : List Loc), sl_I Γ u_27 s H locs → ∀ (ls : Array Slot), lv_has ls 5 [(0, .ref (α 0)), (1, .int x), (2, .int (nI b)), (3, .int (sl_vs n C E x k)), (4, .int (nI k))] → W p l e ({ frames := 6, cells := 1, slots := 6, locals := 128 } : Room) s m ([.ref (α 0), .int x, .int (nI b)] : List Value).toArray below meth c H locs 0 0 (vx_MQ below (sl_Qi Γ (fun r g' => ((sl_in x 0 3 && sl_in (nI b) 0 (nI (sl_kn C))) = true ∧ r = sl_vs n C E x (nI b).toNatClampNeg) ∧ sl_Cls Γ α β n ep tl lo T C E g' ∧ sl_fr g g') (fun g' => g')) (sl_X Γ g (fun E0 => E0 = "java/lang/IndexOutOfBoundsException" ∧ (sl_in x 0 3 && sl_in (nI b) 0 (nI (sl_kn C))) = false)) ([.ref (α 0), .int x, .int (nI b)] : List Value).toArray s 1 6 (sl_A Γ)) (F0 m 35 ls []) := by
        intro fuel
        induction fuel with
        | zero =>
          intro k  h1 h2
          exact absurd h2 (by omega)
        | succ fuel ih_35 =>
          intro k  hk_35 hn_35  H locs hG ls hl
          refine lv_iload hx hb dX4_value_35 (lv_at hl 4 rfl) ?_
          refine lv_iload_n hx hb dX4_value_37 rfl (lv_at hl 2 rfl) ?_
          refine lv_icmp_ge (tgt := 66) hx hb dX4_value_38 (by decide) (fun c_38 => ?_) (fun c_38 => ?_)
          · have n_38 : b ≤ k := (nI_leI (a := b) (b := k) (by omega) (by omega)).mp c_38
            refine lv_iload_n hx hb dX4_value_66 rfl (lv_at hl 3 rfl) ?_
            have hk9 : k = b := by omega
            subst hk9
            exact vx_ret (sl_ri (v := sl_vs n C E x k) hC hr hG u_27 ⟨⟨sl_and_t c_4 c_12, by rw [nI_clamp (by omega)]⟩, sl_Cls_w hK hr_27⟩ rfl (Nat.le_of_ble_eq_true rfl) (Nat.le_of_ble_eq_true rfl) dX4_value_67)
          · have n_38 : ¬ (b ≤ k) := fun z => c_38 ((nI_leI (a := b) (b := k) (by omega) (by omega)).mpr z)
            refine lv_aload_n hx hb dX4_value_41 rfl (lv_at hl 0 rfl) ?_
            refine lv_iload hx hb dX4_value_42 (lv_at hl 4 rfl) ?_
            refine lv_iload_n hx hb dX4_value_44 rfl (lv_at hl 1 rfl) ?_
            refine sl_calli (sl_runV (As := [.int (nI k), .int x]) (rest := []) hC hG (kX4_holdsStream l Γ u_27 α β n C E (sl_Ro_w hS hw) k (by omega) x) mi_X4_holdsStream lk_RX4_164 0 ((hw 0 (by decide) (by decide) (by decide)).trans h0) rfl rfl rfl ⟨Nat.le_of_ble_eq_true rfl, Nat.le_of_ble_eq_true rfl⟩ rfl hl.1 rfl (Nat.le_of_ble_eq_true rfl) dX4_value_45 ⟨Nat.le_of_ble_eq_true rfl, Nat.le_of_ble_eq_true rfl⟩) hG (fun r_45 u_45 H locs hr_45 hG => ?_)
            subst hr_45
            refine lv_if_eq (tgt := 60) hx hb dX4_value_48 (by decide) (fun c_48 => ?_) (fun c_48 => ?_)
            · have c_48 := sl_bF c_48
              have hl : lv_has ls 5 [(0, .ref (α 0)), (1, .int x), (2, .int (nI b)), (3, .int (sl_vs n C E x (k + 1))), (4, .int (nI k))] := by rw [show sl_vs n C E x (k + 1) = sl_vs n C E x k from (by rw [sl_vs, if_neg (by rw [c_48]; decide)])]; exact hl
              refine lv_iinc (v := nI (k + 1)) (lv' := [(4, .int (nI (k + 1))), (0, .ref (α 0)), (1, .int x), (2, .int (nI b)), (3, .int (sl_vs n C E x (k + 1)))]) hx hb dX4_value_60 hl (k := 4) rfl (nI_1 k) (by decide) rfl (fun ls hl => ?_)
              refine lv_goto (tgt := 35) hx hb dX4_value_63 (by decide) ?_
              exact ih_35 (k + 1) (by omega) (by omega) _ _ hG _ (lv_sub hl [1, 2, 3, 4, 0] rfl)
            · have c_48 := sl_bT c_48
              refine lv_iload_n hx hb dX4_value_51 rfl (lv_at hl 3 rfl) ?_
              refine lv_aload_n hx hb dX4_value_52 rfl (lv_at hl 0 rfl) ?_
              refine lv_iload hx hb dX4_value_53 (lv_at hl 4 rfl) ?_
              refine sl_calli (sl_runV (As := [.int (nI k)]) (rest := [.int (sl_vs n C E x k)]) hC hG (kX4_effectOf l Γ u_27 α β n C E (sl_Ro_w hS hw) F9 X9 b w6 w7 w8 hF (by omega) k (by omega)) mi_X4_effectOf lk_RX4_168 0 ((hw 0 (by decide) (by decide) (by decide)).trans h0) rfl rfl rfl ⟨Nat.le_of_ble_eq_true rfl, Nat.le_of_ble_eq_true rfl⟩ rfl hl.1 rfl (Nat.le_of_ble_eq_true rfl) dX4_value_55 ⟨Nat.le_of_ble_eq_true rfl, Nat.le_of_ble_eq_true rfl⟩) hG (fun r_55 u_55 H locs hr_55 hG => ?_)
              subst hr_55
              refine lv_iadd hx hb dX4_value_58 ?_
              refine lv_istore_n (lv' := [(3, .int ((sl_vs n C E x k) + (sl_am n C E k))), (0, .ref (α 0)), (1, .int x), (2, .int (nI b)), (4, .int (nI k))]) hx hb dX4_value_59 rfl hl (by decide) rfl (fun ls hl => ?_)
              have hl : lv_has ls 5 [(3, .int (sl_vs n C E x (k + 1))), (0, .ref (α 0)), (1, .int x), (2, .int (nI b)), (4, .int (nI k))] := by rw [show sl_vs n C E x (k + 1) = (sl_vs n C E x k) + (sl_am n C E k) from (by rw [sl_vs, if_pos c_48])]; exact hl
              refine lv_iinc (v := nI (k + 1)) (lv' := [(4, .int (nI (k + 1))), (3, .int (sl_vs n C E x (k + 1))), (0, .ref (α 0)), (1, .int x), (2, .int (nI b))]) hx hb dX4_value_60 hl (k := 4) rfl (nI_1 k) (by decide) rfl (fun ls hl => ?_)
              refine lv_goto (tgt := 35) hx hb dX4_value_63 (by decide) ?_
              exact ih_35 (k + 1) (by omega) (by omega) _ _ hG _ (lv_sub hl [2, 3, 4, 1, 0] rfl)
      exact loop_35 (b + 1) 0 (by omega) (by omega) _ _ hG _ (lv_sub hl [2, 3, 4, 1, 0] rfl)
    · have c_12 := sl_bF c_12
      exact sl_thr (text := "no such stream or known position") (rest := []) hlt hC hG ⟨rfl, by rw [c_12]; exact Bool.and_false _⟩ (by decide) lk_RX4_98 ini_IndexOutOfBoundsException (by decide +kernel) sl_hatO sl_otO hl.1 dX4_value_15 dX4_value_18 dX4_value_19 dX4_value_21 dX4_value_24 hno (Nat.le_of_ble_eq_true rfl) (Nat.le_of_ble_eq_true rfl) (Nat.le_of_ble_eq_true rfl) (Nat.le_of_ble_eq_true rfl) (Nat.le_of_ble_eq_true rfl) (Nat.le_of_ble_eq_true rfl)
theorem sl_la_lt (n : Nat) (C : Nat → Int32) (E : Nat → sl_Ent) (x : Int32) (b : Nat) : sl_la n C E x b = -1 ∨ ∃ q, q < b ∧ sl_la n C E x b = nI q := (sl_la_in n C E x b).imp id fun ⟨q, h1, h2, _⟩ => ⟨q, h1, h2⟩
theorem sl_or_lt {z : Int32} {q b : Nat} (h : z = -1 ∨ ∃ q', q' < q ∧ z = nI q') (hb : q ≤ b) : z = -1 ∨ ∃ q', q' < b ∧ z = nI q' := h.imp id fun ⟨q', h1, h2⟩ => ⟨q', by omega, h2⟩
set_option maxHeartbeats 4000000 in
set_option maxRecDepth 100000 in
theorem kX4_valueByPointers (l : Launch) (hlt : l.stackTraces = false) (Γ : sl_G) (g : sl_W) (α : Nat → Nat) (β : Nat → Nat × Nat × Nat) (n : Nat) (ep : Int32) (tl : Nat) (lo : Bool) (T C : Nat → Int32) (E : Nat → sl_Ent) (hK : sl_Cls Γ α β n ep tl lo T C E g) (hP : ∀ t, t < n → ∀ j, j < 16 → sl_pt ((E t).2.2.2.2.2.2.1 j)) (hPP : sl_PP n C E) (x y : Int32) : vx_Met l yX4_valueByPointers [Cond.code yX4_valueByPointers cX4_valueByPointers 6 (some .int)] ({ frames := 6, cells := 1, slots := 6, locals := 135 } : Room) (va_Pc [.ref (α 0), .int x, .int y] (sl_B Γ g)) (sl_Qi Γ (fun r g' => (∃ j0, x = nI j0 ∧ j0 < 4 ∧ (sl_in x 0 3 && sl_in y 0 (nI (sl_kn C))) = true ∧ r = sl_vp n C E j0 120 (sl_la n C E x y.toNatClampNeg) 0) ∧ sl_Cls Γ α β n ep tl lo T C E g' ∧ sl_fr g g') (fun g' => g')) (sl_X Γ g (fun E0 => E0 = "java/lang/IndexOutOfBoundsException" ∧ (sl_in x 0 3 && sl_in y 0 (nI (sl_kn C))) = false)) 1 6 (sl_A Γ) := by
  refine sl_entx (by decide) (Nat.le_of_ble_eq_true rfl) ?_
  intro p e s m below meth c ls hC hr hno hG hl
  have hx := hC.1
  have hb := hC.2.1
  have hl : lv_has ls 6 [(0, .ref (α 0)), (1, .int x), (2, .int y)] := hl
  have hS := hK.ro
  obtain ⟨h0, h1, h2, h3, h4, h5, ⟨F, X, fd, h6, h7, h8⟩, hE, hN, hn9, ht9⟩ := id hK
  refine lv_iload_n hx hb dX4_valueByPointers_0 rfl (lv_at hl 1 rfl) ?_
  refine sl_calli (sl_runS (As := [.int x]) (rest := []) hC hG (kX4_isStream l Γ g x) mi_X4_isStream lk_RX4_130 rfl rfl ⟨Nat.le_of_ble_eq_true rfl, Nat.le_of_ble_eq_true rfl⟩ rfl hl.1 rfl (Nat.le_of_ble_eq_true rfl) dX4_valueByPointers_1 ⟨Nat.le_of_ble_eq_true rfl, Nat.le_of_ble_eq_true rfl⟩) hG (fun r_1 u_1 H locs hr_1 hG => ?_)
  subst hr_1
  refine lv_if_eq (tgt := 15) hx hb dX4_valueByPointers_4 (by decide) (fun c_4 => ?_) (fun c_4 => ?_)
  · have c_4 := sl_bF c_4
    exact sl_thr (text := "no such stream or known position") (rest := []) hlt hC hG ⟨rfl, by rw [c_4]; rfl⟩ (by decide) lk_RX4_98 ini_IndexOutOfBoundsException (by decide +kernel) sl_hatO sl_otO hl.1 dX4_valueByPointers_15 dX4_valueByPointers_18 dX4_valueByPointers_19 dX4_valueByPointers_21 dX4_valueByPointers_24 hno (Nat.le_of_ble_eq_true rfl) (Nat.le_of_ble_eq_true rfl) (Nat.le_of_ble_eq_true rfl) (Nat.le_of_ble_eq_true rfl) (Nat.le_of_ble_eq_true rfl) (Nat.le_of_ble_eq_true rfl)
  · have c_4 := sl_bT c_4
    refine lv_aload_n hx hb dX4_valueByPointers_7 rfl (lv_at hl 0 rfl) ?_
    refine lv_iload_n hx hb dX4_valueByPointers_8 rfl (lv_at hl 2 rfl) ?_
    refine sl_calli (sl_runV (As := [.int y]) (rest := []) hC hG (kX4_isEndOfKnown l Γ g α β n C E hS y) mi_X4_isEndOfKnown lk_RX4_159 0 h0 rfl rfl rfl ⟨Nat.le_of_ble_eq_true rfl, Nat.le_of_ble_eq_true rfl⟩ rfl hl.1 rfl (Nat.le_of_ble_eq_true rfl) dX4_valueByPointers_9 ⟨Nat.le_of_ble_eq_true rfl, Nat.le_of_ble_eq_true rfl⟩) hG (fun r_9 u_9 H locs hr_9 hG => ?_)
    subst hr_9
    refine lv_if_ne (tgt := 25) hx hb dX4_valueByPointers_12 (by decide) (fun c_12 => ?_) (fun c_12 => ?_)
    · have c_12 := sl_bT c_12
      have hkn := sl_kn_le C
      obtain ⟨b, hb9, rfl⟩ := sl_inN (n := sl_kn C) c_12 (nI_toInt (by omega)) (by omega)
      obtain ⟨j, hj9, rfl⟩ := sl_c3 c_4
      refine lv_aload_n hx hb dX4_valueByPointers_25 rfl (lv_at hl 0 rfl) ?_
      refine lv_iload_n hx hb dX4_valueByPointers_26 rfl (lv_at hl 2 rfl) ?_
      refine sl_callv (sl_runV (As := [.int (nI b)]) (rest := []) hC hG (kX4_foldUpTo l Γ g α β n C E hS F X fd h6 h7 h8 b (by omega)) mi_X4_foldUpTo lk_RX4_152 0 h0 rfl rfl rfl ⟨Nat.le_of_ble_eq_true rfl, Nat.le_of_ble_eq_true rfl⟩ rfl hl.1 rfl (Nat.le_of_ble_eq_true rfl) dX4_valueByPointers_27 ⟨Nat.le_of_ble_eq_true rfl, Nat.le_of_ble_eq_true rfl⟩) hG (fun u_27 H locs hr_27 hG => ?_)
      obtain ⟨w6, ⟨F9, w7, hF⟩, ⟨X9, w8⟩, hw⟩ := id hr_27
      refine lv_iconst (v := 0) hx hb dX4_valueByPointers_30 (by decide) ?_
      refine lv_istore_n (lv' := [(3, .int 0), (0, .ref (α 0)), (1, .int (nI j)), (2, .int (nI b))]) hx hb dX4_valueByPointers_31 rfl hl (by decide) rfl (fun ls hl => ?_)
      refine lv_aload_n hx hb dX4_valueByPointers_32 rfl (lv_at hl 1 rfl) ?_
      refine lv_iload_n hx hb dX4_valueByPointers_33 rfl (lv_at hl 2 rfl) ?_
      refine lv_iload_n hx hb dX4_valueByPointers_34 rfl (lv_at hl 3 rfl) ?_
      refine sl_calli (sl_runV (As := [.int (nI j), .int (nI b)]) (rest := []) hC hG (kX4_latestAhead l Γ u_27 α β n C E (sl_Ro_w hS hw) b (by omega) (nI j)) mi_X4_latestAhead lk_RX4_172 0 ((hw 0 (by decide) (by decide) (by decide)).trans h0) rfl rfl rfl ⟨Nat.le_of_ble_eq_true rfl, Nat.le_of_ble_eq_true rfl⟩ rfl hl.1 rfl (Nat.le_of_ble_eq_true rfl) dX4_valueByPointers_35 ⟨Nat.le_of_ble_eq_true rfl, Nat.le_of_ble_eq_true rfl⟩) hG (fun r_35 u_35 H locs hr_35 hG => ?_)
      subst hr_35
      refine lv_istore (lv' := [(4, .int (sl_la n C E (nI j) b)), (3, .int 0), (0, .ref (α 0)), (1, .int (nI j)), (2, .int (nI b))]) hx hb dX4_valueByPointers_38 hl (by decide) rfl (fun ls hl => ?_)
      refine lv_iconst (v := 0) hx hb dX4_valueByPointers_40 (by decide) ?_
      refine lv_istore (lv' := [(5, .int 0), (4, .int (sl_la n C E (nI j) b)), (3, .int 0), (0, .ref (α 0)), (1, .int (nI j)), (2, .int (nI b))]) hx hb dX4_valueByPointers_41 hl (by decide) rfl (fun ls hl => ?_)
      have loop_43 : ∀ (fuel k : Nat) (sum : Int32) (z : Int32), k ≤ 120 → 120 + 1 ≤ k + fuel → (z = -1 ∨ ∃ q, q < b ∧ z = nI q) → (sl_vp n C E j (120 - k) z sum = sl_vp n C E j 120 (sl_la n C E (nI j) b) 0) → ∀ (H : Heap) (locs : List Loc), sl_I Γ u_27 s H locs → ∀ (ls : Array Slot), lv_has ls 6 [(0, .ref (α 0)), (1, .int (nI j)), (2, .int (nI b)), (3, .int sum), (4, .int z), (5, .int (nI k))] → W p l e ({ frames := 6, cells := 1, slots := 6, locals := 135 } : Room) s m ([.ref (α 0), .int (nI j), .int (nI b)] : List Value).toArray below meth c H locs 0 0 (vx_MQ below (sl_Qi Γ (fun r g' => (∃ j0, (nI j) = nI j0 ∧ j0 < 4 ∧ (sl_in (nI j) 0 3 && sl_in (nI b) 0 (nI (sl_kn C))) = true ∧ r = sl_vp n C E j0 120 (sl_la n C E (nI j) (nI b).toNatClampNeg) 0) ∧ sl_Cls Γ α β n ep tl lo T C E g' ∧ sl_fr g g') (fun g' => g')) (sl_X Γ g (fun E0 => E0 = "java/lang/IndexOutOfBoundsException" ∧ (sl_in (nI j) 0 3 && sl_in (nI b) 0 (nI (sl_kn C))) = false)) ([.ref (α 0), .int (nI j), .int (nI b)] : List Value).toArray s 1 6 (sl_A Γ)) (F0 m 43 ls []) := by
        intro fuel
        induction fuel with
        | zero =>
          intro k sum z h1 h2
          exact absurd h2 (by omega)
        | succ fuel ih_43 =>
          intro k sum z hk_43 hn_43 hz hi H locs hG ls hl
          refine lv_iload hx hb dX4_valueByPointers_43 (lv_at hl 5 rfl) ?_
          refine lv_bipush (v := 120) hx hb dX4_valueByPointers_45 (by decide) ?_
          refine lv_icmp_ge (tgt := 80) hx hb dX4_valueByPointers_47 (by decide) (fun c_47 => ?_) (fun c_47 => ?_)
          · have n_47 : 120 ≤ k := (nI_leI (a := 120) (b := k) (by omega) (by omega)).mp c_47
            refine lv_iload_n hx hb dX4_valueByPointers_80 rfl (lv_at hl 3 rfl) ?_
            have hv9 : sum = sl_vp n C E j 120 (sl_la n C E (nI j) b) 0 := by rw [← hi, show 120 - k = 0 by omega, sl_vp]
            exact vx_ret (sl_ri (v := sum) hC hr hG u_27 ⟨⟨j, rfl, by omega, sl_and_t c_4 c_12, by rw [nI_clamp (by omega)]; exact hv9⟩, sl_Cls_w hK hr_27⟩ rfl (Nat.le_of_ble_eq_true rfl) (Nat.le_of_ble_eq_true rfl) dX4_valueByPointers_81)
          · have n_47 : ¬ (120 ≤ k) := fun z => c_47 ((nI_leI (a := 120) (b := k) (by omega) (by omega)).mpr z)
            refine lv_iload hx hb dX4_valueByPointers_50 (lv_at hl 4 rfl) ?_
            refine lv_iconst (v := (-1)) hx hb dX4_valueByPointers_52 (by decide) ?_
            refine lv_icmp_eq (tgt := 80) hx hb dX4_valueByPointers_53 (by decide) (fun c_53 => ?_) (fun c_53 => ?_)
            · refine lv_iload_n hx hb dX4_valueByPointers_80 rfl (lv_at hl 3 rfl) ?_
              have hv9 : sum = sl_vp n C E j 120 (sl_la n C E (nI j) b) 0 := by rw [← hi, show 120 - k = (120 - (k + 1)) + 1 by omega, sl_vp, if_pos c_53]
              exact vx_ret (sl_ri (v := sum) hC hr hG u_27 ⟨⟨j, rfl, by omega, sl_and_t c_4 c_12, by rw [nI_clamp (by omega)]; exact hv9⟩, sl_Cls_w hK hr_27⟩ rfl (Nat.le_of_ble_eq_true rfl) (Nat.le_of_ble_eq_true rfl) dX4_valueByPointers_81)
            · obtain ⟨q, hq9, rfl⟩ := hz.elim (fun e9 => absurd e9 c_53) id
              refine lv_iload_n hx hb dX4_valueByPointers_56 rfl (lv_at hl 3 rfl) ?_
              refine lv_aload_n hx hb dX4_valueByPointers_57 rfl (lv_at hl 0 rfl) ?_
              refine lv_iload hx hb dX4_valueByPointers_58 (lv_at hl 4 rfl) ?_
              refine sl_calli (sl_runV (As := [.int (nI q)]) (rest := [.int sum]) hC hG (kX4_effectOf l Γ u_27 α β n C E (sl_Ro_w hS hw) F9 X9 b w6 w7 w8 hF (by omega) q (by omega)) mi_X4_effectOf lk_RX4_168 0 ((hw 0 (by decide) (by decide) (by decide)).trans h0) rfl rfl rfl ⟨Nat.le_of_ble_eq_true rfl, Nat.le_of_ble_eq_true rfl⟩ rfl hl.1 rfl (Nat.le_of_ble_eq_true rfl) dX4_valueByPointers_60 ⟨Nat.le_of_ble_eq_true rfl, Nat.le_of_ble_eq_true rfl⟩) hG (fun r_60 u_60 H locs hr_60 hG => ?_)
              subst hr_60
              refine lv_iadd hx hb dX4_valueByPointers_63 ?_
              refine lv_istore_n (lv' := [(3, .int (sum + (sl_am n C E q))), (0, .ref (α 0)), (1, .int (nI j)), (2, .int (nI b)), (4, .int (nI q)), (5, .int (nI k))]) hx hb dX4_valueByPointers_64 rfl hl (by decide) rfl (fun ls hl => ?_)
              refine lv_aload_n hx hb dX4_valueByPointers_65 rfl (lv_at hl 1 rfl) ?_
              refine lv_iload_n hx hb dX4_valueByPointers_66 rfl (lv_at hl 2 rfl) ?_
              refine lv_iload hx hb dX4_valueByPointers_67 (lv_at hl 4 rfl) ?_
              refine sl_calli (sl_runV (As := [.int (nI j), .int (nI q)]) (rest := []) hC hG (kX4_previousByPointers l Γ u_27 α β n C E (sl_Ro_w hS hw) hP j q (by omega) (by omega)) mi_X4_previousByPointers lk_RX4_175 0 ((hw 0 (by decide) (by decide) (by decide)).trans h0) rfl rfl rfl ⟨Nat.le_of_ble_eq_true rfl, Nat.le_of_ble_eq_true rfl⟩ rfl hl.1 rfl (Nat.le_of_ble_eq_true rfl) dX4_valueByPointers_69 ⟨Nat.le_of_ble_eq_true rfl, Nat.le_of_ble_eq_true rfl⟩) hG (fun r_69 u_69 H locs hr_69 hG => ?_)
              subst hr_69
              refine lv_istore (lv' := [(4, .int (sl_pq n C E j q)), (3, .int (sum + (sl_am n C E q))), (0, .ref (α 0)), (1, .int (nI j)), (2, .int (nI b)), (5, .int (nI k))]) hx hb dX4_valueByPointers_72 hl (by decide) rfl (fun ls hl => ?_)
              refine lv_iinc (v := nI (k + 1)) (lv' := [(5, .int (nI (k + 1))), (4, .int (sl_pq n C E j q)), (3, .int (sum + (sl_am n C E q))), (0, .ref (α 0)), (1, .int (nI j)), (2, .int (nI b))]) hx hb dX4_valueByPointers_74 hl (k := 5) rfl (nI_1 k) (by decide) rfl (fun ls hl => ?_)
              refine lv_goto (tgt := 43) hx hb dX4_valueByPointers_77 (by decide) ?_
              exact ih_43 (k + 1) (sum + sl_am n C E q) (sl_pq n C E j q) (by omega) (by omega) (sl_or_lt (sl_pq_lt hPP (by omega) (by omega)) (by omega)) (by rw [← hi, show 120 - k = (120 - (k + 1)) + 1 by omega, sl_vp, if_neg c_53, nI_clamp (by omega)]) _ _ hG _ (lv_sub hl [3, 4, 5, 2, 1, 0] rfl)
      exact loop_43 (120 + 1) 0 0 (sl_la n C E (nI j) b) (by omega) (by omega) (sl_la_lt n C E (nI j) b) rfl _ _ hG _ (lv_sub hl [3, 4, 5, 2, 1, 0] rfl)
    · have c_12 := sl_bF c_12
      exact sl_thr (text := "no such stream or known position") (rest := []) hlt hC hG ⟨rfl, by rw [c_12]; exact Bool.and_false _⟩ (by decide) lk_RX4_98 ini_IndexOutOfBoundsException (by decide +kernel) sl_hatO sl_otO hl.1 dX4_valueByPointers_15 dX4_valueByPointers_18 dX4_valueByPointers_19 dX4_valueByPointers_21 dX4_valueByPointers_24 hno (Nat.le_of_ble_eq_true rfl) (Nat.le_of_ble_eq_true rfl) (Nat.le_of_ble_eq_true rfl) (Nat.le_of_ble_eq_true rfl) (Nat.le_of_ble_eq_true rfl) (Nat.le_of_ble_eq_true rfl)
end
section
/-! the class's writing calls -/
theorem sl_Cls_up0 {Γ : sl_G} {α : Nat → Nat} {β : Nat → Nat × Nat × Nat} {n : Nat} {ep : Int32} {tl : Nat} {lo : Bool} {T C : Nat → Int32} {E : Nat → sl_Ent} {g : sl_W} (h : sl_Cls Γ α β n ep tl lo T C E g) (ep' : Int32) (tl' : Nat) (lo' : Bool) (ht' : tl' ≤ 120) : sl_Cls Γ α β n ep' tl' lo' T C E (sl_up g 0 (α 0, .inr (4, [.ref (α 1), .ref (α 2), .ref (α 4), .ref (α 6), .int (nI n), .int ep', .int (nI tl'), .int (sl_bi lo')]))) ∧ sl_fr g (sl_up g 0 (α 0, .inr (4, [.ref (α 1), .ref (α 2), .ref (α 4), .ref (α 6), .int (nI n), .int ep', .int (nI tl'), .int (sl_bi lo')]))) := by
  obtain ⟨h0, h1, h2, h3, h4, h5, ⟨F, X, fd, h6, h7, h8⟩, hE, hN, hn, ht⟩ := h
  exact ⟨⟨sl_up_s _ _ _, sl_up_to (by decide) h1, sl_up_to (by decide) h2, sl_up_to (by decide) h3, sl_up_to (by decide) h4, sl_up_to (by decide) h5, ⟨F, X, fd, sl_up_to (by decide) h6, sl_up_to (by decide) h7, sl_up_to (by decide) h8⟩, hE.mono (fun k hk => sl_up_n _ _ (by omega)), fun k hk => sl_up_to (by omega) (hN k hk), hn, ht'⟩, (sl_fr.rf g).up _ (by omega)⟩
theorem sl_Cls_up5 {Γ : sl_G} {α : Nat → Nat} {β : Nat → Nat × Nat × Nat} {n : Nat} {ep : Int32} {tl : Nat} {lo : Bool} {T C : Nat → Int32} {E : Nat → sl_Ent} {g : sl_W} (h : sl_Cls Γ α β n ep tl lo T C E g) (T' : Nat → Int32) : sl_Cls Γ α β n ep tl lo T' C E (sl_up g 5 (α 5, .inl (Γ.2.1 0, 16, .inl T'))) := by
  obtain ⟨h0, h1, h2, h3, h4, h5, ⟨F, X, fd, h6, h7, h8⟩, hE, hN, hn, ht⟩ := h
  exact ⟨sl_up_to (by decide) h0, sl_up_to (by decide) h1, sl_up_to (by decide) h2, sl_up_to (by decide) h3, sl_up_to (by decide) h4, sl_up_s _ _ _, ⟨F, X, fd, sl_up_to (by decide) h6, sl_up_to (by decide) h7, sl_up_to (by decide) h8⟩, hE.mono (fun k hk => sl_up_n _ _ (by omega)), fun k hk => sl_up_to (by omega) (hN k hk), hn, ht⟩
theorem sl_Cls_up3 {Γ : sl_G} {α : Nat → Nat} {β : Nat → Nat × Nat × Nat} {n : Nat} {ep : Int32} {tl : Nat} {lo : Bool} {T C : Nat → Int32} {E : Nat → sl_Ent} {g : sl_W} (h : sl_Cls Γ α β n ep tl lo T C E g) (C' : Nat → Int32) : sl_Cls Γ α β n ep tl lo T C' E (sl_up g 3 (α 3, .inl (Γ.2.1 0, 360, .inl C'))) := by
  obtain ⟨h0, h1, h2, h3, h4, h5, ⟨F, X, fd, h6, h7, h8⟩, hE, hN, hn, ht⟩ := h
  exact ⟨sl_up_to (by decide) h0, sl_up_to (by decide) h1, sl_up_to (by decide) h2, sl_up_s _ _ _, sl_up_to (by decide) h4, sl_up_to (by decide) h5, ⟨F, X, fd, sl_up_to (by decide) h6, sl_up_to (by decide) h7, sl_up_to (by decide) h8⟩, hE.mono (fun k hk => sl_up_n _ _ (by omega)), fun k hk => sl_up_to (by omega) (hN k hk), hn, ht⟩
/-- an entry's steps change -/
def sl_es (E : Nat → sl_Ent) (t : Nat) (v : Int32) : Nat → sl_Ent := fun i => if i = t then ((E t).1, (E t).2.1, (E t).2.2.1, (E t).2.2.2.1, (E t).2.2.2.2.1, (E t).2.2.2.2.2.1, (E t).2.2.2.2.2.2.1, v) else E i
theorem sl_Cls_st {Γ : sl_G} {α : Nat → Nat} {β : Nat → Nat × Nat × Nat} {n : Nat} {ep : Int32} {tl : Nat} {lo : Bool} {T C : Nat → Int32} {E : Nat → sl_Ent} {g : sl_W} (h : sl_Cls Γ α β n ep tl lo T C E g) {t : Nat} (ht : t < n) (v : Int32) : sl_Cls Γ α β n ep tl lo T C (sl_es E t v) (sl_up g (100 + 3 * t) ((β t).1, .inr (1, [.int (E t).1, .int (E t).2.1, .int (E t).2.2.1, .int (E t).2.2.2.1, .int (E t).2.2.2.2.1, .int (E t).2.2.2.2.2.1, .ref (β t).2.1, .int v]))) := by
  obtain ⟨h0, h1, h2, h3, h4, h5, ⟨F, X, fd, h6, h7, h8⟩, hE, hN, hn, htl⟩ := h
  refine ⟨sl_up_to (by omega) h0, sl_up_to (by omega) h1, sl_up_to (by omega) h2, sl_up_to (by omega) h3, sl_up_to (by omega) h4, sl_up_to (by omega) h5, ⟨F, X, fd, sl_up_to (by omega) h6, sl_up_to (by omega) h7, sl_up_to (by omega) h8⟩, fun i hi => ?_, fun k hk => sl_up_to (by omega) (hN k hk), hn, htl⟩
  obtain ⟨e1, e2, e3⟩ := hE i hi
  by_cases e : i = t
  · subst e
    have e9 : sl_es E i v i = ((E i).1, (E i).2.1, (E i).2.2.1, (E i).2.2.2.1, (E i).2.2.2.2.1, (E i).2.2.2.2.2.1, (E i).2.2.2.2.2.2.1, v) := if_pos rfl
    rw [e9]
    exact ⟨sl_up_s _ _ _, sl_up_to (by omega) e2, sl_up_to (by omega) e3⟩
  · have e9 : sl_es E t v i = E i := if_neg e
    rw [e9]
    exact ⟨sl_up_to (by omega) e1, sl_up_to (by omega) e2, sl_up_to (by omega) e3⟩
/-- the sequencer's trail, made anew out of the cells: of the first k positions -/
def sl_sT (n : Nat) (C : Nat → Int32) (E : Nat → sl_Ent) : Nat → Nat → Int32
  | 0 => fun _ => -1
  | q + 1 => match sl_tok n (C q) with
    | none => sl_sT n C E q
    | some t => sl_tp (sl_sT n C E q) (E t).2.2.1 (nI q) 4
theorem sl_sT_0 {n : Nat} {C : Nat → Int32} {E : Nat → sl_Ent} {q : Nat} (h : sl_tok n (C q) = none) : sl_sT n C E (q + 1) = sl_sT n C E q := by rw [sl_sT, h]
theorem sl_sT_1 {n t : Nat} {C : Nat → Int32} {E : Nat → sl_Ent} {q : Nat} (h : sl_tok n (C q) = some t) : sl_sT n C E (q + 1) = sl_tp (sl_sT n C E q) (E t).2.2.1 (nI q) 4 := by rw [sl_sT, h]
def sl_bu (β : Nat → Nat × Nat × Nat) (n : Nat) (q : Nat × Nat × Nat) : Nat → Nat × Nat × Nat := fun i => if i = n then q else β i
def sl_eu (E : Nat → sl_Ent) (n : Nat) (x : sl_Ent) : Nat → sl_Ent := fun i => if i = n then x else E i
theorem sl_ea_up (n : Nat) (β : Nat → Nat × Nat × Nat) (q : Nat × Nat × Nat) : va_up (sl_ea n β) n (some q.1) = sl_ea (n + 1) (sl_bu β n q) := by
  funext i
  by_cases e : i = n
  · subst e
    rw [va_up_self, sl_ea, if_pos (by omega), sl_bu, if_pos rfl]
  · rw [va_up_ne _ _ e, sl_ea, sl_ea]
    by_cases h : i < n
    · rw [if_pos h, if_pos (by omega), sl_bu, if_neg e]
    · rw [if_neg h, if_neg (by omega)]
/-- a token is handed out -/
theorem sl_Cls_hand {Γ : sl_G} {α : Nat → Nat} {β : Nat → Nat × Nat × Nat} {n : Nat} {ep : Int32} {tl : Nat} {lo : Bool} {T C : Nat → Int32} {E : Nat → sl_Ent} {g : sl_W} (h : sl_Cls Γ α β n ep tl lo T C E g) (hn9 : n < 150) (ht9 : tl < 120) (q1 q2 q3 : Nat) (x3 x4 x5 x6 : Int32) (T' Tn : Nat → Int32) : let g' := sl_up (sl_up (sl_up (sl_up (sl_up (sl_up g (101 + 3 * n) (q2, .inr (3, [.ref q3]))) (102 + 3 * n) (q3, .inl (Γ.2.1 0, 16, .inl Tn))) (100 + 3 * n) (q1, .inr (1, [.int (nI tl), .int ep, .int x3, .int x4, .int x5, .int x6, .ref q2, .int 0]))) 1 (α 1, .inl (Γ.2.1 2, 150, .inr (.inr (.inr (.inr (va_up (sl_ea n β) n (some q1)))))))) 5 (α 5, .inl (Γ.2.1 0, 16, .inl T'))) 0 (α 0, .inr (4, [.ref (α 1), .ref (α 2), .ref (α 4), .ref (α 6), .int (nI (n + 1)), .int ep, .int (nI (tl + 1)), .int (sl_bi lo)]))
    sl_Cls Γ α (sl_bu β n (q1, q2, q3)) (n + 1) ep (tl + 1) lo T' C (sl_eu E n (nI tl, ep, x3, x4, x5, x6, Tn, 0)) g' ∧ sl_fr g g' := by
  intro g'
  obtain ⟨h0, h1, h2, h3, h4, h5, ⟨F, X, fd, h6, h7, h8⟩, hE, hN, hn, ht⟩ := h
  have low : ∀ k : Nat, k < 100 → k ≠ 0 → k ≠ 1 → k ≠ 5 → g' k = g k := fun k a1 a2 a3 a4 => (sl_up_n _ _ a2).trans ((sl_up_n _ _ a4).trans ((sl_up_n _ _ a3).trans ((sl_up_n _ _ (by omega)).trans ((sl_up_n _ _ (by omega)).trans (sl_up_n _ _ (by omega))))))
  have high : ∀ k : Nat, 100 ≤ k → k ≠ 100 + 3 * n → k ≠ 101 + 3 * n → k ≠ 102 + 3 * n → g' k = g k := fun k a1 a2 a3 a4 => (sl_up_n _ _ (by omega)).trans ((sl_up_n _ _ (by omega)).trans ((sl_up_n _ _ (by omega)).trans ((sl_up_n _ _ (by omega)).trans ((sl_up_n _ _ (by omega)).trans (sl_up_n _ _ (by omega))))))
  refine ⟨⟨sl_up_s _ _ _, ?_, (low 2 (by decide) (by decide) (by decide) (by decide)).trans h2, (low 3 (by decide) (by decide) (by decide) (by decide)).trans h3, (low 4 (by decide) (by decide) (by decide) (by decide)).trans h4, sl_up_to (by decide) (sl_up_s _ _ _), ⟨F, X, fd, (low 6 (by decide) (by decide) (by decide) (by decide)).trans h6, (low 7 (by decide) (by decide) (by decide) (by decide)).trans h7, (low 8 (by decide) (by decide) (by decide) (by decide)).trans h8⟩, fun i hi => ?_, fun k hk => (high k (by omega) (by omega) (by omega) (by omega)).trans (hN k (by omega)), by omega, by omega⟩, fun k a1 a2 => low k a2 (by omega) (by omega) (by omega)⟩
  · rw [← sl_ea_up n β (q1, q2, q3)]
    exact sl_up_to (by decide) (sl_up_to (by decide) (sl_up_s _ _ _))
  · by_cases e : i = n
    · subst e
      rw [show sl_bu β i (q1, q2, q3) i = (q1, q2, q3) from if_pos rfl, show sl_eu E i (nI tl, ep, x3, x4, x5, x6, Tn, 0) i = (nI tl, ep, x3, x4, x5, x6, Tn, 0) from if_pos rfl]
      exact ⟨sl_up_to (by omega) (sl_up_to (by omega) (sl_up_to (by omega) (sl_up_s _ _ _))), sl_up_to (by omega) (sl_up_to (by omega) (sl_up_to (by omega) (sl_up_to (by omega) (sl_up_to (by omega) (sl_up_s _ _ _))))), sl_up_to (by omega) (sl_up_to (by omega) (sl_up_to (by omega) (sl_up_to (by omega) (sl_up_s _ _ _))))⟩
    · obtain ⟨e1, e2, e3⟩ := hE i (by omega)
      rw [show sl_bu β n (q1, q2, q3) i = β i from if_neg e, show sl_eu E n (nI tl, ep, x3, x4, x5, x6, Tn, 0) i = E i from if_neg e]
      exact ⟨(high _ (by omega) (by omega) (by omega) (by omega)).trans e1, (high _ (by omega) (by omega) (by omega) (by omega)).trans e2, (high _ (by omega) (by omega) (by omega) (by omega)).trans e3⟩
def sl_cf (C : Nat → Int32) (b : Nat) (v : Int32) : Nat → Int32 := sl_cp (sl_cp (sl_cp C 0 (nI b) v) 1 (nI b) v) 2 (nI b) v
/-- nothing can be handed out -/
def sl_ch (lo : Bool) (tl n : Nat) : Bool := lo || decide (120 ≤ tl) || decide (150 ≤ n)
set_option maxHeartbeats 4000000 in
set_option maxRecDepth 100000 in
theorem kX4_lose (l : Launch) (hlt : l.stackTraces = false) (Γ : sl_G) (g : sl_W) (α : Nat → Nat) (β : Nat → Nat × Nat × Nat) (n : Nat) (ep : Int32) (tl : Nat) (lo : Bool) (T C : Nat → Int32) (E : Nat → sl_Ent) (hK : sl_Cls Γ α β n ep tl lo T C E g) : vx_Met l yX4_lose [Cond.code yX4_lose cX4_lose 1 (some .int)] ({ frames := 6, cells := 1, slots := 6, locals := 100 } : Room) (va_Pc [.ref (α 0)] (sl_B Γ g)) (sl_Qi Γ (fun r g' => lo = false ∧ r = nI tl ∧ sl_Cls Γ α β n ep tl true T C E g' ∧ sl_fr g g') (fun g' => g')) (sl_X Γ g (fun E0 => E0 = "java/lang/IllegalStateException" ∧ lo = true)) 1 6 (sl_A Γ) := by
  refine sl_entx (by decide) (Nat.le_of_ble_eq_true rfl) ?_
  intro p e s m below meth c ls hC hr hno hG hl
  have hx := hC.1
  have hb := hC.2.1
  have hl : lv_has ls 1 [(0, .ref (α 0))] := hl
  have hS := hK.ro
  obtain ⟨h0, h1, h2, h3, h4, h5, ⟨F, X, fd, h6, h7, h8⟩, hE, hN, hn9, ht9⟩ := id hK
  refine lv_aload_n hx hb dX4_lose_0 rfl (lv_at hl 0 rfl) ?_
  refine sl_get (C := RX4) (T := TX4) (N := 8) hC hG 0 h0 rfl la_4 7 (by decide) lk_RX4_46 rfl rfl dX4_lose_1 ?_
  refine lv_if_eq (tgt := 17) hx hb dX4_lose_4 (by decide) (fun c_4 => ?_) (fun c_4 => ?_)
  · have c_4 := sl_bF c_4
    refine lv_aload_n hx hb dX4_lose_17 rfl (lv_at hl 0 rfl) ?_
    refine lv_iconst (v := 1) hx hb dX4_lose_18 (by decide) ?_
    refine sl_put (C := RX4) (T := TX4) (N := 8) (ty := .boolean) (v := .int 1) hC hG 0 h0 rfl la_4 tyX4 tyX4_ok nmX4 7 (by decide) lk_RX4_46 rfl rfl (by decide +kernel) rfl rfl (Nat.le_of_ble_eq_true rfl) dX4_lose_19 (fun H locs hG => ?_)
    have hG : sl_I Γ (sl_up g 0 ((α 0), .inr (4, [.ref (α 1), .ref (α 2), .ref (α 4), .ref (α 6), .int (nI n), .int ep, .int (nI tl), .int 1]))) s H _ := hG
    refine lv_aload_n hx hb dX4_lose_22 rfl (lv_at hl 0 rfl) ?_
    refine sl_get (C := RX4) (T := TX4) (N := 8) hC hG 0 (sl_up_s _ _ _) rfl la_4 6 (by decide) lk_RX4_43 rfl rfl dX4_lose_23 ?_
    exact vx_ret (sl_ri (v := nI tl) hC hr hG (sl_up g 0 ((α 0), .inr (4, [.ref (α 1), .ref (α 2), .ref (α 4), .ref (α 6), .int (nI n), .int ep, .int (nI tl), .int 1]))) ⟨c_4, rfl, sl_Cls_up0 hK ep tl true ht9⟩ rfl (Nat.le_of_ble_eq_true rfl) (Nat.le_of_ble_eq_true rfl) dX4_lose_26)
  · have c_4 := sl_bT c_4
    exact sl_thr (text := "the sequencer is lost") (rest := []) hlt hC hG ⟨rfl, c_4⟩ (by decide) lk_RX4_72 ini_IllegalStateException (by decide +kernel) sl_hatS sl_otS hl.1 dX4_lose_7 dX4_lose_10 dX4_lose_11 dX4_lose_13 dX4_lose_16 hno (Nat.le_of_ble_eq_true rfl) (Nat.le_of_ble_eq_true rfl) (Nat.le_of_ble_eq_true rfl) (Nat.le_of_ble_eq_true rfl) (Nat.le_of_ble_eq_true rfl) (Nat.le_of_ble_eq_true rfl)
set_option maxHeartbeats 4000000 in
set_option maxRecDepth 100000 in
theorem kX4_seal (l : Launch) (Γ : sl_G) (g : sl_W) (α : Nat → Nat) (β : Nat → Nat × Nat × Nat) (n : Nat) (ep : Int32) (tl : Nat) (lo : Bool) (T C : Nat → Int32) (E : Nat → sl_Ent) (hK : sl_Cls Γ α β n ep tl lo T C E g) : Met l yX4_seal [Cond.code yX4_seal cX4_seal 3 (some .int)] ({ frames := 4, cells := 0, slots := 0, locals := 86 } : Room) (va_Pc [.ref (α 0)] (sl_B Γ g)) (sl_Qi Γ (fun r g' => r = nI (sl_ef C 120) ∧ sl_Cls Γ α β n (ep + 1) (sl_ef C 120) false (sl_sT n C E (sl_ef C 120)) C E g' ∧ sl_fr g g') (fun g' => g')) 0 0 (sl_A Γ) := by
  refine sl_ent (by decide) (Nat.le_of_ble_eq_true rfl) ?_
  intro p e s m below meth c ls hC hr hin hG hl
  have hx := hC.1
  have hb := hC.2.1
  have hl : lv_has ls 3 [(0, .ref (α 0))] := hl
  have hS := hK.ro
  obtain ⟨h0, h1, h2, h3, h4, h5, ⟨F, X, fd, h6, h7, h8⟩, hE, hN, hn9, ht9⟩ := id hK
  have hef := sl_ef_le C 120
  refine lv_aload_n hx hb dX4_seal_0 rfl (lv_at hl 0 rfl) ?_
  refine lv_dup hx hb dX4_seal_1 rfl ?_
  refine sl_get (C := RX4) (T := TX4) (N := 8) hC hG 0 h0 rfl la_4 5 (by decide) lk_RX4_40 rfl rfl dX4_seal_2 ?_
  refine lv_iconst (v := 1) hx hb dX4_seal_5 (by decide) ?_
  refine lv_iadd hx hb dX4_seal_6 ?_
  refine sl_put (C := RX4) (T := TX4) (N := 8) (ty := .int) (v := .int (ep + 1)) hC hG 0 h0 rfl la_4 tyX4 tyX4_ok nmX4 5 (by decide) lk_RX4_40 rfl rfl (by decide +kernel) rfl rfl (Nat.le_of_ble_eq_true rfl) dX4_seal_7 (fun H locs hG => ?_)
  have hG : sl_I Γ (sl_up g 0 ((α 0), .inr (4, [.ref (α 1), .ref (α 2), .ref (α 4), .ref (α 6), .int (nI n), .int (ep + 1), .int (nI tl), .int (sl_bi lo)]))) s H _ := hG
  refine lv_aload_n hx hb dX4_seal_10 rfl (lv_at hl 0 rfl) ?_
  refine lv_aload_n hx hb dX4_seal_11 rfl (lv_at hl 0 rfl) ?_
  refine sl_get (C := RX4) (T := TX4) (N := 8) hC hG 0 (sl_up_s _ _ _) rfl la_4 1 (by decide) lk_RX4_18 rfl rfl dX4_seal_12 ?_
  refine sl_calli (sl_runVN (As := []) (rest := [.ref (α 0)]) hC hG (kX0_end l Γ (sl_up g 0 ((α 0), .inr (4, [.ref (α 1), .ref (α 2), .ref (α 4), .ref (α 6), .int (nI n), .int (ep + 1), .int (nI tl), .int (sl_bi lo)]))) (α 2) (α 3) C (sl_up_to (by decide) h2) (sl_up_to (by decide) h3)) mi_X0_end lk_RX4_77 2 (sl_up_to (by decide) h2) rfl rfl rfl ⟨Nat.le_of_ble_eq_true rfl, Nat.le_of_ble_eq_true rfl⟩ rfl hl.1 rfl (Nat.le_of_ble_eq_true rfl) dX4_seal_15 ⟨Nat.le_of_ble_eq_true rfl, Nat.le_of_ble_eq_true rfl⟩) hG (fun r_15 u_15 H locs hr_15 hG => ?_)
  subst hr_15
  refine sl_put (C := RX4) (T := TX4) (N := 8) (ty := .int) (v := .int (nI (sl_ef C 120))) hC hG 0 (sl_up_s _ _ _) rfl la_4 tyX4 tyX4_ok nmX4 6 (by decide) lk_RX4_43 rfl rfl (by decide +kernel) rfl rfl (Nat.le_of_ble_eq_true rfl) dX4_seal_18 (fun H locs hG => ?_)
  rw [sl_up_up] at hG
  have hG : sl_I Γ (sl_up g 0 ((α 0), .inr (4, [.ref (α 1), .ref (α 2), .ref (α 4), .ref (α 6), .int (nI n), .int (ep + 1), .int (nI (sl_ef C 120)), .int (sl_bi lo)]))) s H _ := hG
  refine lv_aload_n hx hb dX4_seal_21 rfl (lv_at hl 0 rfl) ?_
  refine lv_iconst (v := 0) hx hb dX4_seal_22 (by decide) ?_
  refine sl_put (C := RX4) (T := TX4) (N := 8) (ty := .boolean) (v := .int 0) hC hG 0 (sl_up_s _ _ _) rfl la_4 tyX4 tyX4_ok nmX4 7 (by decide) lk_RX4_46 rfl rfl (by decide +kernel) rfl rfl (Nat.le_of_ble_eq_true rfl) dX4_seal_23 (fun H locs hG => ?_)
  rw [sl_up_up] at hG
  have hG : sl_I Γ (sl_up g 0 ((α 0), .inr (4, [.ref (α 1), .ref (α 2), .ref (α 4), .ref (α 6), .int (nI n), .int (ep + 1), .int (nI (sl_ef C 120)), .int 0]))) s H _ := hG
  refine lv_aload_n hx hb dX4_seal_26 rfl (lv_at hl 0 rfl) ?_
  refine sl_get (C := RX4) (T := TX4) (N := 8) hC hG 0 (sl_up_s _ _ _) rfl la_4 2 (by decide) lk_RX4_25 rfl rfl dX4_seal_27 ?_
  refine sl_callv (sl_runVN (As := []) (rest := []) hC hG (kX3_clear l Γ (sl_up g 0 ((α 0), .inr (4, [.ref (α 1), .ref (α 2), .ref (α 4), .ref (α 6), .int (nI n), .int (ep + 1), .int (nI (sl_ef C 120)), .int 0]))) 4 5 (α 4) (α 5) T (sl_up_to (by decide) h4) (sl_up_to (by decide) h5)) mi_X3_clear lk_RX4_81 4 (sl_up_to (by decide) h4) rfl rfl rfl ⟨Nat.le_of_ble_eq_true rfl, Nat.le_of_ble_eq_true rfl⟩ rfl hl.1 rfl (Nat.le_of_ble_eq_true rfl) dX4_seal_30 ⟨Nat.le_of_ble_eq_true rfl, Nat.le_of_ble_eq_true rfl⟩) hG (fun u_30 H locs hr_30 hG => ?_)
  have hG : sl_I Γ (sl_up (sl_up g 0 ((α 0), .inr (4, [.ref (α 1), .ref (α 2), .ref (α 4), .ref (α 6), .int (nI n), .int (ep + 1), .int (nI (sl_ef C 120)), .int 0]))) 5 ((α 5), .inl (Γ.2.1 0, 16, .inl (fun _ => (-1))))) s H _ := hG
  refine lv_iconst (v := 0) hx hb dX4_seal_33 (by decide) ?_
  refine lv_istore_n (lv' := [(1, .int 0), (0, .ref (α 0))]) hx hb dX4_seal_34 rfl hl (by decide) rfl (fun ls hl => ?_)
  have loop_35 : ∀ (fuel k : Nat), k ≤ sl_ef C 120 → sl_ef C 120 + 1 ≤ k + fuel → ∀ (H : Heap) (locs : List Loc), sl_I Γ (sl_up (sl_up g 0 ((α 0), .inr (4, [.ref (α 1), .ref (α 2), .ref (α 4), .ref (α 6), .int (nI n), .int (ep + 1), .int (nI (sl_ef C 120)), .int 0]))) 5 ((α 5), .inl (Γ.2.1 0, 16, .inl (sl_sT n C E k)))) s H locs → ∀ (ls : Array Slot), lv_has ls 3 [(0, .ref (α 0)), (1, .int (nI k))] → W p l e ({ frames := 4, cells := 0, slots := 0, locals := 86 } : Room) s m ([.ref (α 0)] : List Value).toArray below meth c H locs 0 0 (MQ below (sl_Qi Γ (fun r g' => r = nI (sl_ef C 120) ∧ sl_Cls Γ α β n (ep + 1) (sl_ef C 120) false (sl_sT n C E (sl_ef C 120)) C E g' ∧ sl_fr g g') (fun g' => g')) ([.ref (α 0)] : List Value).toArray s 0 0 (sl_A Γ)) (F0 m 35 ls []) := by
    intro fuel
    induction fuel with
    | zero =>
      intro k  h1 h2
      exact absurd h2 (by omega)
    | succ fuel ih_35 =>
      intro k  hk_35 hn_35  H locs hG ls hl
      refine lv_iload_n hx hb dX4_seal_35 rfl (lv_at hl 1 rfl) ?_
      refine lv_aload_n hx hb dX4_seal_36 rfl (lv_at hl 0 rfl) ?_
      refine sl_get (C := RX4) (T := TX4) (N := 8) hC hG 0 (sl_up_to (by decide) (sl_up_s _ _ _)) rfl la_4 6 (by decide) lk_RX4_43 rfl rfl dX4_seal_37 ?_
      refine lv_icmp_ge (tgt := 71) hx hb dX4_seal_40 (by decide) (fun c_40 => ?_) (fun c_40 => ?_)
      · have n_40 : sl_ef C 120 ≤ k := (nI_leI (a := sl_ef C 120) (b := k) (by omega) (by omega)).mp c_40
        refine lv_aload_n hx hb dX4_seal_71 rfl (lv_at hl 0 rfl) ?_
        refine sl_get (C := RX4) (T := TX4) (N := 8) hC hG 0 (sl_up_to (by decide) (sl_up_s _ _ _)) rfl la_4 6 (by decide) lk_RX4_43 rfl rfl dX4_seal_72 ?_
        have hk9 : k = sl_ef C 120 := by omega
        rw [hk9] at hG
        exact sl_ri (v := nI (sl_ef C 120)) hC hr hG (sl_up (sl_up g 0 ((α 0), .inr (4, [.ref (α 1), .ref (α 2), .ref (α 4), .ref (α 6), .int (nI n), .int (ep + 1), .int (nI (sl_ef C 120)), .int 0]))) 5 ((α 5), .inl (Γ.2.1 0, 16, .inl (sl_sT n C E k)))) ⟨rfl, by rw [hk9]; exact sl_Cls_up5 (sl_Cls_up0 hK (ep + 1) (sl_ef C 120) false hef).1 _, (sl_Cls_up0 hK (ep + 1) (sl_ef C 120) false hef).2.up _ (by omega)⟩ (by rw [hk9]) (Nat.le_of_ble_eq_true rfl) (Nat.le_of_ble_eq_true rfl) dX4_seal_75
      · have n_40 : ¬ (sl_ef C 120 ≤ k) := fun z => c_40 ((nI_leI (a := sl_ef C 120) (b := k) (by omega) (by omega)).mpr z)
        refine lv_aload_n hx hb dX4_seal_43 rfl (lv_at hl 0 rfl) ?_
        refine lv_iload_n hx hb dX4_seal_44 rfl (lv_at hl 1 rfl) ?_
        refine sl_callq (sl_runV (As := [.int (nI k)]) (rest := []) hC hG (kX4_entryIn l Γ (sl_up (sl_up g 0 ((α 0), .inr (4, [.ref (α 1), .ref (α 2), .ref (α 4), .ref (α 6), .int (nI n), .int (ep + 1), .int (nI (sl_ef C 120)), .int 0]))) 5 ((α 5), .inl (Γ.2.1 0, 16, .inl (sl_sT n C E k)))) α β n C E (sl_Ro_up (by decide) (sl_Ro_up0 hS)) (nI k)) mi_X4_entryIn lk_RX4_84 0 (sl_up_to (by decide) (sl_up_s _ _ _)) rfl rfl rfl ⟨Nat.le_of_ble_eq_true rfl, Nat.le_of_ble_eq_true rfl⟩ rfl hl.1 rfl (Nat.le_of_ble_eq_true rfl) dX4_seal_45 ⟨Nat.le_of_ble_eq_true rfl, Nat.le_of_ble_eq_true rfl⟩) hG (fun r_45 u_45 H locs hr_45 hG => ?_)
        subst hr_45
        rw [show sl_ta n C (nI k) = sl_tok n (C k) from congrArg (sl_tok n) (sl_cg0 C (by omega))]
        rcases sl_opt (sl_tok n (C k)) with hq_45 | ⟨t_45, hq_45⟩
        · refine sl_top (w := .null) (by rw [hq_45]; rfl) ?_
          refine lv_astore_nN (lv' := [(2, .null), (0, .ref (α 0)), (1, .int (nI k))]) hx hb dX4_seal_48 rfl hl (by decide) rfl (fun ls hl => ?_)
          refine lv_aload_nN hx hb dX4_seal_49 rfl (lv_at hl 0 rfl) ?_
          refine lv_ifnullN (tgt := 65) hx hb dX4_seal_50 (by decide) ?_
          refine lv_iinc (v := nI (k + 1)) (lv' := [(1, .int (nI (k + 1))), (2, .null), (0, .ref (α 0))]) hx hb dX4_seal_65 hl (k := 2) rfl (nI_1 k) (by decide) rfl (fun ls hl => ?_)
          refine lv_goto (tgt := 35) hx hb dX4_seal_68 (by decide) ?_
          rw [← sl_sT_0 hq_45] at hG
          exact ih_35 (k + 1) (by omega) (by omega) _ _ hG _ (lv_sub hl [2, 0] rfl)
        · refine sl_top (w := .ref ((β t_45).1)) (by rw [hq_45]; rfl) ?_
          have ht_t_45 := sl_tok_lt hq_45
          refine lv_astore_n (lv' := [(2, .ref ((β t_45).1)), (0, .ref (α 0)), (1, .int (nI k))]) hx hb dX4_seal_48 rfl hl (by decide) rfl (fun ls hl => ?_)
          refine lv_aload_n hx hb dX4_seal_49 rfl (lv_at hl 0 rfl) ?_
          refine lv_ifnull hx hb dX4_seal_50 ?_
          refine lv_aload_n hx hb dX4_seal_53 rfl (lv_at hl 1 rfl) ?_
          refine sl_get (C := RX4) (T := TX4) (N := 8) hC hG 0 (sl_up_to (by decide) (sl_up_s _ _ _)) rfl la_4 2 (by decide) lk_RX4_25 rfl rfl dX4_seal_54 ?_
          refine lv_aload_n hx hb dX4_seal_57 rfl (lv_at hl 0 rfl) ?_
          refine sl_getN (C := RX1) (T := TX1) (N := 8) hC hG (100 + 3 * t_45) ((sl_Es.mono hE (fun j hj => (sl_up_n _ _ (by omega)).trans (sl_up_n _ _ (by omega)))) t_45 ht_t_45).1 rfl la_1 2 (by decide) lk_RX4_88 rfl rfl dX4_seal_58 ?_
          refine lv_iload_n hx hb dX4_seal_61 rfl (lv_at hl 2 rfl) ?_
          refine sl_callv (sl_runVN (As := [.int ((E t_45).2.2.1), .int (nI k)]) (rest := []) hC hG (kX3_push l Γ (sl_up (sl_up g 0 ((α 0), .inr (4, [.ref (α 1), .ref (α 2), .ref (α 4), .ref (α 6), .int (nI n), .int (ep + 1), .int (nI (sl_ef C 120)), .int 0]))) 5 ((α 5), .inl (Γ.2.1 0, 16, .inl (sl_sT n C E k)))) 4 5 (α 4) (α 5) (sl_sT n C E k) (sl_up_to (by decide) (sl_up_to (by decide) h4)) (sl_up_s _ _ _) (by omega) ((E t_45).2.2.1) (nI k)) mi_X3_push lk_RX4_91 4 (sl_up_to (by decide) (sl_up_to (by decide) h4)) rfl rfl rfl ⟨Nat.le_of_ble_eq_true rfl, Nat.le_of_ble_eq_true rfl⟩ rfl hl.1 rfl (Nat.le_of_ble_eq_true rfl) dX4_seal_62 ⟨Nat.le_of_ble_eq_true rfl, Nat.le_of_ble_eq_true rfl⟩) hG (fun u_62 H locs hr_62 hG => ?_)
          have hG : sl_I Γ (sl_up (sl_up (sl_up g 0 ((α 0), .inr (4, [.ref (α 1), .ref (α 2), .ref (α 4), .ref (α 6), .int (nI n), .int (ep + 1), .int (nI (sl_ef C 120)), .int 0]))) 5 ((α 5), .inl (Γ.2.1 0, 16, .inl (sl_sT n C E k)))) 5 ((α 5), .inl (Γ.2.1 0, 16, .inl (sl_tp (sl_sT n C E k) ((E t_45).2.2.1) (nI k) 4)))) s H _ := hG
          refine lv_iinc (v := nI (k + 1)) (lv' := [(1, .int (nI (k + 1))), (2, .ref ((β t_45).1)), (0, .ref (α 0))]) hx hb dX4_seal_65 hl (k := 2) rfl (nI_1 k) (by decide) rfl (fun ls hl => ?_)
          refine lv_goto (tgt := 35) hx hb dX4_seal_68 (by decide) ?_
          rw [sl_up_up, ← sl_sT_1 hq_45] at hG
          exact ih_35 (k + 1) (by omega) (by omega) _ _ hG _ (lv_sub hl [2, 0] rfl)
  exact loop_35 (sl_ef C 120 + 1) 0 (by omega) (by omega) _ _ hG _ (lv_sub hl [1, 0] rfl)
set_option maxHeartbeats 4000000 in
set_option maxRecDepth 100000 in
theorem kX4_handOut (l : Launch) (hlt : l.stackTraces = false) (Γ : sl_G) (g : sl_W) (α : Nat → Nat) (β : Nat → Nat × Nat × Nat) (n : Nat) (ep : Int32) (tl : Nat) (lo : Bool) (T C : Nat → Int32) (E : Nat → sl_Ent) (hK : sl_Cls Γ α β n ep tl lo T C E g) (ss am rd ver : Int32) : vx_Met l yX4_handOut [Cond.code yX4_handOut cX4_handOut 7 (some .int)] ({ frames := 6, cells := 3, slots := 25, locals := 100 } : Room) (va_Pc [.ref (α 0), .int ss, .int am, .int rd, .int ver] (sl_B Γ g)) (sl_Qi Γ (fun r u => sl_ch lo tl n = false ∧ r = nI n ∧ sl_Cls Γ α u.1 (n + 1) ep (tl + 1) lo (sl_tp T ss (nI tl) 4) C (sl_eu E n (nI tl, ep, ss, am, rd, ver, sl_tc T ss 4, 0)) u.2 ∧ sl_fr g u.2) (fun (u : (Nat → Nat × Nat × Nat) × sl_W) => u.2)) (sl_X Γ g (fun E0 => E0 = "java/lang/IllegalStateException" ∧ sl_ch lo tl n = true)) 3 25 (sl_A Γ) := by
  refine sl_entx (by decide) (Nat.le_of_ble_eq_true rfl) ?_
  intro p e s m below meth c ls hC hr hno hG hl
  have hx := hC.1
  have hb := hC.2.1
  have hl : lv_has ls 7 [(0, .ref (α 0)), (1, .int ss), (2, .int am), (3, .int rd), (4, .int ver)] := hl
  have hS := hK.ro
  obtain ⟨h0, h1, h2, h3, h4, h5, ⟨F, X, fd, h6, h7, h8⟩, hE, hN, hn9, ht9⟩ := id hK
  refine lv_aload_n hx hb dX4_handOut_0 rfl (lv_at hl 0 rfl) ?_
  refine sl_get (C := RX4) (T := TX4) (N := 8) hC hG 0 h0 rfl la_4 7 (by decide) lk_RX4_46 rfl rfl dX4_handOut_1 ?_
  refine lv_if_ne (tgt := 28) hx hb dX4_handOut_4 (by decide) (fun c_4 => ?_) (fun c_4 => ?_)
  · have c_4 := sl_bT c_4
    exact sl_thr (text := "the sequencer hands out nothing") (rest := []) hlt hC hG ⟨rfl, by rw [sl_ch, c_4]; rfl⟩ (by decide) lk_RX4_72 ini_IllegalStateException (by decide +kernel) sl_hatS sl_otS hl.1 dX4_handOut_28 dX4_handOut_31 dX4_handOut_32 dX4_handOut_34 dX4_handOut_37 hno (Nat.le_of_ble_eq_true rfl) (Nat.le_of_ble_eq_true rfl) (Nat.le_of_ble_eq_true rfl) (Nat.le_of_ble_eq_true rfl) (Nat.le_of_ble_eq_true rfl) (Nat.le_of_ble_eq_true rfl)
  · have c_4 := sl_bF c_4
    refine lv_aload_n hx hb dX4_handOut_7 rfl (lv_at hl 0 rfl) ?_
    refine sl_get (C := RX4) (T := TX4) (N := 8) hC hG 0 h0 rfl la_4 6 (by decide) lk_RX4_43 rfl rfl dX4_handOut_8 ?_
    refine lv_bipush (v := 120) hx hb dX4_handOut_11 (by decide) ?_
    refine lv_icmp_ge (tgt := 28) hx hb dX4_handOut_13 (by decide) (fun c_13 => ?_) (fun c_13 => ?_)
    · have n_13 : 120 ≤ tl := (nI_leI (a := 120) (b := tl) (by omega) (by omega)).mp c_13
      exact sl_thr (text := "the sequencer hands out nothing") (rest := []) hlt hC hG ⟨rfl, by rw [sl_ch, decide_eq_true n_13, Bool.or_true]; rfl⟩ (by decide) lk_RX4_72 ini_IllegalStateException (by decide +kernel) sl_hatS sl_otS hl.1 dX4_handOut_28 dX4_handOut_31 dX4_handOut_32 dX4_handOut_34 dX4_handOut_37 hno (Nat.le_of_ble_eq_true rfl) (Nat.le_of_ble_eq_true rfl) (Nat.le_of_ble_eq_true rfl) (Nat.le_of_ble_eq_true rfl) (Nat.le_of_ble_eq_true rfl) (Nat.le_of_ble_eq_true rfl)
    · have n_13 : ¬ (120 ≤ tl) := fun z => c_13 ((nI_leI (a := 120) (b := tl) (by omega) (by omega)).mpr z)
      refine lv_aload_n hx hb dX4_handOut_16 rfl (lv_at hl 0 rfl) ?_
      refine sl_get (C := RX4) (T := TX4) (N := 8) hC hG 0 h0 rfl la_4 4 (by decide) lk_RX4_36 rfl rfl dX4_handOut_17 ?_
      refine lv_aload_n hx hb dX4_handOut_20 rfl (lv_at hl 0 rfl) ?_
      refine sl_get (C := RX4) (T := TX4) (N := 8) hC hG 0 h0 rfl la_4 0 (by decide) lk_RX4_11 rfl rfl dX4_handOut_21 ?_
      refine sl_alen (v := 150) hC hG 1 2 h1 rfl rfl dX4_handOut_24 ?_
      refine lv_icmp_lt (tgt := 38) hx hb dX4_handOut_25 (by decide) (fun c_25 => ?_) (fun c_25 => ?_)
      · have n_25 : n < 150 := (nI_ltI (a := n) (b := 150) (by omega) (by omega)).mp c_25
        refine lv_aload_n hx hb dX4_handOut_38 rfl (lv_at hl 0 rfl) ?_
        refine sl_get (C := RX4) (T := TX4) (N := 8) hC hG 0 h0 rfl la_4 4 (by decide) lk_RX4_36 rfl rfl dX4_handOut_39 ?_
        refine lv_istore (lv' := [(5, .int (nI n)), (0, .ref (α 0)), (1, .int ss), (2, .int am), (3, .int rd), (4, .int ver)]) hx hb dX4_handOut_42 hl (by decide) rfl (fun ls hl => ?_)
        refine lv_aload_n hx hb dX4_handOut_44 rfl (lv_at hl 1 rfl) ?_
        refine sl_get (C := RX4) (T := TX4) (N := 8) hC hG 0 h0 rfl la_4 2 (by decide) lk_RX4_25 rfl rfl dX4_handOut_45 ?_
        refine lv_iload_n hx hb dX4_handOut_48 rfl (lv_at hl 2 rfl) ?_
        refine sl_callq (sl_runVN (As := [.int ss]) (rest := []) hC hG (kX3_copyFor l Γ g (101 + 3 * n) (102 + 3 * n) 4 5 (α 4) (α 5) T h4 h5 (hN _ (by omega)) (hN _ (by omega)) (by omega) (by omega) ss) mi_X3_copyFor lk_RX4_180 4 h4 rfl rfl rfl ⟨Nat.le_of_ble_eq_true rfl, Nat.le_of_ble_eq_true rfl⟩ rfl hl.1 rfl (Nat.le_of_ble_eq_true rfl) dX4_handOut_49 ⟨Nat.le_of_ble_eq_true rfl, Nat.le_of_ble_eq_true rfl⟩) hG (fun r_49 u_49 H locs hr_49 hG => ?_)
        subst hr_49
        refine sl_top (w := .ref u_49.1) rfl ?_
        have hG : sl_I Γ (sl_up (sl_up g (101 + 3 * n) (u_49.1, .inr (3, [.ref u_49.2]))) (102 + 3 * n) (u_49.2, .inl (Γ.2.1 0, 16, .inl (sl_tc T ss 4)))) s H _ := hG
        refine lv_astore (lv' := [(6, .ref u_49.1), (5, .int (nI n)), (0, .ref (α 0)), (1, .int ss), (2, .int am), (3, .int rd), (4, .int ver)]) hx hb dX4_handOut_52 hl (by decide) rfl (fun ls hl => ?_)
        refine lv_aload_n hx hb dX4_handOut_54 rfl (lv_at hl 2 rfl) ?_
        refine sl_get (C := RX4) (T := TX4) (N := 8) hC hG 0 (sl_up_to (by omega) (sl_up_to (by omega) h0)) rfl la_4 0 (by decide) lk_RX4_11 rfl rfl dX4_handOut_55 ?_
        refine lv_iload hx hb dX4_handOut_58 (lv_at hl 1 rfl) ?_
        refine sl_new (ci := 1) hC hG (100 + 3 * n) (sl_up_to (by omega) (sl_up_to (by omega) (hN _ (by omega)))) (C := RX1) (T := TX1) (N := 8) (fs := [.int 0, .int 0, .int 0, .int 0, .int 0, .int 0, .null, .int 0]) rfl la_1 tyX1 tyX1_ok (sl_f1) lk_RX4_9 in_RX1 ini_RX1 (Nat.le_of_ble_eq_true rfl) (Nat.le_of_ble_eq_true rfl) dX4_handOut_60 (fun q_60 H hG => ?_)
        have hG : sl_I Γ (sl_up (sl_up (sl_up g (101 + 3 * n) (u_49.1, .inr (3, [.ref u_49.2]))) (102 + 3 * n) (u_49.2, .inl (Γ.2.1 0, 16, .inl (sl_tc T ss 4)))) (100 + 3 * n) (q_60, .inr (1, [.int 0, .int 0, .int 0, .int 0, .int 0, .int 0, .null, .int 0]))) s H _ := hG
        refine lv_dup hx hb dX4_handOut_63 rfl ?_
        refine lv_aload_n hx hb dX4_handOut_64 rfl (lv_at hl 2 rfl) ?_
        refine sl_get (C := RX4) (T := TX4) (N := 8) hC hG 0 (sl_up_to (by omega) (sl_up_to (by omega) (sl_up_to (by omega) h0))) rfl la_4 6 (by decide) lk_RX4_43 rfl rfl dX4_handOut_65 ?_
        refine lv_aload_n hx hb dX4_handOut_68 rfl (lv_at hl 2 rfl) ?_
        refine sl_get (C := RX4) (T := TX4) (N := 8) hC hG 0 (sl_up_to (by omega) (sl_up_to (by omega) (sl_up_to (by omega) h0))) rfl la_4 5 (by decide) lk_RX4_40 rfl rfl dX4_handOut_69 ?_
        refine lv_iload_n hx hb dX4_handOut_72 rfl (lv_at hl 3 rfl) ?_
        refine lv_iload_n hx hb dX4_handOut_73 rfl (lv_at hl 4 rfl) ?_
        refine lv_iload_n hx hb dX4_handOut_74 rfl (lv_at hl 5 rfl) ?_
        refine lv_iload hx hb dX4_handOut_75 (lv_at hl 6 rfl) ?_
        refine lv_aload hx hb dX4_handOut_77 (lv_at hl 0 rfl) ?_
        refine sl_callv (sl_runIN (As := [.int (nI tl), .int ep, .int ss, .int am, .int rd, .int ver, .ref u_49.1]) (rest := [.ref q_60, .int (nI n), .ref (α 1)]) hC hG (kX1_init l Γ (sl_up (sl_up (sl_up g (101 + 3 * n) (u_49.1, .inr (3, [.ref u_49.2]))) (102 + 3 * n) (u_49.2, .inl (Γ.2.1 0, 16, .inl (sl_tc T ss 4)))) (100 + 3 * n) (q_60, .inr (1, [.int 0, .int 0, .int 0, .int 0, .int 0, .int 0, .null, .int 0]))) (100 + 3 * n) q_60 u_49.1 (sl_up_s _ _ _) (nI tl) ep ss am rd ver) mi_X1_init lk_RX4_184 rfl rfl ⟨Nat.le_of_ble_eq_true rfl, Nat.le_of_ble_eq_true rfl⟩ rfl hl.1 rfl (Nat.le_of_ble_eq_true rfl) dX4_handOut_79 ⟨Nat.le_of_ble_eq_true rfl, Nat.le_of_ble_eq_true rfl⟩) hG (fun u_79 H locs hr_79 hG => ?_)
        rw [sl_up_up] at hG
        have hG : sl_I Γ (sl_up (sl_up (sl_up g (101 + 3 * n) (u_49.1, .inr (3, [.ref u_49.2]))) (102 + 3 * n) (u_49.2, .inl (Γ.2.1 0, 16, .inl (sl_tc T ss 4)))) (100 + 3 * n) (q_60, .inr (1, [.int (nI tl), .int ep, .int ss, .int am, .int rd, .int ver, .ref u_49.1, .int 0]))) s H _ := hG
        refine sl_astqN hC hG 1 (100 + 3 * n) (sl_up_to (by omega) (sl_up_to (by omega) (sl_up_to (by omega) h1))) (sl_up_s _ _ _) (j := n) rfl (by omega) (by omega) dX4_handOut_82 (fun H locs hG => ?_)
        have hG : sl_I Γ (sl_up (sl_up (sl_up (sl_up g (101 + 3 * n) (u_49.1, .inr (3, [.ref u_49.2]))) (102 + 3 * n) (u_49.2, .inl (Γ.2.1 0, 16, .inl (sl_tc T ss 4)))) (100 + 3 * n) (q_60, .inr (1, [.int (nI tl), .int ep, .int ss, .int am, .int rd, .int ver, .ref u_49.1, .int 0]))) 1 ((α 1), .inl (Γ.2.1 2, 150, .inr (.inr (.inr (.inr (va_up (sl_ea n β) n (some q_60)))))))) s H _ := hG
        refine lv_aload_n hx hb dX4_handOut_83 rfl (lv_at hl 2 rfl) ?_
        refine sl_get (C := RX4) (T := TX4) (N := 8) hC hG 0 (sl_up_to (by decide) (sl_up_to (by omega) (sl_up_to (by omega) (sl_up_to (by omega) h0)))) rfl la_4 2 (by decide) lk_RX4_25 rfl rfl dX4_handOut_84 ?_
        refine lv_iload_n hx hb dX4_handOut_87 rfl (lv_at hl 3 rfl) ?_
        refine lv_aload_n hx hb dX4_handOut_88 rfl (lv_at hl 2 rfl) ?_
        refine sl_get (C := RX4) (T := TX4) (N := 8) hC hG 0 (sl_up_to (by decide) (sl_up_to (by omega) (sl_up_to (by omega) (sl_up_to (by omega) h0)))) rfl la_4 6 (by decide) lk_RX4_43 rfl rfl dX4_handOut_89 ?_
        refine sl_callv (sl_runVN (As := [.int ss, .int (nI tl)]) (rest := []) hC hG (kX3_push l Γ (sl_up (sl_up (sl_up (sl_up g (101 + 3 * n) (u_49.1, .inr (3, [.ref u_49.2]))) (102 + 3 * n) (u_49.2, .inl (Γ.2.1 0, 16, .inl (sl_tc T ss 4)))) (100 + 3 * n) (q_60, .inr (1, [.int (nI tl), .int ep, .int ss, .int am, .int rd, .int ver, .ref u_49.1, .int 0]))) 1 ((α 1), .inl (Γ.2.1 2, 150, .inr (.inr (.inr (.inr (va_up (sl_ea n β) n (some q_60)))))))) 4 5 (α 4) (α 5) T (sl_up_to (by decide) (sl_up_to (by omega) (sl_up_to (by omega) (sl_up_to (by omega) h4)))) (sl_up_to (by decide) (sl_up_to (by omega) (sl_up_to (by omega) (sl_up_to (by omega) h5)))) (by omega) ss (nI tl)) mi_X3_push lk_RX4_91 4 (sl_up_to (by decide) (sl_up_to (by omega) (sl_up_to (by omega) (sl_up_to (by omega) h4)))) rfl rfl rfl ⟨Nat.le_of_ble_eq_true rfl, Nat.le_of_ble_eq_true rfl⟩ rfl hl.1 rfl (Nat.le_of_ble_eq_true rfl) dX4_handOut_92 ⟨Nat.le_of_ble_eq_true rfl, Nat.le_of_ble_eq_true rfl⟩) hG (fun u_92 H locs hr_92 hG => ?_)
        have hG : sl_I Γ (sl_up (sl_up (sl_up (sl_up (sl_up g (101 + 3 * n) (u_49.1, .inr (3, [.ref u_49.2]))) (102 + 3 * n) (u_49.2, .inl (Γ.2.1 0, 16, .inl (sl_tc T ss 4)))) (100 + 3 * n) (q_60, .inr (1, [.int (nI tl), .int ep, .int ss, .int am, .int rd, .int ver, .ref u_49.1, .int 0]))) 1 ((α 1), .inl (Γ.2.1 2, 150, .inr (.inr (.inr (.inr (va_up (sl_ea n β) n (some q_60)))))))) 5 ((α 5), .inl (Γ.2.1 0, 16, .inl (sl_tp T ss (nI tl) 4)))) s H _ := hG
        refine lv_aload_n hx hb dX4_handOut_95 rfl (lv_at hl 2 rfl) ?_
        refine lv_dup hx hb dX4_handOut_96 rfl ?_
        refine sl_get (C := RX4) (T := TX4) (N := 8) hC hG 0 (sl_up_to (by decide) (sl_up_to (by decide) (sl_up_to (by omega) (sl_up_to (by omega) (sl_up_to (by omega) h0))))) rfl la_4 4 (by decide) lk_RX4_36 rfl rfl dX4_handOut_97 ?_
        refine lv_iconst (v := 1) hx hb dX4_handOut_100 (by decide) ?_
        refine lv_iadd hx hb dX4_handOut_101 ?_
        refine sl_topi (nI_add n 1) ?_
        refine sl_put (C := RX4) (T := TX4) (N := 8) (ty := .int) (v := .int (nI (n + 1))) hC hG 0 (sl_up_to (by decide) (sl_up_to (by decide) (sl_up_to (by omega) (sl_up_to (by omega) (sl_up_to (by omega) h0))))) rfl la_4 tyX4 tyX4_ok nmX4 4 (by decide) lk_RX4_36 rfl rfl (by decide +kernel) rfl rfl (Nat.le_of_ble_eq_true rfl) dX4_handOut_102 (fun H locs hG => ?_)
        have hG : sl_I Γ (sl_up (sl_up (sl_up (sl_up (sl_up (sl_up g (101 + 3 * n) (u_49.1, .inr (3, [.ref u_49.2]))) (102 + 3 * n) (u_49.2, .inl (Γ.2.1 0, 16, .inl (sl_tc T ss 4)))) (100 + 3 * n) (q_60, .inr (1, [.int (nI tl), .int ep, .int ss, .int am, .int rd, .int ver, .ref u_49.1, .int 0]))) 1 ((α 1), .inl (Γ.2.1 2, 150, .inr (.inr (.inr (.inr (va_up (sl_ea n β) n (some q_60)))))))) 5 ((α 5), .inl (Γ.2.1 0, 16, .inl (sl_tp T ss (nI tl) 4)))) 0 ((α 0), .inr (4, [.ref (α 1), .ref (α 2), .ref (α 4), .ref (α 6), .int (nI (n + 1)), .int ep, .int (nI tl), .int (sl_bi lo)]))) s H _ := hG
        refine lv_aload_n hx hb dX4_handOut_105 rfl (lv_at hl 2 rfl) ?_
        refine lv_dup hx hb dX4_handOut_106 rfl ?_
        refine sl_get (C := RX4) (T := TX4) (N := 8) hC hG 0 (sl_up_s _ _ _) rfl la_4 6 (by decide) lk_RX4_43 rfl rfl dX4_handOut_107 ?_
        refine lv_iconst (v := 1) hx hb dX4_handOut_110 (by decide) ?_
        refine lv_iadd hx hb dX4_handOut_111 ?_
        refine sl_topi (nI_add tl 1) ?_
        refine sl_put (C := RX4) (T := TX4) (N := 8) (ty := .int) (v := .int (nI (tl + 1))) hC hG 0 (sl_up_s _ _ _) rfl la_4 tyX4 tyX4_ok nmX4 6 (by decide) lk_RX4_43 rfl rfl (by decide +kernel) rfl rfl (Nat.le_of_ble_eq_true rfl) dX4_handOut_112 (fun H locs hG => ?_)
        rw [sl_up_up] at hG
        have hG : sl_I Γ (sl_up (sl_up (sl_up (sl_up (sl_up (sl_up g (101 + 3 * n) (u_49.1, .inr (3, [.ref u_49.2]))) (102 + 3 * n) (u_49.2, .inl (Γ.2.1 0, 16, .inl (sl_tc T ss 4)))) (100 + 3 * n) (q_60, .inr (1, [.int (nI tl), .int ep, .int ss, .int am, .int rd, .int ver, .ref u_49.1, .int 0]))) 1 ((α 1), .inl (Γ.2.1 2, 150, .inr (.inr (.inr (.inr (va_up (sl_ea n β) n (some q_60)))))))) 5 ((α 5), .inl (Γ.2.1 0, 16, .inl (sl_tp T ss (nI tl) 4)))) 0 ((α 0), .inr (4, [.ref (α 1), .ref (α 2), .ref (α 4), .ref (α 6), .int (nI (n + 1)), .int ep, .int (nI (tl + 1)), .int (sl_bi lo)]))) s H _ := hG
        refine lv_iload hx hb dX4_handOut_115 (lv_at hl 1 rfl) ?_
        exact vx_ret (sl_ri (v := nI n) hC hr hG (sl_bu β n (q_60, u_49.1, u_49.2), (sl_up (sl_up (sl_up (sl_up (sl_up (sl_up g (101 + 3 * n) (u_49.1, .inr (3, [.ref u_49.2]))) (102 + 3 * n) (u_49.2, .inl (Γ.2.1 0, 16, .inl (sl_tc T ss 4)))) (100 + 3 * n) (q_60, .inr (1, [.int (nI tl), .int ep, .int ss, .int am, .int rd, .int ver, .ref u_49.1, .int 0]))) 1 ((α 1), .inl (Γ.2.1 2, 150, .inr (.inr (.inr (.inr (va_up (sl_ea n β) n (some q_60)))))))) 5 ((α 5), .inl (Γ.2.1 0, 16, .inl (sl_tp T ss (nI tl) 4)))) 0 ((α 0), .inr (4, [.ref (α 1), .ref (α 2), .ref (α 4), .ref (α 6), .int (nI (n + 1)), .int ep, .int (nI (tl + 1)), .int (sl_bi lo)])))) ⟨by rw [sl_ch, c_4, decide_eq_false n_13, decide_eq_false (by omega)]; rfl, rfl, sl_Cls_hand hK n_25 (by omega) q_60 u_49.1 u_49.2 ss am rd ver (sl_tp T ss (nI tl) 4) (sl_tc T ss 4)⟩ rfl (Nat.le_of_ble_eq_true rfl) (Nat.le_of_ble_eq_true rfl) dX4_handOut_117)
      · have n_25 : ¬ (n < 150) := fun z => c_25 ((nI_ltI (a := n) (b := 150) (by omega) (by omega)).mpr z)
        exact sl_thr (text := "the sequencer hands out nothing") (rest := []) hlt hC hG ⟨rfl, by rw [sl_ch, decide_eq_true (by omega : 150 ≤ n), Bool.or_true]⟩ (by decide) lk_RX4_72 ini_IllegalStateException (by decide +kernel) sl_hatS sl_otS hl.1 dX4_handOut_28 dX4_handOut_31 dX4_handOut_32 dX4_handOut_34 dX4_handOut_37 hno (Nat.le_of_ble_eq_true rfl) (Nat.le_of_ble_eq_true rfl) (Nat.le_of_ble_eq_true rfl) (Nat.le_of_ble_eq_true rfl) (Nat.le_of_ble_eq_true rfl) (Nat.le_of_ble_eq_true rfl)
end
section
/-! take, takeIf, write, fill, the constructor -/
def sl_k2 (ss am : Int32) : Bool := sl_in ss 1 15 && sl_in am (-1000) 1000
def sl_k4 (lo : Bool) (tl : Nat) (ss am rd ver : Int32) : Bool := sl_in ss 1 15 && sl_in am (-1000) 1000 && sl_in rd 1 15 && (lo || sl_in ver 0 (nI tl))
def sl_al (l : List Nat) : Nat → Nat := fun k => l.getD k 0
theorem sl_ea_0 (β : Nat → Nat × Nat × Nat) : sl_ea 0 β = fun _ => none := by
  funext i
  rw [sl_ea, if_neg (Nat.not_lt_zero i)]
def sl_b0 : Nat → Nat × Nat × Nat := fun _ => (0, 0, 0)
def sl_E0 : Nat → sl_Ent := fun _ => (0, 0, 0, 0, 0, 0, fun _ => 0, 0)
set_option maxHeartbeats 4000000 in
set_option maxRecDepth 100000 in
theorem kX4_take (l : Launch) (hlt : l.stackTraces = false) (Γ : sl_G) (g : sl_W) (α : Nat → Nat) (β : Nat → Nat × Nat × Nat) (n : Nat) (ep : Int32) (tl : Nat) (lo : Bool) (T C : Nat → Int32) (E : Nat → sl_Ent) (hK : sl_Cls Γ α β n ep tl lo T C E g) (ss am : Int32) : vx_Met l yX4_take [Cond.code yX4_take cX4_take 3 (some .int)] ({ frames := 7, cells := 3, slots := 25, locals := 126 } : Room) (va_Pc [.ref (α 0), .int ss, .int am] (sl_B Γ g)) (sl_Qi Γ (fun r (u : (Nat → Nat × Nat × Nat) × sl_W) => sl_k2 ss am = true ∧ sl_ch lo tl n = false ∧ r = nI n ∧ sl_Cls Γ α u.1 (n + 1) ep (tl + 1) lo (sl_tp T ss (nI tl) 4) C (sl_eu E n (nI tl, ep, ss, am, 0, 0, sl_tc T ss 4, 0)) u.2 ∧ sl_fr g u.2) (fun (u : (Nat → Nat × Nat × Nat) × sl_W) => u.2)) (sl_X Γ g (fun E0 => (E0 = "java/lang/IllegalArgumentException" ∧ sl_k2 ss am = false) ∨ (E0 = "java/lang/IllegalStateException" ∧ sl_k2 ss am = true ∧ sl_ch lo tl n = true))) 3 25 (sl_A Γ) := by
  refine sl_entx (by decide) (Nat.le_of_ble_eq_true rfl) ?_
  intro p e s m below meth c ls hC hr hno hG hl
  have hx := hC.1
  have hb := hC.2.1
  have hl : lv_has ls 3 [(0, .ref (α 0)), (1, .int ss), (2, .int am)] := hl
  have hS := hK.ro
  obtain ⟨h0, h1, h2, h3, h4, h5, ⟨F, X, fd, h6, h7, h8⟩, hE, hN, hn9, ht9⟩ := id hK
  refine lv_iload_n hx hb dX4_take_0 rfl (lv_at hl 1 rfl) ?_
  refine sl_calli (sl_runS (As := [.int ss]) (rest := []) hC hG (kX4_isSetOfStreams l Γ g ss) mi_X4_isSetOfStreams lk_RX4_50 rfl rfl ⟨Nat.le_of_ble_eq_true rfl, Nat.le_of_ble_eq_true rfl⟩ rfl hl.1 rfl (Nat.le_of_ble_eq_true rfl) dX4_take_1 ⟨Nat.le_of_ble_eq_true rfl, Nat.le_of_ble_eq_true rfl⟩) hG (fun r_1 u_1 H locs hr_1 hG => ?_)
  subst hr_1
  refine lv_if_eq (tgt := 14) hx hb dX4_take_4 (by decide) (fun c_4 => ?_) (fun c_4 => ?_)
  · have c_4 := sl_bF c_4
    exact sl_thr (text := "streams or amount is out of range") (rest := []) hlt hC hG (Or.inl ⟨rfl, by rw [sl_k2, c_4]; rfl⟩) (by decide) lk_RX4_57 ini_IllegalArgumentException (by decide +kernel) sl_hatA sl_otA hl.1 dX4_take_14 dX4_take_17 dX4_take_18 dX4_take_20 dX4_take_23 hno (Nat.le_of_ble_eq_true rfl) (Nat.le_of_ble_eq_true rfl) (Nat.le_of_ble_eq_true rfl) (Nat.le_of_ble_eq_true rfl) (Nat.le_of_ble_eq_true rfl) (Nat.le_of_ble_eq_true rfl)
  · have c_4 := sl_bT c_4
    refine lv_iload_n hx hb dX4_take_7 rfl (lv_at hl 2 rfl) ?_
    refine sl_calli (sl_runS (As := [.int am]) (rest := []) hC hG (kX4_isAmount l Γ g am) mi_X4_isAmount lk_RX4_54 rfl rfl ⟨Nat.le_of_ble_eq_true rfl, Nat.le_of_ble_eq_true rfl⟩ rfl hl.1 rfl (Nat.le_of_ble_eq_true rfl) dX4_take_8 ⟨Nat.le_of_ble_eq_true rfl, Nat.le_of_ble_eq_true rfl⟩) hG (fun r_8 u_8 H locs hr_8 hG => ?_)
    subst hr_8
    refine lv_if_ne (tgt := 24) hx hb dX4_take_11 (by decide) (fun c_11 => ?_) (fun c_11 => ?_)
    · have c_11 := sl_bT c_11
      refine lv_aload_n hx hb dX4_take_24 rfl (lv_at hl 0 rfl) ?_
      refine lv_iload_n hx hb dX4_take_25 rfl (lv_at hl 1 rfl) ?_
      refine lv_iload_n hx hb dX4_take_26 rfl (lv_at hl 2 rfl) ?_
      refine lv_iconst (v := 0) hx hb dX4_take_27 (by decide) ?_
      refine lv_iconst (v := 0) hx hb dX4_take_28 (by decide) ?_
      refine sl_callxi (sl_runX (As := [.int ss, .int am, .int 0, .int 0]) (rest := []) hC hG (kX4_handOut l hlt Γ g α β n ep tl lo T C E hK ss am 0 0) mi_X4_handOut lk_RX4_64 0 h0 rfl rfl rfl ⟨Nat.le_of_ble_eq_true rfl, Nat.le_of_ble_eq_true rfl⟩ rfl hl.1 rfl (Nat.le_of_ble_eq_true rfl) dX4_take_29 ⟨Nat.le_of_ble_eq_true rfl, Nat.le_of_ble_eq_true rfl⟩) hG (fun E ce q9 H locs hxE hG hce hcv hcl => ?_) (fun r_29 u_29 H locs hr_29 hG => ?_)
      · exact sl_outx hC hno hG (Or.inr ⟨hxE.1, (by rw [sl_k2, c_4, c_11]; rfl), hxE.2⟩) hce hcv hcl (Nat.le_of_ble_eq_true rfl) (Nat.le_of_ble_eq_true rfl)
      · obtain ⟨hc9, hr9, hK9, hf9⟩ := hr_29
        subst hr9
        exact vx_ret (sl_ri (v := nI n) hC hr hG u_29 ⟨(by rw [sl_k2, c_4, c_11]; rfl), hc9, rfl, hK9, hf9⟩ rfl (Nat.le_of_ble_eq_true rfl) (Nat.le_of_ble_eq_true rfl) dX4_take_32)
    · have c_11 := sl_bF c_11
      exact sl_thr (text := "streams or amount is out of range") (rest := []) hlt hC hG (Or.inl ⟨rfl, by rw [sl_k2, c_11]; exact Bool.and_false _⟩) (by decide) lk_RX4_57 ini_IllegalArgumentException (by decide +kernel) sl_hatA sl_otA hl.1 dX4_take_14 dX4_take_17 dX4_take_18 dX4_take_20 dX4_take_23 hno (Nat.le_of_ble_eq_true rfl) (Nat.le_of_ble_eq_true rfl) (Nat.le_of_ble_eq_true rfl) (Nat.le_of_ble_eq_true rfl) (Nat.le_of_ble_eq_true rfl) (Nat.le_of_ble_eq_true rfl)
set_option maxHeartbeats 4000000 in
set_option maxRecDepth 100000 in
theorem kX4_takeIf (l : Launch) (hlt : l.stackTraces = false) (Γ : sl_G) (g : sl_W) (α : Nat → Nat) (β : Nat → Nat × Nat × Nat) (n : Nat) (ep : Int32) (tl : Nat) (lo : Bool) (T C : Nat → Int32) (E : Nat → sl_Ent) (hK : sl_Cls Γ α β n ep tl lo T C E g) (ss am rd ver : Int32) : vx_Met l yX4_takeIf [Cond.code yX4_takeIf cX4_takeIf 5 (some .int)] ({ frames := 7, cells := 3, slots := 25, locals := 126 } : Room) (va_Pc [.ref (α 0), .int ss, .int am, .int rd, .int ver] (sl_B Γ g)) (sl_Qi Γ (fun r (u : (Nat → Nat × Nat × Nat) × sl_W) => sl_k4 lo tl ss am rd ver = true ∧ sl_ch lo tl n = false ∧ r = nI n ∧ sl_Cls Γ α u.1 (n + 1) ep (tl + 1) lo (sl_tp T ss (nI tl) 4) C (sl_eu E n (nI tl, ep, ss, am, rd, ver, sl_tc T ss 4, 0)) u.2 ∧ sl_fr g u.2) (fun (u : (Nat → Nat × Nat × Nat) × sl_W) => u.2)) (sl_X Γ g (fun E0 => (E0 = "java/lang/IllegalArgumentException" ∧ sl_k4 lo tl ss am rd ver = false) ∨ (E0 = "java/lang/IllegalStateException" ∧ sl_k4 lo tl ss am rd ver = true ∧ sl_ch lo tl n = true))) 3 25 (sl_A Γ) := by
  refine sl_entx (by decide) (Nat.le_of_ble_eq_true rfl) ?_
  intro p e s m below meth c ls hC hr hno hG hl
  have hx := hC.1
  have hb := hC.2.1
  have hl : lv_has ls 5 [(0, .ref (α 0)), (1, .int ss), (2, .int am), (3, .int rd), (4, .int ver)] := hl
  have hS := hK.ro
  obtain ⟨h0, h1, h2, h3, h4, h5, ⟨F, X, fd, h6, h7, h8⟩, hE, hN, hn9, ht9⟩ := id hK
  refine lv_iload_n hx hb dX4_takeIf_0 rfl (lv_at hl 1 rfl) ?_
  refine sl_calli (sl_runS (As := [.int ss]) (rest := []) hC hG (kX4_isSetOfStreams l Γ g ss) mi_X4_isSetOfStreams lk_RX4_50 rfl rfl ⟨Nat.le_of_ble_eq_true rfl, Nat.le_of_ble_eq_true rfl⟩ rfl hl.1 rfl (Nat.le_of_ble_eq_true rfl) dX4_takeIf_1 ⟨Nat.le_of_ble_eq_true rfl, Nat.le_of_ble_eq_true rfl⟩) hG (fun r_1 u_1 H locs hr_1 hG => ?_)
  subst hr_1
  refine lv_if_eq (tgt := 21) hx hb dX4_takeIf_4 (by decide) (fun c_4 => ?_) (fun c_4 => ?_)
  · have c_4 := sl_bF c_4
    exact sl_thr (text := "streams, amount or read is out of range") (rest := []) hlt hC hG (Or.inl ⟨rfl, (by rw [sl_k4, c_4]; rfl)⟩) (by decide) lk_RX4_57 ini_IllegalArgumentException (by decide +kernel) sl_hatA sl_otA hl.1 dX4_takeIf_21 dX4_takeIf_24 dX4_takeIf_25 dX4_takeIf_27 dX4_takeIf_30 hno (Nat.le_of_ble_eq_true rfl) (Nat.le_of_ble_eq_true rfl) (Nat.le_of_ble_eq_true rfl) (Nat.le_of_ble_eq_true rfl) (Nat.le_of_ble_eq_true rfl) (Nat.le_of_ble_eq_true rfl)
  · have c_4 := sl_bT c_4
    refine lv_iload_n hx hb dX4_takeIf_7 rfl (lv_at hl 2 rfl) ?_
    refine sl_calli (sl_runS (As := [.int am]) (rest := []) hC hG (kX4_isAmount l Γ g am) mi_X4_isAmount lk_RX4_54 rfl rfl ⟨Nat.le_of_ble_eq_true rfl, Nat.le_of_ble_eq_true rfl⟩ rfl hl.1 rfl (Nat.le_of_ble_eq_true rfl) dX4_takeIf_8 ⟨Nat.le_of_ble_eq_true rfl, Nat.le_of_ble_eq_true rfl⟩) hG (fun r_8 u_8 H locs hr_8 hG => ?_)
    subst hr_8
    refine lv_if_eq (tgt := 21) hx hb dX4_takeIf_11 (by decide) (fun c_11 => ?_) (fun c_11 => ?_)
    · have c_11 := sl_bF c_11
      exact sl_thr (text := "streams, amount or read is out of range") (rest := []) hlt hC hG (Or.inl ⟨rfl, (by rw [sl_k4, c_11, Bool.and_false]; rfl)⟩) (by decide) lk_RX4_57 ini_IllegalArgumentException (by decide +kernel) sl_hatA sl_otA hl.1 dX4_takeIf_21 dX4_takeIf_24 dX4_takeIf_25 dX4_takeIf_27 dX4_takeIf_30 hno (Nat.le_of_ble_eq_true rfl) (Nat.le_of_ble_eq_true rfl) (Nat.le_of_ble_eq_true rfl) (Nat.le_of_ble_eq_true rfl) (Nat.le_of_ble_eq_true rfl) (Nat.le_of_ble_eq_true rfl)
    · have c_11 := sl_bT c_11
      refine lv_iload_n hx hb dX4_takeIf_14 rfl (lv_at hl 3 rfl) ?_
      refine sl_calli (sl_runS (As := [.int rd]) (rest := []) hC hG (kX4_isSetOfStreams l Γ g rd) mi_X4_isSetOfStreams lk_RX4_50 rfl rfl ⟨Nat.le_of_ble_eq_true rfl, Nat.le_of_ble_eq_true rfl⟩ rfl hl.1 rfl (Nat.le_of_ble_eq_true rfl) dX4_takeIf_15 ⟨Nat.le_of_ble_eq_true rfl, Nat.le_of_ble_eq_true rfl⟩) hG (fun r_15 u_15 H locs hr_15 hG => ?_)
      subst hr_15
      refine lv_if_ne (tgt := 31) hx hb dX4_takeIf_18 (by decide) (fun c_18 => ?_) (fun c_18 => ?_)
      · have c_18 := sl_bT c_18
        refine lv_aload_n hx hb dX4_takeIf_31 rfl (lv_at hl 0 rfl) ?_
        refine sl_get (C := RX4) (T := TX4) (N := 8) hC hG 0 h0 rfl la_4 7 (by decide) lk_RX4_46 rfl rfl dX4_takeIf_32 ?_
        refine lv_if_ne (tgt := 62) hx hb dX4_takeIf_35 (by decide) (fun c_35 => ?_) (fun c_35 => ?_)
        · have c_35 := sl_bT c_35
          refine lv_aload_n hx hb dX4_takeIf_62 rfl (lv_at hl 0 rfl) ?_
          refine lv_iload_n hx hb dX4_takeIf_63 rfl (lv_at hl 1 rfl) ?_
          refine lv_iload_n hx hb dX4_takeIf_64 rfl (lv_at hl 2 rfl) ?_
          refine lv_iload_n hx hb dX4_takeIf_65 rfl (lv_at hl 3 rfl) ?_
          refine lv_iload hx hb dX4_takeIf_66 (lv_at hl 4 rfl) ?_
          refine sl_callxi (sl_runX (As := [.int ss, .int am, .int rd, .int ver]) (rest := []) hC hG (kX4_handOut l hlt Γ g α β n ep tl lo T C E hK ss am rd ver) mi_X4_handOut lk_RX4_64 0 h0 rfl rfl rfl ⟨Nat.le_of_ble_eq_true rfl, Nat.le_of_ble_eq_true rfl⟩ rfl hl.1 rfl (Nat.le_of_ble_eq_true rfl) dX4_takeIf_68 ⟨Nat.le_of_ble_eq_true rfl, Nat.le_of_ble_eq_true rfl⟩) hG (fun E ce q9 H locs hxE hG hce hcv hcl => ?_) (fun r_68 u_68 H locs hr_68 hG => ?_)
          · exact sl_outx hC hno hG (Or.inr ⟨hxE.1, (by rw [sl_k4, c_4, c_11, c_18, c_35]; rfl), hxE.2⟩) hce hcv hcl (Nat.le_of_ble_eq_true rfl) (Nat.le_of_ble_eq_true rfl)
          · obtain ⟨hc9, hr9, hK9, hf9⟩ := hr_68
            subst hr9
            exact vx_ret (sl_ri (v := nI n) hC hr hG u_68 ⟨(by rw [sl_k4, c_4, c_11, c_18, c_35]; rfl), hc9, rfl, hK9, hf9⟩ rfl (Nat.le_of_ble_eq_true rfl) (Nat.le_of_ble_eq_true rfl) dX4_takeIf_71)
        · have c_35 := sl_bF c_35
          refine lv_iload hx hb dX4_takeIf_38 (lv_at hl 4 rfl) ?_
          refine lv_if_lt (tgt := 52) hx hb dX4_takeIf_40 (by decide) (fun c_40 => ?_) (fun c_40 => ?_)
          · exact sl_thr (text := "version is out of range") (rest := []) hlt hC hG (Or.inl ⟨rfl, (by rw [sl_k4, c_35, sl_in_f (v := ver) (lo := 0) (hi := nI tl) (Or.inl (by rw [sl_ltI, sl_i0] at c_40; rw [sl_i0]; omega))]; exact Bool.and_false _)⟩) (by decide) lk_RX4_57 ini_IllegalArgumentException (by decide +kernel) sl_hatA sl_otA hl.1 dX4_takeIf_52 dX4_takeIf_55 dX4_takeIf_56 dX4_takeIf_58 dX4_takeIf_61 hno (Nat.le_of_ble_eq_true rfl) (Nat.le_of_ble_eq_true rfl) (Nat.le_of_ble_eq_true rfl) (Nat.le_of_ble_eq_true rfl) (Nat.le_of_ble_eq_true rfl) (Nat.le_of_ble_eq_true rfl)
          · refine lv_iload hx hb dX4_takeIf_43 (lv_at hl 4 rfl) ?_
            refine lv_aload_n hx hb dX4_takeIf_45 rfl (lv_at hl 0 rfl) ?_
            refine sl_get (C := RX4) (T := TX4) (N := 8) hC hG 0 h0 rfl la_4 6 (by decide) lk_RX4_43 rfl rfl dX4_takeIf_46 ?_
            refine lv_icmp_le (tgt := 62) hx hb dX4_takeIf_49 (by decide) (fun c_49 => ?_) (fun c_49 => ?_)
            · refine lv_aload_n hx hb dX4_takeIf_62 rfl (lv_at hl 0 rfl) ?_
              refine lv_iload_n hx hb dX4_takeIf_63 rfl (lv_at hl 1 rfl) ?_
              refine lv_iload_n hx hb dX4_takeIf_64 rfl (lv_at hl 2 rfl) ?_
              refine lv_iload_n hx hb dX4_takeIf_65 rfl (lv_at hl 3 rfl) ?_
              refine lv_iload hx hb dX4_takeIf_66 (lv_at hl 4 rfl) ?_
              refine sl_callxi (sl_runX (As := [.int ss, .int am, .int rd, .int ver]) (rest := []) hC hG (kX4_handOut l hlt Γ g α β n ep tl lo T C E hK ss am rd ver) mi_X4_handOut lk_RX4_64 0 h0 rfl rfl rfl ⟨Nat.le_of_ble_eq_true rfl, Nat.le_of_ble_eq_true rfl⟩ rfl hl.1 rfl (Nat.le_of_ble_eq_true rfl) dX4_takeIf_68 ⟨Nat.le_of_ble_eq_true rfl, Nat.le_of_ble_eq_true rfl⟩) hG (fun E ce q9 H locs hxE hG hce hcv hcl => ?_) (fun r_68 u_68 H locs hr_68 hG => ?_)
              · exact sl_outx hC hno hG (Or.inr ⟨hxE.1, (by rw [sl_k4, c_4, c_11, c_18, c_35, sl_in_t (by rw [sl_ltI, sl_i0] at c_40; rw [sl_i0]; omega) (sl_leI.mp c_49)]; rfl), hxE.2⟩) hce hcv hcl (Nat.le_of_ble_eq_true rfl) (Nat.le_of_ble_eq_true rfl)
              · obtain ⟨hc9, hr9, hK9, hf9⟩ := hr_68
                subst hr9
                exact vx_ret (sl_ri (v := nI n) hC hr hG u_68 ⟨(by rw [sl_k4, c_4, c_11, c_18, c_35, sl_in_t (by rw [sl_ltI, sl_i0] at c_40; rw [sl_i0]; omega) (sl_leI.mp c_49)]; rfl), hc9, rfl, hK9, hf9⟩ rfl (Nat.le_of_ble_eq_true rfl) (Nat.le_of_ble_eq_true rfl) dX4_takeIf_71)
            · exact sl_thr (text := "version is out of range") (rest := []) hlt hC hG (Or.inl ⟨rfl, (by rw [sl_k4, c_35, sl_in_f (v := ver) (lo := 0) (hi := nI tl) (Or.inr (by rw [sl_leI] at c_49; omega))]; exact Bool.and_false _)⟩) (by decide) lk_RX4_57 ini_IllegalArgumentException (by decide +kernel) sl_hatA sl_otA hl.1 dX4_takeIf_52 dX4_takeIf_55 dX4_takeIf_56 dX4_takeIf_58 dX4_takeIf_61 hno (Nat.le_of_ble_eq_true rfl) (Nat.le_of_ble_eq_true rfl) (Nat.le_of_ble_eq_true rfl) (Nat.le_of_ble_eq_true rfl) (Nat.le_of_ble_eq_true rfl) (Nat.le_of_ble_eq_true rfl)
      · have c_18 := sl_bF c_18
        exact sl_thr (text := "streams, amount or read is out of range") (rest := []) hlt hC hG (Or.inl ⟨rfl, (by rw [sl_k4, c_18, Bool.and_false]; rfl)⟩) (by decide) lk_RX4_57 ini_IllegalArgumentException (by decide +kernel) sl_hatA sl_otA hl.1 dX4_takeIf_21 dX4_takeIf_24 dX4_takeIf_25 dX4_takeIf_27 dX4_takeIf_30 hno (Nat.le_of_ble_eq_true rfl) (Nat.le_of_ble_eq_true rfl) (Nat.le_of_ble_eq_true rfl) (Nat.le_of_ble_eq_true rfl) (Nat.le_of_ble_eq_true rfl) (Nat.le_of_ble_eq_true rfl)
set_option maxHeartbeats 4000000 in
set_option maxRecDepth 100000 in
theorem kX4_write (l : Launch) (hlt : l.stackTraces = false) (Γ : sl_G) (g : sl_W) (α : Nat → Nat) (β : Nat → Nat × Nat × Nat) (n : Nat) (ep : Int32) (tl : Nat) (lo : Bool) (T C : Nat → Int32) (E : Nat → sl_Ent) (hK : sl_Cls Γ α β n ep tl lo T C E g) (x : Int32) : vx_Met l yX4_write [Cond.code yX4_write cX4_write 3 (some .int)] ({ frames := 6, cells := 1, slots := 6, locals := 100 } : Room) (va_Pc [.ref (α 0), .int x] (sl_B Γ g)) (sl_Qi Γ (fun r g' => ∃ t, sl_tok n x = some t ∧ ¬ ((E t).2.2.2.2.2.2.2 = -1 ∨ (E t).2.2.2.2.2.2.2 = 3 ∨ ¬ (E t).2.1 = ep) ∧ r = (if sl_cg C (E t).2.2.2.2.2.2.2 (E t).1 = -1 then -1 else (E t).2.2.2.2.2.2.2 + 1) ∧ sl_Cls Γ α β n ep tl lo T (if sl_cg C (E t).2.2.2.2.2.2.2 (E t).1 = -1 then C else sl_cp C (E t).2.2.2.2.2.2.2 (E t).1 x) (sl_es E t (if sl_cg C (E t).2.2.2.2.2.2.2 (E t).1 = -1 then -1 else (E t).2.2.2.2.2.2.2 + 1)) g' ∧ sl_fr g g') (fun g' => g')) (sl_X Γ g (fun E0 => (E0 = "java/lang/IndexOutOfBoundsException" ∧ sl_tok n x = none) ∨ (E0 = "java/lang/IllegalStateException" ∧ ∃ t, sl_tok n x = some t ∧ ((E t).2.2.2.2.2.2.2 = -1 ∨ (E t).2.2.2.2.2.2.2 = 3 ∨ ¬ (E t).2.1 = ep)))) 1 6 (sl_A Γ) := by
  refine sl_entx (by decide) (Nat.le_of_ble_eq_true rfl) ?_
  intro p e s m below meth c ls hC hr hno hG hl
  have hx := hC.1
  have hb := hC.2.1
  have hl : lv_has ls 3 [(0, .ref (α 0)), (1, .int x)] := hl
  have hS := hK.ro
  obtain ⟨h0, h1, h2, h3, h4, h5, ⟨F, X, fd, h6, h7, h8⟩, hE, hN, hn9, ht9⟩ := id hK
  refine lv_aload_n hx hb dX4_write_0 rfl (lv_at hl 0 rfl) ?_
  refine lv_iload_n hx hb dX4_write_1 rfl (lv_at hl 1 rfl) ?_
  refine sl_callq (sl_runV (As := [.int x]) (rest := []) hC hG (kX4_entryOf l Γ g α β n C E hS x) mi_X4_entryOf lk_RX4_95 0 h0 rfl rfl rfl ⟨Nat.le_of_ble_eq_true rfl, Nat.le_of_ble_eq_true rfl⟩ rfl hl.1 rfl (Nat.le_of_ble_eq_true rfl) dX4_write_2 ⟨Nat.le_of_ble_eq_true rfl, Nat.le_of_ble_eq_true rfl⟩) hG (fun r_2 u_2 H locs hr_2 hG => ?_)
  subst hr_2
  rcases sl_opt (sl_tok n x) with hq_2 | ⟨t_2, hq_2⟩
  · refine sl_top (w := .null) (by rw [hq_2]; rfl) ?_
    refine lv_astore_nN (lv' := [(2, .null), (0, .ref (α 0)), (1, .int x)]) hx hb dX4_write_5 rfl hl (by decide) rfl (fun ls hl => ?_)
    refine lv_aload_nN hx hb dX4_write_6 rfl (lv_at hl 0 rfl) ?_
    refine lv_ifnonnullN hx hb dX4_write_7 ?_
    exact sl_thr (text := "no such token") (rest := []) hlt hC hG (Or.inl ⟨rfl, hq_2⟩) (by decide) lk_RX4_98 ini_IndexOutOfBoundsException (by decide +kernel) sl_hatO sl_otO hl.1 dX4_write_10 dX4_write_13 dX4_write_14 dX4_write_16 dX4_write_19 hno (Nat.le_of_ble_eq_true rfl) (Nat.le_of_ble_eq_true rfl) (Nat.le_of_ble_eq_true rfl) (Nat.le_of_ble_eq_true rfl) (Nat.le_of_ble_eq_true rfl) (Nat.le_of_ble_eq_true rfl)
  · refine sl_top (w := .ref ((β t_2).1)) (by rw [hq_2]; rfl) ?_
    have ht_t_2 := sl_tok_lt hq_2
    refine lv_astore_n (lv' := [(2, .ref ((β t_2).1)), (0, .ref (α 0)), (1, .int x)]) hx hb dX4_write_5 rfl hl (by decide) rfl (fun ls hl => ?_)
    refine lv_aload_n hx hb dX4_write_6 rfl (lv_at hl 0 rfl) ?_
    refine lv_ifnonnull (tgt := 20) hx hb dX4_write_7 (by decide) ?_
    refine lv_aload_n hx hb dX4_write_20 rfl (lv_at hl 0 rfl) ?_
    refine sl_getN (C := RX1) (T := TX1) (N := 8) hC hG (100 + 3 * t_2) (hE t_2 ht_t_2).1 rfl la_1 7 (by decide) lk_RX4_103 rfl rfl dX4_write_21 ?_
    refine lv_iconst (v := (-1)) hx hb dX4_write_24 (by decide) ?_
    refine lv_icmp_eq (tgt := 47) hx hb dX4_write_25 (by decide) (fun c_25 => ?_) (fun c_25 => ?_)
    · exact sl_thr (text := "the token cannot write") (rest := []) hlt hC hG (Or.inr ⟨rfl, t_2, hq_2, Or.inl c_25⟩) (by decide) lk_RX4_72 ini_IllegalStateException (by decide +kernel) sl_hatS sl_otS hl.1 dX4_write_47 dX4_write_50 dX4_write_51 dX4_write_53 dX4_write_56 hno (Nat.le_of_ble_eq_true rfl) (Nat.le_of_ble_eq_true rfl) (Nat.le_of_ble_eq_true rfl) (Nat.le_of_ble_eq_true rfl) (Nat.le_of_ble_eq_true rfl) (Nat.le_of_ble_eq_true rfl)
    · refine lv_aload_n hx hb dX4_write_28 rfl (lv_at hl 0 rfl) ?_
      refine sl_getN (C := RX1) (T := TX1) (N := 8) hC hG (100 + 3 * t_2) (hE t_2 ht_t_2).1 rfl la_1 7 (by decide) lk_RX4_103 rfl rfl dX4_write_29 ?_
      refine lv_iconst (v := 3) hx hb dX4_write_32 (by decide) ?_
      refine lv_icmp_eq (tgt := 47) hx hb dX4_write_33 (by decide) (fun c_33 => ?_) (fun c_33 => ?_)
      · exact sl_thr (text := "the token cannot write") (rest := []) hlt hC hG (Or.inr ⟨rfl, t_2, hq_2, Or.inr (Or.inl c_33)⟩) (by decide) lk_RX4_72 ini_IllegalStateException (by decide +kernel) sl_hatS sl_otS hl.1 dX4_write_47 dX4_write_50 dX4_write_51 dX4_write_53 dX4_write_56 hno (Nat.le_of_ble_eq_true rfl) (Nat.le_of_ble_eq_true rfl) (Nat.le_of_ble_eq_true rfl) (Nat.le_of_ble_eq_true rfl) (Nat.le_of_ble_eq_true rfl) (Nat.le_of_ble_eq_true rfl)
      · refine lv_aload_n hx hb dX4_write_36 rfl (lv_at hl 0 rfl) ?_
        refine sl_getN (C := RX1) (T := TX1) (N := 8) hC hG (100 + 3 * t_2) (hE t_2 ht_t_2).1 rfl la_1 1 (by decide) lk_RX4_106 rfl rfl dX4_write_37 ?_
        refine lv_aload_n hx hb dX4_write_40 rfl (lv_at hl 1 rfl) ?_
        refine sl_get (C := RX4) (T := TX4) (N := 8) hC hG 0 h0 rfl la_4 5 (by decide) lk_RX4_40 rfl rfl dX4_write_41 ?_
        refine lv_icmp_eq (tgt := 57) hx hb dX4_write_44 (by decide) (fun c_44 => ?_) (fun c_44 => ?_)
        · refine lv_aload_n hx hb dX4_write_57 rfl (lv_at hl 1 rfl) ?_
          refine sl_get (C := RX4) (T := TX4) (N := 8) hC hG 0 h0 rfl la_4 1 (by decide) lk_RX4_18 rfl rfl dX4_write_58 ?_
          refine lv_aload_n hx hb dX4_write_61 rfl (lv_at hl 0 rfl) ?_
          refine sl_getN (C := RX1) (T := TX1) (N := 8) hC hG (100 + 3 * t_2) (hE t_2 ht_t_2).1 rfl la_1 7 (by decide) lk_RX4_103 rfl rfl dX4_write_62 ?_
          refine lv_aload_n hx hb dX4_write_65 rfl (lv_at hl 0 rfl) ?_
          refine sl_getN (C := RX1) (T := TX1) (N := 8) hC hG (100 + 3 * t_2) (hE t_2 ht_t_2).1 rfl la_1 0 (by decide) lk_RX4_109 rfl rfl dX4_write_66 ?_
          refine sl_calli (sl_runVN (As := [.int ((E t_2).2.2.2.2.2.2.2), .int ((E t_2).1)]) (rest := []) hC hG (kX0_get l Γ g (α 2) (α 3) C h2 h3 ((E t_2).2.2.2.2.2.2.2) ((E t_2).1)) mi_X0_get lk_RX4_112 2 h2 rfl rfl rfl ⟨Nat.le_of_ble_eq_true rfl, Nat.le_of_ble_eq_true rfl⟩ rfl hl.1 rfl (Nat.le_of_ble_eq_true rfl) dX4_write_69 ⟨Nat.le_of_ble_eq_true rfl, Nat.le_of_ble_eq_true rfl⟩) hG (fun r_69 u_69 H locs hr_69 hG => ?_)
          subst hr_69
          refine lv_iconst (v := (-1)) hx hb dX4_write_72 (by decide) ?_
          refine lv_icmp_ne (tgt := 84) hx hb dX4_write_73 (by decide) (fun c_73 => ?_) (fun c_73 => ?_)
          · refine lv_aload_n hx hb dX4_write_84 rfl (lv_at hl 1 rfl) ?_
            refine sl_get (C := RX4) (T := TX4) (N := 8) hC hG 0 h0 rfl la_4 1 (by decide) lk_RX4_18 rfl rfl dX4_write_85 ?_
            refine lv_aload_n hx hb dX4_write_88 rfl (lv_at hl 0 rfl) ?_
            refine sl_getN (C := RX1) (T := TX1) (N := 8) hC hG (100 + 3 * t_2) (hE t_2 ht_t_2).1 rfl la_1 7 (by decide) lk_RX4_103 rfl rfl dX4_write_89 ?_
            refine lv_aload_n hx hb dX4_write_92 rfl (lv_at hl 0 rfl) ?_
            refine sl_getN (C := RX1) (T := TX1) (N := 8) hC hG (100 + 3 * t_2) (hE t_2 ht_t_2).1 rfl la_1 0 (by decide) lk_RX4_109 rfl rfl dX4_write_93 ?_
            refine lv_iload_n hx hb dX4_write_96 rfl (lv_at hl 2 rfl) ?_
            refine sl_callv (sl_runVN (As := [.int ((E t_2).2.2.2.2.2.2.2), .int ((E t_2).1), .int x]) (rest := []) hC hG (kX0_put l Γ g (α 2) (α 3) C h2 h3 ((E t_2).2.2.2.2.2.2.2) ((E t_2).1) x) mi_X0_put lk_RX4_116 2 h2 rfl rfl rfl ⟨Nat.le_of_ble_eq_true rfl, Nat.le_of_ble_eq_true rfl⟩ rfl hl.1 rfl (Nat.le_of_ble_eq_true rfl) dX4_write_97 ⟨Nat.le_of_ble_eq_true rfl, Nat.le_of_ble_eq_true rfl⟩) hG (fun u_97 H locs hr_97 hG => ?_)
            have hG : sl_I Γ (sl_up g 3 ((α 3), .inl (Γ.2.1 0, 360, .inl (sl_cp C ((E t_2).2.2.2.2.2.2.2) ((E t_2).1) x)))) s H _ := hG
            refine lv_aload_n hx hb dX4_write_100 rfl (lv_at hl 0 rfl) ?_
            refine lv_dup hx hb dX4_write_101 rfl ?_
            refine sl_getN (C := RX1) (T := TX1) (N := 8) hC hG (100 + 3 * t_2) (sl_up_to (by omega) (hE t_2 ht_t_2).1) rfl la_1 7 (by decide) lk_RX4_103 rfl rfl dX4_write_102 ?_
            refine lv_iconst (v := 1) hx hb dX4_write_105 (by decide) ?_
            refine lv_iadd hx hb dX4_write_106 ?_
            refine sl_putN (C := RX1) (T := TX1) (N := 8) (ty := .int) (v := .int (((E t_2).2.2.2.2.2.2.2) + 1)) hC hG (100 + 3 * t_2) (sl_up_to (by omega) (hE t_2 ht_t_2).1) rfl la_1 tyX1 tyX1_ok nmX1 7 (by decide) lk_RX4_103 rfl rfl (by decide +kernel) rfl rfl (Nat.le_of_ble_eq_true rfl) dX4_write_107 (fun H locs hG => ?_)
            have hG : sl_I Γ (sl_up (sl_up g 3 ((α 3), .inl (Γ.2.1 0, 360, .inl (sl_cp C ((E t_2).2.2.2.2.2.2.2) ((E t_2).1) x)))) (100 + 3 * t_2) ((β t_2).1, .inr (1, [.int ((E t_2).1), .int ((E t_2).2.1), .int ((E t_2).2.2.1), .int ((E t_2).2.2.2.1), .int ((E t_2).2.2.2.2.1), .int ((E t_2).2.2.2.2.2.1), .ref ((β t_2).2.1), .int (((E t_2).2.2.2.2.2.2.2) + 1)]))) s H _ := hG
            refine lv_aload_n hx hb dX4_write_110 rfl (lv_at hl 0 rfl) ?_
            refine sl_getN (C := RX1) (T := TX1) (N := 8) hC hG (100 + 3 * t_2) (sl_up_s _ _ _) rfl la_1 7 (by decide) lk_RX4_103 rfl rfl dX4_write_111 ?_
            exact vx_ret (sl_ri (v := ((E t_2).2.2.2.2.2.2.2) + 1) hC hr hG (sl_up (sl_up g 3 ((α 3), .inl (Γ.2.1 0, 360, .inl (sl_cp C ((E t_2).2.2.2.2.2.2.2) ((E t_2).1) x)))) (100 + 3 * t_2) ((β t_2).1, .inr (1, [.int ((E t_2).1), .int ((E t_2).2.1), .int ((E t_2).2.2.1), .int ((E t_2).2.2.2.1), .int ((E t_2).2.2.2.2.1), .int ((E t_2).2.2.2.2.2.1), .ref ((β t_2).2.1), .int (((E t_2).2.2.2.2.2.2.2) + 1)]))) ⟨t_2, hq_2, (fun w9 => w9.elim c_25 (fun w9 => w9.elim c_33 (fun w9 => w9 c_44))), by rw [if_neg c_73], by rw [if_neg c_73, if_neg c_73]; exact sl_Cls_st (sl_Cls_up3 hK _) ht_t_2 _, ((sl_fr.rf g).up _ (by omega)).up _ (by omega)⟩ rfl (Nat.le_of_ble_eq_true rfl) (Nat.le_of_ble_eq_true rfl) dX4_write_114)
          · refine lv_aload_n hx hb dX4_write_76 rfl (lv_at hl 0 rfl) ?_
            refine lv_iconst (v := (-1)) hx hb dX4_write_77 (by decide) ?_
            refine sl_putN (C := RX1) (T := TX1) (N := 8) (ty := .int) (v := .int (-1)) hC hG (100 + 3 * t_2) (hE t_2 ht_t_2).1 rfl la_1 tyX1 tyX1_ok nmX1 7 (by decide) lk_RX4_103 rfl rfl (by decide +kernel) rfl rfl (Nat.le_of_ble_eq_true rfl) dX4_write_78 (fun H locs hG => ?_)
            have hG : sl_I Γ (sl_up g (100 + 3 * t_2) ((β t_2).1, .inr (1, [.int ((E t_2).1), .int ((E t_2).2.1), .int ((E t_2).2.2.1), .int ((E t_2).2.2.2.1), .int ((E t_2).2.2.2.2.1), .int ((E t_2).2.2.2.2.2.1), .ref ((β t_2).2.1), .int (-1)]))) s H _ := hG
            refine lv_goto (tgt := 110) hx hb dX4_write_81 (by decide) ?_
            refine lv_aload_n hx hb dX4_write_110 rfl (lv_at hl 0 rfl) ?_
            refine sl_getN (C := RX1) (T := TX1) (N := 8) hC hG (100 + 3 * t_2) (sl_up_s _ _ _) rfl la_1 7 (by decide) lk_RX4_103 rfl rfl dX4_write_111 ?_
            exact vx_ret (sl_ri (v := (-1)) hC hr hG (sl_up g (100 + 3 * t_2) ((β t_2).1, .inr (1, [.int ((E t_2).1), .int ((E t_2).2.1), .int ((E t_2).2.2.1), .int ((E t_2).2.2.2.1), .int ((E t_2).2.2.2.2.1), .int ((E t_2).2.2.2.2.2.1), .ref ((β t_2).2.1), .int (-1)]))) ⟨t_2, hq_2, (fun w9 => w9.elim c_25 (fun w9 => w9.elim c_33 (fun w9 => w9 c_44))), by rw [if_pos c_73], by rw [if_pos c_73, if_pos c_73]; exact sl_Cls_st hK ht_t_2 _, (sl_fr.rf g).up _ (by omega)⟩ rfl (Nat.le_of_ble_eq_true rfl) (Nat.le_of_ble_eq_true rfl) dX4_write_114)
        · exact sl_thr (text := "the token cannot write") (rest := []) hlt hC hG (Or.inr ⟨rfl, t_2, hq_2, Or.inr (Or.inr c_44)⟩) (by decide) lk_RX4_72 ini_IllegalStateException (by decide +kernel) sl_hatS sl_otS hl.1 dX4_write_47 dX4_write_50 dX4_write_51 dX4_write_53 dX4_write_56 hno (Nat.le_of_ble_eq_true rfl) (Nat.le_of_ble_eq_true rfl) (Nat.le_of_ble_eq_true rfl) (Nat.le_of_ble_eq_true rfl) (Nat.le_of_ble_eq_true rfl) (Nat.le_of_ble_eq_true rfl)
set_option maxHeartbeats 4000000 in
set_option maxRecDepth 100000 in
theorem kX4_fill (l : Launch) (hlt : l.stackTraces = false) (Γ : sl_G) (g : sl_W) (α : Nat → Nat) (β : Nat → Nat × Nat × Nat) (n : Nat) (ep : Int32) (tl : Nat) (lo : Bool) (T C : Nat → Int32) (E : Nat → sl_Ent) (hK : sl_Cls Γ α β n ep tl lo T C E g) (x : Int32) : vx_Met l yX4_fill [Cond.code yX4_fill cX4_fill 5 (some .boolean)] ({ frames := 6, cells := 1, slots := 6, locals := 100 } : Room) (va_Pc [.ref (α 0), .int x] (sl_B Γ g)) (sl_Qi Γ (fun r g' => ∃ b, x = nI b ∧ b < 120 ∧ lo = false ∧ b < tl ∧ sl_wh C b = false ∧ r = sl_bi (sl_tok n (C b)).isSome ∧ sl_Cls Γ α β n ep tl lo T (sl_cf C b (if (sl_tok n (C b)).isSome = true then C b else -1)) E g' ∧ sl_fr g g') (fun g' => g')) (sl_X Γ g (fun E0 => (E0 = "java/lang/IndexOutOfBoundsException" ∧ sl_in x 0 119 = false) ∨ (E0 = "java/lang/IllegalStateException" ∧ ∃ b, x = nI b ∧ b < 120 ∧ (lo = true ∨ tl ≤ b ∨ sl_wh C b = true)))) 1 6 (sl_A Γ) := by
  refine sl_entx (by decide) (Nat.le_of_ble_eq_true rfl) ?_
  intro p e s m below meth c ls hC hr hno hG hl
  have hx := hC.1
  have hb := hC.2.1
  have hl : lv_has ls 5 [(0, .ref (α 0)), (1, .int x)] := hl
  have hS := hK.ro
  obtain ⟨h0, h1, h2, h3, h4, h5, ⟨F, X, fd, h6, h7, h8⟩, hE, hN, hn9, ht9⟩ := id hK
  refine lv_iload_n hx hb dX4_fill_0 rfl (lv_at hl 1 rfl) ?_
  refine sl_calli (sl_runS (As := [.int x]) (rest := []) hC hG (kX4_isPosition l Γ g x) mi_X4_isPosition lk_RX4_120 rfl rfl ⟨Nat.le_of_ble_eq_true rfl, Nat.le_of_ble_eq_true rfl⟩ rfl hl.1 rfl (Nat.le_of_ble_eq_true rfl) dX4_fill_1 ⟨Nat.le_of_ble_eq_true rfl, Nat.le_of_ble_eq_true rfl⟩) hG (fun r_1 u_1 H locs hr_1 hG => ?_)
  subst hr_1
  refine lv_if_ne (tgt := 17) hx hb dX4_fill_4 (by decide) (fun c_4 => ?_) (fun c_4 => ?_)
  · have c_4 := sl_bT c_4
    obtain ⟨b, hb9, rfl⟩ := sl_c119 c_4
    refine lv_aload_n hx hb dX4_fill_17 rfl (lv_at hl 0 rfl) ?_
    refine sl_get (C := RX4) (T := TX4) (N := 8) hC hG 0 h0 rfl la_4 7 (by decide) lk_RX4_46 rfl rfl dX4_fill_18 ?_
    refine lv_if_ne (tgt := 43) hx hb dX4_fill_21 (by decide) (fun c_21 => ?_) (fun c_21 => ?_)
    · have c_21 := sl_bT c_21
      exact sl_thr (text := "the position cannot be filled") (rest := []) hlt hC hG (Or.inr ⟨rfl, b, rfl, by omega, Or.inl c_21⟩) (by decide) lk_RX4_72 ini_IllegalStateException (by decide +kernel) sl_hatS sl_otS hl.1 dX4_fill_43 dX4_fill_46 dX4_fill_47 dX4_fill_49 dX4_fill_52 hno (Nat.le_of_ble_eq_true rfl) (Nat.le_of_ble_eq_true rfl) (Nat.le_of_ble_eq_true rfl) (Nat.le_of_ble_eq_true rfl) (Nat.le_of_ble_eq_true rfl) (Nat.le_of_ble_eq_true rfl)
    · have c_21 := sl_bF c_21
      refine lv_iload_n hx hb dX4_fill_24 rfl (lv_at hl 1 rfl) ?_
      refine lv_aload_n hx hb dX4_fill_25 rfl (lv_at hl 0 rfl) ?_
      refine sl_get (C := RX4) (T := TX4) (N := 8) hC hG 0 h0 rfl la_4 6 (by decide) lk_RX4_43 rfl rfl dX4_fill_26 ?_
      refine lv_icmp_ge (tgt := 43) hx hb dX4_fill_29 (by decide) (fun c_29 => ?_) (fun c_29 => ?_)
      · have n_29 : tl ≤ b := (nI_leI (a := tl) (b := b) (by omega) (by omega)).mp c_29
        exact sl_thr (text := "the position cannot be filled") (rest := []) hlt hC hG (Or.inr ⟨rfl, b, rfl, by omega, Or.inr (Or.inl n_29)⟩) (by decide) lk_RX4_72 ini_IllegalStateException (by decide +kernel) sl_hatS sl_otS hl.1 dX4_fill_43 dX4_fill_46 dX4_fill_47 dX4_fill_49 dX4_fill_52 hno (Nat.le_of_ble_eq_true rfl) (Nat.le_of_ble_eq_true rfl) (Nat.le_of_ble_eq_true rfl) (Nat.le_of_ble_eq_true rfl) (Nat.le_of_ble_eq_true rfl) (Nat.le_of_ble_eq_true rfl)
      · have n_29 : ¬ (tl ≤ b) := fun z => c_29 ((nI_leI (a := tl) (b := b) (by omega) (by omega)).mpr z)
        refine lv_aload_n hx hb dX4_fill_32 rfl (lv_at hl 0 rfl) ?_
        refine sl_get (C := RX4) (T := TX4) (N := 8) hC hG 0 h0 rfl la_4 1 (by decide) lk_RX4_18 rfl rfl dX4_fill_33 ?_
        refine lv_iload_n hx hb dX4_fill_36 rfl (lv_at hl 1 rfl) ?_
        refine sl_calli (sl_runVN (As := [.int (nI b)]) (rest := []) hC hG (kX0_isComplete l Γ g (α 2) (α 3) C h2 h3 b (by omega)) mi_X0_isComplete lk_RX4_125 2 h2 rfl rfl rfl ⟨Nat.le_of_ble_eq_true rfl, Nat.le_of_ble_eq_true rfl⟩ rfl hl.1 rfl (Nat.le_of_ble_eq_true rfl) dX4_fill_37 ⟨Nat.le_of_ble_eq_true rfl, Nat.le_of_ble_eq_true rfl⟩) hG (fun r_37 u_37 H locs hr_37 hG => ?_)
        subst hr_37
        refine lv_if_eq (tgt := 53) hx hb dX4_fill_40 (by decide) (fun c_40 => ?_) (fun c_40 => ?_)
        · have c_40 := sl_bF c_40
          refine lv_aload_n hx hb dX4_fill_53 rfl (lv_at hl 0 rfl) ?_
          refine lv_iload_n hx hb dX4_fill_54 rfl (lv_at hl 1 rfl) ?_
          refine sl_callq (sl_runV (As := [.int (nI b)]) (rest := []) hC hG (kX4_entryIn l Γ g α β n C E hS (nI b)) mi_X4_entryIn lk_RX4_84 0 h0 rfl rfl rfl ⟨Nat.le_of_ble_eq_true rfl, Nat.le_of_ble_eq_true rfl⟩ rfl hl.1 rfl (Nat.le_of_ble_eq_true rfl) dX4_fill_55 ⟨Nat.le_of_ble_eq_true rfl, Nat.le_of_ble_eq_true rfl⟩) hG (fun r_55 u_55 H locs hr_55 hG => ?_)
          subst hr_55
          rw [show sl_ta n C (nI b) = sl_tok n (C b) from congrArg (sl_tok n) (sl_cg0 C (by omega))]
          rcases sl_opt (sl_tok n (C b)) with hq_55 | ⟨t_55, hq_55⟩
          · refine sl_top (w := .null) (by rw [hq_55]; rfl) ?_
            refine lv_ifnullN (tgt := 65) hx hb dX4_fill_58 (by decide) ?_
            refine lv_iconst (v := 0) hx hb dX4_fill_65 (by decide) ?_
            refine lv_istore_n (lv' := [(2, .int 0), (0, .ref (α 0)), (1, .int (nI b))]) hx hb dX4_fill_66 rfl hl (by decide) rfl (fun ls hl => ?_)
            refine lv_iload_n hx hb dX4_fill_67 rfl (lv_at hl 0 rfl) ?_
            refine lv_if_eq (tgt := 83) hx hb dX4_fill_68 (by decide) (fun c_68 => ?_) (fun c_68 => ?_)
            · refine lv_iconst (v := (-1)) hx hb dX4_fill_83 (by decide) ?_
              refine lv_istore_n (lv' := [(3, .int (-1)), (2, .int 0), (0, .ref (α 0)), (1, .int (nI b))]) hx hb dX4_fill_84 rfl hl (by decide) rfl (fun ls hl => ?_)
              refine lv_iconst (v := 0) hx hb dX4_fill_85 (by decide) ?_
              refine lv_istore (lv' := [(4, .int 0), (3, .int (-1)), (2, .int 0), (0, .ref (α 0)), (1, .int (nI b))]) hx hb dX4_fill_86 hl (by decide) rfl (fun ls hl => ?_)
              refine lv_iload hx hb dX4_fill_88 (lv_at hl 0 rfl) ?_
              refine lv_iconst (v := 3) hx hb dX4_fill_90 (by decide) ?_
              refine lv_icmp_ge (tgt := 111) hx hb dX4_fill_91 (by decide) (fun c_91 => ?_) (fun c_91 => ?_)
              · exact absurd c_91 (by decide)
              · refine lv_aload_n hx hb dX4_fill_94 rfl (lv_at hl 3 rfl) ?_
                refine sl_get (C := RX4) (T := TX4) (N := 8) hC hG 0 h0 rfl la_4 1 (by decide) lk_RX4_18 rfl rfl dX4_fill_95 ?_
                refine lv_iload hx hb dX4_fill_98 (lv_at hl 0 rfl) ?_
                refine lv_iload_n hx hb dX4_fill_100 rfl (lv_at hl 4 rfl) ?_
                refine lv_iload_n hx hb dX4_fill_101 rfl (lv_at hl 1 rfl) ?_
                refine sl_callv (sl_runVN (As := [.int 0, .int (nI b), .int (-1)]) (rest := []) hC hG (kX0_put l Γ g (α 2) (α 3) C h2 h3 0 (nI b) (-1)) mi_X0_put lk_RX4_116 2 h2 rfl rfl rfl ⟨Nat.le_of_ble_eq_true rfl, Nat.le_of_ble_eq_true rfl⟩ rfl hl.1 rfl (Nat.le_of_ble_eq_true rfl) dX4_fill_102 ⟨Nat.le_of_ble_eq_true rfl, Nat.le_of_ble_eq_true rfl⟩) hG (fun u_102 H locs hr_102 hG => ?_)
                have hG : sl_I Γ (sl_up g 3 ((α 3), .inl (Γ.2.1 0, 360, .inl (sl_cp C 0 (nI b) (-1))))) s H _ := hG
                refine lv_iinc (v := 1) (lv' := [(4, .int 1), (3, .int (-1)), (2, .int 0), (0, .ref (α 0)), (1, .int (nI b))]) hx hb dX4_fill_105 hl (k := 0) rfl (by decide) (by decide) rfl (fun ls hl => ?_)
                refine lv_goto (tgt := 88) hx hb dX4_fill_108 (by decide) ?_
                refine lv_iload hx hb dX4_fill_88 (lv_at hl 0 rfl) ?_
                refine lv_iconst (v := 3) hx hb dX4_fill_90 (by decide) ?_
                refine lv_icmp_ge (tgt := 111) hx hb dX4_fill_91 (by decide) (fun c_91 => ?_) (fun c_91 => ?_)
                · exact absurd c_91 (by decide)
                · refine lv_aload_n hx hb dX4_fill_94 rfl (lv_at hl 3 rfl) ?_
                  refine sl_get (C := RX4) (T := TX4) (N := 8) hC hG 0 (sl_up_to (by decide) h0) rfl la_4 1 (by decide) lk_RX4_18 rfl rfl dX4_fill_95 ?_
                  refine lv_iload hx hb dX4_fill_98 (lv_at hl 0 rfl) ?_
                  refine lv_iload_n hx hb dX4_fill_100 rfl (lv_at hl 4 rfl) ?_
                  refine lv_iload_n hx hb dX4_fill_101 rfl (lv_at hl 1 rfl) ?_
                  refine sl_callv (sl_runVN (As := [.int 1, .int (nI b), .int (-1)]) (rest := []) hC hG (kX0_put l Γ (sl_up g 3 ((α 3), .inl (Γ.2.1 0, 360, .inl (sl_cp C 0 (nI b) (-1))))) (α 2) (α 3) (sl_cp C 0 (nI b) (-1)) (sl_up_to (by decide) h2) (sl_up_s _ _ _) 1 (nI b) (-1)) mi_X0_put lk_RX4_116 2 (sl_up_to (by decide) h2) rfl rfl rfl ⟨Nat.le_of_ble_eq_true rfl, Nat.le_of_ble_eq_true rfl⟩ rfl hl.1 rfl (Nat.le_of_ble_eq_true rfl) dX4_fill_102 ⟨Nat.le_of_ble_eq_true rfl, Nat.le_of_ble_eq_true rfl⟩) hG (fun u_102 H locs hr_102 hG => ?_)
                  rw [sl_up_up] at hG
                  have hG : sl_I Γ (sl_up g 3 ((α 3), .inl (Γ.2.1 0, 360, .inl (sl_cp (sl_cp C 0 (nI b) (-1)) 1 (nI b) (-1))))) s H _ := hG
                  refine lv_iinc (v := 2) (lv' := [(4, .int 2), (3, .int (-1)), (2, .int 0), (0, .ref (α 0)), (1, .int (nI b))]) hx hb dX4_fill_105 hl (k := 0) rfl (by decide) (by decide) rfl (fun ls hl => ?_)
                  refine lv_goto (tgt := 88) hx hb dX4_fill_108 (by decide) ?_
                  refine lv_iload hx hb dX4_fill_88 (lv_at hl 0 rfl) ?_
                  refine lv_iconst (v := 3) hx hb dX4_fill_90 (by decide) ?_
                  refine lv_icmp_ge (tgt := 111) hx hb dX4_fill_91 (by decide) (fun c_91 => ?_) (fun c_91 => ?_)
                  · exact absurd c_91 (by decide)
                  · refine lv_aload_n hx hb dX4_fill_94 rfl (lv_at hl 3 rfl) ?_
                    refine sl_get (C := RX4) (T := TX4) (N := 8) hC hG 0 (sl_up_to (by decide) h0) rfl la_4 1 (by decide) lk_RX4_18 rfl rfl dX4_fill_95 ?_
                    refine lv_iload hx hb dX4_fill_98 (lv_at hl 0 rfl) ?_
                    refine lv_iload_n hx hb dX4_fill_100 rfl (lv_at hl 4 rfl) ?_
                    refine lv_iload_n hx hb dX4_fill_101 rfl (lv_at hl 1 rfl) ?_
                    refine sl_callv (sl_runVN (As := [.int 2, .int (nI b), .int (-1)]) (rest := []) hC hG (kX0_put l Γ (sl_up g 3 ((α 3), .inl (Γ.2.1 0, 360, .inl (sl_cp (sl_cp C 0 (nI b) (-1)) 1 (nI b) (-1))))) (α 2) (α 3) (sl_cp (sl_cp C 0 (nI b) (-1)) 1 (nI b) (-1)) (sl_up_to (by decide) h2) (sl_up_s _ _ _) 2 (nI b) (-1)) mi_X0_put lk_RX4_116 2 (sl_up_to (by decide) h2) rfl rfl rfl ⟨Nat.le_of_ble_eq_true rfl, Nat.le_of_ble_eq_true rfl⟩ rfl hl.1 rfl (Nat.le_of_ble_eq_true rfl) dX4_fill_102 ⟨Nat.le_of_ble_eq_true rfl, Nat.le_of_ble_eq_true rfl⟩) hG (fun u_102 H locs hr_102 hG => ?_)
                    rw [sl_up_up] at hG
                    have hG : sl_I Γ (sl_up g 3 ((α 3), .inl (Γ.2.1 0, 360, .inl (sl_cp (sl_cp (sl_cp C 0 (nI b) (-1)) 1 (nI b) (-1)) 2 (nI b) (-1))))) s H _ := hG
                    refine lv_iinc (v := 3) (lv' := [(4, .int 3), (3, .int (-1)), (2, .int 0), (0, .ref (α 0)), (1, .int (nI b))]) hx hb dX4_fill_105 hl (k := 0) rfl (by decide) (by decide) rfl (fun ls hl => ?_)
                    refine lv_goto (tgt := 88) hx hb dX4_fill_108 (by decide) ?_
                    refine lv_iload hx hb dX4_fill_88 (lv_at hl 0 rfl) ?_
                    refine lv_iconst (v := 3) hx hb dX4_fill_90 (by decide) ?_
                    refine lv_icmp_ge (tgt := 111) hx hb dX4_fill_91 (by decide) (fun c_91 => ?_) (fun c_91 => ?_)
                    · refine lv_iload_n hx hb dX4_fill_111 rfl (lv_at hl 2 rfl) ?_
                      exact vx_ret (sl_rz (v := 0) hC hr rfl hG (sl_up g 3 ((α 3), .inl (Γ.2.1 0, 360, .inl (sl_cp (sl_cp (sl_cp C 0 (nI b) (-1)) 1 (nI b) (-1)) 2 (nI b) (-1))))) ⟨b, rfl, by omega, c_21, by omega, c_40, by rw [hq_55]; rfl, by rw [hq_55]; exact sl_Cls_up3 hK _, (sl_fr.rf g).up _ (by omega)⟩ rfl (Nat.le_of_ble_eq_true rfl) (Nat.le_of_ble_eq_true rfl) dX4_fill_112)
                    · exact absurd c_91 (by decide)
            · exact absurd c_68 (by decide)
          · refine sl_top (w := .ref ((β t_55).1)) (by rw [hq_55]; rfl) ?_
            have ht_t_55 := sl_tok_lt hq_55
            refine lv_ifnull hx hb dX4_fill_58 ?_
            refine lv_iconst (v := 1) hx hb dX4_fill_61 (by decide) ?_
            refine lv_goto (tgt := 66) hx hb dX4_fill_62 (by decide) ?_
            refine lv_istore_n (lv' := [(2, .int 1), (0, .ref (α 0)), (1, .int (nI b))]) hx hb dX4_fill_66 rfl hl (by decide) rfl (fun ls hl => ?_)
            refine lv_iload_n hx hb dX4_fill_67 rfl (lv_at hl 0 rfl) ?_
            refine lv_if_eq (tgt := 83) hx hb dX4_fill_68 (by decide) (fun c_68 => ?_) (fun c_68 => ?_)
            · exact absurd c_68 (by decide)
            · refine lv_aload_n hx hb dX4_fill_71 rfl (lv_at hl 1 rfl) ?_
              refine sl_get (C := RX4) (T := TX4) (N := 8) hC hG 0 h0 rfl la_4 1 (by decide) lk_RX4_18 rfl rfl dX4_fill_72 ?_
              refine lv_iconst (v := 0) hx hb dX4_fill_75 (by decide) ?_
              refine lv_iload_n hx hb dX4_fill_76 rfl (lv_at hl 2 rfl) ?_
              refine sl_calli (sl_runVN (As := [.int 0, .int (nI b)]) (rest := []) hC hG (kX0_get l Γ g (α 2) (α 3) C h2 h3 0 (nI b)) mi_X0_get lk_RX4_112 2 h2 rfl rfl rfl ⟨Nat.le_of_ble_eq_true rfl, Nat.le_of_ble_eq_true rfl⟩ rfl hl.1 rfl (Nat.le_of_ble_eq_true rfl) dX4_fill_77 ⟨Nat.le_of_ble_eq_true rfl, Nat.le_of_ble_eq_true rfl⟩) hG (fun r_77 u_77 H locs hr_77 hG => ?_)
              subst hr_77
              refine sl_topi (sl_cg0 C (by omega)) ?_
              refine lv_goto (tgt := 84) hx hb dX4_fill_80 (by decide) ?_
              refine lv_istore_n (lv' := [(3, .int (C b)), (2, .int 1), (0, .ref (α 0)), (1, .int (nI b))]) hx hb dX4_fill_84 rfl hl (by decide) rfl (fun ls hl => ?_)
              refine lv_iconst (v := 0) hx hb dX4_fill_85 (by decide) ?_
              refine lv_istore (lv' := [(4, .int 0), (3, .int (C b)), (2, .int 1), (0, .ref (α 0)), (1, .int (nI b))]) hx hb dX4_fill_86 hl (by decide) rfl (fun ls hl => ?_)
              refine lv_iload hx hb dX4_fill_88 (lv_at hl 0 rfl) ?_
              refine lv_iconst (v := 3) hx hb dX4_fill_90 (by decide) ?_
              refine lv_icmp_ge (tgt := 111) hx hb dX4_fill_91 (by decide) (fun c_91 => ?_) (fun c_91 => ?_)
              · exact absurd c_91 (by decide)
              · refine lv_aload_n hx hb dX4_fill_94 rfl (lv_at hl 3 rfl) ?_
                refine sl_get (C := RX4) (T := TX4) (N := 8) hC hG 0 h0 rfl la_4 1 (by decide) lk_RX4_18 rfl rfl dX4_fill_95 ?_
                refine lv_iload hx hb dX4_fill_98 (lv_at hl 0 rfl) ?_
                refine lv_iload_n hx hb dX4_fill_100 rfl (lv_at hl 4 rfl) ?_
                refine lv_iload_n hx hb dX4_fill_101 rfl (lv_at hl 1 rfl) ?_
                refine sl_callv (sl_runVN (As := [.int 0, .int (nI b), .int (C b)]) (rest := []) hC hG (kX0_put l Γ g (α 2) (α 3) C h2 h3 0 (nI b) (C b)) mi_X0_put lk_RX4_116 2 h2 rfl rfl rfl ⟨Nat.le_of_ble_eq_true rfl, Nat.le_of_ble_eq_true rfl⟩ rfl hl.1 rfl (Nat.le_of_ble_eq_true rfl) dX4_fill_102 ⟨Nat.le_of_ble_eq_true rfl, Nat.le_of_ble_eq_true rfl⟩) hG (fun u_102 H locs hr_102 hG => ?_)
                have hG : sl_I Γ (sl_up g 3 ((α 3), .inl (Γ.2.1 0, 360, .inl (sl_cp C 0 (nI b) (C b))))) s H _ := hG
                refine lv_iinc (v := 1) (lv' := [(4, .int 1), (3, .int (C b)), (2, .int 1), (0, .ref (α 0)), (1, .int (nI b))]) hx hb dX4_fill_105 hl (k := 0) rfl (by decide) (by decide) rfl (fun ls hl => ?_)
                refine lv_goto (tgt := 88) hx hb dX4_fill_108 (by decide) ?_
                refine lv_iload hx hb dX4_fill_88 (lv_at hl 0 rfl) ?_
                refine lv_iconst (v := 3) hx hb dX4_fill_90 (by decide) ?_
                refine lv_icmp_ge (tgt := 111) hx hb dX4_fill_91 (by decide) (fun c_91 => ?_) (fun c_91 => ?_)
                · exact absurd c_91 (by decide)
                · refine lv_aload_n hx hb dX4_fill_94 rfl (lv_at hl 3 rfl) ?_
                  refine sl_get (C := RX4) (T := TX4) (N := 8) hC hG 0 (sl_up_to (by decide) h0) rfl la_4 1 (by decide) lk_RX4_18 rfl rfl dX4_fill_95 ?_
                  refine lv_iload hx hb dX4_fill_98 (lv_at hl 0 rfl) ?_
                  refine lv_iload_n hx hb dX4_fill_100 rfl (lv_at hl 4 rfl) ?_
                  refine lv_iload_n hx hb dX4_fill_101 rfl (lv_at hl 1 rfl) ?_
                  refine sl_callv (sl_runVN (As := [.int 1, .int (nI b), .int (C b)]) (rest := []) hC hG (kX0_put l Γ (sl_up g 3 ((α 3), .inl (Γ.2.1 0, 360, .inl (sl_cp C 0 (nI b) (C b))))) (α 2) (α 3) (sl_cp C 0 (nI b) (C b)) (sl_up_to (by decide) h2) (sl_up_s _ _ _) 1 (nI b) (C b)) mi_X0_put lk_RX4_116 2 (sl_up_to (by decide) h2) rfl rfl rfl ⟨Nat.le_of_ble_eq_true rfl, Nat.le_of_ble_eq_true rfl⟩ rfl hl.1 rfl (Nat.le_of_ble_eq_true rfl) dX4_fill_102 ⟨Nat.le_of_ble_eq_true rfl, Nat.le_of_ble_eq_true rfl⟩) hG (fun u_102 H locs hr_102 hG => ?_)
                  rw [sl_up_up] at hG
                  have hG : sl_I Γ (sl_up g 3 ((α 3), .inl (Γ.2.1 0, 360, .inl (sl_cp (sl_cp C 0 (nI b) (C b)) 1 (nI b) (C b))))) s H _ := hG
                  refine lv_iinc (v := 2) (lv' := [(4, .int 2), (3, .int (C b)), (2, .int 1), (0, .ref (α 0)), (1, .int (nI b))]) hx hb dX4_fill_105 hl (k := 0) rfl (by decide) (by decide) rfl (fun ls hl => ?_)
                  refine lv_goto (tgt := 88) hx hb dX4_fill_108 (by decide) ?_
                  refine lv_iload hx hb dX4_fill_88 (lv_at hl 0 rfl) ?_
                  refine lv_iconst (v := 3) hx hb dX4_fill_90 (by decide) ?_
                  refine lv_icmp_ge (tgt := 111) hx hb dX4_fill_91 (by decide) (fun c_91 => ?_) (fun c_91 => ?_)
                  · exact absurd c_91 (by decide)
                  · refine lv_aload_n hx hb dX4_fill_94 rfl (lv_at hl 3 rfl) ?_
                    refine sl_get (C := RX4) (T := TX4) (N := 8) hC hG 0 (sl_up_to (by decide) h0) rfl la_4 1 (by decide) lk_RX4_18 rfl rfl dX4_fill_95 ?_
                    refine lv_iload hx hb dX4_fill_98 (lv_at hl 0 rfl) ?_
                    refine lv_iload_n hx hb dX4_fill_100 rfl (lv_at hl 4 rfl) ?_
                    refine lv_iload_n hx hb dX4_fill_101 rfl (lv_at hl 1 rfl) ?_
                    refine sl_callv (sl_runVN (As := [.int 2, .int (nI b), .int (C b)]) (rest := []) hC hG (kX0_put l Γ (sl_up g 3 ((α 3), .inl (Γ.2.1 0, 360, .inl (sl_cp (sl_cp C 0 (nI b) (C b)) 1 (nI b) (C b))))) (α 2) (α 3) (sl_cp (sl_cp C 0 (nI b) (C b)) 1 (nI b) (C b)) (sl_up_to (by decide) h2) (sl_up_s _ _ _) 2 (nI b) (C b)) mi_X0_put lk_RX4_116 2 (sl_up_to (by decide) h2) rfl rfl rfl ⟨Nat.le_of_ble_eq_true rfl, Nat.le_of_ble_eq_true rfl⟩ rfl hl.1 rfl (Nat.le_of_ble_eq_true rfl) dX4_fill_102 ⟨Nat.le_of_ble_eq_true rfl, Nat.le_of_ble_eq_true rfl⟩) hG (fun u_102 H locs hr_102 hG => ?_)
                    rw [sl_up_up] at hG
                    have hG : sl_I Γ (sl_up g 3 ((α 3), .inl (Γ.2.1 0, 360, .inl (sl_cp (sl_cp (sl_cp C 0 (nI b) (C b)) 1 (nI b) (C b)) 2 (nI b) (C b))))) s H _ := hG
                    refine lv_iinc (v := 3) (lv' := [(4, .int 3), (3, .int (C b)), (2, .int 1), (0, .ref (α 0)), (1, .int (nI b))]) hx hb dX4_fill_105 hl (k := 0) rfl (by decide) (by decide) rfl (fun ls hl => ?_)
                    refine lv_goto (tgt := 88) hx hb dX4_fill_108 (by decide) ?_
                    refine lv_iload hx hb dX4_fill_88 (lv_at hl 0 rfl) ?_
                    refine lv_iconst (v := 3) hx hb dX4_fill_90 (by decide) ?_
                    refine lv_icmp_ge (tgt := 111) hx hb dX4_fill_91 (by decide) (fun c_91 => ?_) (fun c_91 => ?_)
                    · refine lv_iload_n hx hb dX4_fill_111 rfl (lv_at hl 2 rfl) ?_
                      exact vx_ret (sl_rz (v := 1) hC hr rfl hG (sl_up g 3 ((α 3), .inl (Γ.2.1 0, 360, .inl (sl_cp (sl_cp (sl_cp C 0 (nI b) (C b)) 1 (nI b) (C b)) 2 (nI b) (C b))))) ⟨b, rfl, by omega, c_21, by omega, c_40, by rw [hq_55]; rfl, by rw [hq_55]; exact sl_Cls_up3 hK _, (sl_fr.rf g).up _ (by omega)⟩ rfl (Nat.le_of_ble_eq_true rfl) (Nat.le_of_ble_eq_true rfl) dX4_fill_112)
                    · exact absurd c_91 (by decide)
        · have c_40 := sl_bT c_40
          exact sl_thr (text := "the position cannot be filled") (rest := []) hlt hC hG (Or.inr ⟨rfl, b, rfl, by omega, Or.inr (Or.inr c_40)⟩) (by decide) lk_RX4_72 ini_IllegalStateException (by decide +kernel) sl_hatS sl_otS hl.1 dX4_fill_43 dX4_fill_46 dX4_fill_47 dX4_fill_49 dX4_fill_52 hno (Nat.le_of_ble_eq_true rfl) (Nat.le_of_ble_eq_true rfl) (Nat.le_of_ble_eq_true rfl) (Nat.le_of_ble_eq_true rfl) (Nat.le_of_ble_eq_true rfl) (Nat.le_of_ble_eq_true rfl)
  · have c_4 := sl_bF c_4
    exact sl_thr (text := "no such position") (rest := []) hlt hC hG (Or.inl ⟨rfl, c_4⟩) (by decide) lk_RX4_98 ini_IndexOutOfBoundsException (by decide +kernel) sl_hatO sl_otO hl.1 dX4_fill_7 dX4_fill_10 dX4_fill_11 dX4_fill_13 dX4_fill_16 hno (Nat.le_of_ble_eq_true rfl) (Nat.le_of_ble_eq_true rfl) (Nat.le_of_ble_eq_true rfl) (Nat.le_of_ble_eq_true rfl) (Nat.le_of_ble_eq_true rfl) (Nat.le_of_ble_eq_true rfl)
set_option maxHeartbeats 4000000 in
set_option maxRecDepth 100000 in
theorem kX4_init (l : Launch) (Γ : sl_G) (g : sl_W) (a0 : Nat) (h0 : g 0 = some (a0, .inr (4, [.null, .null, .null, .null, .int 0, .int 0, .int 0, .int 0]))) (hf : ∀ k, k ≠ 0 → (k < 9 ∨ 100 ≤ k) → g k = none) : Met l yX4_init [Cond.code yX4_init cX4_init 1 none] ({ frames := 2, cells := 9, slots := 673, locals := 43 } : Room) (va_Pc [.ref a0] (sl_B Γ g)) (sl_Qv Γ (fun (u : (Nat → Nat) × sl_W) => sl_Cls Γ u.1 sl_b0 0 0 0 false (fun _ => -1) (fun _ => -2) sl_E0 u.2 ∧ sl_fr g u.2 ∧ u.1 0 = a0) (fun u => u.2)) 9 673 (sl_A Γ) := by
  refine sl_ent (by decide) (Nat.le_of_ble_eq_true rfl) ?_
  intro p e s m below meth c ls hC hr hin hG hl
  have hx := hC.1
  have hb := hC.2.1
  have hl : lv_has ls 1 [(0, .ref a0)] := hl
  have h1 := hf 1 (by decide) (by decide)
  have h2 := hf 2 (by decide) (by decide)
  have h3 := hf 3 (by decide) (by decide)
  have h4 := hf 4 (by decide) (by decide)
  have h5 := hf 5 (by decide) (by decide)
  have h6 := hf 6 (by decide) (by decide)
  have h7 := hf 7 (by decide) (by decide)
  have h8 := hf 8 (by decide) (by decide)
  refine lv_aload_n hx hb dX4_init_0 rfl (lv_at hl 0 rfl) ?_
  refine W.objInit hx hb hC.2.2.2.1 (sl_tab hC lk_RX4_1 rfl) (sl_tab hC oi_inst rfl) (sl_tab hC oi_code rfl) rfl (hl.1.trans hC.2.2.1.symm) rfl dX4_init_1 (Nat.le_of_ble_eq_true rfl) (Nat.le_of_ble_eq_true rfl) ?_
  refine W.eq (g2 := F0 m 4 ls []) rfl ?_
  refine lv_aload_n hx hb dX4_init_4 rfl (lv_at hl 0 rfl) ?_
  refine lv_sipush (v := 150) hx hb dX4_init_5 (by decide) ?_
  refine sl_newq hC hG 1 h1 (N' := 150) lk_RX4_9 (by decide) (by decide) (Nat.le_of_ble_eq_true rfl) (Nat.le_of_ble_eq_true rfl) (Nat.le_of_ble_eq_true rfl) dX4_init_8 (fun q_8 H hG => ?_)
  have hG : sl_I Γ (sl_up g 1 (q_8, .inl (Γ.2.1 2, 150, .inr (.inr (.inr (.inr (fun _ => none))))))) s H _ := hG
  refine sl_putF (C := RX4) (T := TX4) (N := 8) (ty := .array (.object "SharedLog$Entry")) (v := .ref q_8) hC hG 0 (sl_up_to (by decide) h0) rfl la_4 tyX4 tyX4_ok nmX4 0 (by decide) lk_RX4_11 rfl rfl hin rfl (by decide +kernel) rfl rfl (Nat.le_of_ble_eq_true rfl) dX4_init_11 (fun H locs hG => ?_)
  have hG : sl_I Γ (sl_up (sl_up g 1 (q_8, .inl (Γ.2.1 2, 150, .inr (.inr (.inr (.inr (fun _ => none))))))) 0 (a0, .inr (4, [.ref q_8, .null, .null, .null, .int 0, .int 0, .int 0, .int 0]))) s H _ := hG
  refine lv_aload_n hx hb dX4_init_14 rfl (lv_at hl 0 rfl) ?_
  refine sl_new (ci := 0) hC hG 2 (sl_up_to (by decide) (sl_up_to (by decide) h2)) (C := RX0) (T := TX0) (N := 1) (fs := [.null]) rfl la_0 tyX0 tyX0_ok (sl_f0) lk_RX4_15 in_RX0 ini_RX0 (Nat.le_of_ble_eq_true rfl) (Nat.le_of_ble_eq_true rfl) dX4_init_15 (fun q_15 H hG => ?_)
  have hG : sl_I Γ (sl_up (sl_up (sl_up g 1 (q_8, .inl (Γ.2.1 2, 150, .inr (.inr (.inr (.inr (fun _ => none))))))) 0 (a0, .inr (4, [.ref q_8, .null, .null, .null, .int 0, .int 0, .int 0, .int 0]))) 2 (q_15, .inr (0, [.null]))) s H _ := hG
  refine lv_dup hx hb dX4_init_18 rfl ?_
  refine sl_callv (sl_runIN (As := []) (rest := [.ref q_15, .ref a0]) hC hG (kX0_init l Γ (sl_up (sl_up (sl_up g 1 (q_8, .inl (Γ.2.1 2, 150, .inr (.inr (.inr (.inr (fun _ => none))))))) 0 (a0, .inr (4, [.ref q_8, .null, .null, .null, .int 0, .int 0, .int 0, .int 0]))) 2 (q_15, .inr (0, [.null]))) q_15 (sl_up_s _ _ _) (sl_up_to (by decide) (sl_up_to (by decide) (sl_up_to (by decide) h3)))) mi_X0_init lk_RX4_17 rfl rfl ⟨Nat.le_of_ble_eq_true rfl, Nat.le_of_ble_eq_true rfl⟩ rfl hl.1 rfl (Nat.le_of_ble_eq_true rfl) dX4_init_19 ⟨Nat.le_of_ble_eq_true rfl, Nat.le_of_ble_eq_true rfl⟩) hG (fun u_19 H locs hr_19 hG => ?_)
  rw [sl_up_up] at hG
  have hG : sl_I Γ (sl_up (sl_up (sl_up (sl_up g 1 (q_8, .inl (Γ.2.1 2, 150, .inr (.inr (.inr (.inr (fun _ => none))))))) 0 (a0, .inr (4, [.ref q_8, .null, .null, .null, .int 0, .int 0, .int 0, .int 0]))) 2 (q_15, .inr (0, [.ref u_19]))) 3 (u_19, .inl (Γ.2.1 0, 360, .inl (fun _ => (-2))))) s H _ := hG
  refine sl_putF (C := RX4) (T := TX4) (N := 8) (ty := .object "SharedLog$Cells") (v := .ref q_15) hC hG 0 (sl_up_to (by decide) (sl_up_to (by decide) (sl_up_s _ _ _))) rfl la_4 tyX4 tyX4_ok nmX4 1 (by decide) lk_RX4_18 rfl rfl hin rfl (by decide +kernel) rfl rfl (Nat.le_of_ble_eq_true rfl) dX4_init_22 (fun H locs hG => ?_)
  have hG : sl_I Γ (sl_up (sl_up (sl_up (sl_up (sl_up g 1 (q_8, .inl (Γ.2.1 2, 150, .inr (.inr (.inr (.inr (fun _ => none))))))) 0 (a0, .inr (4, [.ref q_8, .null, .null, .null, .int 0, .int 0, .int 0, .int 0]))) 2 (q_15, .inr (0, [.ref u_19]))) 3 (u_19, .inl (Γ.2.1 0, 360, .inl (fun _ => (-2))))) 0 (a0, .inr (4, [.ref q_8, .ref q_15, .null, .null, .int 0, .int 0, .int 0, .int 0]))) s H _ := hG
  refine lv_aload_n hx hb dX4_init_25 rfl (lv_at hl 0 rfl) ?_
  refine sl_new (ci := 3) hC hG 4 (sl_up_to (by decide) (sl_up_to (by decide) (sl_up_to (by decide) (sl_up_to (by decide) (sl_up_to (by decide) h4))))) (C := RX3) (T := TX3) (N := 1) (fs := [.null]) rfl la_3 tyX3 tyX3_ok (sl_f3) lk_RX4_22 in_RX3 ini_RX3 (Nat.le_of_ble_eq_true rfl) (Nat.le_of_ble_eq_true rfl) dX4_init_26 (fun q_26 H hG => ?_)
  have hG : sl_I Γ (sl_up (sl_up (sl_up (sl_up (sl_up (sl_up g 1 (q_8, .inl (Γ.2.1 2, 150, .inr (.inr (.inr (.inr (fun _ => none))))))) 0 (a0, .inr (4, [.ref q_8, .null, .null, .null, .int 0, .int 0, .int 0, .int 0]))) 2 (q_15, .inr (0, [.ref u_19]))) 3 (u_19, .inl (Γ.2.1 0, 360, .inl (fun _ => (-2))))) 0 (a0, .inr (4, [.ref q_8, .ref q_15, .null, .null, .int 0, .int 0, .int 0, .int 0]))) 4 (q_26, .inr (3, [.null]))) s H _ := hG
  refine lv_dup hx hb dX4_init_29 rfl ?_
  refine sl_callv (sl_runIN (As := []) (rest := [.ref q_26, .ref a0]) hC hG (kX3_init l Γ (sl_up (sl_up (sl_up (sl_up (sl_up (sl_up g 1 (q_8, .inl (Γ.2.1 2, 150, .inr (.inr (.inr (.inr (fun _ => none))))))) 0 (a0, .inr (4, [.ref q_8, .null, .null, .null, .int 0, .int 0, .int 0, .int 0]))) 2 (q_15, .inr (0, [.ref u_19]))) 3 (u_19, .inl (Γ.2.1 0, 360, .inl (fun _ => (-2))))) 0 (a0, .inr (4, [.ref q_8, .ref q_15, .null, .null, .int 0, .int 0, .int 0, .int 0]))) 4 (q_26, .inr (3, [.null]))) 4 5 q_26 (sl_up_s _ _ _) (sl_up_to (by decide) (sl_up_to (by decide) (sl_up_to (by decide) (sl_up_to (by decide) (sl_up_to (by decide) (sl_up_to (by decide) h5)))))) (by omega)) mi_X3_init lk_RX4_24 rfl rfl ⟨Nat.le_of_ble_eq_true rfl, Nat.le_of_ble_eq_true rfl⟩ rfl hl.1 rfl (Nat.le_of_ble_eq_true rfl) dX4_init_30 ⟨Nat.le_of_ble_eq_true rfl, Nat.le_of_ble_eq_true rfl⟩) hG (fun u_30 H locs hr_30 hG => ?_)
  rw [sl_up_up] at hG
  have hG : sl_I Γ (sl_up (sl_up (sl_up (sl_up (sl_up (sl_up (sl_up g 1 (q_8, .inl (Γ.2.1 2, 150, .inr (.inr (.inr (.inr (fun _ => none))))))) 0 (a0, .inr (4, [.ref q_8, .null, .null, .null, .int 0, .int 0, .int 0, .int 0]))) 2 (q_15, .inr (0, [.ref u_19]))) 3 (u_19, .inl (Γ.2.1 0, 360, .inl (fun _ => (-2))))) 0 (a0, .inr (4, [.ref q_8, .ref q_15, .null, .null, .int 0, .int 0, .int 0, .int 0]))) 4 (q_26, .inr (3, [.ref u_30]))) 5 (u_30, .inl (Γ.2.1 0, 16, .inl (fun _ => (-1))))) s H _ := hG
  refine sl_putF (C := RX4) (T := TX4) (N := 8) (ty := .object "SharedLog$Trail") (v := .ref q_26) hC hG 0 (sl_up_to (by decide) (sl_up_to (by decide) (sl_up_s _ _ _))) rfl la_4 tyX4 tyX4_ok nmX4 2 (by decide) lk_RX4_25 rfl rfl hin rfl (by decide +kernel) rfl rfl (Nat.le_of_ble_eq_true rfl) dX4_init_33 (fun H locs hG => ?_)
  have hG : sl_I Γ (sl_up (sl_up (sl_up (sl_up (sl_up (sl_up (sl_up (sl_up g 1 (q_8, .inl (Γ.2.1 2, 150, .inr (.inr (.inr (.inr (fun _ => none))))))) 0 (a0, .inr (4, [.ref q_8, .null, .null, .null, .int 0, .int 0, .int 0, .int 0]))) 2 (q_15, .inr (0, [.ref u_19]))) 3 (u_19, .inl (Γ.2.1 0, 360, .inl (fun _ => (-2))))) 0 (a0, .inr (4, [.ref q_8, .ref q_15, .null, .null, .int 0, .int 0, .int 0, .int 0]))) 4 (q_26, .inr (3, [.ref u_30]))) 5 (u_30, .inl (Γ.2.1 0, 16, .inl (fun _ => (-1))))) 0 (a0, .inr (4, [.ref q_8, .ref q_15, .ref q_26, .null, .int 0, .int 0, .int 0, .int 0]))) s H _ := hG
  refine lv_aload_n hx hb dX4_init_36 rfl (lv_at hl 0 rfl) ?_
  refine sl_new (ci := 2) hC hG 6 (sl_up_to (by decide) (sl_up_to (by decide) (sl_up_to (by decide) (sl_up_to (by decide) (sl_up_to (by decide) (sl_up_to (by decide) (sl_up_to (by decide) (sl_up_to (by decide) h6)))))))) (C := RX2) (T := TX2) (N := 3) (fs := [.null, .null, .int 0]) rfl la_2 tyX2 tyX2_ok (sl_f2) lk_RX4_29 in_RX2 ini_RX2 (Nat.le_of_ble_eq_true rfl) (Nat.le_of_ble_eq_true rfl) dX4_init_37 (fun q_37 H hG => ?_)
  have hG : sl_I Γ (sl_up (sl_up (sl_up (sl_up (sl_up (sl_up (sl_up (sl_up (sl_up g 1 (q_8, .inl (Γ.2.1 2, 150, .inr (.inr (.inr (.inr (fun _ => none))))))) 0 (a0, .inr (4, [.ref q_8, .null, .null, .null, .int 0, .int 0, .int 0, .int 0]))) 2 (q_15, .inr (0, [.ref u_19]))) 3 (u_19, .inl (Γ.2.1 0, 360, .inl (fun _ => (-2))))) 0 (a0, .inr (4, [.ref q_8, .ref q_15, .null, .null, .int 0, .int 0, .int 0, .int 0]))) 4 (q_26, .inr (3, [.ref u_30]))) 5 (u_30, .inl (Γ.2.1 0, 16, .inl (fun _ => (-1))))) 0 (a0, .inr (4, [.ref q_8, .ref q_15, .ref q_26, .null, .int 0, .int 0, .int 0, .int 0]))) 6 (q_37, .inr (2, [.null, .null, .int 0]))) s H _ := hG
  refine lv_dup hx hb dX4_init_40 rfl ?_
  refine sl_callv (sl_runIN (As := []) (rest := [.ref q_37, .ref a0]) hC hG (kX2_init l Γ (sl_up (sl_up (sl_up (sl_up (sl_up (sl_up (sl_up (sl_up (sl_up g 1 (q_8, .inl (Γ.2.1 2, 150, .inr (.inr (.inr (.inr (fun _ => none))))))) 0 (a0, .inr (4, [.ref q_8, .null, .null, .null, .int 0, .int 0, .int 0, .int 0]))) 2 (q_15, .inr (0, [.ref u_19]))) 3 (u_19, .inl (Γ.2.1 0, 360, .inl (fun _ => (-2))))) 0 (a0, .inr (4, [.ref q_8, .ref q_15, .null, .null, .int 0, .int 0, .int 0, .int 0]))) 4 (q_26, .inr (3, [.ref u_30]))) 5 (u_30, .inl (Γ.2.1 0, 16, .inl (fun _ => (-1))))) 0 (a0, .inr (4, [.ref q_8, .ref q_15, .ref q_26, .null, .int 0, .int 0, .int 0, .int 0]))) 6 (q_37, .inr (2, [.null, .null, .int 0]))) q_37 (sl_up_s _ _ _) (sl_up_to (by decide) (sl_up_to (by decide) (sl_up_to (by decide) (sl_up_to (by decide) (sl_up_to (by decide) (sl_up_to (by decide) (sl_up_to (by decide) (sl_up_to (by decide) (sl_up_to (by decide) h7))))))))) (sl_up_to (by decide) (sl_up_to (by decide) (sl_up_to (by decide) (sl_up_to (by decide) (sl_up_to (by decide) (sl_up_to (by decide) (sl_up_to (by decide) (sl_up_to (by decide) (sl_up_to (by decide) h8)))))))))) mi_X2_init lk_RX4_31 rfl rfl ⟨Nat.le_of_ble_eq_true rfl, Nat.le_of_ble_eq_true rfl⟩ rfl hl.1 rfl (Nat.le_of_ble_eq_true rfl) dX4_init_41 ⟨Nat.le_of_ble_eq_true rfl, Nat.le_of_ble_eq_true rfl⟩) hG (fun u_41 H locs hr_41 hG => ?_)
  rw [sl_up_up] at hG
  have hG : sl_I Γ (sl_up (sl_up (sl_up (sl_up (sl_up (sl_up (sl_up (sl_up (sl_up (sl_up (sl_up g 1 (q_8, .inl (Γ.2.1 2, 150, .inr (.inr (.inr (.inr (fun _ => none))))))) 0 (a0, .inr (4, [.ref q_8, .null, .null, .null, .int 0, .int 0, .int 0, .int 0]))) 2 (q_15, .inr (0, [.ref u_19]))) 3 (u_19, .inl (Γ.2.1 0, 360, .inl (fun _ => (-2))))) 0 (a0, .inr (4, [.ref q_8, .ref q_15, .null, .null, .int 0, .int 0, .int 0, .int 0]))) 4 (q_26, .inr (3, [.ref u_30]))) 5 (u_30, .inl (Γ.2.1 0, 16, .inl (fun _ => (-1))))) 0 (a0, .inr (4, [.ref q_8, .ref q_15, .ref q_26, .null, .int 0, .int 0, .int 0, .int 0]))) 6 (q_37, .inr (2, [.ref u_41.1, .ref u_41.2, .int 0]))) 7 (u_41.1, .inl (Γ.2.1 1, 120, .inl (fun _ => 0)))) 8 (u_41.2, .inl (Γ.2.1 0, 4, .inl (fun _ => 0)))) s H _ := hG
  refine sl_putF (C := RX4) (T := TX4) (N := 8) (ty := .object "SharedLog$Fold") (v := .ref q_37) hC hG 0 (sl_up_to (by decide) (sl_up_to (by decide) (sl_up_to (by decide) (sl_up_s _ _ _)))) rfl la_4 tyX4 tyX4_ok nmX4 3 (by decide) lk_RX4_32 rfl rfl hin rfl (by decide +kernel) rfl rfl (Nat.le_of_ble_eq_true rfl) dX4_init_44 (fun H locs hG => ?_)
  have hG : sl_I Γ (sl_up (sl_up (sl_up (sl_up (sl_up (sl_up (sl_up (sl_up (sl_up (sl_up (sl_up (sl_up g 1 (q_8, .inl (Γ.2.1 2, 150, .inr (.inr (.inr (.inr (fun _ => none))))))) 0 (a0, .inr (4, [.ref q_8, .null, .null, .null, .int 0, .int 0, .int 0, .int 0]))) 2 (q_15, .inr (0, [.ref u_19]))) 3 (u_19, .inl (Γ.2.1 0, 360, .inl (fun _ => (-2))))) 0 (a0, .inr (4, [.ref q_8, .ref q_15, .null, .null, .int 0, .int 0, .int 0, .int 0]))) 4 (q_26, .inr (3, [.ref u_30]))) 5 (u_30, .inl (Γ.2.1 0, 16, .inl (fun _ => (-1))))) 0 (a0, .inr (4, [.ref q_8, .ref q_15, .ref q_26, .null, .int 0, .int 0, .int 0, .int 0]))) 6 (q_37, .inr (2, [.ref u_41.1, .ref u_41.2, .int 0]))) 7 (u_41.1, .inl (Γ.2.1 1, 120, .inl (fun _ => 0)))) 8 (u_41.2, .inl (Γ.2.1 0, 4, .inl (fun _ => 0)))) 0 (a0, .inr (4, [.ref q_8, .ref q_15, .ref q_26, .ref q_37, .int 0, .int 0, .int 0, .int 0]))) s H _ := hG
  refine lv_aload_n hx hb dX4_init_47 rfl (lv_at hl 0 rfl) ?_
  refine lv_iconst (v := 0) hx hb dX4_init_48 (by decide) ?_
  refine sl_put (C := RX4) (T := TX4) (N := 8) (ty := .int) (v := .int 0) hC hG 0 (sl_up_s _ _ _) rfl la_4 tyX4 tyX4_ok nmX4 4 (by decide) lk_RX4_36 rfl rfl (by decide +kernel) rfl rfl (Nat.le_of_ble_eq_true rfl) dX4_init_49 (fun H locs hG => ?_)
  rw [sl_up_up] at hG
  have hG : sl_I Γ (sl_up (sl_up (sl_up (sl_up (sl_up (sl_up (sl_up (sl_up (sl_up (sl_up (sl_up (sl_up g 1 (q_8, .inl (Γ.2.1 2, 150, .inr (.inr (.inr (.inr (fun _ => none))))))) 0 (a0, .inr (4, [.ref q_8, .null, .null, .null, .int 0, .int 0, .int 0, .int 0]))) 2 (q_15, .inr (0, [.ref u_19]))) 3 (u_19, .inl (Γ.2.1 0, 360, .inl (fun _ => (-2))))) 0 (a0, .inr (4, [.ref q_8, .ref q_15, .null, .null, .int 0, .int 0, .int 0, .int 0]))) 4 (q_26, .inr (3, [.ref u_30]))) 5 (u_30, .inl (Γ.2.1 0, 16, .inl (fun _ => (-1))))) 0 (a0, .inr (4, [.ref q_8, .ref q_15, .ref q_26, .null, .int 0, .int 0, .int 0, .int 0]))) 6 (q_37, .inr (2, [.ref u_41.1, .ref u_41.2, .int 0]))) 7 (u_41.1, .inl (Γ.2.1 1, 120, .inl (fun _ => 0)))) 8 (u_41.2, .inl (Γ.2.1 0, 4, .inl (fun _ => 0)))) 0 (a0, .inr (4, [.ref q_8, .ref q_15, .ref q_26, .ref q_37, .int 0, .int 0, .int 0, .int 0]))) s H _ := hG
  refine lv_aload_n hx hb dX4_init_52 rfl (lv_at hl 0 rfl) ?_
  refine lv_iconst (v := 0) hx hb dX4_init_53 (by decide) ?_
  refine sl_put (C := RX4) (T := TX4) (N := 8) (ty := .int) (v := .int 0) hC hG 0 (sl_up_s _ _ _) rfl la_4 tyX4 tyX4_ok nmX4 5 (by decide) lk_RX4_40 rfl rfl (by decide +kernel) rfl rfl (Nat.le_of_ble_eq_true rfl) dX4_init_54 (fun H locs hG => ?_)
  rw [sl_up_up] at hG
  have hG : sl_I Γ (sl_up (sl_up (sl_up (sl_up (sl_up (sl_up (sl_up (sl_up (sl_up (sl_up (sl_up (sl_up g 1 (q_8, .inl (Γ.2.1 2, 150, .inr (.inr (.inr (.inr (fun _ => none))))))) 0 (a0, .inr (4, [.ref q_8, .null, .null, .null, .int 0, .int 0, .int 0, .int 0]))) 2 (q_15, .inr (0, [.ref u_19]))) 3 (u_19, .inl (Γ.2.1 0, 360, .inl (fun _ => (-2))))) 0 (a0, .inr (4, [.ref q_8, .ref q_15, .null, .null, .int 0, .int 0, .int 0, .int 0]))) 4 (q_26, .inr (3, [.ref u_30]))) 5 (u_30, .inl (Γ.2.1 0, 16, .inl (fun _ => (-1))))) 0 (a0, .inr (4, [.ref q_8, .ref q_15, .ref q_26, .null, .int 0, .int 0, .int 0, .int 0]))) 6 (q_37, .inr (2, [.ref u_41.1, .ref u_41.2, .int 0]))) 7 (u_41.1, .inl (Γ.2.1 1, 120, .inl (fun _ => 0)))) 8 (u_41.2, .inl (Γ.2.1 0, 4, .inl (fun _ => 0)))) 0 (a0, .inr (4, [.ref q_8, .ref q_15, .ref q_26, .ref q_37, .int 0, .int 0, .int 0, .int 0]))) s H _ := hG
  refine lv_aload_n hx hb dX4_init_57 rfl (lv_at hl 0 rfl) ?_
  refine lv_iconst (v := 0) hx hb dX4_init_58 (by decide) ?_
  refine sl_put (C := RX4) (T := TX4) (N := 8) (ty := .int) (v := .int 0) hC hG 0 (sl_up_s _ _ _) rfl la_4 tyX4 tyX4_ok nmX4 6 (by decide) lk_RX4_43 rfl rfl (by decide +kernel) rfl rfl (Nat.le_of_ble_eq_true rfl) dX4_init_59 (fun H locs hG => ?_)
  rw [sl_up_up] at hG
  have hG : sl_I Γ (sl_up (sl_up (sl_up (sl_up (sl_up (sl_up (sl_up (sl_up (sl_up (sl_up (sl_up (sl_up g 1 (q_8, .inl (Γ.2.1 2, 150, .inr (.inr (.inr (.inr (fun _ => none))))))) 0 (a0, .inr (4, [.ref q_8, .null, .null, .null, .int 0, .int 0, .int 0, .int 0]))) 2 (q_15, .inr (0, [.ref u_19]))) 3 (u_19, .inl (Γ.2.1 0, 360, .inl (fun _ => (-2))))) 0 (a0, .inr (4, [.ref q_8, .ref q_15, .null, .null, .int 0, .int 0, .int 0, .int 0]))) 4 (q_26, .inr (3, [.ref u_30]))) 5 (u_30, .inl (Γ.2.1 0, 16, .inl (fun _ => (-1))))) 0 (a0, .inr (4, [.ref q_8, .ref q_15, .ref q_26, .null, .int 0, .int 0, .int 0, .int 0]))) 6 (q_37, .inr (2, [.ref u_41.1, .ref u_41.2, .int 0]))) 7 (u_41.1, .inl (Γ.2.1 1, 120, .inl (fun _ => 0)))) 8 (u_41.2, .inl (Γ.2.1 0, 4, .inl (fun _ => 0)))) 0 (a0, .inr (4, [.ref q_8, .ref q_15, .ref q_26, .ref q_37, .int 0, .int 0, .int 0, .int 0]))) s H _ := hG
  refine lv_aload_n hx hb dX4_init_62 rfl (lv_at hl 0 rfl) ?_
  refine lv_iconst (v := 0) hx hb dX4_init_63 (by decide) ?_
  refine sl_put (C := RX4) (T := TX4) (N := 8) (ty := .boolean) (v := .int 0) hC hG 0 (sl_up_s _ _ _) rfl la_4 tyX4 tyX4_ok nmX4 7 (by decide) lk_RX4_46 rfl rfl (by decide +kernel) rfl rfl (Nat.le_of_ble_eq_true rfl) dX4_init_64 (fun H locs hG => ?_)
  rw [sl_up_up] at hG
  have hG : sl_I Γ (sl_up (sl_up (sl_up (sl_up (sl_up (sl_up (sl_up (sl_up (sl_up (sl_up (sl_up (sl_up g 1 (q_8, .inl (Γ.2.1 2, 150, .inr (.inr (.inr (.inr (fun _ => none))))))) 0 (a0, .inr (4, [.ref q_8, .null, .null, .null, .int 0, .int 0, .int 0, .int 0]))) 2 (q_15, .inr (0, [.ref u_19]))) 3 (u_19, .inl (Γ.2.1 0, 360, .inl (fun _ => (-2))))) 0 (a0, .inr (4, [.ref q_8, .ref q_15, .null, .null, .int 0, .int 0, .int 0, .int 0]))) 4 (q_26, .inr (3, [.ref u_30]))) 5 (u_30, .inl (Γ.2.1 0, 16, .inl (fun _ => (-1))))) 0 (a0, .inr (4, [.ref q_8, .ref q_15, .ref q_26, .null, .int 0, .int 0, .int 0, .int 0]))) 6 (q_37, .inr (2, [.ref u_41.1, .ref u_41.2, .int 0]))) 7 (u_41.1, .inl (Γ.2.1 1, 120, .inl (fun _ => 0)))) 8 (u_41.2, .inl (Γ.2.1 0, 4, .inl (fun _ => 0)))) 0 (a0, .inr (4, [.ref q_8, .ref q_15, .ref q_26, .ref q_37, .int 0, .int 0, .int 0, .int 0]))) s H _ := hG
  have hfin : sl_Cls Γ (sl_al [a0, q_8, q_15, u_19, q_26, u_30, q_37, u_41.1, u_41.2]) sl_b0 0 0 0 false (fun _ => -1) (fun _ => -2) sl_E0 (sl_up (sl_up (sl_up (sl_up (sl_up (sl_up (sl_up (sl_up (sl_up (sl_up (sl_up (sl_up g 1 (q_8, .inl (Γ.2.1 2, 150, .inr (.inr (.inr (.inr (fun _ => none))))))) 0 (a0, .inr (4, [.ref q_8, .null, .null, .null, .int 0, .int 0, .int 0, .int 0]))) 2 (q_15, .inr (0, [.ref u_19]))) 3 (u_19, .inl (Γ.2.1 0, 360, .inl (fun _ => (-2))))) 0 (a0, .inr (4, [.ref q_8, .ref q_15, .null, .null, .int 0, .int 0, .int 0, .int 0]))) 4 (q_26, .inr (3, [.ref u_30]))) 5 (u_30, .inl (Γ.2.1 0, 16, .inl (fun _ => (-1))))) 0 (a0, .inr (4, [.ref q_8, .ref q_15, .ref q_26, .null, .int 0, .int 0, .int 0, .int 0]))) 6 (q_37, .inr (2, [.ref u_41.1, .ref u_41.2, .int 0]))) 7 (u_41.1, .inl (Γ.2.1 1, 120, .inl (fun _ => 0)))) 8 (u_41.2, .inl (Γ.2.1 0, 4, .inl (fun _ => 0)))) 0 (a0, .inr (4, [.ref q_8, .ref q_15, .ref q_26, .ref q_37, .int 0, .int 0, .int 0, .int 0]))) := ⟨(sl_up_s _ _ _), by rw [sl_ea_0]; exact (sl_up_to (by decide) (sl_up_to (by decide) (sl_up_to (by decide) (sl_up_to (by decide) (sl_up_to (by decide) (sl_up_to (by decide) (sl_up_to (by decide) (sl_up_to (by decide) (sl_up_to (by decide) (sl_up_to (by decide) (sl_up_to (by decide) (sl_up_s _ _ _)))))))))))), (sl_up_to (by decide) (sl_up_to (by decide) (sl_up_to (by decide) (sl_up_to (by decide) (sl_up_to (by decide) (sl_up_to (by decide) (sl_up_to (by decide) (sl_up_to (by decide) (sl_up_to (by decide) (sl_up_s _ _ _)))))))))), (sl_up_to (by decide) (sl_up_to (by decide) (sl_up_to (by decide) (sl_up_to (by decide) (sl_up_to (by decide) (sl_up_to (by decide) (sl_up_to (by decide) (sl_up_to (by decide) (sl_up_s _ _ _))))))))), (sl_up_to (by decide) (sl_up_to (by decide) (sl_up_to (by decide) (sl_up_to (by decide) (sl_up_to (by decide) (sl_up_to (by decide) (sl_up_s _ _ _))))))), (sl_up_to (by decide) (sl_up_to (by decide) (sl_up_to (by decide) (sl_up_to (by decide) (sl_up_to (by decide) (sl_up_s _ _ _)))))), ⟨_, _, _, (sl_up_to (by decide) (sl_up_to (by decide) (sl_up_to (by decide) (sl_up_s _ _ _)))), (sl_up_to (by decide) (sl_up_to (by decide) (sl_up_s _ _ _))), (sl_up_to (by decide) (sl_up_s _ _ _))⟩, fun i hi => absurd hi (Nat.not_lt_zero i), fun k hk => (sl_up_to (by omega) (sl_up_to (by omega) (sl_up_to (by omega) (sl_up_to (by omega) (sl_up_to (by omega) (sl_up_to (by omega) (sl_up_to (by omega) (sl_up_to (by omega) (sl_up_to (by omega) (sl_up_to (by omega) (sl_up_to (by omega) (sl_up_to (by omega) (hf k (by omega) (by omega)))))))))))))), by decide, by decide⟩
  have hfr : sl_fr g (sl_up (sl_up (sl_up (sl_up (sl_up (sl_up (sl_up (sl_up (sl_up (sl_up (sl_up (sl_up g 1 (q_8, .inl (Γ.2.1 2, 150, .inr (.inr (.inr (.inr (fun _ => none))))))) 0 (a0, .inr (4, [.ref q_8, .null, .null, .null, .int 0, .int 0, .int 0, .int 0]))) 2 (q_15, .inr (0, [.ref u_19]))) 3 (u_19, .inl (Γ.2.1 0, 360, .inl (fun _ => (-2))))) 0 (a0, .inr (4, [.ref q_8, .ref q_15, .null, .null, .int 0, .int 0, .int 0, .int 0]))) 4 (q_26, .inr (3, [.ref u_30]))) 5 (u_30, .inl (Γ.2.1 0, 16, .inl (fun _ => (-1))))) 0 (a0, .inr (4, [.ref q_8, .ref q_15, .ref q_26, .null, .int 0, .int 0, .int 0, .int 0]))) 6 (q_37, .inr (2, [.ref u_41.1, .ref u_41.2, .int 0]))) 7 (u_41.1, .inl (Γ.2.1 1, 120, .inl (fun _ => 0)))) 8 (u_41.2, .inl (Γ.2.1 0, 4, .inl (fun _ => 0)))) 0 (a0, .inr (4, [.ref q_8, .ref q_15, .ref q_26, .ref q_37, .int 0, .int 0, .int 0, .int 0]))) := fun k h1 h2 => (sl_up_to (by omega) (sl_up_to (by omega) (sl_up_to (by omega) (sl_up_to (by omega) (sl_up_to (by omega) (sl_up_to (by omega) (sl_up_to (by omega) (sl_up_to (by omega) (sl_up_to (by omega) (sl_up_to (by omega) (sl_up_to (by omega) (sl_up_to (by omega) rfl))))))))))))
  exact sl_rv hC hr hG ((sl_al [a0, q_8, q_15, u_19, q_26, u_30, q_37, u_41.1, u_41.2]), (sl_up (sl_up (sl_up (sl_up (sl_up (sl_up (sl_up (sl_up (sl_up (sl_up (sl_up (sl_up g 1 (q_8, .inl (Γ.2.1 2, 150, .inr (.inr (.inr (.inr (fun _ => none))))))) 0 (a0, .inr (4, [.ref q_8, .null, .null, .null, .int 0, .int 0, .int 0, .int 0]))) 2 (q_15, .inr (0, [.ref u_19]))) 3 (u_19, .inl (Γ.2.1 0, 360, .inl (fun _ => (-2))))) 0 (a0, .inr (4, [.ref q_8, .ref q_15, .null, .null, .int 0, .int 0, .int 0, .int 0]))) 4 (q_26, .inr (3, [.ref u_30]))) 5 (u_30, .inl (Γ.2.1 0, 16, .inl (fun _ => (-1))))) 0 (a0, .inr (4, [.ref q_8, .ref q_15, .ref q_26, .null, .int 0, .int 0, .int 0, .int 0]))) 6 (q_37, .inr (2, [.ref u_41.1, .ref u_41.2, .int 0]))) 7 (u_41.1, .inl (Γ.2.1 1, 120, .inl (fun _ => 0)))) 8 (u_41.2, .inl (Γ.2.1 0, 4, .inl (fun _ => 0)))) 0 (a0, .inr (4, [.ref q_8, .ref q_15, .ref q_26, .ref q_37, .int 0, .int 0, .int 0, .int 0])))) ⟨hfin, hfr, rfl⟩ rfl (Nat.le_of_ble_eq_true rfl) (Nat.le_of_ble_eq_true rfl) dX4_init_67
end
section
/-! plain facts of the state -/
/-! the reference's state -/
/-- what is sure of the numbers: cells hold -2, -1 or a token; positions, versions, steps, pointers lie where they lie -/
def sl_wf (n tl : Nat) (C : Nat → Int32) (E : Nat → sl_Ent) : Prop :=
  n ≤ 150 ∧ tl ≤ 120 ∧ (∀ i, i < 360 → C i = -1 ∨ C i = -2 ∨ ∃ t, t < n ∧ C i = nI t) ∧
  (∀ t, t < n → (∃ q, q < 120 ∧ (E t).1 = nI q) ∧ (∃ v, v ≤ 120 ∧ (E t).2.2.2.2.2.1 = nI v) ∧ ((E t).2.2.2.2.2.2.2 = -1 ∨ ∃ k, k ≤ 3 ∧ (E t).2.2.2.2.2.2.2 = nI k) ∧ 0 ≤ (E t).2.2.2.2.1.toInt ∧ (E t).2.2.2.2.1.toInt ≤ 15) ∧ ∀ i, n ≤ i → (E i).2.2.2.2.2.2.2 = 0
theorem sl_tok_ex {n : Nat} {x : Int32} (hn : n ≤ 150) (h : (sl_tok n x).isSome = true) : ∃ t, t < n ∧ x = nI t ∧ sl_tok n x = some t := by
  rcases sl_opt (sl_tok n x) with e | ⟨t, e⟩
  · rw [e] at h; cases h
  · exact ⟨t, sl_tok_lt e, sl_tok_eq hn e, e⟩
theorem sl_tok_in {n : Nat} {x : Int32} (hn : n ≤ 150) : sl_in x 0 (nI n - 1) = (sl_tok n x).isSome := by
  have e : (nI n - 1).toInt = (n : Int) - 1 := by
    cases n with
    | zero => rfl
    | succ n => rw [nI_pred, nI_toInt (by omega)]; omega
  by_cases h : 0 ≤ x.toInt ∧ x.toInt < n
  · rw [sl_in_t (by rw [sl_i0]; exact h.1) (by rw [e]; omega), sl_tok, if_pos h]; rfl
  · rw [sl_in_f (by rw [sl_i0, e]; omega), sl_tok, if_neg h]; rfl
theorem sl_ch_eq {lo : Bool} {tl n : Nat} (ht : tl ≤ 120) (hn : n ≤ 150) : (lo || decide (tl = 120) || decide (n = 150)) = sl_ch lo tl n := by
  rw [sl_ch, decide_eq_decide.mpr (by omega : tl = 120 ↔ 120 ≤ tl), decide_eq_decide.mpr (by omega : n = 150 ↔ 150 ≤ n)]
/-- a cell names an entry with the stream -/
def sl_hc (n : Nat) (E : Nat → sl_Ent) (z x : Int32) : Bool := match sl_tok n z with
  | none => false
  | some t => sl_has (E t).2.2.1 x
theorem sl_hc_0 {n : Nat} {E : Nat → sl_Ent} {z x : Int32} (h : sl_tok n z = none) : sl_hc n E z x = false := by rw [sl_hc, h]
theorem sl_hc_1 {n t : Nat} {E : Nat → sl_Ent} {z x : Int32} (h : sl_tok n z = some t) : sl_hc n E z x = sl_has (E t).2.2.1 x := by rw [sl_hc, h]
theorem sl_ge0 {z : Int32} : ¬ z < 0 ↔ 0 ≤ z.toInt := by rw [sl_ltI, sl_i0]; omega
/-- a cell: junk, empty, or a token -/
def sl_ce (n : Nat) (z : Int32) : Prop := z = -1 ∨ z = -2 ∨ ∃ t, t < n ∧ z = nI t
theorem sl_ce_neg {n : Nat} {z : Int32} (hn : n ≤ 150) (h : sl_ce n z) (hz : z < 0) : sl_tok n z = none := sl_tok_neg (by rw [sl_ltI, sl_i0] at hz; exact hz)
theorem sl_ce_pos {n : Nat} {z : Int32} (hn : n ≤ 150) (h : sl_ce n z) (hz : ¬ z < 0) : ∃ t, t < n ∧ z = nI t ∧ sl_tok n z = some t := by
  rcases h with e | e | ⟨t, ht, e⟩
  · exact absurd (by rw [e]; decide) hz
  · exact absurd (by rw [e]; decide) hz
  · exact ⟨t, ht, e, by rw [e]; exact sl_tokN ht hn⟩
theorem sl_tok_isS {n : Nat} {z : Int32} (hn : n ≤ 150) (h : sl_ce n z) : (sl_tok n z).isSome = !decide (z < 0) := by
  by_cases hz : z < 0
  · rw [sl_ce_neg hn h hz, decide_eq_true hz]; rfl
  · obtain ⟨t, -, -, e⟩ := sl_ce_pos hn h hz
    rw [e, decide_eq_false hz]; rfl
/-! the reference's calls: the simple ones, and handing out -/
theorem sl_up_mid2 (g : sl_W) {a b : Nat} (x y z : Nat × va_E) (h : a ≠ b) : sl_up (sl_up (sl_up g a x) b y) a z = sl_up (sl_up g a z) b y := by
  rw [sl_up_mid, sl_up_comm g y z (Ne.symm h)]
/-- the pointers' row while a token's are laid -/
def sl_pn (Q : Nat → Int32) (n : Nat) (X : Nat → Int32) (k : Nat) : Nat → Int32 := fun j => if 16 * n ≤ j ∧ j < 16 * n + 4 * k then X (j - 16 * n) else Q j
theorem sl_pn_0 (Q : Nat → Int32) (n : Nat) (X : Nat → Int32) : Q = sl_pn Q n X 0 := by
  funext j
  rw [sl_pn, if_neg (by omega)]
theorem sl_pn_4 {Q X : Nat → Int32} {n k : Nat} {x0 x1 x2 x3 : Int32} (h0 : x0 = X (4 * k + 0)) (h1 : x1 = X (4 * k + 1)) (h2 : x2 = X (4 * k + 2)) (h3 : x3 = X (4 * k + 3)) : upd (upd (upd (upd (sl_pn Q n X k) (16 * n + 4 * k + 0) x0) (16 * n + 4 * k + 1) x1) (16 * n + 4 * k + 2) x2) (16 * n + 4 * k + 3) x3 = sl_pn Q n X (k + 1) := by
  subst h0 h1 h2 h3
  funext j
  by_cases e3 : j = 16 * n + 4 * k + 3
  · subst e3; rw [pk_us, sl_pn, if_pos (by omega)]; congr 1; omega
  · rw [pk_un e3]
    by_cases e2 : j = 16 * n + 4 * k + 2
    · subst e2; rw [pk_us, sl_pn, if_pos (by omega)]; congr 1; omega
    · rw [pk_un e2]
      by_cases e1 : j = 16 * n + 4 * k + 1
      · subst e1; rw [pk_us, sl_pn, if_pos (by omega)]; congr 1; omega
      · rw [pk_un e1]
        by_cases e0 : j = 16 * n + 4 * k + 0
        · subst e0; rw [pk_us, sl_pn, if_pos (by omega)]; congr 1; omega
        · rw [pk_un e0, sl_pn, sl_pn]
          by_cases h : 16 * n ≤ j ∧ j < 16 * n + 4 * k
          · rw [if_pos h, if_pos (by omega)]
          · rw [if_neg h, if_neg (by omega)]
theorem sl_tp_keep (T : Nat → Int32) (ss z : Int32) : ∀ (k j : Nat), 4 * k ≤ j → sl_tp T ss z k j = T j
  | 0, j, _ => rfl
  | k + 1, j, h => by
    rw [sl_tp]
    split
    · rw [sl_t1, pk_un (by omega), pk_un (by omega), pk_un (by omega), pk_un (by omega)]
      exact sl_tp_keep T ss z k j (by omega)
    · exact sl_tp_keep T ss z k j (by omega)
theorem sl_tc_in {T : Nat → Int32} {ss : Int32} {k i : Nat} (hk : k < 4) (hi : i < 4) : sl_tc T ss 4 (4 * k + i) = if sl_has ss (nI k) = true then T (4 * k + i) else -1 := by
  rw [sl_tc, show (4 * k + i) / 4 = k by omega]
  by_cases h : sl_has ss (nI k) = true
  · rw [if_pos ⟨by omega, h⟩, if_pos h]
  · rw [if_neg (fun w => h w.2), if_neg h]
theorem sl_pn_y {T : Nat → Int32} {ss z : Int32} {k i : Nat} (hk : k < 4) (hi : i < 4) (h : ss >>> (nI k &&& 31) &&& 1 = 1) : sl_tp T ss z k (4 * k + i) = sl_tc T ss 4 (4 * k + i) := by
  rw [sl_tc_in hk hi, if_pos (by rw [sl_has]; exact decide_eq_true h), sl_tp_keep T ss z k _ (by omega)]
theorem sl_pn_n {T : Nat → Int32} {ss : Int32} {k i : Nat} (hk : k < 4) (hi : i < 4) (h : ¬ ss >>> (nI k &&& 31) &&& 1 = 1) : -1 = sl_tc T ss 4 (4 * k + i) := by
  rw [sl_tc_in hk hi, if_neg (by rw [sl_has, decide_eq_false h]; decide)]
theorem sl_tp_y {T : Nat → Int32} {ss z : Int32} {k : Nat} (h : ss >>> (nI k &&& 31) &&& 1 = 1) : sl_t1 (sl_tp T ss z k) k z = sl_tp T ss z (k + 1) := by
  rw [sl_tp, if_pos (by rw [sl_has]; exact decide_eq_true h)]
theorem sl_tp_n {T : Nat → Int32} {ss z : Int32} {k : Nat} (h : ¬ ss >>> (nI k &&& 31) &&& 1 = 1) : sl_tp T ss z k = sl_tp T ss z (k + 1) := by
  rw [sl_tp, if_neg (by rw [sl_has, decide_eq_false h]; decide)]
theorem sl_updE (E : Nat → sl_Ent) (n : Nat) (x : sl_Ent) (f : sl_Ent → Int32) : upd (fun i => f (E i)) n (f x) = fun i => f (sl_eu E n x i) := by
  funext i
  by_cases e : i = n
  · subst e; rw [pk_us, sl_eu, if_pos rfl]
  · rw [pk_un e, sl_eu, if_neg e]
theorem sl_updP (E : Nat → sl_Ent) (n : Nat) (x : sl_Ent) : sl_pn (fun j => (E (j / 16)).2.2.2.2.2.2.1 (j % 16)) n x.2.2.2.2.2.2.1 4 = fun j => (sl_eu E n x (j / 16)).2.2.2.2.2.2.1 (j % 16) := by
  funext j
  rw [sl_pn, sl_eu]
  by_cases h : 16 * n ≤ j ∧ j < 16 * n + 4 * 4
  · rw [if_pos h, if_pos (by omega), show j - 16 * n = j % 16 by omega]
  · rw [if_neg h, if_neg (by omega)]
theorem sl_ptr (t a b : Nat) (ha : a < 4) (hb : b < 4) (E : Nat → sl_Ent) : sl_tg (E t).2.2.2.2.2.2.1 (nI a) (nI b) = (E ((16 * t + 4 * a + b) / 16)).2.2.2.2.2.2.1 ((16 * t + 4 * a + b) % 16) := by
  rw [sl_tgN _ ha hb, show (16 * t + 4 * a + b) / 16 = t by omega, show (16 * t + 4 * a + b) % 16 = 4 * a + b by omega]
theorem sl_ch_f {lo : Bool} {tl n : Nat} (h : sl_ch lo tl n = false) : lo = false ∧ tl < 120 ∧ n < 150 := by
  rw [sl_ch, Bool.or_eq_false_iff, Bool.or_eq_false_iff, decide_eq_false_iff_not, decide_eq_false_iff_not] at h
  exact ⟨h.1.1, by omega, by omega⟩
/-! the reference's calls: take, takeIf, write, fill, latest -/
theorem sl_upd_id (f : Nat → Int32) (k : Nat) : upd f k (f k) = f := by
  funext j
  by_cases e : j = k
  · rw [e, pk_us]
  · rw [pk_un e]
theorem sl_hc_hs (n : Nat) (C : Nat → Int32) (E : Nat → sl_Ent) (x : Int32) (q : Nat) : sl_hc n E (C q) x = sl_hs n C E x q := by
  rcases sl_opt (sl_tok n (C q)) with h | ⟨t, h⟩
  · rw [sl_hc_0 h, sl_hs_0 h]
  · rw [sl_hc_1 h, sl_hs_1 h]
theorem sl_ch_lo {lo : Bool} {tl n : Nat} (h : lo = true) : sl_ch lo tl n = true := by rw [sl_ch, h]; rfl
theorem sl_es_ne {E : Nat → sl_Ent} {t i : Nat} {v : Int32} (h : i ≠ t) : sl_es E t v i = E i := if_neg h
theorem sl_es_at (E : Nat → sl_Ent) (t : Nat) (v : Int32) : sl_es E t v t = ((E t).1, (E t).2.1, (E t).2.2.1, (E t).2.2.2.1, (E t).2.2.2.2.1, (E t).2.2.2.2.2.1, (E t).2.2.2.2.2.2.1, v) := if_pos rfl
theorem sl_es_f {α : Type} (E : Nat → sl_Ent) (t : Nat) (v : Int32) (f : sl_Ent → α) (hf : ∀ x1 x2 x3 x4 x5 x6 x7 x8 y, f (x1, x2, x3, x4, x5, x6, x7, x8) = f (x1, x2, x3, x4, x5, x6, x7, y)) (i : Nat) : f (E i) = f (sl_es E t v i) := by
  by_cases e : i = t
  · subst e
    rw [sl_es_at]
    exact hf _ _ _ _ _ _ _ _ _
  · rw [sl_es_ne e]
def sl_mf (C : Nat → Int32) (b : Nat) (v : Int32) : Nat → Int32 := upd (upd (upd C b v) (120 + b) v) (240 + b) v
theorem sl_ce_upd {n : Nat} {C : Nat → Int32} {k : Nat} {v : Int32} (h : ∀ i, i < 360 → sl_ce n (C i)) (hv : sl_ce n v) : ∀ i, i < 360 → sl_ce n (upd C k v i) := by
  intro i hi
  by_cases e : i = k
  · rw [e, pk_us]; exact hv
  · rw [pk_un e]; exact h i hi
/-- what the reference writes is what the class writes -/
theorem sl_cp_eq (C : Nat → Int32) {a b : Nat} (ha : a < 3) (hb : b < 120) (x : Int32) : (if sl_cg C (nI a) (nI b) = -1 then C else sl_cp C (nI a) (nI b) x) = upd C (120 * a + b) (if C (120 * a + b) = -2 then x else C (120 * a + b)) := by
  rw [sl_cgN C ha hb, sl_cpN C x ha hb]
  by_cases h1 : C (120 * a + b) = -1
  · rw [if_pos h1, if_neg (by rw [h1]; decide), sl_upd_id]
  · rw [if_neg h1]
    by_cases h2 : C (120 * a + b) = -2
    · rw [if_pos h2, if_pos h2]
    · rw [if_neg h2, if_neg h2, sl_upd_id]
theorem sl_hv {ver : Int32} {tl : Nat} (h : sl_in ver 0 (nI tl) = true) (ht : tl ≤ 120) : ∃ v, v ≤ 120 ∧ ver = nI v := by
  obtain ⟨v, h1, h2⟩ := sl_inN (n := tl) h (nI_toInt (by omega)) (by omega)
  exact ⟨v, by omega, h2⟩
/-! the reference's calls: latest, seal -/
theorem sl_and2 {a b : Bool} (h : (a && b) = true) : b = true := by cases a <;> cases b <;> simp_all
theorem sl_and1 {a b : Bool} (h : (a && b) = true) : a = true := by cases a <;> cases b <;> simp_all
theorem sl_cwz (C : Nat → Int32) (b : Nat) : sl_cw C b 3 = 0 ↔ C b = -2 ∧ C (120 + b) = -2 ∧ C (240 + b) = -2 := by
  have e : sl_cw C b 3 = 0 + (if C (120 * 0 + b) = -2 then 0 else 1) + (if C (120 * 1 + b) = -2 then 0 else 1) + (if C (120 * 2 + b) = -2 then 0 else 1) := rfl
  rw [e, show 120 * 0 + b = b by omega, show 120 * 1 + b = 120 + b by omega, show 120 * 2 + b = 240 + b by omega]
  by_cases h1 : C b = -2 <;> by_cases h2 : C (120 + b) = -2 <;> by_cases h3 : C (240 + b) = -2 <;> simp [h1, h2, h3]
/-- the reference's row of the latest places, made anew: at a position, for the first so many streams -/
def sl_sP (n : Nat) (C : Nat → Int32) (E : Nat → sl_Ent) (b j : Nat) : Nat → Int32 := match sl_tok n (C b) with
  | none => sl_sT n C E b
  | some t => sl_tp (sl_sT n C E b) (E t).2.2.1 (nI b) j
theorem sl_sP_0 (n : Nat) (C : Nat → Int32) (E : Nat → sl_Ent) (b : Nat) : sl_sT n C E b = sl_sP n C E b 0 := by
  rw [sl_sP]
  split <;> rfl
theorem sl_sP_4 (n : Nat) (C : Nat → Int32) (E : Nat → sl_Ent) (b : Nat) : sl_sP n C E b 4 = sl_sT n C E (b + 1) := by
  rcases sl_opt (sl_tok n (C b)) with e | ⟨t, e⟩
  · simp only [sl_sP, sl_sT, e]
  · simp only [sl_sP, sl_sT, e]
theorem sl_sP_t {n : Nat} {C : Nat → Int32} {E : Nat → sl_Ent} {b j : Nat} (h : sl_hc n E (C b) (nI j) = true) : sl_t1 (sl_sP n C E b j) j (nI b) = sl_sP n C E b (j + 1) := by
  rcases sl_opt (sl_tok n (C b)) with e | ⟨t, e⟩
  · rw [sl_hc_0 e] at h; cases h
  · rw [sl_hc_1 e] at h
    simp only [sl_sP, e]
    rw [sl_tp, if_pos h]
theorem sl_sP_f {n : Nat} {C : Nat → Int32} {E : Nat → sl_Ent} {b j : Nat} (h : sl_hc n E (C b) (nI j) = false) : sl_sP n C E b j = sl_sP n C E b (j + 1) := by
  rcases sl_opt (sl_tok n (C b)) with e | ⟨t, e⟩
  · simp only [sl_sP, e]
  · rw [sl_hc_1 e] at h
    simp only [sl_sP, e]
    rw [sl_tp, if_neg (by rw [h]; decide)]
theorem sl_nn {p : Prop} (h : ¬ ¬ p) : p := Classical.byContradiction h
/-! the reference's fold -/
theorem sl_has_and : ∀ a, a < 16 → ∀ b, b < 16 → (¬ (nI a &&& nI b = 0) ↔ ∃ s, s < 4 ∧ sl_has (nI a) (nI s) = true ∧ sl_has (nI b) (nI s) = true) := by decide +kernel
/-- the sets of the tokens are sets -/
def sl_ST (n : Nat) (E : Nat → sl_Ent) : Prop := ∀ t, t < n → ∃ a, a < 16 ∧ (E t).2.2.1 = nI a
/-- an entry at a position shares a stream with those read -/
def sl_is (n : Nat) (C : Nat → Int32) (E : Nat → sl_Ent) (rd : Int32) (q : Nat) : Bool := match sl_tok n (C q) with
  | none => false
  | some t => decide (¬ ((E t).2.2.1 &&& rd = 0))
theorem sl_is_1 {n t : Nat} {C : Nat → Int32} {E : Nat → sl_Ent} {rd : Int32} {q : Nat} (h : sl_tok n (C q) = some t) : sl_is n C E rd q = decide (¬ ((E t).2.2.1 &&& rd = 0)) := by rw [sl_is, h]
/-- nothing that took effect, from v on and ahead of q, shares a stream with those read -/
def sl_iq (n : Nat) (C : Nat → Int32) (E : Nat → sl_Ent) (rd : Int32) (v : Nat) : Nat → Bool
  | 0 => true
  | q + 1 => sl_iq n C E rd v q && !(decide (v ≤ q) && sl_ev n C E q && sl_is n C E rd q)
theorem sl_iq_v (n : Nat) (C : Nat → Int32) (E : Nat → sl_Ent) (rd : Int32) (v : Nat) : ∀ q, q ≤ v → sl_iq n C E rd v q = true
  | 0, _ => rfl
  | q + 1, h => by rw [sl_iq, sl_iq_v n C E rd v q (by omega), decide_eq_false (by omega)]; rfl
theorem sl_iq_iff (n : Nat) (C : Nat → Int32) (E : Nat → sl_Ent) (rd : Int32) (v : Nat) : ∀ k, sl_iq n C E rd v k = true ↔ ∀ q, q < k → v ≤ q → sl_ev n C E q = true → sl_is n C E rd q = false
  | 0 => ⟨fun _ q h => absurd h (Nat.not_lt_zero q), fun _ => rfl⟩
  | k + 1 => by
    rw [sl_iq, Bool.and_eq_true, sl_iq_iff n C E rd v k]
    constructor
    · intro ⟨h1, h2⟩ q hq hv he
      by_cases e : q = k
      · subst e
        rw [decide_eq_true hv, he] at h2
        cases hs : sl_is n C E rd q
        · rfl
        · rw [hs] at h2; cases h2
      · exact h1 q (by omega) hv he
    · intro h
      refine ⟨fun q hq => h q (by omega), ?_⟩
      by_cases hv : v ≤ k
      · cases he : sl_ev n C E k
        · rw [decide_eq_true hv]; rfl
        · rw [decide_eq_true hv, h k (by omega) hv he]; rfl
      · rw [decide_eq_false hv]; rfl
theorem sl_nIlt {a b : Nat} (ha : a < 2 ^ 31) (hb : b < 2 ^ 31) : nI a < nI b ↔ a < b := nI_ltI ha hb
theorem sl_fX_lt {n : Nat} {C : Nat → Int32} {E : Nat → sl_Ent} {v s : Nat} (hv : v ≤ 120) (hs : s < 4) : ∀ k, k ≤ 120 → (sl_fX n C E k s < nI v ↔ ∀ q, q < k → v ≤ q → sl_ev n C E q = true → sl_hs n C E (nI s) q = false)
  | 0, _ => by
    refine ⟨fun _ q h => absurd h (Nat.not_lt_zero q), fun _ => ?_⟩
    show (-1 : Int32) < nI v
    rw [sl_ltI, nI_toInt (by omega), show (-1 : Int32).toInt = -1 from rfl]; omega
  | k + 1, hk => by
    have ih := sl_fX_lt (n := n) (C := C) (E := E) hv hs k (by omega)
    have old : sl_fX n C E (k + 1) s = sl_fX n C E k s → (v ≤ k → sl_ev n C E k = true → sl_hs n C E (nI s) k = false) → (sl_fX n C E (k + 1) s < nI v ↔ ∀ q, q < k + 1 → v ≤ q → sl_ev n C E q = true → sl_hs n C E (nI s) q = false) := by
      intro e h0
      rw [e, ih]
      constructor
      · intro h q hq
        by_cases e : q = k
        · subst e; exact h0
        · exact h q (by omega)
      · intro h q hq; exact h q (by omega)
    rcases sl_opt (sl_tok n (C k)) with e | ⟨t, e⟩
    · exact old (by rw [sl_fX_0 e]) (fun _ h => by rw [sl_ev_0 e] at h; cases h)
    · cases hu : sl_un (sl_fX n C E k) (E t).2.2.2.2.1 (E t).2.2.2.2.2.1 4
      · exact old (by rw [sl_fX_1 e, if_neg (by rw [hu]; decide)]) (fun _ h => by rw [sl_ev_1 e, hu] at h; cases h)
      · cases hh : sl_has (E t).2.2.1 (nI s)
        · exact old (by rw [sl_fX_1 e, if_pos hu, sl_nc, if_neg (by rw [hh]; simp)]) (fun _ _ => by rw [sl_hs_1 e, hh])
        · have e1 : sl_fX n C E (k + 1) s = nI k := by rw [sl_fX_1 e, if_pos hu, sl_nc, if_pos ⟨hs, hh⟩]
          rw [e1, sl_nIlt (by omega) (by omega)]
          constructor
          · intro h q hq hv2; exact absurd hv2 (by omega)
          · intro h
            have hv3 : ¬ v ≤ k := fun hv3 => by
              have := h k (by omega) hv3 (by rw [sl_ev_1 e, hu])
              rw [sl_hs_1 e, hh] at this; cases this
            omega
theorem sl_un_iff (X : Nat → Int32) (ss ver : Int32) : ∀ k, sl_un X ss ver k = true ↔ ∀ s, s < k → sl_has ss (nI s) = true → X s < ver
  | 0 => ⟨fun _ s h => absurd h (Nat.not_lt_zero s), fun _ => rfl⟩
  | k + 1 => by
    rw [sl_un, Bool.and_eq_true, sl_un_iff X ss ver k, Bool.or_eq_true, decide_eq_true_iff]
    constructor
    · intro ⟨h1, h2⟩ s hs hh
      by_cases e : s = k
      · subst e
        rcases h2 with h2 | h2
        · rw [hh] at h2; cases h2
        · exact h2
      · exact h1 s (by omega) hh
    · intro h
      refine ⟨fun s hs => h s (by omega), ?_⟩
      cases hh : sl_has ss (nI k)
      · exact Or.inl rfl
      · exact Or.inr (h k (by omega) hh)
theorem sl_ev_iq {n t v k : Nat} {C : Nat → Int32} {E : Nat → sl_Ent} (hST : sl_ST n E) (hk : k ≤ 120) (htok : sl_tok n (C k) = some t) (hr1 : 0 ≤ (E t).2.2.2.2.1.toInt) (hr2 : (E t).2.2.2.2.1.toInt ≤ 15) (hv : v ≤ 120) (ev : (E t).2.2.2.2.2.1 = nI v) : sl_ev n C E k = sl_iq n C E (E t).2.2.2.2.1 v k := by
  obtain ⟨r, hr, er⟩ := sl_nat (v := (E t).2.2.2.2.1) (n := 15) hr1 (by omega) (by omega)
  rw [Bool.eq_iff_iff, sl_ev_1 htok, sl_un_iff, sl_iq_iff, er, ev]
  constructor
  · intro h q hq hvq he
    rcases sl_opt (sl_tok n (C q)) with e | ⟨t2, e⟩
    · rw [sl_ev_0 e] at he; cases he
    · obtain ⟨a, ha, ea⟩ := hST t2 (sl_tok_lt e)
      rw [sl_is_1 e, decide_eq_false_iff_not, ea, sl_has_and a ha r (by omega)]
      rintro ⟨s, hs, h1, h2⟩
      have h3 := (sl_fX_lt hv hs k hk).mp (h s hs h2) q hq hvq he
      rw [sl_hs_1 e, ea, h1] at h3; cases h3
  · intro h s hs hh
    rw [sl_fX_lt hv hs k hk]
    intro q hq hvq he
    have h3 := h q hq hvq he
    rcases sl_opt (sl_tok n (C q)) with e | ⟨t2, e⟩
    · rw [sl_ev_0 e] at he; cases he
    · obtain ⟨a, ha, ea⟩ := hST t2 (sl_tok_lt e)
      rw [sl_is_1 e, decide_eq_false_iff_not, ea, sl_has_and a ha r (by omega)] at h3
      rw [sl_hs_1 e, ea]
      cases h4 : sl_has (nI a) (nI s)
      · rfl
      · exact absurd ⟨s, hs, h4, hh⟩ h3
theorem sl_ev_rd {n t k : Nat} {C : Nat → Int32} {E : Nat → sl_Ent} (htok : sl_tok n (C k) = some t) (hr : (E t).2.2.2.2.1 = 0) : sl_ev n C E k = true := by
  rw [sl_ev_1 htok, sl_un_iff, hr]
  intro s hs hh
  exact absurd hh (by rcases (by omega : s = 0 ∨ s = 1 ∨ s = 2 ∨ s = 3) with e | e | e | e <;> subst e <;> decide)
theorem sl_le0 {z : Int32} (h : z ≤ 0) (h1 : 0 ≤ z.toInt) : z = 0 := by
  rw [sl_leI, sl_i0] at h
  exact Int32.toInt_inj.mp (by rw [sl_i0]; omega)
theorem sl_ev_tok {n q : Nat} {C : Nat → Int32} {E : Nat → sl_Ent} (hn : n ≤ 150) (h : sl_ev n C E q = true) : ∃ t, t < n ∧ C q = nI t ∧ sl_tok n (C q) = some t := by
  rcases sl_opt (sl_tok n (C q)) with e | ⟨t, e⟩
  · rw [sl_ev_0 e] at h; cases h
  · exact ⟨t, sl_tok_lt e, sl_tok_eq hn e, e⟩
theorem sl_iq_s {n q v : Nat} {C : Nat → Int32} {E : Nat → sl_Ent} {rd : Int32} {b : Bool} (hv : v ≤ q) (h : (sl_iq n C E rd v q && !(sl_ev n C E q && sl_is n C E rd q)) = b) : sl_bi b = sl_bi (sl_iq n C E rd v (q + 1)) := by
  rw [sl_iq, decide_eq_true hv, Bool.true_and, h]
theorem sl_fw {n k : Nat} {C : Nat → Int32} {E : Nat → sl_Ent} {F : Nat → Int32} (h1 : ∀ q, q < k → F q = sl_bi (sl_ev n C E q)) (h2 : F k = sl_bi (sl_ev n C E k)) : ∀ q, q < k + 1 → F q = sl_bi (sl_ev n C E q) := by
  intro q hq
  by_cases e : q = k
  · rw [e]; exact h2
  · exact h1 q (by omega)
theorem sl_fu {n k : Nat} {C : Nat → Int32} {E : Nat → sl_Ent} {F : Nat → Int32} {z : Int32} (h1 : ∀ q, q < k → F q = sl_bi (sl_ev n C E q)) (h2 : z = sl_bi (sl_ev n C E k)) : ∀ q, q < k + 1 → upd F k z q = sl_bi (sl_ev n C E q) := sl_fw (fun q hq => (pk_un (by omega)).trans (h1 q hq)) (pk_us.trans h2)
theorem sl_iq_x {n q k v : Nat} {C : Nat → Int32} {E : Nat → sl_Ent} {rd : Int32} (h : k ≤ q) (hv : v ≤ q) (hq : q ≤ v ∨ q ≤ k) : sl_iq n C E rd v q = sl_iq n C E rd v k := by
  by_cases e : q = k
  · rw [e]
  · rw [sl_iq_v _ _ _ _ _ q (by omega), sl_iq_v _ _ _ _ _ k (by omega)]
theorem sl_vs_0 {n k : Nat} {C : Nat → Int32} {E : Nat → sl_Ent} {x : Int32} (h : sl_ev n C E k = false) : sl_vs n C E x k + 0 = sl_vs n C E x (k + 1) := by
  rw [sl_vs, Int32.add_zero]
  split
  · rcases sl_opt (sl_tok n (C k)) with e | ⟨t, e⟩
    · rw [sl_am_0 e, Int32.add_zero]
    · rw [sl_am_1 e, if_neg (by rw [h]; decide), Int32.add_zero]
  · rfl
theorem sl_vs_n {n k : Nat} {C : Nat → Int32} {E : Nat → sl_Ent} {x : Int32} (h : sl_hc n E (C k) x = false) : sl_vs n C E x k + 0 = sl_vs n C E x (k + 1) := by
  rw [sl_vs, Int32.add_zero, if_neg (by rw [← sl_hc_hs, h]; decide)]
theorem sl_vs_1 {n k t : Nat} {C : Nat → Int32} {E : Nat → sl_Ent} {x : Int32} (e : sl_tok n (C k) = some t) (h : sl_ev n C E k = true) (h2 : sl_hc n E (C k) x = true) : sl_vs n C E x k + (E t).2.2.2.1 = sl_vs n C E x (k + 1) := by
  rw [sl_vs, if_pos (by rw [← sl_hc_hs]; exact h2), sl_am_1 e, if_pos h]
theorem sl_kin {x : Int32} {k : Nat} (hk : k ≤ 120) (h : sl_in x 0 (nI k - 1) = true) : ∃ b, b < k ∧ x = nI b := by
  cases k with
  | zero =>
    have h1 := sl_in_iff.mp h
    rw [sl_i0, show (nI 0 - 1 : Int32).toInt = -1 from rfl] at h1
    omega
  | succ k =>
    rw [nI_pred] at h
    obtain ⟨b, h1, h2⟩ := sl_inN (n := k) h (nI_toInt (by omega)) (by omega)
    exact ⟨b, by omega, h2⟩
theorem sl_kin0 {x : Int32} {k : Nat} (hk : k ≤ 120) (h : sl_in x 0 (nI k - 1) = false) : ¬ (0 ≤ x.toInt ∧ x.toInt < k) := by
  have h1 := sl_in_iff'.mp h
  cases k with
  | zero => omega
  | succ k =>
    rw [nI_pred, sl_i0, nI_toInt (by omega)] at h1
    omega
/-! the reference's constructor -/
def sl_ml (l : List Nat) : Nat → Nat := fun k => l.getD k 0
end
section
/-! the class and the reference answer alike: plain facts -/
theorem sl_ef_em (C : Nat → Int32) : ∀ m q, sl_ef C m ≤ q → q < m → sl_cw C q 3 = 0
  | 0, q, _, h => absurd h (Nat.not_lt_zero q)
  | m + 1, q, h1, h2 => by
    rw [sl_ef] at h1
    by_cases e : sl_cw C m 3 = 0
    · rw [if_pos e] at h1
      by_cases e2 : q = m
      · subst e2; exact e
      · exact sl_ef_em C m q h1 (by omega)
    · rw [if_neg e] at h1; omega
theorem sl_sT_ef {n : Nat} {C : Nat → Int32} {E : Nat → sl_Ent} : ∀ d, sl_ef C 120 + d ≤ 120 → sl_sT n C E (sl_ef C 120 + d) = sl_sT n C E (sl_ef C 120)
  | 0, _ => rfl
  | d + 1, h => by
    rw [show sl_ef C 120 + (d + 1) = (sl_ef C 120 + d) + 1 from rfl, sl_sT_0, sl_sT_ef d (by omega)]
    rw [((sl_cwz C _).mp (sl_ef_em C 120 (sl_ef C 120 + d) (by omega) (by omega))).1]
    exact sl_tok_m2 n
theorem sl_sT_120 (n : Nat) (C : Nat → Int32) (E : Nat → sl_Ent) : sl_sT n C E 120 = sl_sT n C E (sl_ef C 120) := by
  have h := sl_ef_le C 120
  rw [← sl_sT_ef (n := n) (C := C) (E := E) (120 - sl_ef C 120) (by omega), show sl_ef C 120 + (120 - sl_ef C 120) = 120 by omega]
theorem sl_cp_v {C : Nat → Int32} {a b : Nat} (ha : a < 3) (hb : b < 120) {v : Int32} (h : C (120 * a + b) = -2 ∨ C (120 * a + b) = v) : sl_cp C (nI a) (nI b) v = upd C (120 * a + b) v := by
  rw [sl_cpN C v ha hb]
  rcases h with h | h
  · rw [if_pos h]
  · by_cases e : C (120 * a + b) = -2
    · rw [if_pos e]
    · rw [if_neg e, ← h, sl_upd_id]
theorem sl_cf_mf {C : Nat → Int32} {b : Nat} {v : Int32} (hb : b < 120) (h0 : C b = -2 ∨ C b = v) (h1 : C (120 + b) = -2 ∨ C (120 + b) = v) (h2 : C (240 + b) = -2 ∨ C (240 + b) = v) : sl_cf C b v = sl_mf C b v := by
  have e0 : sl_cp C (nI 0) (nI b) v = upd C b v := by
    have h := sl_cp_v (C := C) (a := 0) (by omega) hb (v := v) (by rw [show 120 * 0 + b = b by omega]; exact h0)
    rwa [show 120 * 0 + b = b by omega] at h
  have e1 : sl_cp (upd C b v) (nI 1) (nI b) v = upd (upd C b v) (120 + b) v := by
    have h := sl_cp_v (C := upd C b v) (a := 1) (by omega) hb (v := v) (by rw [show 120 * 1 + b = 120 + b by omega, pk_un (by omega)]; exact h1)
    rwa [show 120 * 1 + b = 120 + b by omega] at h
  have e2 : sl_cp (upd (upd C b v) (120 + b) v) (nI 2) (nI b) v = upd (upd (upd C b v) (120 + b) v) (240 + b) v := by
    have h := sl_cp_v (C := upd (upd C b v) (120 + b) v) (a := 2) (by omega) hb (v := v) (by rw [show 120 * 2 + b = 240 + b by omega, pk_un (by omega), pk_un (by omega)]; exact h2)
    rwa [show 120 * 2 + b = 240 + b by omega] at h
  rw [sl_cf, sl_mf, show (0 : Int32) = nI 0 from rfl, show (1 : Int32) = nI 1 from rfl, show (2 : Int32) = nI 2 from rfl, e0, e1, e2]
/-! a row of four latest places -/
def sl_RI (Pot Snd : Nat → Prop) (p : Nat) (z0 z1 z2 z3 : Int) : Prop :=
  (-1 ≤ z0 ∧ z0 < p ∧ (-1 ≤ z1 ∧ (z1 < z0 ∨ (z0 = -1 ∧ z1 = -1))) ∧ (-1 ≤ z2 ∧ (z2 < z1 ∨ (z1 = -1 ∧ z2 = -1))) ∧ (-1 ≤ z3 ∧ (z3 < z2 ∨ (z2 = -1 ∧ z3 = -1)))) ∧
  (∀ q : Nat, q < p → Pot q → (q : Int) = z0 ∨ (q : Int) = z1 ∨ (q : Int) = z2 ∨ (q : Int) ≤ z3) ∧
  (∀ q : Nat, ((q : Int) = z0 ∨ (q : Int) = z1 ∨ (q : Int) = z2 ∨ (q : Int) = z3) → Snd q)
theorem sl_RI.push {Pot Snd Pot' Snd' : Nat → Prop} {p : Nat} {z0 z1 z2 z3 : Int} (h : sl_RI Pot Snd p z0 z1 z2 z3) (h1 : ∀ q, q < p → Pot' q → Pot q) (h2 : ∀ q, q < p → Snd q → Snd' q) (h3 : Snd' p) : sl_RI Pot' Snd' (p + 1) (p : Int) z0 z1 z2 := by
  obtain ⟨⟨a1, a2, a3, a4, a5⟩, b, c⟩ := h
  refine ⟨⟨by omega, by omega, by omega, by omega, by omega⟩, fun q hq hp => ?_, fun q hq => ?_⟩
  · by_cases e : q = p
    · exact Or.inl (by omega)
    · have := b q (by omega) (h1 q (by omega) hp); omega
  · by_cases e : q = p
    · subst e; exact h3
    · exact h2 q (by omega) (c q (by omega))
theorem sl_RI.skip {Pot Snd Pot' Snd' : Nat → Prop} {p : Nat} {z0 z1 z2 z3 : Int} (h : sl_RI Pot Snd p z0 z1 z2 z3) (h1 : ∀ q, q < p → Pot' q → Pot q) (h2 : ∀ q, q < p → Snd q → Snd' q) (h3 : ¬ Pot' p) : sl_RI Pot' Snd' (p + 1) z0 z1 z2 z3 := by
  obtain ⟨⟨a1, a2, a3, a4, a5⟩, b, c⟩ := h
  refine ⟨⟨by omega, by omega, by omega, by omega, by omega⟩, fun q hq hp => ?_, fun q hq => ?_⟩
  · by_cases e : q = p
    · subst e; exact absurd hp h3
    · exact b q (by omega) (h1 q (by omega) hp)
  · exact h2 q (by omega) (c q hq)
theorem sl_RI.mono {Pot Snd Pot' Snd' : Nat → Prop} {p : Nat} {z0 z1 z2 z3 : Int} (h : sl_RI Pot Snd p z0 z1 z2 z3) (h1 : ∀ q, q < p → Pot' q → Pot q) (h2 : ∀ q, q < p → Snd q → Snd' q) : sl_RI Pot' Snd' p z0 z1 z2 z3 := by
  obtain ⟨⟨a1, a2, a3, a4, a5⟩, b, c⟩ := h
  exact ⟨⟨a1, a2, a3, a4, a5⟩, fun q hq hp => b q hq (h1 q hq hp), fun q hq => h2 q (by omega) (c q hq)⟩
theorem sl_RI.zero (Pot Snd : Nat → Prop) : sl_RI Pot Snd 0 (-1) (-1) (-1) (-1) :=
  ⟨⟨by omega, by omega, by omega, by omega, by omega⟩, fun q hq => absurd hq (Nat.not_lt_zero q), fun q hq => by omega⟩
/-- whose a place is: what lies in its first cell, or a token of this epoch -/
def sl_own (n : Nat) (ep : Int32) (C : Nat → Int32) (E : Nat → sl_Ent) (q u : Nat) : Prop := u < n ∧ (E u).1 = nI q ∧ (C q = nI u ∨ (E u).2.1 = ep)
def sl_Pot (n : Nat) (ep : Int32) (C : Nat → Int32) (E : Nat → sl_Ent) (k q : Nat) : Prop := ∃ u, sl_own n ep C E q u ∧ sl_has (E u).2.2.1 (nI k) = true
def sl_Snd (n : Nat) (ep : Int32) (C : Nat → Int32) (E : Nat → sl_Ent) (k q : Nat) : Prop := ∀ u, sl_own n ep C E q u → sl_has (E u).2.2.1 (nI k) = true
def sl_row (n : Nat) (ep : Int32) (C : Nat → Int32) (E : Nat → sl_Ent) (k p : Nat) (X : Nat → Int32) : Prop :=
  sl_RI (sl_Pot n ep C E k) (sl_Snd n ep C E k) p (X (4 * k + 0)).toInt (X (4 * k + 1)).toInt (X (4 * k + 2)).toInt (X (4 * k + 3)).toInt
theorem sl_Pot_m {n n' : Nat} {ep ep' : Int32} {C C' : Nat → Int32} {E E' : Nat → sl_Ent} {k q : Nat} (ho : ∀ u, sl_own n' ep' C' E' q u → sl_own n ep C E q u ∧ (E' u).2.2.1 = (E u).2.2.1) (h : sl_Pot n' ep' C' E' k q) : sl_Pot n ep C E k q := by
  obtain ⟨u, h1, h2⟩ := h
  exact ⟨u, (ho u h1).1, by rw [← (ho u h1).2]; exact h2⟩
theorem sl_Snd_m {n n' : Nat} {ep ep' : Int32} {C C' : Nat → Int32} {E E' : Nat → sl_Ent} {k q : Nat} (ho : ∀ u, sl_own n' ep' C' E' q u → sl_own n ep C E q u ∧ (E' u).2.2.1 = (E u).2.2.1) (h : sl_Snd n ep C E k q) : sl_Snd n' ep' C' E' k q := by
  intro u hu
  rw [(ho u hu).2]
  exact h u (ho u hu).1
theorem sl_row_m {n n' : Nat} {ep ep' : Int32} {C C' : Nat → Int32} {E E' : Nat → sl_Ent} {k p : Nat} {X : Nat → Int32} (h : sl_row n ep C E k p X) (ho : ∀ q, q < p → ∀ u, sl_own n' ep' C' E' q u → sl_own n ep C E q u ∧ (E' u).2.2.1 = (E u).2.2.1) : sl_row n' ep' C' E' k p X :=
  sl_RI.mono h (fun q hq => sl_Pot_m (ho q hq)) (fun q hq => sl_Snd_m (ho q hq))
/-- the trail when a place has been handed out -/
theorem sl_tp_in {T : Nat → Int32} {ss z : Int32} {k : Nat} (hk : k < 4) (i : Nat) (hi : i < 4) : sl_tp T ss z 4 (4 * k + i) = if sl_has ss (nI k) = true then (if i = 0 then z else T (4 * k + (i - 1))) else T (4 * k + i) := by
  have step : ∀ m, m ≤ 4 → sl_tp T ss z m (4 * k + i) = if k < m ∧ sl_has ss (nI k) = true then (if i = 0 then z else T (4 * k + (i - 1))) else T (4 * k + i) := by
    intro m
    induction m with
    | zero => intro _; rw [if_neg (by omega)]; rfl
    | succ m ih =>
      intro hm
      have ih := ih (by omega)
      rw [sl_tp]
      by_cases e : m = k
      · subst e
        by_cases hh : sl_has ss (nI m) = true
        · rw [if_pos hh, if_pos ⟨by omega, hh⟩, sl_t1]
          rcases (by omega : i = 0 ∨ i = 1 ∨ i = 2 ∨ i = 3) with e | e | e | e <;> subst e
          · rw [if_pos rfl]; exact pk_us
          · rw [if_neg (by omega), pk_un (by omega), pk_us]; exact sl_tp_keep T ss z m _ (by omega)
          · rw [if_neg (by omega), pk_un (by omega), pk_un (by omega), pk_us]; exact sl_tp_keep T ss z m _ (by omega)
          · rw [if_neg (by omega), pk_un (by omega), pk_un (by omega), pk_un (by omega), pk_us]; exact sl_tp_keep T ss z m _ (by omega)
        · rw [if_neg hh, if_neg (fun w => hh w.2), ih, if_neg (fun w => hh w.2)]
      · have e2 : (if k < m + 1 ∧ sl_has ss (nI k) = true then (if i = 0 then z else T (4 * k + (i - 1))) else T (4 * k + i)) = (if k < m ∧ sl_has ss (nI k) = true then (if i = 0 then z else T (4 * k + (i - 1))) else T (4 * k + i)) := by
          by_cases h2 : k < m ∧ sl_has ss (nI k) = true
          · rw [if_pos h2, if_pos ⟨by omega, h2.2⟩]
          · rw [if_neg h2, if_neg (fun w => h2 ⟨by omega, w.2⟩)]
        rw [e2, ← ih]
        split
        · rw [sl_t1, pk_un (by omega), pk_un (by omega), pk_un (by omega), pk_un (by omega)]
        · rfl
  rw [step 4 (by omega)]
  by_cases h : sl_has ss (nI k) = true
  · rw [if_pos ⟨hk, h⟩, if_pos h]
  · rw [if_neg (fun w => h w.2), if_neg h]
theorem sl_row_push {n n' : Nat} {ep ep' : Int32} {C C' : Nat → Int32} {E E' : Nat → sl_Ent} {k p : Nat} {T : Nat → Int32} {ss : Int32} (hk : k < 4) (hp : p < 120) (h : sl_row n ep C E k p T) (ho : ∀ q, q < p → ∀ u, sl_own n' ep' C' E' q u → sl_own n ep C E q u ∧ (E' u).2.2.1 = (E u).2.2.1)
    (hs : sl_has ss (nI k) = true → sl_Snd n' ep' C' E' k p) (hn : sl_has ss (nI k) = false → ¬ sl_Pot n' ep' C' E' k p) : sl_row n' ep' C' E' k (p + 1) (sl_tp T ss (nI p) 4) := by
  rw [sl_row, sl_tp_in hk 0 (by omega), sl_tp_in hk 1 (by omega), sl_tp_in hk 2 (by omega), sl_tp_in hk 3 (by omega)]
  by_cases hh : sl_has ss (nI k) = true
  · rw [if_pos hh, if_pos hh, if_pos hh, if_pos hh, if_pos rfl, if_neg (by omega), if_neg (by omega), if_neg (by omega), nI_toInt (by omega)]
    exact sl_RI.push h (fun q hq => sl_Pot_m (ho q hq)) (fun q hq => sl_Snd_m (ho q hq)) (hs hh)
  · rw [if_neg hh, if_neg hh, if_neg hh, if_neg hh]
    exact sl_RI.skip h (fun q hq => sl_Pot_m (ho q hq)) (fun q hq => sl_Snd_m (ho q hq)) (hn (by cases h9 : sl_has ss (nI k); rfl; exact absurd h9 hh))
end
section
/-! the value by pointers is the value -/
theorem sl_la_cut {n : Nat} {C : Nat → Int32} {E : Nat → sl_Ent} {x : Int32} {a : Nat} : ∀ d, (∀ q, a ≤ q → q < a + d → sl_hs n C E x q = false) → sl_la n C E x (a + d) = sl_la n C E x a
  | 0, _ => rfl
  | d + 1, h => by
    rw [show a + (d + 1) = (a + d) + 1 from rfl, sl_la, if_neg (by rw [h (a + d) (by omega) (by omega)]; decide)]
    exact sl_la_cut d (fun q h1 h2 => h q h1 (by omega))
theorem sl_vs_cut {n : Nat} {C : Nat → Int32} {E : Nat → sl_Ent} {x : Int32} {a : Nat} : ∀ d, (∀ q, a ≤ q → q < a + d → sl_hs n C E x q = false) → sl_vs n C E x (a + d) = sl_vs n C E x a
  | 0, _ => rfl
  | d + 1, h => by
    rw [show a + (d + 1) = (a + d) + 1 from rfl, sl_vs, if_neg (by rw [h (a + d) (by omega) (by omega)]; decide)]
    exact sl_vs_cut d (fun q h1 h2 => h q h1 (by omega))
theorem sl_la_no {n : Nat} {C : Nat → Int32} {E : Nat → sl_Ent} {x : Int32} {b : Nat} (h : ∀ q, q < b → sl_hs n C E x q = false) : sl_la n C E x b = -1 := by
  have := sl_la_cut (n := n) (C := C) (E := E) (x := x) (a := 0) b (fun q _ h2 => h q (by omega))
  rw [Nat.zero_add] at this
  rw [this]; rfl
theorem sl_vs_no {n : Nat} {C : Nat → Int32} {E : Nat → sl_Ent} {x : Int32} {b : Nat} (h : ∀ q, q < b → sl_hs n C E x q = false) : sl_vs n C E x b = 0 := by
  have := sl_vs_cut (n := n) (C := C) (E := E) (x := x) (a := 0) b (fun q _ h2 => h q (by omega))
  rw [Nat.zero_add] at this
  rw [this]; rfl
theorem sl_la_yes {n : Nat} {C : Nat → Int32} {E : Nat → sl_Ent} {x : Int32} {q b : Nat} (hq : q < b) (hh : sl_hs n C E x q = true) (h : ∀ r, q < r → r < b → sl_hs n C E x r = false) : sl_la n C E x b = nI q := by
  have := sl_la_cut (n := n) (C := C) (E := E) (x := x) (a := q + 1) (b - (q + 1)) (fun r h1 h2 => h r (by omega) (by omega))
  rw [show q + 1 + (b - (q + 1)) = b by omega] at this
  rw [this, sl_la, if_pos hh]
theorem sl_vs_yes {n : Nat} {C : Nat → Int32} {E : Nat → sl_Ent} {x : Int32} {q b : Nat} (hq : q < b) (hh : sl_hs n C E x q = true) (h : ∀ r, q < r → r < b → sl_hs n C E x r = false) : sl_vs n C E x b = sl_vs n C E x q + sl_am n C E q := by
  have := sl_vs_cut (n := n) (C := C) (E := E) (x := x) (a := q + 1) (b - (q + 1)) (fun r h1 h2 => h r (by omega) (by omega))
  rw [show q + 1 + (b - (q + 1)) = b by omega] at this
  rw [this, sl_vs, if_pos hh]
/-- the latest one ahead, or none -/
theorem sl_lats (n : Nat) (C : Nat → Int32) (E : Nat → sl_Ent) (x : Int32) : ∀ b, (∀ q, q < b → sl_hs n C E x q = false) ∨ ∃ q, q < b ∧ sl_hs n C E x q = true ∧ ∀ r, q < r → r < b → sl_hs n C E x r = false
  | 0 => Or.inl (fun q h => absurd h (Nat.not_lt_zero q))
  | b + 1 => by
    cases hb : sl_hs n C E x b
    · rcases sl_lats n C E x b with h | ⟨q, h1, h2, h3⟩
      · refine Or.inl (fun q hq => ?_)
        by_cases e : q = b
        · rw [e]; exact hb
        · exact h q (by omega)
      · refine Or.inr ⟨q, by omega, h2, fun r hr hr2 => ?_⟩
        by_cases e : r = b
        · rw [e]; exact hb
        · exact h3 r hr (by omega)
    · exact Or.inr ⟨b, by omega, hb, fun r h1 h2 => absurd h1 (by omega)⟩
theorem sl_vp_vs {n : Nat} {C : Nat → Int32} {E : Nat → sl_Ent} {j : Nat} (hpq : ∀ q, q < 120 → sl_hs n C E (nI j) q = true → sl_pq n C E j q = sl_la n C E (nI j) q) : ∀ f b acc, b ≤ f → b ≤ 120 → sl_vp n C E j f (sl_la n C E (nI j) b) acc = acc + sl_vs n C E (nI j) b
  | 0, b, acc, h, _ => by
    have e : b = 0 := by omega
    subst e
    rw [sl_vp]
    exact (Int32.add_zero acc).symm
  | f + 1, b, acc, h, h2 => by
    rw [sl_vp]
    rcases sl_lats n C E (nI j) b with hn | ⟨q, h3, h4, h5⟩
    · rw [sl_la_no hn, if_pos rfl, sl_vs_no hn, Int32.add_zero]
    · rw [sl_la_yes h3 h4 h5, sl_vs_yes h3 h4 h5, if_neg (fun w => absurd (congrArg Int32.toInt w) (by rw [nI_toInt (by omega), show (-1 : Int32).toInt = -1 from rfl]; omega)), nI_clamp (by omega), hpq q (by omega) h4, sl_vp_vs hpq f q _ (by omega) (by omega), Int32.add_assoc, Int32.add_comm (sl_am n C E q)]
theorem sl_zN {x : Int32} {p : Nat} (hp : p ≤ 120) (h1 : -1 ≤ x.toInt) (h2 : x.toInt < p) : x = -1 ∨ ∃ q, q < p ∧ x = nI q := by
  by_cases e : x.toInt = -1
  · exact Or.inl (Int32.toInt_inj.mp (by rw [e]; rfl))
  · obtain ⟨q, h3, h4⟩ := sl_nat (v := x) (n := p) (by omega) (by omega) (by omega)
    refine Or.inr ⟨q, ?_, h4⟩
    rw [h4, nI_toInt (by omega)] at h2
    omega
theorem sl_m1I : (-1 : Int32).toInt = -1 := rfl
theorem sl_hs_own {n : Nat} {ep : Int32} {C : Nat → Int32} {E : Nat → sl_Ent} {q k : Nat} (hn : n ≤ 150) (hpl : ∀ u, u < n → C q = nI u → (E u).1 = nI q) (h : sl_hs n C E (nI k) q = true) : sl_Pot n ep C E k q := by
  rcases sl_opt (sl_tok n (C q)) with e | ⟨u, e⟩
  · rw [sl_hs_0 e] at h; cases h
  · rw [sl_hs_1 e] at h
    exact ⟨u, ⟨sl_tok_lt e, hpl u (sl_tok_lt e) (sl_tok_eq hn e), Or.inl (sl_tok_eq hn e)⟩, h⟩
theorem sl_hs_snd {n : Nat} {ep : Int32} {C : Nat → Int32} {E : Nat → sl_Ent} {q k u : Nat} (hn : n ≤ 150) (hpl : ∀ u, u < n → C q = nI u → (E u).1 = nI q) (hs : sl_Snd n ep C E k q) (e : sl_tok n (C q) = some u) : sl_hs n C E (nI k) q = true := by
  rw [sl_hs_1 e]
  exact hs u ⟨sl_tok_lt e, hpl u (sl_tok_lt e) (sl_tok_eq hn e), Or.inl (sl_tok_eq hn e)⟩
theorem sl_pb_la {n : Nat} {ep : Int32} {C : Nat → Int32} {E : Nat → sl_Ent} {k p t : Nat} (hn : n ≤ 150) (hp : p < 120) (hpl : ∀ q, q < 120 → ∀ u, u < n → C q = nI u → (E u).1 = nI q) (h : sl_row n ep C E k p (E t).2.2.2.2.2.2.1) : sl_pb n C E k t = sl_la n C E (nI k) p := by
  obtain ⟨⟨a1, a2, ⟨a3, a4⟩, ⟨a5, a6⟩, ⟨a7, a8⟩⟩, cov, snd⟩ := h
  have cov : ∀ q : Nat, q < p → sl_hs n C E (nI k) q = true → _ := fun q hq hh => cov q hq (sl_hs_own hn (hpl q (by omega)) hh)
  -- a pointer that is not -1
  have one : ∀ (x : Int32), -1 ≤ x.toInt → x.toInt < p → ((∀ q : Nat, (q : Int) = x.toInt → sl_Snd n ep C E k q)) → (x = -1 ∧ x.toInt = -1) ∨ (x ≠ -1 ∧ ∃ q : Nat, q < p ∧ x = nI q ∧ x.toInt = q ∧ ((sl_ta n C x).isSome = true → sl_hs n C E (nI k) q = true) ∧ (¬ (sl_ta n C x).isSome = true → sl_hs n C E (nI k) q = false)) := by
    intro x h1 h2 h3
    rcases sl_zN (by omega) h1 h2 with e | ⟨q, h4, e⟩
    · exact Or.inl ⟨e, by rw [e]; rfl⟩
    · have e2 : x.toInt = q := by rw [e, nI_toInt (by omega)]
      refine Or.inr ⟨fun w => ?_, q, h4, e, e2, fun h5 => ?_, fun h5 => ?_⟩
      · rw [w, sl_m1I] at e2; omega
      · rw [e, sl_ta, sl_cg0 C (by omega)] at h5
        rcases sl_opt (sl_tok n (C q)) with e3 | ⟨u, e3⟩
        · rw [e3] at h5; cases h5
        · exact sl_hs_snd hn (hpl q (by omega)) (h3 q e2.symm) e3
      · rw [e, sl_ta, sl_cg0 C (by omega)] at h5
        rcases sl_opt (sl_tok n (C q)) with e3 | ⟨u, e3⟩
        · exact sl_hs_0 e3
        · rw [e3] at h5; exact absurd rfl h5
  rw [sl_pb]
  have no : ∀ {P : Prop}, (sl_hs n C E (nI k) = fun _ => false) → P → P := fun _ h => h
  rcases one _ a1 a2 (fun q hq => snd q (Or.inl hq)) with ⟨e0, z0⟩ | ⟨n0, q0, l0, e0, z0, t0, f0⟩
  · rw [if_pos e0]
    refine (sl_la_no (fun q hq => ?_)).symm
    cases hh : sl_hs n C E (nI k) q
    · rfl
    · have := cov q hq hh; omega
  · rw [if_neg n0]
    by_cases s0 : (sl_ta n C ((E t).2.2.2.2.2.2.1 (4 * k + 0))).isSome = true
    · rw [if_pos s0, e0]
      refine (sl_la_yes l0 (t0 s0) (fun r hr hr2 => ?_)).symm
      cases hh : sl_hs n C E (nI k) r
      · rfl
      · have := cov r hr2 hh; omega
    · rw [if_neg s0]
      have f0 := f0 s0
      have cov : ∀ q : Nat, q < p → sl_hs n C E (nI k) q = true → (q : Int) = ((E t).2.2.2.2.2.2.1 (4 * k + 1)).toInt ∨ (q : Int) = ((E t).2.2.2.2.2.2.1 (4 * k + 2)).toInt ∨ (q : Int) ≤ ((E t).2.2.2.2.2.2.1 (4 * k + 3)).toInt := fun q hq hh => by
        have h9 : q ≠ q0 := fun w => by rw [w, f0] at hh; cases hh
        have := cov q hq hh; omega
      rcases one _ a3 (by omega) (fun q hq => snd q (Or.inr (Or.inl hq))) with ⟨e1, z1⟩ | ⟨n1, q1, l1, e1, z1, t1, f1⟩
      · rw [if_pos e1]
        refine (sl_la_no (fun q hq => ?_)).symm
        cases hh : sl_hs n C E (nI k) q
        · rfl
        · have := cov q hq hh; omega
      · rw [if_neg n1]
        by_cases s1 : (sl_ta n C ((E t).2.2.2.2.2.2.1 (4 * k + 1))).isSome = true
        · rw [if_pos s1, e1]
          refine (sl_la_yes l1 (t1 s1) (fun r hr hr2 => ?_)).symm
          cases hh : sl_hs n C E (nI k) r
          · rfl
          · have := cov r hr2 hh; omega
        · rw [if_neg s1]
          have f1 := f1 s1
          have cov : ∀ q : Nat, q < p → sl_hs n C E (nI k) q = true → (q : Int) = ((E t).2.2.2.2.2.2.1 (4 * k + 2)).toInt ∨ (q : Int) ≤ ((E t).2.2.2.2.2.2.1 (4 * k + 3)).toInt := fun q hq hh => by
            have h9 : q ≠ q1 := fun w => by rw [w, f1] at hh; cases hh
            have := cov q hq hh; omega
          rcases one _ a5 (by omega) (fun q hq => snd q (Or.inr (Or.inr (Or.inl hq)))) with ⟨e2, z2⟩ | ⟨n2, q2, l2, e2, z2, t2, f2⟩
          · rw [if_pos e2]
            refine (sl_la_no (fun q hq => ?_)).symm
            cases hh : sl_hs n C E (nI k) q
            · rfl
            · have := cov q hq hh; omega
          · rw [if_neg n2]
            by_cases s2 : (sl_ta n C ((E t).2.2.2.2.2.2.1 (4 * k + 2))).isSome = true
            · rw [if_pos s2, e2]
              refine (sl_la_yes l2 (t2 s2) (fun r hr hr2 => ?_)).symm
              cases hh : sl_hs n C E (nI k) r
              · rfl
              · have := cov r hr2 hh; omega
            · rw [if_neg s2]
              have f2 := f2 s2
              have cov : ∀ q : Nat, q < p → sl_hs n C E (nI k) q = true → (q : Int) ≤ ((E t).2.2.2.2.2.2.1 (4 * k + 3)).toInt := fun q hq hh => by
                have h9 : q ≠ q2 := fun w => by rw [w, f2] at hh; cases hh
                have := cov q hq hh; omega
              rcases one _ a7 (by omega) (fun q hq => snd q (Or.inr (Or.inr (Or.inr hq)))) with ⟨e3, z3⟩ | ⟨n3, q3, l3, e3, z3, t3, f3⟩
              · rw [if_pos e3]
                refine (sl_la_no (fun q hq => ?_)).symm
                cases hh : sl_hs n C E (nI k) q
                · rfl
                · have := cov q hq hh; omega
              · rw [if_neg n3]
                by_cases s3 : (sl_ta n C ((E t).2.2.2.2.2.2.1 (4 * k + 3))).isSome = true
                · rw [if_pos s3, e3]
                  refine (sl_la_yes l3 (t3 s3) (fun r hr hr2 => ?_)).symm
                  cases hh : sl_hs n C E (nI k) r
                  · rfl
                  · have := cov r hr2 hh; omega
                · rw [if_neg s3, e3, nI_clamp (by omega)]
                  have f3 := f3 s3
                  have := sl_la_cut (n := n) (C := C) (E := E) (x := nI k) (a := q3) (p - q3) (fun r h1 h2 => by
                    cases hh : sl_hs n C E (nI k) r
                    · rfl
                    · have h8 := cov r (by omega) hh
                      have h9 : r = q3 := by omega
                      rw [h9, f3] at hh; cases hh)
                  rw [show q3 + (p - q3) = p by omega] at this
                  exact this.symm
end
section
/-! what stays true from call to call -/
def sl_JP (C : Nat → Int32) (p : Nat) : Prop := (C (120 + p) = C p ∨ C (120 + p) = -2) ∧ (C (240 + p) = C (120 + p) ∨ C (240 + p) = -2) ∧ (C p = -1 → C (120 + p) = -1 ∧ C (240 + p) = -1)
def sl_JC (C : Nat → Int32) (p t : Nat) (v : Int32) : Prop := (C p = -1 ∧ C (120 + p) = -1 ∧ C (240 + p) = -1) ∨ (C p = nI t ∧ C (120 + p) = nI t ∧ C (240 + p) = nI t) ∨
  ∃ k, k ≤ 3 ∧ v = nI k ∧ (∀ r, r < k → C (120 * r + p) = nI t) ∧ ∀ r, k ≤ r → r < 3 → C (120 * r + p) = -2
def sl_J (n e : Nat) (ep : Int32) (tl : Nat) (T C : Nat → Int32) (E : Nat → sl_Ent) : Prop :=
  (ep = nI e) ∧
  (∀ t, t < n → ∃ a, a ≤ e ∧ (E t).2.1 = nI a) ∧
  (∀ p, p < 120 → sl_JP C p) ∧
  (∀ i, i < 360 → ∀ u, u < n → C i = nI u → (E u).1 = nI (i % 120)) ∧
  (∀ p, tl ≤ p → p < 120 → C p = -2 ∧ C (120 + p) = -2 ∧ C (240 + p) = -2) ∧
  (∀ t, t < n → (E t).2.1 = ep → ∃ p, p < tl ∧ (E t).1 = nI p ∧ sl_JC C p t (E t).2.2.2.2.2.2.2) ∧
  (∀ t t', t < n → t' < n → (E t).2.1 = ep → (E t').2.1 = ep → (E t).1 = (E t').1 → t = t') ∧
  (sl_ST n E) ∧
  (∀ t, t < n → ∀ j, j < 16 → (E t).2.2.2.2.2.2.1 j = -1 ∨ ∃ q p, (E t).1 = nI p ∧ q < p ∧ p < 120 ∧ (E t).2.2.2.2.2.2.1 j = nI q) ∧
  (∀ k, k < 4 → sl_row n ep C E k tl T) ∧
  (∀ t p, p < 120 → sl_own n ep C E p t → ∀ k, k < 4 → sl_has (E t).2.2.1 (nI k) = true → sl_row n ep C E k p (E t).2.2.2.2.2.2.1)
theorem sl_J.ep {n e : Nat} {ep : Int32} {tl : Nat} {T C : Nat → Int32} {E : Nat → sl_Ent} (h : sl_J n e ep tl T C E) : ep = nI e := h.1
theorem sl_J.es {n e : Nat} {ep : Int32} {tl : Nat} {T C : Nat → Int32} {E : Nat → sl_Ent} (h : sl_J n e ep tl T C E) : ∀ t, t < n → ∃ a, a ≤ e ∧ (E t).2.1 = nI a := h.2.1
theorem sl_J.jp {n e : Nat} {ep : Int32} {tl : Nat} {T C : Nat → Int32} {E : Nat → sl_Ent} (h : sl_J n e ep tl T C E) : ∀ p, p < 120 → sl_JP C p := h.2.2.1
theorem sl_J.pl {n e : Nat} {ep : Int32} {tl : Nat} {T C : Nat → Int32} {E : Nat → sl_Ent} (h : sl_J n e ep tl T C E) : ∀ i, i < 360 → ∀ u, u < n → C i = nI u → (E u).1 = nI (i % 120) := h.2.2.2.1
theorem sl_J.em {n e : Nat} {ep : Int32} {tl : Nat} {T C : Nat → Int32} {E : Nat → sl_Ent} (h : sl_J n e ep tl T C E) : ∀ p, tl ≤ p → p < 120 → C p = -2 ∧ C (120 + p) = -2 ∧ C (240 + p) = -2 := h.2.2.2.2.1
theorem sl_J.cu {n e : Nat} {ep : Int32} {tl : Nat} {T C : Nat → Int32} {E : Nat → sl_Ent} (h : sl_J n e ep tl T C E) : ∀ t, t < n → (E t).2.1 = ep → ∃ p, p < tl ∧ (E t).1 = nI p ∧ sl_JC C p t (E t).2.2.2.2.2.2.2 := h.2.2.2.2.2.1
theorem sl_J.di {n e : Nat} {ep : Int32} {tl : Nat} {T C : Nat → Int32} {E : Nat → sl_Ent} (h : sl_J n e ep tl T C E) : ∀ t t', t < n → t' < n → (E t).2.1 = ep → (E t').2.1 = ep → (E t).1 = (E t').1 → t = t' := h.2.2.2.2.2.2.1
theorem sl_J.st {n e : Nat} {ep : Int32} {tl : Nat} {T C : Nat → Int32} {E : Nat → sl_Ent} (h : sl_J n e ep tl T C E) : sl_ST n E := h.2.2.2.2.2.2.2.1
theorem sl_J.pt {n e : Nat} {ep : Int32} {tl : Nat} {T C : Nat → Int32} {E : Nat → sl_Ent} (h : sl_J n e ep tl T C E) : ∀ t, t < n → ∀ j, j < 16 → (E t).2.2.2.2.2.2.1 j = -1 ∨ ∃ q p, (E t).1 = nI p ∧ q < p ∧ p < 120 ∧ (E t).2.2.2.2.2.2.1 j = nI q := h.2.2.2.2.2.2.2.2.1
theorem sl_J.tr {n e : Nat} {ep : Int32} {tl : Nat} {T C : Nat → Int32} {E : Nat → sl_Ent} (h : sl_J n e ep tl T C E) : ∀ k, k < 4 → sl_row n ep C E k tl T := h.2.2.2.2.2.2.2.2.2.1
theorem sl_J.ro {n e : Nat} {ep : Int32} {tl : Nat} {T C : Nat → Int32} {E : Nat → sl_Ent} (h : sl_J n e ep tl T C E) : ∀ t p, p < 120 → sl_own n ep C E p t → ∀ k, k < 4 → sl_has (E t).2.2.1 (nI k) = true → sl_row n ep C E k p (E t).2.2.2.2.2.2.1 := h.2.2.2.2.2.2.2.2.2.2
theorem sl_row_0 (n : Nat) (ep : Int32) (C : Nat → Int32) (E : Nat → sl_Ent) (k : Nat) : sl_row n ep C E k 0 (fun _ => -1) := sl_RI.zero _ _
theorem sl_J_0 : sl_J 0 0 0 0 (fun _ => -1) (fun _ => -2) sl_E0 :=
  ⟨rfl,
  fun t h => absurd h (Nat.not_lt_zero t),
  fun p _ => ⟨Or.inl rfl, Or.inl rfl, fun h => absurd (show (-2 : Int32) = -1 from h) (by decide)⟩,
  fun i _ u h => absurd h (Nat.not_lt_zero u),
  fun p _ _ => ⟨rfl, rfl, rfl⟩,
  fun t h => absurd h (Nat.not_lt_zero t),
  fun t _ h => absurd h (Nat.not_lt_zero t),
  fun t h => absurd h (Nat.not_lt_zero t),
  fun t h => absurd h (Nat.not_lt_zero t),
  fun k _ => sl_row_0 _ _ _ _ k,
  fun t p _ h => absurd h.1 (Nat.not_lt_zero t)⟩
theorem sl_nIne {a b : Nat} (ha : a < 2 ^ 31) (hb : b < 2 ^ 31) (h : nI a = nI b) : a = b := (nI_eq ha hb).mp h
theorem sl_ne2 {a : Nat} (ha : a < 2 ^ 31) : nI a ≠ -2 := fun w => by
  have := congrArg Int32.toInt w
  rw [nI_toInt ha, show (-2 : Int32).toInt = -2 from rfl] at this; omega
theorem sl_ne1 {a : Nat} (ha : a < 2 ^ 31) : nI a ≠ -1 := fun w => by
  have := congrArg Int32.toInt w
  rw [nI_toInt ha, show (-1 : Int32).toInt = -1 from rfl] at this; omega
theorem sl_JC_c {C C' : Nat → Int32} {p t : Nat} {v : Int32} (h : sl_JC C p t v) (hc : ∀ r, r < 3 → C' (120 * r + p) = C (120 * r + p)) : sl_JC C' p t v := by
  have c0 : C' p = C p := by have := hc 0 (by omega); rwa [show 120 * 0 + p = p by omega] at this
  have c1 : C' (120 + p) = C (120 + p) := by have := hc 1 (by omega); rwa [show 120 * 1 + p = 120 + p by omega] at this
  have c2 : C' (240 + p) = C (240 + p) := by have := hc 2 (by omega); rwa [show 120 * 2 + p = 240 + p by omega] at this
  rcases h with h | h | ⟨k, h1, h2, h3, h4⟩
  · exact Or.inl ⟨by rw [c0]; exact h.1, by rw [c1]; exact h.2.1, by rw [c2]; exact h.2.2⟩
  · exact Or.inr (Or.inl ⟨by rw [c0]; exact h.1, by rw [c1]; exact h.2.1, by rw [c2]; exact h.2.2⟩)
  · exact Or.inr (Or.inr ⟨k, h1, h2, fun r hr => by rw [hc r (by omega)]; exact h3 r hr, fun r hr hr2 => by rw [hc r hr2]; exact h4 r hr hr2⟩)
/-- a call that writes cells and steps alone -/
theorem sl_J.same {n e : Nat} {ep : Int32} {tl : Nat} {T C C' : Nat → Int32} {E E' : Nat → sl_Ent} (h : sl_J n e ep tl T C E) (htl : tl ≤ 120)
    (f1 : ∀ u, (E' u).1 = (E u).1) (f2 : ∀ u, (E' u).2.1 = (E u).2.1) (f3 : ∀ u, (E' u).2.2.1 = (E u).2.2.1) (f7 : ∀ u, (E' u).2.2.2.2.2.2.1 = (E u).2.2.2.2.2.2.1)
    (hjp : ∀ p, p < 120 → sl_JP C' p) (hpl : ∀ i, i < 360 → ∀ u, u < n → C' i = nI u → (E u).1 = nI (i % 120))
    (hem : ∀ p, tl ≤ p → p < 120 → C' p = -2 ∧ C' (120 + p) = -2 ∧ C' (240 + p) = -2)
    (hcu : ∀ t, t < n → (E t).2.1 = ep → ∃ p, p < tl ∧ (E t).1 = nI p ∧ sl_JC C' p t (E' t).2.2.2.2.2.2.2)
    (ho : ∀ q u, q < 120 → u < n → (E u).1 = nI q → C' q = nI u → C q = nI u ∨ (E u).2.1 = ep) : sl_J n e ep tl T C' E' := by
  have own : ∀ q, q < 120 → ∀ u, sl_own n ep C' E' q u → sl_own n ep C E q u ∧ (E' u).2.2.1 = (E u).2.2.1 := by
    intro q hq u ⟨h1, h2, h3⟩
    rw [f1] at h2
    rw [f2] at h3
    exact ⟨⟨h1, h2, h3.elim (fun w => ho q u hq h1 h2 w) Or.inr⟩, f3 u⟩
  exact ⟨h.ep,
    fun t ht => by rw [f2]; exact h.es t ht,
    hjp,
    fun i hi u hu w => by rw [f1]; exact hpl i hi u hu w,
    hem,
    fun t ht w => by rw [f1]; rw [f2] at w; exact hcu t ht w,
    fun t t' ht ht' w w' w2 => by rw [f2] at w w'; rw [f1, f1] at w2; exact h.di t t' ht ht' w w' w2,
    fun t ht => by rw [f3]; exact h.st t ht,
    fun t ht j hj => by rw [f7, f1]; exact h.pt t ht j hj,
    fun k hk => sl_row_m (h.tr k hk) (fun q hq => own q (by omega)),
    fun t p hp w k hk hh => by
      rw [f7]; rw [f3] at hh
      exact sl_row_m (h.ro t p hp (own p hp t w).1 k hk hh) (fun q hq => own q (by omega))⟩
theorem sl_es_1 (E : Nat → sl_Ent) (t : Nat) (v : Int32) (u : Nat) : (sl_es E t v u).1 = (E u).1 := (sl_es_f E t v (fun x => x.1) (fun _ _ _ _ _ _ _ _ _ => rfl) u).symm
theorem sl_es_2 (E : Nat → sl_Ent) (t : Nat) (v : Int32) (u : Nat) : (sl_es E t v u).2.1 = (E u).2.1 := (sl_es_f E t v (fun x => x.2.1) (fun _ _ _ _ _ _ _ _ _ => rfl) u).symm
theorem sl_es_3 (E : Nat → sl_Ent) (t : Nat) (v : Int32) (u : Nat) : (sl_es E t v u).2.2.1 = (E u).2.2.1 := (sl_es_f E t v (fun x => x.2.2.1) (fun _ _ _ _ _ _ _ _ _ => rfl) u).symm
theorem sl_es_7 (E : Nat → sl_Ent) (t : Nat) (v : Int32) (u : Nat) : (sl_es E t v u).2.2.2.2.2.2.1 = (E u).2.2.2.2.2.2.1 := (sl_es_f E t v (fun x => x.2.2.2.2.2.2.1) (fun _ _ _ _ _ _ _ _ _ => rfl) u).symm
theorem sl_cp_eq0 {C : Nat → Int32} {k p : Nat} {x y z : Int32} (ek : y = nI k) (ep : z = nI p) (hk : k < 3) (hp : p < 120) : (if sl_cg C y z = -1 then C else sl_cp C y z x) = upd C (120 * k + p) (if C (120 * k + p) = -2 then x else C (120 * k + p)) := by
  rw [ek, ep]; exact sl_cp_eq C hk hp x
/-- write keeps it -/
theorem sl_J.write {n e : Nat} {ep : Int32} {tl : Nat} {T C : Nat → Int32} {E : Nat → sl_Ent} (h : sl_J n e ep tl T C E) (hw : sl_wf n tl C E) {t : Nat} (ht : t < n) (hb : ¬ ((E t).2.2.2.2.2.2.2 = -1 ∨ (E t).2.2.2.2.2.2.2 = 3 ∨ ¬ (E t).2.1 = ep)) :
    sl_J n e ep tl T (if sl_cg C (E t).2.2.2.2.2.2.2 (E t).1 = -1 then C else sl_cp C (E t).2.2.2.2.2.2.2 (E t).1 (nI t)) (sl_es E t (if sl_cg C (E t).2.2.2.2.2.2.2 (E t).1 = -1 then -1 else (E t).2.2.2.2.2.2.2 + 1)) := by
  have hcur : (E t).2.1 = ep := Classical.byContradiction (fun w => hb (Or.inr (Or.inr w)))
  obtain ⟨k, hk3, ek⟩ := (hw.2.2.2.1 t ht).2.2.1.elim (fun w => absurd (Or.inl w) hb) id
  have hk : k < 3 := by
    have : k ≠ 3 := fun w => hb (Or.inr (Or.inl (by rw [ek, w]; rfl)))
    omega
  obtain ⟨p, hp, ep1, hc⟩ := h.cu t ht hcur
  have hn := hw.1
  have htl := hw.2.1
  rw [sl_cp_eq0 ek ep1 hk (by omega : p < 120)]
  rw [ek, ep1, sl_cgN C hk (by omega)]
  have oth : ∀ u, u < n → u ≠ t → (E u).2.1 = ep → ∃ q, q < tl ∧ q ≠ p ∧ (E u).1 = nI q ∧ sl_JC C q u (E u).2.2.2.2.2.2.2 := by
    intro u hu hne hce
    obtain ⟨q, h1, h2, h3⟩ := h.cu u hu hce
    exact ⟨q, h1, fun w => hne (h.di u t hu ht hce hcur (by rw [h2, ep1, w])), h2, h3⟩
  rcases hc with ⟨c0, c1, c2⟩ | ⟨c0, c1, c2⟩ | ⟨k', hk', ek', hlo, hhi⟩
  · -- junk
    have ec : C (120 * k + p) = -1 := by
      rcases (by omega : k = 0 ∨ k = 1 ∨ k = 2) with e | e | e <;> subst e
      · rw [show 120 * 0 + p = p by omega]; exact c0
      · rw [show 120 * 1 + p = 120 + p by omega]; exact c1
      · rw [show 120 * 2 + p = 240 + p by omega]; exact c2
    rw [if_pos ec, if_neg (by rw [ec]; decide), sl_upd_id]
    refine h.same htl (sl_es_1 E t _) (sl_es_2 E t _) (sl_es_3 E t _) (sl_es_7 E t _) h.jp h.pl h.em (fun u hu hce => ?_) (fun q u _ _ _ w => Or.inl w)
    by_cases e : u = t
    · subst e; exact ⟨p, hp, ep1, Or.inl ⟨c0, c1, c2⟩⟩
    · obtain ⟨q, h1, -, h2, h3⟩ := oth u hu e hce
      rw [sl_es_ne e]; exact ⟨q, h1, h2, h3⟩
  · -- filled
    have ec : C (120 * k + p) = nI t := by
      rcases (by omega : k = 0 ∨ k = 1 ∨ k = 2) with e | e | e <;> subst e
      · rw [show 120 * 0 + p = p by omega]; exact c0
      · rw [show 120 * 1 + p = 120 + p by omega]; exact c1
      · rw [show 120 * 2 + p = 240 + p by omega]; exact c2
    rw [if_neg (by rw [ec]; exact sl_ne2 (a := t) (by omega)), if_neg (by rw [ec]; exact sl_ne1 (a := t) (by omega)), sl_upd_id]
    refine h.same htl (sl_es_1 E t _) (sl_es_2 E t _) (sl_es_3 E t _) (sl_es_7 E t _) h.jp h.pl h.em (fun u hu hce => ?_) (fun q u _ _ _ w => Or.inl w)
    by_cases e : u = t
    · subst e; exact ⟨p, hp, ep1, Or.inr (Or.inl ⟨c0, c1, c2⟩)⟩
    · obtain ⟨q, h1, -, h2, h3⟩ := oth u hu e hce
      rw [sl_es_ne e]; exact ⟨q, h1, h2, h3⟩
  · -- the next cell
    have e9 : k' = k := sl_nIne (a := k') (b := k) (by omega) (by omega) (by rw [← ek', ek])
    subst e9
    have ec : C (120 * k' + p) = -2 := hhi k' (by omega) hk
    rw [if_pos ec, if_neg (by rw [ec]; decide), nI_1]
    have un : ∀ i, i ≠ 120 * k' + p → upd C (120 * k' + p) (nI t) i = C i := fun i hi => pk_un hi
    refine h.same htl (sl_es_1 E t _) (sl_es_2 E t _) (sl_es_3 E t _) (sl_es_7 E t _) (fun q hq => ?_) (fun i hi u hu w => ?_) (fun q h1 h2 => ?_) (fun u hu hce => ?_) (fun q u hq hu hpu w => ?_)
    · by_cases e : q = p
      · subst e
        have g0 := hlo 0; have g1 := hlo 1
        have g2 := hhi 0; have g3 := hhi 1; have g4 := hhi 2
        rw [show 120 * 0 + q = q by omega] at g0 g2
        rw [show 120 * 1 + q = 120 + q by omega] at g1 g3
        rw [show 120 * 2 + q = 240 + q by omega] at g4
        rcases (by omega : k' = 0 ∨ k' = 1 ∨ k' = 2) with e | e | e <;> subst e
        · rw [show 120 * 0 + q = q by omega] at un ⊢
          rw [sl_JP, un (120 + q) (by omega), un (240 + q) (by omega), pk_us, g3 (by omega) (by omega), g4 (by omega) (by omega)]
          exact ⟨Or.inr rfl, Or.inr rfl, fun w => absurd w (sl_ne1 (a := t) (by omega))⟩
        · rw [show 120 * 1 + q = 120 + q by omega] at un ⊢
          rw [sl_JP, un q (by omega), un (240 + q) (by omega), pk_us, g0 (by omega), g4 (by omega) (by omega)]
          exact ⟨Or.inl rfl, Or.inr rfl, fun w => absurd w (sl_ne1 (a := t) (by omega))⟩
        · rw [show 120 * 2 + q = 240 + q by omega] at un ⊢
          rw [sl_JP, un q (by omega), un (120 + q) (by omega), pk_us, g0 (by omega), g1 (by omega)]
          exact ⟨Or.inl rfl, Or.inl rfl, fun w => absurd w (sl_ne1 (a := t) (by omega))⟩
      · rw [sl_JP, un _ (by omega), un _ (by omega), un _ (by omega)]
        exact h.jp q hq
    · by_cases e : i = 120 * k' + p
      · subst e
        rw [pk_us] at w
        rw [← sl_nIne (by omega) (by omega) w, ep1]
        congr 1; omega
      · rw [un i e] at w; exact h.pl i hi u hu w
    · rw [un _ (by omega), un _ (by omega), un _ (by omega)]; exact h.em q h1 h2
    · by_cases e : u = t
      · subst e
        refine ⟨p, hp, ep1, Or.inr (Or.inr ⟨k' + 1, by omega, by rw [sl_es_at], fun r hr => ?_, fun r hr hr2 => ?_⟩)⟩
        · by_cases e : r = k'
          · rw [e, pk_us]
          · rw [un _ (by omega)]; exact hlo r (by omega)
        · rw [un _ (by omega)]; exact hhi r (by omega) hr2
      · obtain ⟨q, h1, hne, h2, h3⟩ := oth u hu e hce
        rw [sl_es_ne e]
        exact ⟨q, h1, h2, sl_JC_c h3 (fun r hr => un _ (by omega))⟩
    · by_cases e : q = 120 * k' + p
      · rw [e, pk_us] at w
        exact Or.inr (by rw [← sl_nIne (by omega) (by omega) w]; exact hcur)
      · rw [un q e] at w; exact Or.inl w
end
section
/-! what stays true: fill, seal, take -/
theorem sl_wh_iff {C : Nat → Int32} {b : Nat} : sl_wh C b = false ↔ C b = -2 ∨ C (120 + b) = -2 ∨ C (240 + b) = -2 := by
  rw [sl_wh]
  by_cases h1 : C b = -2 <;> by_cases h2 : C (120 + b) = -2 <;> by_cases h3 : C (240 + b) = -2 <;> simp [h1, h2, h3]
/-- what a position holds that is not whole -/
theorem sl_J.fillv {n e : Nat} {ep : Int32} {tl : Nat} {T C : Nat → Int32} {E : Nat → sl_Ent} (h : sl_J n e ep tl T C E) (hw : sl_wf n tl C E) {b : Nat} (hb : b < 120) (hwh : sl_wh C b = false) :
    (C b = -2 ∧ C (120 + b) = -2 ∧ C (240 + b) = -2 ∧ (if (sl_tok n (C b)).isSome = true then C b else -1) = -1) ∨
    ∃ t, t < n ∧ C b = nI t ∧ (if (sl_tok n (C b)).isSome = true then C b else -1) = nI t ∧ (C (120 + b) = nI t ∨ C (120 + b) = -2) ∧ (C (240 + b) = nI t ∨ C (240 + b) = -2) := by
  have hn := hw.1
  obtain ⟨j1, j2, j3⟩ := h.jp b hb
  rcases hw.2.2.1 b (by omega) with e | e | ⟨t, ht, e⟩
  · obtain ⟨c1, c2⟩ := j3 e
    exfalso
    rcases sl_wh_iff.mp hwh with w | w | w
    · rw [e] at w; exact absurd w (by decide)
    · rw [c1] at w; exact absurd w (by decide)
    · rw [c2] at w; exact absurd w (by decide)
  · left
    rw [e] at j1
    have c1 : C (120 + b) = -2 := j1.elim id id
    rw [c1] at j2
    have c2 : C (240 + b) = -2 := j2.elim id id
    refine ⟨e, c1, c2, ?_⟩
    rw [e, sl_tok_m2]; rfl
  · right
    refine ⟨t, ht, e, by rw [e, sl_tokN ht hn]; rfl, by rw [← e]; exact j1, ?_⟩
    rcases j2 with j2 | j2
    · rw [j2, ← e]; exact j1
    · exact Or.inr j2
theorem sl_J.cf {n e : Nat} {ep : Int32} {tl : Nat} {T C : Nat → Int32} {E : Nat → sl_Ent} (h : sl_J n e ep tl T C E) (hw : sl_wf n tl C E) {b : Nat} (hb : b < 120) (hwh : sl_wh C b = false) :
    sl_cf C b (if (sl_tok n (C b)).isSome = true then C b else -1) = sl_mf C b (if (sl_tok n (C b)).isSome = true then C b else -1) := by
  rcases h.fillv hw hb hwh with ⟨c0, c1, c2, -⟩ | ⟨t, ht, c0, ev, c1, c2⟩
  · exact sl_cf_mf hb (Or.inl c0) (Or.inl c1) (Or.inl c2)
  · rw [ev]; exact sl_cf_mf hb (Or.inr c0) c1.symm c2.symm
theorem sl_mf_0 (C : Nat → Int32) (b : Nat) (v : Int32) (hb : b < 120) : sl_mf C b v b = v := by rw [sl_mf, pk_un (by omega), pk_un (by omega), pk_us]
theorem sl_mf_1 (C : Nat → Int32) (b : Nat) (v : Int32) : sl_mf C b v (120 + b) = v := by rw [sl_mf, pk_un (by omega), pk_us]
theorem sl_mf_2 (C : Nat → Int32) (b : Nat) (v : Int32) : sl_mf C b v (240 + b) = v := by rw [sl_mf, pk_us]
theorem sl_mf_n {C : Nat → Int32} {b i : Nat} {v : Int32} (h0 : i ≠ b) (h1 : i ≠ 120 + b) (h2 : i ≠ 240 + b) : sl_mf C b v i = C i := by rw [sl_mf, pk_un h2, pk_un h1, pk_un h0]
theorem sl_J.fill {n e : Nat} {ep : Int32} {tl : Nat} {T C : Nat → Int32} {E : Nat → sl_Ent} (h : sl_J n e ep tl T C E) (hw : sl_wf n tl C E) {b : Nat} (hb : b < 120) (hbt : b < tl) (hwh : sl_wh C b = false) :
    sl_J n e ep tl T (sl_mf C b (if (sl_tok n (C b)).isSome = true then C b else -1)) E := by
  have hn := hw.1
  have htl := hw.2.1
  have key : ∃ v, (if (sl_tok n (C b)).isSome = true then C b else -1) = v ∧ ((v = -1 ∧ C b = -2 ∧ C (120 + b) = -2 ∧ C (240 + b) = -2) ∨ ∃ t, t < n ∧ v = nI t ∧ C b = nI t) := by
    rcases h.fillv hw hb hwh with ⟨c0, c1, c2, ev⟩ | ⟨t, ht, c0, ev, -, -⟩
    · exact ⟨-1, ev, Or.inl ⟨rfl, c0, c1, c2⟩⟩
    · exact ⟨nI t, ev, Or.inr ⟨t, ht, rfl, c0⟩⟩
  obtain ⟨v, ev, hv⟩ := key
  rw [ev]
  have v2 : ∀ u, u < n → v = nI u → C b = nI u := by
    intro u hu w
    rcases hv with ⟨e1, -⟩ | ⟨t, ht, e1, e2⟩
    · rw [e1] at w; exact absurd w.symm (sl_ne1 (a := u) (by omega))
    · rw [e2, ← e1, w]
  refine h.same htl (fun _ => rfl) (fun _ => rfl) (fun _ => rfl) (fun _ => rfl) (fun q hq => ?_) (fun i hi u hu w => ?_) (fun q h1 h2 => ?_) (fun u hu hce => ?_) (fun q u hq hu hpu w => ?_)
  · by_cases e : q = b
    · subst e
      rw [sl_JP, sl_mf_0 C q v hq, sl_mf_1, sl_mf_2]
      exact ⟨Or.inl rfl, Or.inl rfl, fun w => ⟨w, w⟩⟩
    · rw [sl_JP, sl_mf_n (by omega) (by omega) (by omega), sl_mf_n (by omega) (by omega) (by omega), sl_mf_n (by omega) (by omega) (by omega)]
      exact h.jp q hq
  · by_cases e : i = b ∨ i = 120 + b ∨ i = 240 + b
    · have w2 : v = nI u := by
        rcases e with e | e | e
        · rw [e, sl_mf_0 C b v hb] at w; exact w
        · rw [e, sl_mf_1] at w; exact w
        · rw [e, sl_mf_2] at w; exact w
      have := h.pl b (by omega) u hu (v2 u hu w2)
      rw [this]
      congr 1; omega
    · rw [sl_mf_n (by omega) (by omega) (by omega)] at w
      exact h.pl i hi u hu w
  · rw [sl_mf_n (by omega) (by omega) (by omega), sl_mf_n (by omega) (by omega) (by omega), sl_mf_n (by omega) (by omega) (by omega)]
    exact h.em q h1 h2
  · obtain ⟨p, hp, ep1, hc⟩ := h.cu u hu hce
    refine ⟨p, hp, ep1, ?_⟩
    by_cases e : p = b
    · subst e
      rw [sl_JC, sl_mf_0 C p v hb, sl_mf_1, sl_mf_2]
      rcases hv with ⟨e1, c0, -⟩ | ⟨t, ht, e1, c0⟩
      · exact Or.inl ⟨e1, e1, e1⟩
      · refine Or.inr (Or.inl ?_)
        have e2 : v = nI u := by
          rcases hc with hc | hc | ⟨k, h1, h2, h3, h4⟩
          · rw [hc.1] at c0; exact absurd c0.symm (sl_ne1 (a := t) (by omega))
          · rw [e1, ← c0]; exact hc.1
          · by_cases ek : k = 0
            · have := h4 0 (by omega) (by omega)
              rw [show 120 * 0 + p = p by omega, c0] at this
              exact absurd this (sl_ne2 (a := t) (by omega))
            · have := h3 0 (by omega)
              rw [show 120 * 0 + p = p by omega] at this
              rw [e1, ← c0]; exact this
        exact ⟨e2, e2, e2⟩
    · exact sl_JC_c hc (fun r hr => sl_mf_n (by omega) (by omega) (by omega))
  · by_cases e : q = b
    · rw [e, sl_mf_0 C b v hb] at w
      rw [e]; exact Or.inl (v2 u hu w)
    · rw [sl_mf_n (by omega) (by omega) (by omega)] at w
      exact Or.inl w
/-- seal keeps it -/
theorem sl_J.seal {n e : Nat} {ep : Int32} {tl : Nat} {T C : Nat → Int32} {E : Nat → sl_Ent} (h : sl_J n e ep tl T C E) (hw : sl_wf n tl C E) (he : e < 100000) :
    sl_J n (e + 1) (ep + 1) (sl_ef C 120) (sl_sT n C E (sl_ef C 120)) C E := by
  have hn := hw.1
  have no : ∀ t, t < n → ¬ (E t).2.1 = ep + 1 := by
    intro t ht w
    obtain ⟨a, ha, ea⟩ := h.es t ht
    rw [h.ep, nI_1, ea] at w
    have := sl_nIne (a := a) (b := e + 1) (by omega) (by omega) w
    omega
  have hpl : ∀ q, q < 120 → ∀ u, u < n → C q = nI u → (E u).1 = nI q := by
    intro q hq u hu w
    have := h.pl q (by omega) u hu w
    rwa [show q % 120 = q by omega] at this
  have own : ∀ q u, sl_own n (ep + 1) C E q u → C q = nI u := fun q u ho => ho.2.2.elim id (fun w => absurd w (no u ho.1))
  have sub : ∀ q u, sl_own n (ep + 1) C E q u → sl_own n ep C E q u ∧ (E u).2.2.1 = (E u).2.2.1 := fun q u ho => ⟨⟨ho.1, ho.2.1, Or.inl (own q u ho)⟩, rfl⟩
  have rows : ∀ m, m ≤ 120 → ∀ k, k < 4 → sl_row n (ep + 1) C E k m (sl_sT n C E m) := by
    intro m
    induction m with
    | zero => intro _ k _; exact sl_row_0 _ _ _ _ k
    | succ m ih =>
      intro hm k hk
      have ih := ih (by omega) k hk
      rcases sl_opt (sl_tok n (C m)) with e1 | ⟨u, e1⟩
      · rw [sl_sT_0 e1]
        refine sl_RI.skip ih (fun _ _ w => w) (fun _ _ w => w) ?_
        rintro ⟨u, ho, -⟩
        rw [own m u ho, sl_tokN ho.1 hn] at e1; cases e1
      · rw [sl_sT_1 e1]
        have e2 := sl_tok_eq hn e1
        have uni : ∀ u', sl_own n (ep + 1) C E m u' → u' = u := by
          intro u' ho
          have h1 := own m u' ho
          have h2 := sl_tok_lt e1
          have h3 := ho.1
          rw [e2] at h1
          exact (sl_nIne (a := u) (b := u') (by omega) (by omega) h1).symm
        refine sl_row_push hk (by omega) ih (fun q hq u' ho => ⟨ho, rfl⟩) (fun hh u' ho => ?_) (fun hh => ?_)
        · rw [uni u' ho]; exact hh
        · rintro ⟨u', ho, h3⟩
          rw [uni u' ho, hh] at h3; cases h3
  have hef := sl_ef_le C 120
  refine ⟨by rw [h.ep, nI_1], fun t ht => ?_, h.jp, h.pl, fun p h1 h2 => (sl_cwz C p).mp (sl_ef_em C 120 p h1 h2), fun t ht w => absurd w (no t ht), fun t t' ht _ w => absurd w (no t ht), h.st, h.pt, fun k hk => rows _ hef k hk, fun t p hp ho k hk hh => ?_⟩
  · obtain ⟨a, ha, ea⟩ := h.es t ht
    exact ⟨a, by omega, ea⟩
  · exact sl_row_m (h.ro t p hp (sub p t ho).1 k hk hh) (fun q _ u => sub q u)
/-- a row's places -/
theorem sl_row_in {n : Nat} {ep : Int32} {C : Nat → Int32} {E : Nat → sl_Ent} {k p : Nat} {X : Nat → Int32} (hp : p ≤ 120) (h : sl_row n ep C E k p X) {i : Nat} (hi : i < 4) : X (4 * k + i) = -1 ∨ ∃ q, q < p ∧ X (4 * k + i) = nI q := by
  obtain ⟨⟨a1, a2, a3, a4, a5⟩, -, -⟩ := h
  rcases (by omega : i = 0 ∨ i = 1 ∨ i = 2 ∨ i = 3) with e | e | e | e <;> subst e
  · exact sl_zN hp a1 a2
  · exact sl_zN hp a3.1 (by omega)
  · exact sl_zN hp a4.1 (by omega)
  · exact sl_zN hp a5.1 (by omega)
/-- take keeps it -/
theorem sl_J.take {n e : Nat} {ep : Int32} {tl : Nat} {T C : Nat → Int32} {E : Nat → sl_Ent} (h : sl_J n e ep tl T C E) (hw : sl_wf n tl C E) (hn : n < 150) (htl : tl < 120) {ss am rd ver : Int32} (hss : ∃ a, a < 16 ∧ ss = nI a) :
    sl_J (n + 1) e ep (tl + 1) (sl_tp T ss (nI tl) 4) C (sl_eu E n (nI tl, ep, ss, am, rd, ver, sl_tc T ss 4, 0)) := by
  have en : sl_eu E n (nI tl, ep, ss, am, rd, ver, sl_tc T ss 4, 0) n = (nI tl, ep, ss, am, rd, ver, sl_tc T ss 4, 0) := if_pos rfl
  have eo : ∀ u, u < n → sl_eu E n (nI tl, ep, ss, am, rd, ver, sl_tc T ss 4, 0) u = E u := fun u hu => if_neg (by omega)
  have cn : ∀ i, i < 360 → C i ≠ nI n := by
    intro i hi w
    rcases hw.2.2.1 i hi with e1 | e1 | ⟨u, hu, e1⟩
    · rw [e1] at w; exact absurd w.symm (sl_ne1 (a := n) (by omega))
    · rw [e1] at w; exact absurd w.symm (sl_ne2 (a := n) (by omega))
    · rw [e1] at w
      have := sl_nIne (a := u) (b := n) (by omega) (by omega) w
      omega
  have own : ∀ q, q < 120 → ∀ u, sl_own (n + 1) ep C (sl_eu E n (nI tl, ep, ss, am, rd, ver, sl_tc T ss 4, 0)) q u → (u = n ∧ q = tl) ∨ (u < n ∧ q < tl ∧ sl_own n ep C E q u) := by
    intro q hq u ⟨h1, h2, h3⟩
    by_cases e1 : u = n
    · subst e1
      rw [en] at h2
      exact Or.inl ⟨rfl, (sl_nIne (a := tl) (b := q) (by omega) (by omega) h2).symm⟩
    · have hu : u < n := by omega
      rw [eo u hu] at h2 h3
      refine Or.inr ⟨hu, ?_, hu, h2, h3⟩
      rcases h3 with h3 | h3
      · refine Classical.byContradiction (fun w => ?_)
        have := (h.em q (by omega) hq).1
        rw [h3] at this
        exact absurd this (sl_ne2 (a := u) (by omega))
      · obtain ⟨p, hp, ep1, -⟩ := h.cu u hu h3
        rw [h2] at ep1
        have := sl_nIne (a := q) (b := p) (by omega) (by omega) ep1
        omega
  have sub : ∀ q, q < tl → ∀ u, sl_own (n + 1) ep C (sl_eu E n (nI tl, ep, ss, am, rd, ver, sl_tc T ss 4, 0)) q u → sl_own n ep C E q u ∧ (sl_eu E n (nI tl, ep, ss, am, rd, ver, sl_tc T ss 4, 0) u).2.2.1 = (E u).2.2.1 := by
    intro q hq u ho
    rcases own q (by omega) u ho with ⟨-, h1⟩ | ⟨h1, -, h2⟩
    · omega
    · exact ⟨h2, by rw [eo u h1]⟩
  refine ⟨h.ep, fun t ht => ?_, h.jp, fun i hi u hu w => ?_, fun p h1 h2 => h.em p (by omega) h2, fun t ht w => ?_, fun t t' ht ht' w w' w2 => ?_, fun t ht => ?_, fun t ht j hj => ?_, fun k hk => ?_, fun t p hp ho k hk hh => ?_⟩
  · by_cases e1 : t = n
    · rw [e1, en]; exact ⟨e, by omega, h.ep⟩
    · rw [eo t (by omega)]; exact h.es t (by omega)
  · by_cases e1 : u = n
    · rw [e1] at w; exact absurd w (cn i hi)
    · rw [eo u (by omega)]; exact h.pl i hi u (by omega) w
  · by_cases e1 : t = n
    · rw [e1, en]
      obtain ⟨c0, c1, c2⟩ := h.em tl (by omega) htl
      refine ⟨tl, by omega, rfl, Or.inr (Or.inr ⟨0, by omega, rfl, fun r hr => absurd hr (Nat.not_lt_zero r), fun r _ hr => ?_⟩)⟩
      rcases (by omega : r = 0 ∨ r = 1 ∨ r = 2) with e2 | e2 | e2 <;> subst e2
      · rw [show 120 * 0 + tl = tl by omega]; exact c0
      · rw [show 120 * 1 + tl = 120 + tl by omega]; exact c1
      · rw [show 120 * 2 + tl = 240 + tl by omega]; exact c2
    · rw [eo t (by omega)] at w ⊢
      obtain ⟨p, hp, h1, h2⟩ := h.cu t (by omega) w
      exact ⟨p, by omega, h1, h2⟩
  · by_cases e1 : t = n
    · by_cases e2 : t' = n
      · rw [e1, e2]
      · rw [e1, en, eo t' (by omega)] at w2
        rw [eo t' (by omega)] at w'
        obtain ⟨p, hp, h1, -⟩ := h.cu t' (by omega) w'
        rw [h1] at w2
        have := sl_nIne (a := tl) (b := p) (by omega) (by omega) w2
        omega
    · by_cases e2 : t' = n
      · rw [e2, en, eo t (by omega)] at w2
        rw [eo t (by omega)] at w
        obtain ⟨p, hp, h1, -⟩ := h.cu t (by omega) w
        rw [h1] at w2
        have := sl_nIne (a := p) (b := tl) (by omega) (by omega) w2
        omega
      · rw [eo t (by omega)] at w w2
        rw [eo t' (by omega)] at w' w2
        exact h.di t t' (by omega) (by omega) w w' w2
  · by_cases e1 : t = n
    · rw [e1, en]; exact hss
    · rw [eo t (by omega)]; exact h.st t (by omega)
  · by_cases e1 : t = n
    · rw [e1, en]
      show sl_tc T ss 4 j = -1 ∨ _
      have e2 : j = 4 * (j / 4) + j % 4 := by omega
      rw [e2, sl_tc_in (by omega) (by omega)]
      split
      · rcases sl_row_in (by omega) (h.tr (j / 4) (by omega)) (i := j % 4) (by omega) with w | ⟨q, hq, w⟩
        · exact Or.inl w
        · exact Or.inr ⟨q, tl, rfl, hq, htl, by show sl_tc T ss 4 _ = _; rw [sl_tc_in (by omega) (by omega)]; rename_i hh; rw [if_pos hh]; exact w⟩
      · exact Or.inl rfl
    · rw [eo t (by omega)]; exact h.pt t (by omega) j hj
  · refine sl_row_push hk htl (h.tr k hk) sub (fun hh u ho => ?_) (fun hh => ?_)
    · rcases own tl htl u ho with ⟨h1, -⟩ | ⟨-, h1, -⟩
      · rw [h1, en]; exact hh
      · omega
    · rintro ⟨u, ho, h3⟩
      rcases own tl htl u ho with ⟨h1, -⟩ | ⟨-, h1, -⟩
      · rw [h1, en] at h3
        rw [show sl_has ss (nI k) = true from h3] at hh; cases hh
      · omega
  · rcases own p hp t ho with ⟨h1, h2⟩ | ⟨h1, h2, h3⟩
    · subst h1 h2
      rw [en] at hh ⊢
      have := sl_row_m (h.tr k hk) sub
      show sl_row _ _ _ _ k p (sl_tc T ss 4)
      rw [sl_row, sl_tc_in hk (by omega), sl_tc_in hk (by omega), sl_tc_in hk (by omega), sl_tc_in hk (by omega), if_pos hh, if_pos hh, if_pos hh, if_pos hh]
      exact this
    · rw [eo t h1] at hh ⊢
      exact sl_row_m (h.ro t p hp h3 k hk hh) (fun q hq => sub q (by omega))
/-- what valueByPointers asks of the pointers -/
theorem sl_J.hP {n e : Nat} {ep : Int32} {tl : Nat} {T C : Nat → Int32} {E : Nat → sl_Ent} (h : sl_J n e ep tl T C E) : ∀ t, t < n → ∀ j, j < 16 → sl_pt ((E t).2.2.2.2.2.2.1 j) := by
  intro t ht j hj
  rcases h.pt t ht j hj with w | ⟨q, p, -, h1, h2, w⟩
  · exact Or.inl w
  · exact Or.inr ⟨q, by omega, w⟩
theorem sl_J.hPP {n e : Nat} {ep : Int32} {tl : Nat} {T C : Nat → Int32} {E : Nat → sl_Ent} (h : sl_J n e ep tl T C E) (hw : sl_wf n tl C E) : sl_PP n C E := by
  intro q t hq htok j hj
  have hn := hw.1
  have ht := sl_tok_lt htok
  have h1 := h.pl q (by omega) t ht (sl_tok_eq hn htok)
  rcases h.pt t ht j hj with w | ⟨q', p, h2, h3, h4, w⟩
  · exact Or.inl w
  · rw [h2] at h1
    have := sl_nIne (a := p) (b := q % 120) (by omega) (by omega) h1
    exact Or.inr ⟨q', by omega, w⟩
theorem sl_J.vp {n e : Nat} {ep : Int32} {tl : Nat} {T C : Nat → Int32} {E : Nat → sl_Ent} (h : sl_J n e ep tl T C E) (hw : sl_wf n tl C E) {j b : Nat} (hj : j < 4) (hb : b ≤ 120) : sl_vp n C E j 120 (sl_la n C E (nI j) b) 0 = sl_vs n C E (nI j) b := by
  have hn := hw.1
  have hpl : ∀ q, q < 120 → ∀ u, u < n → C q = nI u → (E u).1 = nI q := by
    intro q hq u hu w
    have := h.pl q (by omega) u hu w
    rwa [show q % 120 = q by omega] at this
  rw [sl_vp_vs (fun q hq hh => ?_) 120 b 0 hb hb, Int32.zero_add]
  rcases sl_opt (sl_tok n (C q)) with e1 | ⟨t, e1⟩
  · rw [sl_hs_0 e1] at hh; cases hh
  · rw [sl_hs_1 e1] at hh
    rw [sl_pq_1 e1]
    exact sl_pb_la hn hq hpl (h.ro t q hq ⟨sl_tok_lt e1, hpl q hq t (sl_tok_lt e1) (sl_tok_eq hn e1), Or.inl (sl_tok_eq hn e1)⟩ j hj hh)
end
section
theorem dL_law_0 : decode cL_law 0 = .ok (.new 9, 3) := by decide +kernel
theorem dL_law_3 : decode cL_law 3 = .ok (.dup, 1) := by decide +kernel
theorem dL_law_4 : decode cL_law 4 = .ok (.invokespecial 31, 3) := by decide +kernel
theorem dL_law_7 : decode cL_law 7 = .ok (.astore_n 1, 1) := by decide +kernel
theorem dL_law_8 : decode cL_law 8 = .ok (.bipush 60, 2) := by decide +kernel
theorem dL_law_10 : decode cL_law 10 = .ok (.newarray .int, 2) := by decide +kernel
theorem dL_law_12 : decode cL_law 12 = .ok (.astore_n 2, 1) := by decide +kernel
theorem dL_law_13 : decode cL_law 13 = .ok (.bipush 60, 2) := by decide +kernel
theorem dL_law_15 : decode cL_law 15 = .ok (.newarray .int, 2) := by decide +kernel
theorem dL_law_17 : decode cL_law 17 = .ok (.astore_n 3, 1) := by decide +kernel
theorem dL_law_18 : decode cL_law 18 = .ok (.bipush 60, 2) := by decide +kernel
theorem dL_law_20 : decode cL_law 20 = .ok (.newarray .int, 2) := by decide +kernel
theorem dL_law_22 : decode cL_law 22 = .ok (.astore 4, 2) := by decide +kernel
theorem dL_law_24 : decode cL_law 24 = .ok (.bipush 60, 2) := by decide +kernel
theorem dL_law_26 : decode cL_law 26 = .ok (.newarray .int, 2) := by decide +kernel
theorem dL_law_28 : decode cL_law 28 = .ok (.astore 5, 2) := by decide +kernel
theorem dL_law_30 : decode cL_law 30 = .ok (.bipush 60, 2) := by decide +kernel
theorem dL_law_32 : decode cL_law 32 = .ok (.newarray .int, 2) := by decide +kernel
theorem dL_law_34 : decode cL_law 34 = .ok (.astore 6, 2) := by decide +kernel
theorem dL_law_36 : decode cL_law 36 = .ok (.bipush 60, 2) := by decide +kernel
theorem dL_law_38 : decode cL_law 38 = .ok (.newarray .int, 2) := by decide +kernel
theorem dL_law_40 : decode cL_law 40 = .ok (.astore 7, 2) := by decide +kernel
theorem dL_law_42 : decode cL_law 42 = .ok (.iconst 0, 1) := by decide +kernel
theorem dL_law_43 : decode cL_law 43 = .ok (.istore 8, 2) := by decide +kernel
theorem dL_law_45 : decode cL_law 45 = .ok (.iconst 0, 1) := by decide +kernel
theorem dL_law_46 : decode cL_law 46 = .ok (.istore 9, 2) := by decide +kernel
theorem dL_law_48 : decode cL_law 48 = .ok (.iload 9, 2) := by decide +kernel
theorem dL_law_50 : decode cL_law 50 = .ok (.bipush 80, 2) := by decide +kernel
theorem dL_law_52 : decode cL_law 52 = .ok (.if_icmp .ge 604, 3) := by decide +kernel
theorem dL_law_55 : decode cL_law 55 = .ok (.aload_n 0, 1) := by decide +kernel
theorem dL_law_56 : decode cL_law 56 = .ok (.iconst 2, 1) := by decide +kernel
theorem dL_law_57 : decode cL_law 57 = .ok (.iload 9, 2) := by decide +kernel
theorem dL_law_59 : decode cL_law 59 = .ok (.imul, 1) := by decide +kernel
theorem dL_law_60 : decode cL_law 60 = .ok (.invokestatic 32, 3) := by decide +kernel
theorem dL_law_63 : decode cL_law 63 = .ok (.istore 10, 2) := by decide +kernel
theorem dL_law_65 : decode cL_law 65 = .ok (.aload_n 0, 1) := by decide +kernel
theorem dL_law_66 : decode cL_law 66 = .ok (.iconst 2, 1) := by decide +kernel
theorem dL_law_67 : decode cL_law 67 = .ok (.iload 9, 2) := by decide +kernel
theorem dL_law_69 : decode cL_law 69 = .ok (.imul, 1) := by decide +kernel
theorem dL_law_70 : decode cL_law 70 = .ok (.iconst 1, 1) := by decide +kernel
theorem dL_law_71 : decode cL_law 71 = .ok (.iadd, 1) := by decide +kernel
theorem dL_law_72 : decode cL_law 72 = .ok (.invokestatic 32, 3) := by decide +kernel
theorem dL_law_75 : decode cL_law 75 = .ok (.istore 11, 2) := by decide +kernel
theorem dL_law_77 : decode cL_law 77 = .ok (.iload 10, 2) := by decide +kernel
theorem dL_law_79 : decode cL_law 79 = .ok (.bipush 16, 2) := by decide +kernel
theorem dL_law_81 : decode cL_law 81 = .ok (.invokestatic 38, 3) := by decide +kernel
theorem dL_law_84 : decode cL_law 84 = .ok (.istore 12, 2) := by decide +kernel
theorem dL_law_86 : decode cL_law 86 = .ok (.iload 8, 2) := by decide +kernel
theorem dL_law_88 : decode cL_law 88 = .ok (.ifCond .ne 7, 3) := by decide +kernel
theorem dL_law_91 : decode cL_law 91 = .ok (.iconst 0, 1) := by decide +kernel
theorem dL_law_92 : decode cL_law 92 = .ok (.goto 25, 3) := by decide +kernel
theorem dL_law_95 : decode cL_law 95 = .ok (.iload 8, 2) := by decide +kernel
theorem dL_law_97 : decode cL_law 97 = .ok (.iconst 1, 1) := by decide +kernel
theorem dL_law_98 : decode cL_law 98 = .ok (.isub, 1) := by decide +kernel
theorem dL_law_99 : decode cL_law 99 = .ok (.iload 11, 2) := by decide +kernel
theorem dL_law_101 : decode cL_law 101 = .ok (.iload 8, 2) := by decide +kernel
theorem dL_law_103 : decode cL_law 103 = .ok (.iconst 5, 1) := by decide +kernel
theorem dL_law_104 : decode cL_law 104 = .ok (.if_icmp .ge 8, 3) := by decide +kernel
theorem dL_law_107 : decode cL_law 107 = .ok (.iload 8, 2) := by decide +kernel
theorem dL_law_109 : decode cL_law 109 = .ok (.goto 4, 3) := by decide +kernel
theorem dL_law_112 : decode cL_law 112 = .ok (.iconst 5, 1) := by decide +kernel
theorem dL_law_113 : decode cL_law 113 = .ok (.invokestatic 38, 3) := by decide +kernel
theorem dL_law_116 : decode cL_law 116 = .ok (.isub, 1) := by decide +kernel
theorem dL_law_117 : decode cL_law 117 = .ok (.istore 13, 2) := by decide +kernel
theorem dL_law_119 : decode cL_law 119 = .ok (.aload_n 1, 1) := by decide +kernel
theorem dL_law_120 : decode cL_law 120 = .ok (.invokevirtual 41, 3) := by decide +kernel
theorem dL_law_123 : decode cL_law 123 = .ok (.istore 14, 2) := by decide +kernel
theorem dL_law_125 : decode cL_law 125 = .ok (.iload 12, 2) := by decide +kernel
theorem dL_law_127 : decode cL_law 127 = .ok (.iconst 5, 1) := by decide +kernel
theorem dL_law_128 : decode cL_law 128 = .ok (.if_icmp .ge 221, 3) := by decide +kernel
theorem dL_law_131 : decode cL_law 131 = .ok (.iload 14, 2) := by decide +kernel
theorem dL_law_133 : decode cL_law 133 = .ok (.ifCond .lt 216, 3) := by decide +kernel
end
section
theorem dL_law_136 : decode cL_law 136 = .ok (.iload 14, 2) := by decide +kernel
theorem dL_law_138 : decode cL_law 138 = .ok (.bipush 60, 2) := by decide +kernel
theorem dL_law_140 : decode cL_law 140 = .ok (.if_icmp .ge 209, 3) := by decide +kernel
theorem dL_law_143 : decode cL_law 143 = .ok (.iload 8, 2) := by decide +kernel
theorem dL_law_145 : decode cL_law 145 = .ok (.bipush 60, 2) := by decide +kernel
theorem dL_law_147 : decode cL_law 147 = .ok (.if_icmp .ge 202, 3) := by decide +kernel
theorem dL_law_150 : decode cL_law 150 = .ok (.aload_n 2, 1) := by decide +kernel
theorem dL_law_151 : decode cL_law 151 = .ok (.iload 8, 2) := by decide +kernel
theorem dL_law_153 : decode cL_law 153 = .ok (.iconst 1, 1) := by decide +kernel
theorem dL_law_154 : decode cL_law 154 = .ok (.iload 11, 2) := by decide +kernel
theorem dL_law_156 : decode cL_law 156 = .ok (.bipush 15, 2) := by decide +kernel
theorem dL_law_158 : decode cL_law 158 = .ok (.invokestatic 38, 3) := by decide +kernel
theorem dL_law_161 : decode cL_law 161 = .ok (.iadd, 1) := by decide +kernel
theorem dL_law_162 : decode cL_law 162 = .ok (.iastore, 1) := by decide +kernel
theorem dL_law_163 : decode cL_law 163 = .ok (.aload_n 3, 1) := by decide +kernel
theorem dL_law_164 : decode cL_law 164 = .ok (.iload 8, 2) := by decide +kernel
theorem dL_law_166 : decode cL_law 166 = .ok (.iload 11, 2) := by decide +kernel
theorem dL_law_168 : decode cL_law 168 = .ok (.iconst 4, 1) := by decide +kernel
theorem dL_law_169 : decode cL_law 169 = .ok (.ishr, 1) := by decide +kernel
theorem dL_law_170 : decode cL_law 170 = .ok (.bipush 41, 2) := by decide +kernel
theorem dL_law_172 : decode cL_law 172 = .ok (.invokestatic 38, 3) := by decide +kernel
theorem dL_law_175 : decode cL_law 175 = .ok (.bipush 20, 2) := by decide +kernel
theorem dL_law_177 : decode cL_law 177 = .ok (.isub, 1) := by decide +kernel
theorem dL_law_178 : decode cL_law 178 = .ok (.iastore, 1) := by decide +kernel
theorem dL_law_179 : decode cL_law 179 = .ok (.aload 4, 2) := by decide +kernel
theorem dL_law_181 : decode cL_law 181 = .ok (.iload 8, 2) := by decide +kernel
theorem dL_law_183 : decode cL_law 183 = .ok (.iload 10, 2) := by decide +kernel
theorem dL_law_185 : decode cL_law 185 = .ok (.iconst 4, 1) := by decide +kernel
theorem dL_law_186 : decode cL_law 186 = .ok (.ishr, 1) := by decide +kernel
theorem dL_law_187 : decode cL_law 187 = .ok (.iconst 2, 1) := by decide +kernel
theorem dL_law_188 : decode cL_law 188 = .ok (.invokestatic 38, 3) := by decide +kernel
theorem dL_law_191 : decode cL_law 191 = .ok (.ifCond .ne 18, 3) := by decide +kernel
theorem dL_law_194 : decode cL_law 194 = .ok (.iconst 1, 1) := by decide +kernel
theorem dL_law_195 : decode cL_law 195 = .ok (.iload 11, 2) := by decide +kernel
theorem dL_law_197 : decode cL_law 197 = .ok (.bipush 10, 2) := by decide +kernel
theorem dL_law_199 : decode cL_law 199 = .ok (.ishr, 1) := by decide +kernel
theorem dL_law_200 : decode cL_law 200 = .ok (.bipush 15, 2) := by decide +kernel
theorem dL_law_202 : decode cL_law 202 = .ok (.invokestatic 38, 3) := by decide +kernel
theorem dL_law_205 : decode cL_law 205 = .ok (.iadd, 1) := by decide +kernel
theorem dL_law_206 : decode cL_law 206 = .ok (.goto 4, 3) := by decide +kernel
theorem dL_law_209 : decode cL_law 209 = .ok (.iconst 0, 1) := by decide +kernel
theorem dL_law_210 : decode cL_law 210 = .ok (.iastore, 1) := by decide +kernel
theorem dL_law_211 : decode cL_law 211 = .ok (.aload 5, 2) := by decide +kernel
theorem dL_law_213 : decode cL_law 213 = .ok (.iload 8, 2) := by decide +kernel
theorem dL_law_215 : decode cL_law 215 = .ok (.aload 4, 2) := by decide +kernel
theorem dL_law_217 : decode cL_law 217 = .ok (.iload 8, 2) := by decide +kernel
theorem dL_law_219 : decode cL_law 219 = .ok (.iaload, 1) := by decide +kernel
theorem dL_law_220 : decode cL_law 220 = .ok (.ifCond .ne 7, 3) := by decide +kernel
theorem dL_law_223 : decode cL_law 223 = .ok (.iconst 0, 1) := by decide +kernel
theorem dL_law_224 : decode cL_law 224 = .ok (.goto 15, 3) := by decide +kernel
theorem dL_law_227 : decode cL_law 227 = .ok (.iload 11, 2) := by decide +kernel
theorem dL_law_229 : decode cL_law 229 = .ok (.bipush 14, 2) := by decide +kernel
theorem dL_law_231 : decode cL_law 231 = .ok (.ishr, 1) := by decide +kernel
theorem dL_law_232 : decode cL_law 232 = .ok (.iload 14, 2) := by decide +kernel
theorem dL_law_234 : decode cL_law 234 = .ok (.iconst 1, 1) := by decide +kernel
theorem dL_law_235 : decode cL_law 235 = .ok (.iadd, 1) := by decide +kernel
theorem dL_law_236 : decode cL_law 236 = .ok (.invokestatic 38, 3) := by decide +kernel
theorem dL_law_239 : decode cL_law 239 = .ok (.iastore, 1) := by decide +kernel
theorem dL_law_240 : decode cL_law 240 = .ok (.aload 6, 2) := by decide +kernel
theorem dL_law_242 : decode cL_law 242 = .ok (.iload 8, 2) := by decide +kernel
theorem dL_law_244 : decode cL_law 244 = .ok (.aload_n 1, 1) := by decide +kernel
theorem dL_law_245 : decode cL_law 245 = .ok (.invokevirtual 45, 3) := by decide +kernel
theorem dL_law_248 : decode cL_law 248 = .ok (.iastore, 1) := by decide +kernel
theorem dL_law_249 : decode cL_law 249 = .ok (.iinc 8 1, 3) := by decide +kernel
theorem dL_law_252 : decode cL_law 252 = .ok (.aload 4, 2) := by decide +kernel
theorem dL_law_254 : decode cL_law 254 = .ok (.iload 8, 2) := by decide +kernel
theorem dL_law_256 : decode cL_law 256 = .ok (.iconst 1, 1) := by decide +kernel
theorem dL_law_257 : decode cL_law 257 = .ok (.isub, 1) := by decide +kernel
theorem dL_law_258 : decode cL_law 258 = .ok (.iaload, 1) := by decide +kernel
theorem dL_law_259 : decode cL_law 259 = .ok (.ifCond .ne 22, 3) := by decide +kernel
theorem dL_law_262 : decode cL_law 262 = .ok (.aload_n 1, 1) := by decide +kernel
theorem dL_law_263 : decode cL_law 263 = .ok (.aload_n 2, 1) := by decide +kernel
end
section
theorem dL_law_264 : decode cL_law 264 = .ok (.iload 8, 2) := by decide +kernel
theorem dL_law_266 : decode cL_law 266 = .ok (.iconst 1, 1) := by decide +kernel
theorem dL_law_267 : decode cL_law 267 = .ok (.isub, 1) := by decide +kernel
theorem dL_law_268 : decode cL_law 268 = .ok (.iaload, 1) := by decide +kernel
theorem dL_law_269 : decode cL_law 269 = .ok (.aload_n 3, 1) := by decide +kernel
theorem dL_law_270 : decode cL_law 270 = .ok (.iload 8, 2) := by decide +kernel
theorem dL_law_272 : decode cL_law 272 = .ok (.iconst 1, 1) := by decide +kernel
theorem dL_law_273 : decode cL_law 273 = .ok (.isub, 1) := by decide +kernel
theorem dL_law_274 : decode cL_law 274 = .ok (.iaload, 1) := by decide +kernel
theorem dL_law_275 : decode cL_law 275 = .ok (.invokevirtual 48, 3) := by decide +kernel
theorem dL_law_278 : decode cL_law 278 = .ok (.goto 33, 3) := by decide +kernel
theorem dL_law_281 : decode cL_law 281 = .ok (.aload_n 1, 1) := by decide +kernel
theorem dL_law_282 : decode cL_law 282 = .ok (.aload_n 2, 1) := by decide +kernel
theorem dL_law_283 : decode cL_law 283 = .ok (.iload 8, 2) := by decide +kernel
theorem dL_law_285 : decode cL_law 285 = .ok (.iconst 1, 1) := by decide +kernel
theorem dL_law_286 : decode cL_law 286 = .ok (.isub, 1) := by decide +kernel
theorem dL_law_287 : decode cL_law 287 = .ok (.iaload, 1) := by decide +kernel
theorem dL_law_288 : decode cL_law 288 = .ok (.aload_n 3, 1) := by decide +kernel
theorem dL_law_289 : decode cL_law 289 = .ok (.iload 8, 2) := by decide +kernel
theorem dL_law_291 : decode cL_law 291 = .ok (.iconst 1, 1) := by decide +kernel
theorem dL_law_292 : decode cL_law 292 = .ok (.isub, 1) := by decide +kernel
theorem dL_law_293 : decode cL_law 293 = .ok (.iaload, 1) := by decide +kernel
theorem dL_law_294 : decode cL_law 294 = .ok (.aload 4, 2) := by decide +kernel
theorem dL_law_296 : decode cL_law 296 = .ok (.iload 8, 2) := by decide +kernel
theorem dL_law_298 : decode cL_law 298 = .ok (.iconst 1, 1) := by decide +kernel
theorem dL_law_299 : decode cL_law 299 = .ok (.isub, 1) := by decide +kernel
theorem dL_law_300 : decode cL_law 300 = .ok (.iaload, 1) := by decide +kernel
theorem dL_law_301 : decode cL_law 301 = .ok (.aload 5, 2) := by decide +kernel
theorem dL_law_303 : decode cL_law 303 = .ok (.iload 8, 2) := by decide +kernel
theorem dL_law_305 : decode cL_law 305 = .ok (.iconst 1, 1) := by decide +kernel
theorem dL_law_306 : decode cL_law 306 = .ok (.isub, 1) := by decide +kernel
theorem dL_law_307 : decode cL_law 307 = .ok (.iaload, 1) := by decide +kernel
theorem dL_law_308 : decode cL_law 308 = .ok (.invokevirtual 51, 3) := by decide +kernel
theorem dL_law_311 : decode cL_law 311 = .ok (.istore 15, 2) := by decide +kernel
theorem dL_law_313 : decode cL_law 313 = .ok (.iload 15, 2) := by decide +kernel
theorem dL_law_315 : decode cL_law 315 = .ok (.iload 8, 2) := by decide +kernel
theorem dL_law_317 : decode cL_law 317 = .ok (.iconst 1, 1) := by decide +kernel
theorem dL_law_318 : decode cL_law 318 = .ok (.isub, 1) := by decide +kernel
theorem dL_law_319 : decode cL_law 319 = .ok (.if_icmp .ne 25, 3) := by decide +kernel
theorem dL_law_322 : decode cL_law 322 = .ok (.aload_n 1, 1) := by decide +kernel
theorem dL_law_323 : decode cL_law 323 = .ok (.iload 15, 2) := by decide +kernel
theorem dL_law_325 : decode cL_law 325 = .ok (.invokevirtual 55, 3) := by decide +kernel
theorem dL_law_328 : decode cL_law 328 = .ok (.iload 14, 2) := by decide +kernel
theorem dL_law_330 : decode cL_law 330 = .ok (.if_icmp .ne 14, 3) := by decide +kernel
theorem dL_law_333 : decode cL_law 333 = .ok (.aload_n 1, 1) := by decide +kernel
theorem dL_law_334 : decode cL_law 334 = .ok (.invokevirtual 41, 3) := by decide +kernel
theorem dL_law_337 : decode cL_law 337 = .ok (.iload 14, 2) := by decide +kernel
theorem dL_law_339 : decode cL_law 339 = .ok (.iconst 1, 1) := by decide +kernel
theorem dL_law_340 : decode cL_law 340 = .ok (.iadd, 1) := by decide +kernel
theorem dL_law_341 : decode cL_law 341 = .ok (.if_icmp .eq 5, 3) := by decide +kernel
theorem dL_law_344 : decode cL_law 344 = .ok (.iconst 0, 1) := by decide +kernel
theorem dL_law_345 : decode cL_law 345 = .ok (.ireturn, 1) := by decide +kernel
theorem dL_law_346 : decode cL_law 346 = .ok (.goto 249, 3) := by decide +kernel
theorem dL_law_349 : decode cL_law 349 = .ok (.iload 12, 2) := by decide +kernel
theorem dL_law_351 : decode cL_law 351 = .ok (.bipush 11, 2) := by decide +kernel
theorem dL_law_353 : decode cL_law 353 = .ok (.if_icmp .ge 86, 3) := by decide +kernel
theorem dL_law_356 : decode cL_law 356 = .ok (.iload 8, 2) := by decide +kernel
theorem dL_law_358 : decode cL_law 358 = .ok (.ifCond .le 81, 3) := by decide +kernel
theorem dL_law_361 : decode cL_law 361 = .ok (.aload 6, 2) := by decide +kernel
theorem dL_law_363 : decode cL_law 363 = .ok (.iload 13, 2) := by decide +kernel
theorem dL_law_365 : decode cL_law 365 = .ok (.iaload, 1) := by decide +kernel
theorem dL_law_366 : decode cL_law 366 = .ok (.aload_n 1, 1) := by decide +kernel
theorem dL_law_367 : decode cL_law 367 = .ok (.invokevirtual 45, 3) := by decide +kernel
theorem dL_law_370 : decode cL_law 370 = .ok (.if_icmp .ne 26, 3) := by decide +kernel
theorem dL_law_373 : decode cL_law 373 = .ok (.aload_n 1, 1) := by decide +kernel
theorem dL_law_374 : decode cL_law 374 = .ok (.iload 13, 2) := by decide +kernel
theorem dL_law_376 : decode cL_law 376 = .ok (.invokevirtual 58, 3) := by decide +kernel
theorem dL_law_379 : decode cL_law 379 = .ok (.ifCond .lt 17, 3) := by decide +kernel
theorem dL_law_382 : decode cL_law 382 = .ok (.aload_n 1, 1) := by decide +kernel
theorem dL_law_383 : decode cL_law 383 = .ok (.iload 13, 2) := by decide +kernel
theorem dL_law_385 : decode cL_law 385 = .ok (.invokevirtual 58, 3) := by decide +kernel
theorem dL_law_388 : decode cL_law 388 = .ok (.iconst 3, 1) := by decide +kernel
end
section
theorem dL_law_389 : decode cL_law 389 = .ok (.if_icmp .ge 7, 3) := by decide +kernel
theorem dL_law_392 : decode cL_law 392 = .ok (.iconst 1, 1) := by decide +kernel
theorem dL_law_393 : decode cL_law 393 = .ok (.goto 4, 3) := by decide +kernel
theorem dL_law_396 : decode cL_law 396 = .ok (.iconst 0, 1) := by decide +kernel
theorem dL_law_397 : decode cL_law 397 = .ok (.istore 15, 2) := by decide +kernel
theorem dL_law_399 : decode cL_law 399 = .ok (.iconst 0, 1) := by decide +kernel
theorem dL_law_400 : decode cL_law 400 = .ok (.istore 16, 2) := by decide +kernel
theorem dL_law_402 : decode cL_law 402 = .ok (.iload 16, 2) := by decide +kernel
theorem dL_law_404 : decode cL_law 404 = .ok (.iconst 1, 1) := by decide +kernel
theorem dL_law_405 : decode cL_law 405 = .ok (.iload 11, 2) := by decide +kernel
theorem dL_law_407 : decode cL_law 407 = .ok (.iconst 5, 1) := by decide +kernel
theorem dL_law_408 : decode cL_law 408 = .ok (.ishr, 1) := by decide +kernel
theorem dL_law_409 : decode cL_law 409 = .ok (.iconst 3, 1) := by decide +kernel
theorem dL_law_410 : decode cL_law 410 = .ok (.invokestatic 38, 3) := by decide +kernel
theorem dL_law_413 : decode cL_law 413 = .ok (.iadd, 1) := by decide +kernel
theorem dL_law_414 : decode cL_law 414 = .ok (.if_icmp .ge 22, 3) := by decide +kernel
theorem dL_law_417 : decode cL_law 417 = .ok (.iload 15, 2) := by decide +kernel
theorem dL_law_419 : decode cL_law 419 = .ok (.ifCond .eq 17, 3) := by decide +kernel
theorem dL_law_422 : decode cL_law 422 = .ok (.aload_n 1, 1) := by decide +kernel
theorem dL_law_423 : decode cL_law 423 = .ok (.iload 13, 2) := by decide +kernel
theorem dL_law_425 : decode cL_law 425 = .ok (.invokestatic 61, 3) := by decide +kernel
theorem dL_law_428 : decode cL_law 428 = .ok (.istore 15, 2) := by decide +kernel
theorem dL_law_430 : decode cL_law 430 = .ok (.iinc 16 1, 3) := by decide +kernel
theorem dL_law_433 : decode cL_law 433 = .ok (.goto (-31), 3) := by decide +kernel
theorem dL_law_436 : decode cL_law 436 = .ok (.goto 159, 3) := by decide +kernel
theorem dL_law_439 : decode cL_law 439 = .ok (.iload 12, 2) := by decide +kernel
theorem dL_law_441 : decode cL_law 441 = .ok (.bipush 14, 2) := by decide +kernel
theorem dL_law_443 : decode cL_law 443 = .ok (.if_icmp .ge 86, 3) := by decide +kernel
theorem dL_law_446 : decode cL_law 446 = .ok (.iload 14, 2) := by decide +kernel
theorem dL_law_448 : decode cL_law 448 = .ok (.ifCond .le 81, 3) := by decide +kernel
theorem dL_law_451 : decode cL_law 451 = .ok (.iload 11, 2) := by decide +kernel
theorem dL_law_453 : decode cL_law 453 = .ok (.iload 14, 2) := by decide +kernel
theorem dL_law_455 : decode cL_law 455 = .ok (.invokestatic 38, 3) := by decide +kernel
theorem dL_law_458 : decode cL_law 458 = .ok (.istore 15, 2) := by decide +kernel
theorem dL_law_460 : decode cL_law 460 = .ok (.aload_n 1, 1) := by decide +kernel
theorem dL_law_461 : decode cL_law 461 = .ok (.iconst 0, 1) := by decide +kernel
theorem dL_law_462 : decode cL_law 462 = .ok (.iload 15, 2) := by decide +kernel
theorem dL_law_464 : decode cL_law 464 = .ok (.invokevirtual 8, 3) := by decide +kernel
theorem dL_law_467 : decode cL_law 467 = .ok (.bipush (-2), 2) := by decide +kernel
theorem dL_law_469 : decode cL_law 469 = .ok (.if_icmp .eq 27, 3) := by decide +kernel
theorem dL_law_472 : decode cL_law 472 = .ok (.aload_n 1, 1) := by decide +kernel
theorem dL_law_473 : decode cL_law 473 = .ok (.iconst 1, 1) := by decide +kernel
theorem dL_law_474 : decode cL_law 474 = .ok (.iload 15, 2) := by decide +kernel
theorem dL_law_476 : decode cL_law 476 = .ok (.invokevirtual 8, 3) := by decide +kernel
theorem dL_law_479 : decode cL_law 479 = .ok (.bipush (-2), 2) := by decide +kernel
theorem dL_law_481 : decode cL_law 481 = .ok (.if_icmp .eq 15, 3) := by decide +kernel
theorem dL_law_484 : decode cL_law 484 = .ok (.aload_n 1, 1) := by decide +kernel
theorem dL_law_485 : decode cL_law 485 = .ok (.iconst 2, 1) := by decide +kernel
theorem dL_law_486 : decode cL_law 486 = .ok (.iload 15, 2) := by decide +kernel
theorem dL_law_488 : decode cL_law 488 = .ok (.invokevirtual 8, 3) := by decide +kernel
theorem dL_law_491 : decode cL_law 491 = .ok (.bipush (-2), 2) := by decide +kernel
theorem dL_law_493 : decode cL_law 493 = .ok (.if_icmp .ne 33, 3) := by decide +kernel
theorem dL_law_496 : decode cL_law 496 = .ok (.aload_n 1, 1) := by decide +kernel
theorem dL_law_497 : decode cL_law 497 = .ok (.iconst 0, 1) := by decide +kernel
theorem dL_law_498 : decode cL_law 498 = .ok (.iload 15, 2) := by decide +kernel
theorem dL_law_500 : decode cL_law 500 = .ok (.invokevirtual 8, 3) := by decide +kernel
theorem dL_law_503 : decode cL_law 503 = .ok (.ifCond .lt 7, 3) := by decide +kernel
theorem dL_law_506 : decode cL_law 506 = .ok (.iconst 1, 1) := by decide +kernel
theorem dL_law_507 : decode cL_law 507 = .ok (.goto 4, 3) := by decide +kernel
theorem dL_law_510 : decode cL_law 510 = .ok (.iconst 0, 1) := by decide +kernel
theorem dL_law_511 : decode cL_law 511 = .ok (.istore 16, 2) := by decide +kernel
theorem dL_law_513 : decode cL_law 513 = .ok (.aload_n 1, 1) := by decide +kernel
theorem dL_law_514 : decode cL_law 514 = .ok (.iload 15, 2) := by decide +kernel
theorem dL_law_516 : decode cL_law 516 = .ok (.invokevirtual 65, 3) := by decide +kernel
theorem dL_law_519 : decode cL_law 519 = .ok (.iload 16, 2) := by decide +kernel
theorem dL_law_521 : decode cL_law 521 = .ok (.if_icmp .eq 5, 3) := by decide +kernel
theorem dL_law_524 : decode cL_law 524 = .ok (.iconst 0, 1) := by decide +kernel
theorem dL_law_525 : decode cL_law 525 = .ok (.ireturn, 1) := by decide +kernel
theorem dL_law_526 : decode cL_law 526 = .ok (.goto 69, 3) := by decide +kernel
theorem dL_law_529 : decode cL_law 529 = .ok (.iload 12, 2) := by decide +kernel
theorem dL_law_531 : decode cL_law 531 = .ok (.bipush 14, 2) := by decide +kernel
theorem dL_law_533 : decode cL_law 533 = .ok (.if_icmp .ne 25, 3) := by decide +kernel
end
section
theorem dL_law_536 : decode cL_law 536 = .ok (.iload 14, 2) := by decide +kernel
theorem dL_law_538 : decode cL_law 538 = .ok (.ifCond .lt 20, 3) := by decide +kernel
theorem dL_law_541 : decode cL_law 541 = .ok (.iload 11, 2) := by decide +kernel
theorem dL_law_543 : decode cL_law 543 = .ok (.iconst 3, 1) := by decide +kernel
theorem dL_law_544 : decode cL_law 544 = .ok (.invokestatic 38, 3) := by decide +kernel
theorem dL_law_547 : decode cL_law 547 = .ok (.ifCond .ne 11, 3) := by decide +kernel
theorem dL_law_550 : decode cL_law 550 = .ok (.aload_n 1, 1) := by decide +kernel
theorem dL_law_551 : decode cL_law 551 = .ok (.invokevirtual 68, 3) := by decide +kernel
theorem dL_law_554 : decode cL_law 554 = .ok (.pop, 1) := by decide +kernel
theorem dL_law_555 : decode cL_law 555 = .ok (.goto 40, 3) := by decide +kernel
theorem dL_law_558 : decode cL_law 558 = .ok (.iload 12, 2) := by decide +kernel
theorem dL_law_560 : decode cL_law 560 = .ok (.bipush 15, 2) := by decide +kernel
theorem dL_law_562 : decode cL_law 562 = .ok (.if_icmp .ne 33, 3) := by decide +kernel
theorem dL_law_565 : decode cL_law 565 = .ok (.aload_n 1, 1) := by decide +kernel
theorem dL_law_566 : decode cL_law 566 = .ok (.invokevirtual 45, 3) := by decide +kernel
theorem dL_law_569 : decode cL_law 569 = .ok (.istore 15, 2) := by decide +kernel
theorem dL_law_571 : decode cL_law 571 = .ok (.aload_n 1, 1) := by decide +kernel
theorem dL_law_572 : decode cL_law 572 = .ok (.invokevirtual 71, 3) := by decide +kernel
theorem dL_law_575 : decode cL_law 575 = .ok (.aload_n 1, 1) := by decide +kernel
theorem dL_law_576 : decode cL_law 576 = .ok (.invokevirtual 41, 3) := by decide +kernel
theorem dL_law_579 : decode cL_law 579 = .ok (.if_icmp .ne 14, 3) := by decide +kernel
theorem dL_law_582 : decode cL_law 582 = .ok (.aload_n 1, 1) := by decide +kernel
theorem dL_law_583 : decode cL_law 583 = .ok (.invokevirtual 45, 3) := by decide +kernel
theorem dL_law_586 : decode cL_law 586 = .ok (.iload 15, 2) := by decide +kernel
theorem dL_law_588 : decode cL_law 588 = .ok (.iconst 1, 1) := by decide +kernel
theorem dL_law_589 : decode cL_law 589 = .ok (.iadd, 1) := by decide +kernel
theorem dL_law_590 : decode cL_law 590 = .ok (.if_icmp .eq 5, 3) := by decide +kernel
theorem dL_law_593 : decode cL_law 593 = .ok (.iconst 0, 1) := by decide +kernel
theorem dL_law_594 : decode cL_law 594 = .ok (.ireturn, 1) := by decide +kernel
theorem dL_law_595 : decode cL_law 595 = .ok (.aload_n 1, 1) := by decide +kernel
theorem dL_law_596 : decode cL_law 596 = .ok (.invokevirtual 74, 3) := by decide +kernel
theorem dL_law_599 : decode cL_law 599 = .ok (.istore 15, 2) := by decide +kernel
theorem dL_law_601 : decode cL_law 601 = .ok (.aload_n 1, 1) := by decide +kernel
theorem dL_law_602 : decode cL_law 602 = .ok (.aload_n 2, 1) := by decide +kernel
theorem dL_law_603 : decode cL_law 603 = .ok (.aload 4, 2) := by decide +kernel
theorem dL_law_605 : decode cL_law 605 = .ok (.aload 5, 2) := by decide +kernel
theorem dL_law_607 : decode cL_law 607 = .ok (.aload 7, 2) := by decide +kernel
theorem dL_law_609 : decode cL_law 609 = .ok (.iload 15, 2) := by decide +kernel
theorem dL_law_611 : decode cL_law 611 = .ok (.invokestatic 77, 3) := by decide +kernel
theorem dL_law_614 : decode cL_law 614 = .ok (.aload_n 1, 1) := by decide +kernel
theorem dL_law_615 : decode cL_law 615 = .ok (.aload_n 2, 1) := by decide +kernel
theorem dL_law_616 : decode cL_law 616 = .ok (.aload_n 3, 1) := by decide +kernel
theorem dL_law_617 : decode cL_law 617 = .ok (.aload 7, 2) := by decide +kernel
theorem dL_law_619 : decode cL_law 619 = .ok (.iload 11, 2) := by decide +kernel
theorem dL_law_621 : decode cL_law 621 = .ok (.bipush 9, 2) := by decide +kernel
theorem dL_law_623 : decode cL_law 623 = .ok (.ishr, 1) := by decide +kernel
theorem dL_law_624 : decode cL_law 624 = .ok (.iconst 4, 1) := by decide +kernel
theorem dL_law_625 : decode cL_law 625 = .ok (.invokestatic 38, 3) := by decide +kernel
theorem dL_law_628 : decode cL_law 628 = .ok (.iload 15, 2) := by decide +kernel
theorem dL_law_630 : decode cL_law 630 = .ok (.iload 11, 2) := by decide +kernel
theorem dL_law_632 : decode cL_law 632 = .ok (.bipush 13, 2) := by decide +kernel
theorem dL_law_634 : decode cL_law 634 = .ok (.ishr, 1) := by decide +kernel
theorem dL_law_635 : decode cL_law 635 = .ok (.iload 15, 2) := by decide +kernel
theorem dL_law_637 : decode cL_law 637 = .ok (.iconst 1, 1) := by decide +kernel
theorem dL_law_638 : decode cL_law 638 = .ok (.iadd, 1) := by decide +kernel
theorem dL_law_639 : decode cL_law 639 = .ok (.invokestatic 38, 3) := by decide +kernel
theorem dL_law_642 : decode cL_law 642 = .ok (.invokestatic 81, 3) := by decide +kernel
theorem dL_law_645 : decode cL_law 645 = .ok (.ifCond .ne 5, 3) := by decide +kernel
theorem dL_law_648 : decode cL_law 648 = .ok (.iconst 0, 1) := by decide +kernel
theorem dL_law_649 : decode cL_law 649 = .ok (.ireturn, 1) := by decide +kernel
theorem dL_law_650 : decode cL_law 650 = .ok (.iinc 9 1, 3) := by decide +kernel
theorem dL_law_653 : decode cL_law 653 = .ok (.goto (-605), 3) := by decide +kernel
theorem dL_law_656 : decode cL_law 656 = .ok (.iconst 1, 1) := by decide +kernel
theorem dL_law_657 : decode cL_law 657 = .ok (.ireturn, 1) := by decide +kernel
end
section
/-! p21: its law's small methods; what the class's calls keep of the numbers -/
theorem sl_Cls.cg {Γ : sl_G} {α : Nat → Nat} {β : Nat → Nat × Nat × Nat} {n : Nat} {ep : Int32} {tl : Nat} {lo : Bool} {T C : Nat → Int32} {E : Nat → sl_Ent} {g g' : sl_W} (h : sl_Cls Γ α β n ep tl lo T C E g) (hg : ∀ k, (k < 9 ∨ 100 ≤ k) → g' k = g k) : sl_Cls Γ α β n ep tl lo T C E g' := by
  obtain ⟨h0, h1, h2, h3, h4, h5, ⟨F, X, fd, h6, h7, h8⟩, hE, hN, hn, ht⟩ := h
  exact ⟨(hg 0 (by omega)).trans h0, (hg 1 (by omega)).trans h1, (hg 2 (by omega)).trans h2, (hg 3 (by omega)).trans h3, (hg 4 (by omega)).trans h4, (hg 5 (by omega)).trans h5, ⟨F, X, fd, (hg 6 (by omega)).trans h6, (hg 7 (by omega)).trans h7, (hg 8 (by omega)).trans h8⟩, hE.mono (fun k hk => hg k (Or.inr hk)), fun k hk => (hg k (by omega)).trans (hN k hk), hn, ht⟩
/-- a method that throws nothing here -/
theorem sl_nox {l : Launch} {y : MethodName} {ws : List Cond} {rm : Room} {Pc : Array Value → State → Prop} {Qc : Array Value → State → Outcome → State → Prop} {Γ : sl_G} {g : sl_W} {xp : String → Prop} {mc ms : Nat} {free : Addr → Prop} (h : vx_Met l y ws rm Pc Qc (sl_X Γ g xp) mc ms free) (hx : ∀ E, ¬ xp E) : Met l y ws rm Pc Qc mc ms free := by
  intro p e ha hc hk s m args below hf hfit hP hK
  obtain ⟨n, o, h1, h2, h3, hQ⟩ := h p e ha hc hk s m args below hf hfit hP hK
  refine ⟨n, o, h1, h2, h3, ?_⟩
  rcases hQ with hQ | ⟨q, ho, E, ce, L, hX, _⟩
  · exact hQ
  · obtain ⟨-, -, hb, -⟩ := hX
    exact absurd hb.1 (hx E)
/-- the script, beside the world -/
def lp_B (Γ : sl_G) (g : sl_W) (b L : Nat) (xs : Nat → Int32) (U : State) : Prop := sl_B Γ g U ∧ va_X b L xs U U.heap ∧ b < U.heap.size
set_option maxHeartbeats 4000000 in
set_option maxRecDepth 100000 in
theorem kL_cell (l : Launch) (Γ : sl_G) (g : sl_W) (b L : Nat) (xs : Nat → Int32) (hL : L ≤ 260) (hz : ¬ sl_A Γ b) (j : Nat) (hj : j < 1000) : Met l yL_cell [Cond.code yL_cell cL_cell 2 (some .int)] ({ frames := 0, cells := 0, slots := 0, locals := 0 } : Room) (va_Pc [.ref b, .int (nI j)] (lp_B Γ g b L xs)) (sl_Qi Γ (fun _ (_ : Unit) => True) (fun _ => g)) 0 0 (sl_A Γ) := by
  refine Met.ofW (cc := cL_cell) (maxL := 2) (ret := some .int) (by decide) rfl ?_
  intro p e s m args below meth c s₁ B hml hv
  obtain ⟨rfl, ⟨h0, hH, hV, hZ⟩, hX, hbl⟩ := hv
  have hl := lv_entry [.ref b, .int (nI j)] (n := 2) (Nat.le_of_ble_eq_true rfl)
  rw [lg_entry_eq]
  generalize (lg_sl ([.ref b, .int (nI j)]) ++ List.replicate (2 - (lg_sl ([.ref b, .int (nI j)])).length) Slot.unset).toArray = ls at hl ⊢
  have hC : sl_C Γ p s m meth c cL_cell 2 RL := ⟨B.exec, B.bytes, hml, findClass_of_methodNamed B.named, B.notSynchronized, h0, hV, hZ⟩
  have hr := B.returns
  have hG : sl_I Γ g s s.heap [] := ⟨hH, va_S.rf⟩
  have hx := hC.1
  have hb := hC.2.1
  have hl : lv_has ls 2 [(0, .ref b), (1, .int (nI j))] := hl
  refine lv_iload_n hx hb dL_cell_0 rfl (lv_at hl 1 rfl) ?_
  refine lv_aload_n hx hb dL_cell_1 rfl (lv_at hl 0 rfl) ?_
  refine va_slen hx hb hX hbl hz hG.2 dL_cell_2 ?_
  refine lv_icmp_ge (tgt := 12) hx hb dL_cell_3 (by decide) (fun c_3 => ?_) (fun c_3 => ?_)
  · refine lv_sipush (v := 7919) hx hb dL_cell_12 (by decide) ?_
    refine lv_iload_n hx hb dL_cell_15 rfl (lv_at hl 1 rfl) ?_
    refine lv_iconst (v := 3) hx hb dL_cell_16 (by decide) ?_
    refine lv_iadd hx hb dL_cell_17 ?_
    refine lv_imul hx hb dL_cell_18 ?_
    refine lv_iload_n hx hb dL_cell_19 rfl (lv_at hl 1 rfl) ?_
    refine lv_bipush (v := 11) hx hb dL_cell_20 (by decide) ?_
    refine lv_iadd hx hb dL_cell_22 ?_
    refine lv_imul hx hb dL_cell_23 ?_
    exact sl_ri hC hr hG () trivial rfl (Nat.le_of_ble_eq_true rfl) (Nat.le_of_ble_eq_true rfl) dL_cell_24
  · have hlt : j < L := by
      have h6 : ¬ (Int32.ofNat L ≤ nI j) := c_3
      rw [sl_leI, show Int32.ofNat L = nI L from rfl, nI_toInt (by omega), nI_toInt (by omega)] at h6
      omega
    refine lv_aload_n hx hb dL_cell_6 rfl (lv_at hl 0 rfl) ?_
    refine lv_iload_n hx hb dL_cell_7 rfl (lv_at hl 1 rfl) ?_
    refine va_sld hx hb hX hbl hz hG.2 (i := nI j) (vp_in_nI (by omega) (by omega)) dL_cell_8 ?_
    refine lv_goto (tgt := 24) hx hb dL_cell_9 (by decide) ?_
    exact sl_ri hC hr hG () trivial rfl (Nat.le_of_ble_eq_true rfl) (Nat.le_of_ble_eq_true rfl) dL_cell_24
section LPC
variable {p : Program} {l : Launch} {e : Env} {R : Room} {s : State} {m : MethodId} {args : Array Value} {below : List Frame} {meth : Method} {c : Code} {H : Heap} {locs : List Loc} {cells slots : Nat} {Q : State → Prop}
variable {cc : ByteArray} {nL pc : Nat} {ls : Array Slot} {rest st0 : List Value} {Γ : sl_G} {own : String} {g : sl_W}
theorem lp_preS {b L : Nat} {xs : Nat → Int32} {As : List Value} (hC : sl_C Γ p s m meth c cc nL own) (hG : sl_I Γ g s H locs) (hX : va_X b L xs s s.heap) (hbl : b < s.heap.size) (hz : ¬ sl_A Γ b) : PreS s H (va_Pc As (lp_B Γ g b L xs)) As := by
  refine ⟨?_, ?_⟩
  · intro a U fr mk ⟨h0, h1, h2, h3⟩
    exact ⟨h0, (sl_blind a U fr mk ⟨h0, h1⟩).2, va_X.moved (U := U.calling fr mk a) (Vm.Alike.refl U.vm) h2, h3⟩
  · intro U hU hW
    have h1 := sl_pre hC hG As U hU hW
    subst hU
    exact ⟨h1.1, h1.2, va_X.kept (va_X.moved hW.alike hX) (hG.2.2.1 b hbl hz), Nat.lt_of_lt_of_le hbl hG.2.1⟩
theorem lp_runC {y : MethodName} {bytes : ByteArray} {maxL mc ms n index : Nat} {ret : Option FieldType} {rm : Room} {Qc : Array Value → State → Outcome → State → Prop} {As : List Value} {b L : Nat} {xs : Nat → Int32} (hC : sl_C Γ p s m meth c cc nL own) (hG : sl_I Γ g s H locs) (hX : va_X b L xs s s.heap) (hbl : b < s.heap.size) (hz : ¬ sl_A Γ b) (hM : Met l y [Cond.code y bytes maxL ret] rm (va_Pc As (lp_B Γ g b L xs)) Qc mc ms (sl_A Γ)) (hm : sl_ms y bytes maxL ret n) (w1 : Cond.methodLink own index y ∈ lw_tbl) (hrc : rm.cells = mc) (hrs : rm.slots = ms) (hR : rm.frames + 1 ≤ R.frames ∧ 8 + (maxL + 11) + rm.locals ≤ R.locals) (hn : As.length = n) (hsz : ls.size = nL) (hst : st0 = As.reverse ++ rest) (hW : (rest.map fun v => v.category).sum ≤ 8) (hdg : decode cc pc = .ok (.invokestatic index, 3)) (hf : cells + mc ≤ R.cells ∧ slots + ms ≤ R.slots) :
    va_Run p l e R s m args below meth c H locs cells slots mc ms (F0 m pc ls st0) rest (Qc As.toArray) (sl_A Γ) :=
  va_runS (sl_fix hC) hM ⟨sl_cB hC hm.1 hm.2.2.1 hm.2.2.2 w1 hrc hrs hR, sl_tab hC hm.2.1 rfl⟩ (lp_preS hC hG hX hbl hz) rfl hn hsz hst (lv_room hW) hdg hf
end LPC
theorem lp_c7 : Cond.constant RL 7 2147483647 ∈ lw_tbl := List.mem_of_getElem? (i := 394) (by decide +kernel)
theorem lp_nn (v : Int32) : 0 ≤ (v &&& 2147483647).toInt := by
  have h : (v &&& 2147483647).toBitVec.toNat ≤ 2147483647 := by
    rw [Int32.toBitVec_and, BitVec.toNat_and]
    exact Nat.le_trans Nat.and_le_right (by decide)
  have h2 : (v &&& 2147483647).toInt = ((v &&& 2147483647).toBitVec.toNat : Int) := BitVec.toInt_eq_toNat_of_lt (by omega)
  omega
theorem lp_rem {x : Int32} {k : Nat} (h0 : 0 ≤ x.toInt) (hk : 0 < k) (hk2 : k < 2 ^ 31) : ∃ j, j < k ∧ x - x / nI k * nI k = nI j := by
  rw [irem_eq_mod]
  have h1 : (x % nI k).toInt = x.toInt.tmod (k : Int) := by rw [Int32.toInt_mod, nI_toInt hk2]
  have h2 : 0 ≤ x.toInt.tmod (k : Int) := Int.tmod_nonneg _ h0
  have h3 : x.toInt.tmod (k : Int) < (k : Int) := Int.tmod_lt_of_pos _ (by omega)
  obtain ⟨j, hj, ej⟩ := sl_nat (v := x % nI k) (n := k - 1) (by omega) (by omega) (by omega)
  exact ⟨j, by omega, ej⟩
set_option maxHeartbeats 4000000 in
set_option maxRecDepth 100000 in
theorem kL_low (l : Launch) (Γ : sl_G) (g : sl_W) (v z : Int32) (k : Nat) (hz : z = nI k) (hk : 0 < k) (hk2 : k < 2 ^ 31) : Met l yL_low [Cond.code yL_low cL_low 2 (some .int)] ({ frames := 0, cells := 0, slots := 0, locals := 0 } : Room) (va_Pc [.int v, .int z] (sl_B Γ g)) (sl_Qi Γ (fun r (_ : Unit) => ∃ j, j < k ∧ r = nI j) (fun _ => g)) 0 0 (sl_A Γ) := by
  subst hz
  refine sl_ent (by decide) (Nat.le_of_ble_eq_true rfl) ?_
  intro p e s m below meth c ls hC hr hin hG hl
  have hx := hC.1
  have hb := hC.2.1
  have hl : lv_has ls 2 [(0, .int v), (1, .int (nI k))] := hl
  refine lv_iload_n hx hb dL_low_0 rfl (lv_at hl 0 rfl) ?_
  refine lv_ldc hx hb hC.2.2.2.1 (sl_tab hC lp_c7 rfl) dL_low_1 ?_
  refine lv_iand hx hb dL_low_3 ?_
  refine lv_iload_n hx hb dL_low_4 rfl (lv_at hl 1 rfl) ?_
  refine lv_irem hx hb dL_low_5 (fun w => ?_) ?_
  · have := congrArg Int32.toInt w
    rw [nI_toInt hk2, sl_i0] at this; omega
  exact sl_ri hC hr hG () (lp_rem (lp_nn v) hk hk2) rfl (Nat.le_of_ble_eq_true rfl) (Nat.le_of_ble_eq_true rfl) dL_low_6
/-- the numbers stay in their bounds: a token is handed out; written; a position is filled -/
theorem lp_wf_take {n tl : Nat} {C : Nat → Int32} {E : Nat → sl_Ent} (hw : sl_wf n tl C E) (hn : n < 150) (ht : tl < 120) {ep ss am rd ver : Int32} {P : Nat → Int32} (hr : 0 ≤ rd.toInt ∧ rd.toInt ≤ 15) (hv : ∃ v, v ≤ 120 ∧ ver = nI v) : sl_wf (n + 1) (tl + 1) C (sl_eu E n (nI tl, ep, ss, am, rd, ver, P, 0)) := by
  obtain ⟨h1, h2, h3, h4, h5⟩ := hw
  have en : sl_eu E n (nI tl, ep, ss, am, rd, ver, P, 0) n = (nI tl, ep, ss, am, rd, ver, P, 0) := if_pos rfl
  have eo : ∀ u, u ≠ n → sl_eu E n (nI tl, ep, ss, am, rd, ver, P, 0) u = E u := fun u hu => if_neg hu
  refine ⟨by omega, by omega, fun i hi => ?_, fun t ht9 => ?_, fun i hi => ?_⟩
  · rcases h3 i hi with e | e | ⟨t, a, b⟩
    · exact Or.inl e
    · exact Or.inr (Or.inl e)
    · exact Or.inr (Or.inr ⟨t, by omega, b⟩)
  · by_cases e : t = n
    · rw [e, en]
      exact ⟨⟨tl, ht, rfl⟩, hv, Or.inr ⟨0, by omega, rfl⟩, hr⟩
    · rw [eo t e]
      exact h4 t (by omega)
  · rw [eo i (by omega)]
    exact h5 i (by omega)
theorem lp_wf_write {n tl : Nat} {C : Nat → Int32} {E : Nat → sl_Ent} (hw : sl_wf n tl C E) {t : Nat} (ht : t < n) (hb : ¬ ((E t).2.2.2.2.2.2.2 = -1 ∨ (E t).2.2.2.2.2.2.2 = 3)) :
    sl_wf n tl (if sl_cg C (E t).2.2.2.2.2.2.2 (E t).1 = -1 then C else sl_cp C (E t).2.2.2.2.2.2.2 (E t).1 (nI t)) (sl_es E t (if sl_cg C (E t).2.2.2.2.2.2.2 (E t).1 = -1 then -1 else (E t).2.2.2.2.2.2.2 + 1)) := by
  obtain ⟨h1, h2, h3, h4, h5⟩ := hw
  obtain ⟨k, hk3, ek⟩ := (h4 t ht).2.2.1.elim (fun w => absurd (Or.inl w) hb) id
  have hk : k < 3 := by
    have : k ≠ 3 := fun w => hb (Or.inr (by rw [ek, w]; rfl))
    omega
  refine ⟨h1, h2, fun i hi => ?_, fun u hu => ?_, fun i hi => ?_⟩
  · have key : (if sl_cg C (E t).2.2.2.2.2.2.2 (E t).1 = -1 then C else sl_cp C (E t).2.2.2.2.2.2.2 (E t).1 (nI t)) i = C i ∨ (if sl_cg C (E t).2.2.2.2.2.2.2 (E t).1 = -1 then C else sl_cp C (E t).2.2.2.2.2.2.2 (E t).1 (nI t)) i = nI t := by
      split
      · exact Or.inl rfl
      · rw [sl_cp]
        split
        · by_cases e : i = 120 * (E t).2.2.2.2.2.2.2.toNatClampNeg + (E t).1.toNatClampNeg
          · rw [e, pk_us]; exact Or.inr rfl
          · rw [pk_un e]; exact Or.inl rfl
        · exact Or.inl rfl
    rcases key with w | w
    · rw [w]; exact h3 i hi
    · rw [w]; exact Or.inr (Or.inr ⟨t, ht, rfl⟩)
  · by_cases e : u = t
    · subst e
      rw [sl_es_at]
      refine ⟨(h4 u hu).1, (h4 u hu).2.1, ?_, (h4 u hu).2.2.2⟩
      show (if _ then (-1 : Int32) else _) = -1 ∨ _
      split
      · exact Or.inl rfl
      · exact Or.inr ⟨k + 1, by omega, by rw [ek, nI_1]⟩
    · rw [sl_es_ne e]
      exact h4 u hu
  · rw [sl_es_ne (by omega)]
    exact h5 i hi
theorem lp_cp_or (C : Nat → Int32) (r p v : Int32) (i : Nat) : sl_cp C r p v i = C i ∨ sl_cp C r p v i = v := by
  rw [sl_cp]
  split
  · by_cases e : i = 120 * r.toNatClampNeg + p.toNatClampNeg
    · rw [e, pk_us]; exact Or.inr rfl
    · rw [pk_un e]; exact Or.inl rfl
  · exact Or.inl rfl
theorem lp_wf_fill {n tl : Nat} {C : Nat → Int32} {E : Nat → sl_Ent} (hw : sl_wf n tl C E) {b : Nat} (hb : b < 120) : sl_wf n tl (sl_cf C b (if (sl_tok n (C b)).isSome = true then C b else -1)) E := by
  obtain ⟨h1, h2, h3, h4, h5⟩ := hw
  refine ⟨h1, h2, fun i hi => ?_, h4, h5⟩
  generalize hv : (if (sl_tok n (C b)).isSome = true then C b else -1) = v
  have hv2 : v = -1 ∨ v = -2 ∨ ∃ t, t < n ∧ v = nI t := by
    rw [← hv]
    split
    · exact h3 b (by omega)
    · exact Or.inl rfl
  have key : sl_cf C b v i = C i ∨ sl_cf C b v i = v := by
    rw [sl_cf]
    rcases lp_cp_or (sl_cp (sl_cp C 0 (nI b) v) 1 (nI b) v) 2 (nI b) v i with e | e
    · rw [e]
      rcases lp_cp_or (sl_cp C 0 (nI b) v) 1 (nI b) v i with e | e
      · rw [e]
        exact lp_cp_or C 0 (nI b) v i
      · exact Or.inr e
    · exact Or.inr e
  rcases key with w | w
  · rw [w]; exact h3 i hi
  · rw [w]; exact hv2
theorem lp_wf_seal {n tl tl2 : Nat} {C : Nat → Int32} {E : Nat → sl_Ent} (hw : sl_wf n tl C E) (h : tl2 ≤ 120) : sl_wf n tl2 C E := ⟨hw.1, h, hw.2.2⟩
/-- behind the last written cell, known, ahead of the tail -/
theorem lp_ef_le {C : Nat → Int32} {tl : Nat} (hem : ∀ p, tl ≤ p → p < 120 → C p = -2 ∧ C (120 + p) = -2 ∧ C (240 + p) = -2) : ∀ m, m ≤ 120 → sl_ef C m ≤ tl
  | 0, _ => Nat.zero_le _
  | m + 1, hm => by
    rw [sl_ef]
    split
    · exact lp_ef_le hem m (by omega)
    · rename_i h
      by_cases e : tl ≤ m
      · exact absurd ((sl_cwz C m).mpr (hem m e (by omega))) h
      · omega
theorem lp_kn_le {C : Nat → Int32} {tl : Nat} (htl : tl ≤ 120) (hem : ∀ p, tl ≤ p → p < 120 → C p = -2 ∧ C (120 + p) = -2 ∧ C (240 + p) = -2) : sl_kn C ≤ tl := by
  refine Nat.le_of_not_lt (fun h => ?_)
  have h1 : tl < 120 := Nat.lt_of_lt_of_le h (sl_kn_le C)
  have h2 := sl_kf_wh C 120 tl h
  have h3 := (hem tl (Nat.le_refl _) h1).1
  have h4 := sl_wh_iff.mpr (Or.inl h3)
  rw [h4] at h2
  cases h2
/-- a known position holds the same on all replicas, and is not empty -/
theorem lp_kn_same {n e : Nat} {ep : Int32} {tl : Nat} {T C : Nat → Int32} {E : Nat → sl_Ent} (h : sl_J n e ep tl T C E) {p : Nat} (hp : p < sl_kn C) : C (120 + p) = C p ∧ C (240 + p) = C p ∧ ¬ C p = -2 := by
  have h2 : sl_wh C p = true := sl_kf_wh C 120 p hp
  have h3 : ¬ (C p = -2 ∨ C (120 + p) = -2 ∨ C (240 + p) = -2) := fun w => by
    rw [sl_wh_iff.mpr w] at h2
    cases h2
  have h9 := sl_kn_le C
  obtain ⟨j1, j2, -⟩ := h.jp p (by omega)
  have a1 : C (120 + p) = C p := j1.elim id (fun w => absurd (Or.inr (Or.inl w)) h3)
  have a2 : C (240 + p) = C (120 + p) := j2.elim id (fun w => absurd (Or.inr (Or.inr w)) h3)
  exact ⟨a1, a2.trans a1, fun w => h3 (Or.inl w)⟩
theorem lp_cg1 (C : Nat → Int32) {b : Nat} (hb : b < 120) : sl_cg C 1 (nI b) = C (120 + b) := sl_cgN C (a := 1) (b := b) (by omega) hb
theorem lp_cg2 (C : Nat → Int32) {b : Nat} (hb : b < 120) : sl_cg C 2 (nI b) = C (240 + b) := sl_cgN C (a := 2) (b := b) (by omega) hb
end
section
/-! p21: its law's folding of the known positions -/
/-- 1 more than the token at a position whose entry takes effect, else 0 -/
def lp_ef (n : Nat) (C : Nat → Int32) (E : Nat → sl_Ent) (q : Nat) : Int32 := if sl_ev n C E q = true then C q + 1 else 0
theorem lp_ef_y {n q : Nat} {C : Nat → Int32} {E : Nat → sl_Ent} (h : sl_ev n C E q = true) : lp_ef n C E q = C q + 1 := if_pos h
theorem lp_ef_n {n q : Nat} {C : Nat → Int32} {E : Nat → sl_Ent} (h : sl_ev n C E q = false) : lp_ef n C E q = 0 := if_neg (by rw [h]; decide)
theorem lp_ef_t {n q : Nat} {C : Nat → Int32} {E : Nat → sl_Ent} (hn : n ≤ 150) (h : sl_ev n C E q = true) : ∃ u, u < n ∧ C q = nI u ∧ sl_tok n (C q) = some u ∧ lp_ef n C E q = nI (u + 1) := by
  obtain ⟨u, h1, h2, h3⟩ := sl_ev_tok hn h
  exact ⟨u, h1, h2, h3, by rw [lp_ef_y h, h2, nI_1]⟩
theorem lp_ef_0 {n q : Nat} {C : Nat → Int32} {E : Nat → sl_Ent} (hn : n ≤ 150) (h : lp_ef n C E q = 0) : sl_ev n C E q = false := by
  cases e : sl_ev n C E q
  · rfl
  · obtain ⟨u, h1, -, -, h4⟩ := lp_ef_t hn e
    rw [h4] at h
    have := congrArg Int32.toInt h
    rw [nI_toInt (by omega), sl_i0] at this
    omega
theorem lp_ef_1 {n q : Nat} {C : Nat → Int32} {E : Nat → sl_Ent} (h : ¬ lp_ef n C E q = 0) : sl_ev n C E q = true := by
  cases e : sl_ev n C E q
  · exact absurd (lp_ef_n e) h
  · rfl
theorem lp_ef_z {n q : Nat} {C : Nat → Int32} {E : Nat → sl_Ent} (hn : n ≤ 150) (h : lp_ef n C E q ≤ 0) : sl_ev n C E q = false := by
  cases e : sl_ev n C E q
  · rfl
  · obtain ⟨u, h1, -, -, h4⟩ := lp_ef_t hn e
    rw [h4, sl_leI, nI_toInt (by omega), sl_i0] at h
    omega
theorem lp_ef_gt {n q : Nat} {C : Nat → Int32} {E : Nat → sl_Ent} (h : ¬ lp_ef n C E q ≤ 0) : sl_ev n C E q = true := lp_ef_1 (fun z => h (by rw [z]; decide))
theorem lp_fu {n k : Nat} {C : Nat → Int32} {E : Nat → sl_Ent} {F : Nat → Int32} {z : Int32} (h1 : ∀ q, q < k → F q = lp_ef n C E q) (h2 : z = lp_ef n C E k) : ∀ q, q < k + 1 → upd F k z q = lp_ef n C E q := by
  intro q hq
  by_cases e : q = k
  · rw [e, pk_us, h2]
  · rw [pk_un e]
    exact h1 q (by omega)
theorem lp_iq_d {n q v : Nat} {C : Nat → Int32} {E : Nat → sl_Ent} {rd : Int32} (h : sl_iq n C E rd v q = false) : ∀ d, sl_iq n C E rd v (q + d) = false
  | 0 => h
  | d + 1 => by
    rw [← Nat.add_assoc, sl_iq, lp_iq_d h d]; rfl
theorem lp_iq_f {n q p v : Nat} {C : Nat → Int32} {E : Nat → sl_Ent} {rd : Int32} (h : sl_iq n C E rd v q = false) (hq : q ≤ p) : sl_iq n C E rd v p = false := by
  have := lp_iq_d h (p - q)
  rwa [show q + (p - q) = p by omega] at this
/-- one position more: it does not take effect; or it does, and shares no stream; or it shares one -/
theorem lp_iq_a {n q v : Nat} {C : Nat → Int32} {E : Nat → sl_Ent} {rd : Int32} (hb : true = sl_iq n C E rd v q) (h : sl_ev n C E q = false) : true = sl_iq n C E rd v (q + 1) := by
  rw [sl_iq, ← hb, h, Bool.and_false]; rfl
theorem lp_iq_b {n q v u : Nat} {C : Nat → Int32} {E : Nat → sl_Ent} {rd : Int32} (hb : true = sl_iq n C E rd v q) (ht : sl_tok n (C q) = some u) (h : (E u).2.2.1 &&& rd = 0) : true = sl_iq n C E rd v (q + 1) := by
  rw [sl_iq, ← hb, sl_is_1 ht, show decide (¬ ((E u).2.2.1 &&& rd = 0)) = false from decide_eq_false (fun z => z h), Bool.and_false]; rfl
theorem lp_iq_c {n q v u : Nat} {C : Nat → Int32} {E : Nat → sl_Ent} {rd : Int32} (hv : v ≤ q) (he : sl_ev n C E q = true) (ht : sl_tok n (C q) = some u) (h : ¬ (E u).2.2.1 &&& rd = 0) : false = sl_iq n C E rd v (q + 1) := by
  rw [sl_iq, sl_is_1 ht, decide_eq_true h, he, decide_eq_true hv, Bool.and_true, Bool.and_true, Bool.not_true, Bool.and_false]
theorem lp_ca {x : Int32} {b : Nat} (hx : sl_in x 0 2 = true) (hb : b < 120) (h : (sl_in x 0 2 && sl_in (nI b) 0 119) = false) : False := by
  rw [hx, sl_nIin (n := 119) sl_i119 (by omega) (by omega)] at h
  cases h
/-- a step's answer says that another one could come -/
def lp_cn (v : Int32) : Bool := decide (0 ≤ v) && decide (v < 3)
theorem lp_cn_n {v : Int32} (h : v < 0) : (0 : Int32) = sl_bi (lp_cn v) := by
  have h2 : decide (0 ≤ v) = false := decide_eq_false (fun z => by rw [sl_ltI, sl_i0] at h; rw [sl_leI, sl_i0] at z; omega)
  rw [lp_cn, h2]; rfl
theorem lp_cn_f {v : Int32} (h : 3 ≤ v) : (0 : Int32) = sl_bi (lp_cn v) := by
  have h2 : decide (v < 3) = false := decide_eq_false (fun z => by rw [sl_ltI] at z; rw [sl_leI] at h; omega)
  rw [lp_cn, h2, Bool.and_false]; rfl
theorem lp_cn_y {v : Int32} (h : ¬ v < 0) (h2 : ¬ 3 ≤ v) : (1 : Int32) = sl_bi (lp_cn v) := by
  have h3 : decide (0 ≤ v) = true := decide_eq_true (by rw [sl_ltI, sl_i0] at h; rw [sl_leI, sl_i0]; omega)
  have h4 : decide (v < 3) = true := decide_eq_true (by rw [sl_leI] at h2; rw [sl_ltI]; omega)
  rw [lp_cn, h3, h4]; rfl
set_option maxHeartbeats 4000000 in
set_option maxRecDepth 100000 in
theorem kL_writes (l : Launch) (Γ : sl_G) (g : sl_W) (hlt : l.stackTraces = false) (α : Nat → Nat) (β : Nat → Nat × Nat × Nat) (n : Nat) (ep : Int32) (tl : Nat) (lo : Bool) (T C : Nat → Int32) (E : Nat → sl_Ent) (hK : sl_Cls Γ α β n ep tl lo T C E g) (t : Nat) (ht : t < n) (hok : ¬ ((E t).2.2.2.2.2.2.2 = -1 ∨ (E t).2.2.2.2.2.2.2 = 3 ∨ ¬ (E t).2.1 = ep)) : Met l yL_writes [Cond.code yL_writes cL_writes 3 (some .boolean)] ({ frames := 7, cells := 1, slots := 6, locals := 122 } : Room) (va_Pc [.ref (α 0), .int (nI t)] (sl_B Γ g)) (sl_Qi Γ (fun r g' => r = sl_bi (lp_cn (if sl_cg C (E t).2.2.2.2.2.2.2 (E t).1 = -1 then -1 else (E t).2.2.2.2.2.2.2 + 1)) ∧ sl_Cls Γ α β n ep tl lo T (if sl_cg C (E t).2.2.2.2.2.2.2 (E t).1 = -1 then C else sl_cp C (E t).2.2.2.2.2.2.2 (E t).1 (nI t)) (sl_es E t (if sl_cg C (E t).2.2.2.2.2.2.2 (E t).1 = -1 then -1 else (E t).2.2.2.2.2.2.2 + 1)) g' ∧ sl_fr g g') (fun g' => g')) 1 6 (sl_A Γ) := by
  refine sl_ent (by decide) (Nat.le_of_ble_eq_true rfl) ?_
  intro p e s m below meth c ls hC hr hin hG hl
  have hx := hC.1
  have hb := hC.2.1
  have hl : lv_has ls 3 [(0, .ref (α 0)), (1, .int (nI t))] := hl
  refine lv_aload_n hx hb dL_writes_0 rfl (lv_at hl 0 rfl) ?_
  refine lv_iload_n hx hb dL_writes_1 rfl (lv_at hl 1 rfl) ?_
  refine sl_calli (sl_runV (As := [.int (nI t)]) (rest := []) hC hG (sl_nox (kX4_write l hlt Γ g α β n ep tl lo T C E hK (nI t)) (fun E9 z => z.elim (fun z => by rw [sl_tokN ht hK.2.2.2.2.2.2.2.2.2.1] at z; exact absurd z.2 (by simp)) (fun z => by obtain ⟨-, t9, k1, k2⟩ := z; rw [sl_tokN ht hK.2.2.2.2.2.2.2.2.2.1] at k1; cases k1; exact hok k2))) mi_X4_write lk_RL_27 0 hK.1 rfl rfl rfl ⟨Nat.le_of_ble_eq_true rfl, Nat.le_of_ble_eq_true rfl⟩ rfl hl.1 rfl (Nat.le_of_ble_eq_true rfl) dL_writes_2 ⟨Nat.le_of_ble_eq_true rfl, Nat.le_of_ble_eq_true rfl⟩) hG (fun r_2 u_2 H locs hr_2 hG => ?_)
  obtain ⟨t9, k1, k2, k3, k4, k5⟩ := hr_2
  have k6 : t = t9 := Option.some.inj ((sl_tokN ht hK.2.2.2.2.2.2.2.2.2.1).symm.trans k1)
  subst k6
  have hG : sl_I Γ u_2 s H locs := hG
  subst k3
  refine lv_istore_n (lv' := [(2, .int (if sl_cg C (E t).2.2.2.2.2.2.2 (E t).1 = -1 then -1 else (E t).2.2.2.2.2.2.2 + 1)), (0, .ref (α 0)), (1, .int (nI t))]) hx hb dL_writes_5 rfl hl (by decide) rfl (fun ls hl => ?_)
  refine lv_iload_n hx hb dL_writes_6 rfl (lv_at hl 0 rfl) ?_
  refine lv_if_lt (tgt := 19) hx hb dL_writes_7 (by decide) (fun c_7 => ?_) (fun c_7 => ?_)
  · refine lv_iconst (v := 0) hx hb dL_writes_19 (by decide) ?_
    exact sl_rz (v := 0) hC hr rfl hG u_2 ⟨lp_cn_n c_7, k4, k5⟩ rfl (Nat.le_of_ble_eq_true rfl) (Nat.le_of_ble_eq_true rfl) dL_writes_20
  · refine lv_iload_n hx hb dL_writes_10 rfl (lv_at hl 0 rfl) ?_
    refine lv_iconst (v := 3) hx hb dL_writes_11 (by decide) ?_
    refine lv_icmp_ge (tgt := 19) hx hb dL_writes_12 (by decide) (fun c_12 => ?_) (fun c_12 => ?_)
    · refine lv_iconst (v := 0) hx hb dL_writes_19 (by decide) ?_
      exact sl_rz (v := 0) hC hr rfl hG u_2 ⟨lp_cn_f c_12, k4, k5⟩ rfl (Nat.le_of_ble_eq_true rfl) (Nat.le_of_ble_eq_true rfl) dL_writes_20
    · refine lv_iconst (v := 1) hx hb dL_writes_15 (by decide) ?_
      refine lv_goto (tgt := 20) hx hb dL_writes_16 (by decide) ?_
      exact sl_rz (v := 1) hC hr rfl hG u_2 ⟨lp_cn_y c_7 c_12, k4, k5⟩ rfl (Nat.le_of_ble_eq_true rfl) (Nat.le_of_ble_eq_true rfl) dL_writes_20
set_option maxHeartbeats 4000000 in
set_option maxRecDepth 100000 in
theorem kL_folds (l : Launch) (Γ : sl_G) (g : sl_W) (hlt : l.stackTraces = false) (α : Nat → Nat) (β : Nat → Nat × Nat × Nat) (n : Nat) (ep : Int32) (tl : Nat) (lo : Bool) (T C : Nat → Int32) (E : Nat → sl_Ent) (hK : sl_Cls Γ α β n ep tl lo T C E g) (hw : sl_wf n tl C E) (hST : sl_ST n E) (hk60 : sl_kn C ≤ 60) (hn60 : n ≤ 60) (a1 a3 a4 a6 : Nat) (S R V Fz : Nat → Int32) (h41 : g 41 = some (a1, .inl (Γ.2.1 0, 60, .inl S))) (h43 : g 43 = some (a3, .inl (Γ.2.1 0, 60, .inl R))) (h44 : g 44 = some (a4, .inl (Γ.2.1 0, 60, .inl V))) (h46 : g 46 = some (a6, .inl (Γ.2.1 0, 60, .inl Fz))) (hS : ∀ t, t < n → S t = (E t).2.2.1) (hR : ∀ t, t < n → R t = (E t).2.2.2.2.1) (hV : ∀ t, t < n → V t = (E t).2.2.2.2.2.1) : Met l yL_folds [Cond.code yL_folds cL_folds 10 none] ({ frames := 7, cells := 60, slots := 360, locals := 122 } : Room) (va_Pc [.ref (α 0), .ref a1, .ref a3, .ref a4, .ref a6, .int (nI (sl_kn C))] (sl_B Γ g)) (sl_Qv Γ (fun (F : Nat → Int32) => ∀ q, q < sl_kn C → F q = lp_ef n C E q) (fun F => sl_up g 46 (a6, .inl (Γ.2.1 0, 60, .inl F)))) 60 360 (sl_A Γ) := by
  refine sl_ent (by decide) (Nat.le_of_ble_eq_true rfl) ?_
  intro p e s m below meth c ls hC hr hin hG hl
  have hx := hC.1
  have hb := hC.2.1
  have hl : lv_has ls 10 [(0, .ref (α 0)), (1, .ref a1), (2, .ref a3), (3, .ref a4), (4, .ref a6), (5, .int (nI (sl_kn C)))] := hl
  have hn9 := hw.1
  refine lv_iconst (v := 0) hx hb dL_folds_0 (by decide) ?_
  refine lv_istore (lv' := [(6, .int 0), (0, .ref (α 0)), (1, .ref a1), (2, .ref a3), (3, .ref a4), (4, .ref a6), (5, .int (nI (sl_kn C)))]) hx hb dL_folds_1 hl (by decide) rfl (fun ls hl => ?_)
  have loop_3 : ∀ (fuel pp : Nat) (F : Nat → Int32) (cs : Nat) (ss : Nat), pp ≤ sl_kn C → sl_kn C + 1 ≤ pp + fuel → (cs + (60 - pp) ≤ 60) → (ss + 6 * (60 - pp) ≤ 360) → (∀ q, q < pp → F q = lp_ef n C E q) → ∀ (H : Heap) (locs : List Loc), sl_I Γ (sl_up g 46 (a6, .inl (Γ.2.1 0, 60, .inl F))) s H locs → ∀ (ls : Array Slot), lv_has ls 10 [(0, .ref (α 0)), (1, .ref a1), (2, .ref a3), (3, .ref a4), (4, .ref a6), (5, .int (nI (sl_kn C))), (6, .int (nI pp))] → W p l e ({ frames := 7, cells := 60, slots := 360, locals := 122 } : Room) s m ([.ref (α 0), .ref a1, .ref a3, .ref a4, .ref a6, .int (nI (sl_kn C))] : List Value).toArray below meth c H locs cs ss (MQ below (sl_Qv Γ (fun (F : Nat → Int32) => ∀ q, q < sl_kn C → F q = lp_ef n C E q) (fun F => sl_up g 46 (a6, .inl (Γ.2.1 0, 60, .inl F)))) ([.ref (α 0), .ref a1, .ref a3, .ref a4, .ref a6, .int (nI (sl_kn C))] : List Value).toArray s 60 360 (sl_A Γ)) (F0 m 3 ls []) := by
    intro fuel
    induction fuel with
    | zero =>
      intro pp F cs ss h1 h2
      exact absurd h2 (by omega)
    | succ fuel ih_3 =>
      intro pp F cs ss hk_3 hn_3 hcs hss hF H locs hG ls hl
      refine lv_iload hx hb dL_folds_3 (lv_at hl 6 rfl) ?_
      refine lv_iload hx hb dL_folds_5 (lv_at hl 5 rfl) ?_
      refine lv_icmp_ge (tgt := 128) hx hb dL_folds_7 (by decide) (fun c_7 => ?_) (fun c_7 => ?_)
      · have n_7 : sl_kn C ≤ pp := (nI_leI (a := sl_kn C) (b := pp) (by omega) (by omega)).mp c_7
        exact sl_rv hC hr hG F (fun q hq => hF q (by omega)) rfl (by omega) (by omega) dL_folds_128
      · have n_7 : ¬ (sl_kn C ≤ pp) := fun z => c_7 ((nI_leI (a := sl_kn C) (b := pp) (by omega) (by omega)).mpr z)
        refine lv_aload_n hx hb dL_folds_10 rfl (lv_at hl 0 rfl) ?_
        refine lv_iconst (v := 0) hx hb dL_folds_11 (by decide) ?_
        refine lv_iload hx hb dL_folds_12 (lv_at hl 6 rfl) ?_
        refine sl_calli (sl_runV (As := [.int 0, .int (nI pp)]) (rest := []) hC hG (sl_nox (kX4_cellAt l hlt Γ (sl_up g 46 (a6, .inl (Γ.2.1 0, 60, .inl F))) α β n ep tl lo T C E (hK.cg (fun k hk => sl_up_n _ _ (by omega))) 0 (nI pp)) (fun E9 z => lp_ca (by decide) (by omega) z.2)) mi_X4_cellAt lk_RL_8 0 (sl_up_to (by decide) hK.1) rfl rfl rfl ⟨Nat.le_of_ble_eq_true rfl, Nat.le_of_ble_eq_true rfl⟩ rfl hl.1 rfl (Nat.le_of_ble_eq_true rfl) dL_folds_14 ⟨(by show _ + _ ≤ 60; omega), (by show _ + _ ≤ 360; omega)⟩) hG (fun r_14 u_14 H locs hr_14 hG => ?_)
        refine sl_topi (y := C pp) (hr_14.2.trans (sl_cg0 C (by omega))) ?_
        refine lv_istore (lv' := [(7, .int (C pp)), (0, .ref (α 0)), (1, .ref a1), (2, .ref a3), (3, .ref a4), (4, .ref a6), (5, .int (nI (sl_kn C))), (6, .int (nI pp))]) hx hb dL_folds_17 hl (by decide) rfl (fun ls hl => ?_)
        refine lv_iload hx hb dL_folds_19 (lv_at hl 0 rfl) ?_
        refine lv_if_lt (tgt := 28) hx hb dL_folds_21 (by decide) (fun c_21 => ?_) (fun c_21 => ?_)
        · have etok : sl_tok n (C pp) = none := sl_ce_neg hn9 (hw.2.2.1 pp (by omega)) c_21
          refine lv_iconst (v := 0) hx hb dL_folds_28 (by decide) ?_
          refine lv_istore (lv' := [(8, .int 0), (7, .int (C pp)), (0, .ref (α 0)), (1, .ref a1), (2, .ref a3), (3, .ref a4), (4, .ref a6), (5, .int (nI (sl_kn C))), (6, .int (nI pp))]) hx hb dL_folds_29 hl (by decide) rfl (fun ls hl => ?_)
          refine lv_iload hx hb dL_folds_31 (lv_at hl 0 rfl) ?_
          refine lv_if_eq (tgt := 43) hx hb dL_folds_33 (by decide) (fun c_33 => ?_) (fun c_33 => ?_)
          · refine lv_iload hx hb dL_folds_43 (lv_at hl 8 rfl) ?_
            refine lv_istore (lv' := [(9, .int (nI pp)), (8, .int 0), (7, .int (C pp)), (0, .ref (α 0)), (1, .ref a1), (2, .ref a3), (3, .ref a4), (4, .ref a6), (5, .int (nI (sl_kn C))), (6, .int (nI pp))]) hx hb dL_folds_45 hl (by decide) rfl (fun ls hl => ?_)
            refine lv_iload hx hb dL_folds_47 (lv_at hl 0 rfl) ?_
            refine lv_iload hx hb dL_folds_49 (lv_at hl 9 rfl) ?_
            refine lv_icmp_ge (tgt := 104) hx hb dL_folds_51 (by decide) (fun c_51 => ?_) (fun c_51 => ?_)
            · have n_51 : pp ≤ pp := (nI_leI (a := pp) (b := pp) (by omega) (by omega)).mp c_51
              refine lv_aload hx hb dL_folds_104 (lv_at hl 7 rfl) ?_
              refine lv_iload hx hb dL_folds_106 (lv_at hl 9 rfl) ?_
              refine lv_iload hx hb dL_folds_108 (lv_at hl 1 rfl) ?_
              refine lv_if_eq (tgt := 120) hx hb dL_folds_110 (by decide) (fun c_110 => ?_) (fun c_110 => ?_)
              · refine lv_iconst (v := 0) hx hb dL_folds_120 (by decide) ?_
                refine sl_iastN hC hG 46 (sl_up_s _ _ _) (j := pp) rfl (by omega) (by omega) dL_folds_121 (fun H locs hG => ?_)
                rw [sl_up_up] at hG
                have hG : sl_I Γ (sl_up g 46 (a6, .inl (Γ.2.1 0, 60, .inl (upd F pp 0)))) s H _ := hG
                refine lv_iinc (v := nI (pp + 1)) (lv' := [(6, .int (nI (pp + 1))), (9, .int (nI pp)), (8, .int 0), (7, .int (C pp)), (0, .ref (α 0)), (1, .ref a1), (2, .ref a3), (3, .ref a4), (4, .ref a6), (5, .int (nI (sl_kn C)))]) hx hb dL_folds_122 hl (k := 9) rfl (nI_1 pp) (by decide) rfl (fun ls hl => ?_)
                refine lv_goto (tgt := 3) hx hb dL_folds_125 (by decide) ?_
                exact ih_3 (pp + 1) (upd F pp 0) (cs + 1) (ss + 6) (by omega) (by omega) (by omega) (by omega) (lp_fu hF ((lp_ef_n (sl_ev_0 etok)).symm)) _ _ hG _ (lv_sub hl [4, 5, 6, 7, 8, 9, 0] rfl)
              · exact absurd c_110 (by decide)
            · exact absurd (show nI pp ≤ nI pp by rw [sl_leI]; omega) c_51
          · exact absurd c_33 (by decide)
        · obtain ⟨t, ht, et, etok⟩ := sl_ce_pos hn9 (hw.2.2.1 pp (by omega)) c_21
          obtain ⟨v, hv, ev⟩ := (hw.2.2.2.1 t ht).2.1
          have hrd := (hw.2.2.2.1 t ht).2.2.2
          have hei := sl_ev_iq hST (by omega) etok hrd.1 hrd.2 hv ev
          refine lv_iconst (v := 1) hx hb dL_folds_24 (by decide) ?_
          refine lv_goto (tgt := 29) hx hb dL_folds_25 (by decide) ?_
          refine lv_istore (lv' := [(8, .int 1), (7, .int (C pp)), (0, .ref (α 0)), (1, .ref a1), (2, .ref a3), (3, .ref a4), (4, .ref a6), (5, .int (nI (sl_kn C))), (6, .int (nI pp))]) hx hb dL_folds_29 hl (by decide) rfl (fun ls hl => ?_)
          refine lv_iload hx hb dL_folds_31 (lv_at hl 0 rfl) ?_
          refine lv_if_eq (tgt := 43) hx hb dL_folds_33 (by decide) (fun c_33 => ?_) (fun c_33 => ?_)
          · exact absurd c_33 (by decide)
          · refine lv_aload_n hx hb dL_folds_36 rfl (lv_at hl 5 rfl) ?_
            refine lv_iload hx hb dL_folds_37 (lv_at hl 1 rfl) ?_
            refine sl_ialdN hC hG 44 (sl_up_to (by decide) h44) (j := t) et (by omega) (by omega) dL_folds_39 ?_
            refine sl_topi (y := nI v) ((hV t ht).trans ev) ?_
            refine lv_goto (tgt := 45) hx hb dL_folds_40 (by decide) ?_
            refine lv_istore (lv' := [(9, .int (nI v)), (8, .int 1), (7, .int (C pp)), (0, .ref (α 0)), (1, .ref a1), (2, .ref a3), (3, .ref a4), (4, .ref a6), (5, .int (nI (sl_kn C))), (6, .int (nI pp))]) hx hb dL_folds_45 hl (by decide) rfl (fun ls hl => ?_)
            have loop_47 : ∀ (fuel q : Nat) (b : Bool), q ≤ v + pp → v + pp + 1 ≤ q + fuel → (v ≤ q) → (q ≤ v ∨ q ≤ pp) → (b = sl_iq n C E (E t).2.2.2.2.1 v q) → ∀ (H : Heap) (locs : List Loc), sl_I Γ (sl_up g 46 (a6, .inl (Γ.2.1 0, 60, .inl F))) s H locs → ∀ (ls : Array Slot), lv_has ls 10 [(0, .ref (α 0)), (1, .ref a1), (2, .ref a3), (3, .ref a4), (4, .ref a6), (5, .int (nI (sl_kn C))), (6, .int (nI pp)), (7, .int (C pp)), (8, .int (sl_bi b)), (9, .int (nI q))] → W p l e ({ frames := 7, cells := 60, slots := 360, locals := 122 } : Room) s m ([.ref (α 0), .ref a1, .ref a3, .ref a4, .ref a6, .int (nI (sl_kn C))] : List Value).toArray below meth c H locs (cs + 1) (ss + 6) (MQ below (sl_Qv Γ (fun (F : Nat → Int32) => ∀ q, q < sl_kn C → F q = lp_ef n C E q) (fun F => sl_up g 46 (a6, .inl (Γ.2.1 0, 60, .inl F)))) ([.ref (α 0), .ref a1, .ref a3, .ref a4, .ref a6, .int (nI (sl_kn C))] : List Value).toArray s 60 360 (sl_A Γ)) (F0 m 47 ls []) := by
              intro fuel
              induction fuel with
              | zero =>
                intro q b h1 h2
                exact absurd h2 (by omega)
              | succ fuel ih_47 =>
                intro q b hk_47 hn_47 hvq hqp hbq H locs hG ls hl
                refine lv_iload hx hb dL_folds_47 (lv_at hl 9 rfl) ?_
                refine lv_iload hx hb dL_folds_49 (lv_at hl 6 rfl) ?_
                refine lv_icmp_ge (tgt := 104) hx hb dL_folds_51 (by decide) (fun c_51 => ?_) (fun c_51 => ?_)
                · have n_51 : pp ≤ q := (nI_leI (a := pp) (b := q) (by omega) (by omega)).mp c_51
                  have hev : sl_ev n C E pp = b := by rw [hei, hbq]; exact (sl_iq_x (by omega) hvq (by omega)).symm
                  refine lv_aload hx hb dL_folds_104 (lv_at hl 4 rfl) ?_
                  refine lv_iload hx hb dL_folds_106 (lv_at hl 6 rfl) ?_
                  refine lv_iload hx hb dL_folds_108 (lv_at hl 8 rfl) ?_
                  refine lv_if_eq (tgt := 120) hx hb dL_folds_110 (by decide) (fun c_110 => ?_) (fun c_110 => ?_)
                  · have c_110 := sl_bF c_110
                    refine lv_iconst (v := 0) hx hb dL_folds_120 (by decide) ?_
                    refine sl_iastN hC hG 46 (sl_up_s _ _ _) (j := pp) rfl (by omega) (by omega) dL_folds_121 (fun H locs hG => ?_)
                    rw [sl_up_up] at hG
                    have hG : sl_I Γ (sl_up g 46 (a6, .inl (Γ.2.1 0, 60, .inl (upd F pp 0)))) s H _ := hG
                    refine lv_iinc (v := nI (pp + 1)) (lv' := [(6, .int (nI (pp + 1))), (0, .ref (α 0)), (1, .ref a1), (2, .ref a3), (3, .ref a4), (4, .ref a6), (5, .int (nI (sl_kn C))), (7, .int (C pp)), (8, .int (sl_bi b)), (9, .int (nI q))]) hx hb dL_folds_122 hl (k := 6) rfl (nI_1 pp) (by decide) rfl (fun ls hl => ?_)
                    refine lv_goto (tgt := 3) hx hb dL_folds_125 (by decide) ?_
                    exact ih_3 (pp + 1) (upd F pp 0) (cs + 1) (ss + 6) (by omega) (by omega) (by omega) (by omega) (lp_fu hF ((lp_ef_n (hev.trans c_110)).symm)) _ _ hG _ (lv_sub hl [1, 2, 3, 4, 5, 6, 0] rfl)
                  · have c_110 := sl_bT c_110
                    refine lv_iload hx hb dL_folds_113 (lv_at hl 7 rfl) ?_
                    refine lv_iconst (v := 1) hx hb dL_folds_115 (by decide) ?_
                    refine lv_iadd hx hb dL_folds_116 ?_
                    refine lv_goto (tgt := 121) hx hb dL_folds_117 (by decide) ?_
                    refine sl_iastN hC hG 46 (sl_up_s _ _ _) (j := pp) rfl (by omega) (by omega) dL_folds_121 (fun H locs hG => ?_)
                    rw [sl_up_up] at hG
                    have hG : sl_I Γ (sl_up g 46 (a6, .inl (Γ.2.1 0, 60, .inl (upd F pp ((C pp) + 1))))) s H _ := hG
                    refine lv_iinc (v := nI (pp + 1)) (lv' := [(6, .int (nI (pp + 1))), (0, .ref (α 0)), (1, .ref a1), (2, .ref a3), (3, .ref a4), (4, .ref a6), (5, .int (nI (sl_kn C))), (7, .int (C pp)), (8, .int (sl_bi b)), (9, .int (nI q))]) hx hb dL_folds_122 hl (k := 6) rfl (nI_1 pp) (by decide) rfl (fun ls hl => ?_)
                    refine lv_goto (tgt := 3) hx hb dL_folds_125 (by decide) ?_
                    exact ih_3 (pp + 1) (upd F pp ((C pp) + 1)) (cs + 1) (ss + 6) (by omega) (by omega) (by omega) (by omega) (lp_fu hF ((lp_ef_y (hev.trans c_110)).symm)) _ _ hG _ (lv_sub hl [1, 2, 3, 4, 5, 6, 0] rfl)
                · have n_51 : ¬ (pp ≤ q) := fun z => c_51 ((nI_leI (a := pp) (b := q) (by omega) (by omega)).mpr z)
                  refine lv_iload hx hb dL_folds_54 (lv_at hl 8 rfl) ?_
                  refine lv_if_eq (tgt := 104) hx hb dL_folds_56 (by decide) (fun c_56 => ?_) (fun c_56 => ?_)
                  · have c_56 := sl_bF c_56
                    have hev : sl_ev n C E pp = b := by rw [hei, c_56]; exact lp_iq_f (hbq.symm.trans c_56) (by omega)
                    refine lv_aload hx hb dL_folds_104 (lv_at hl 4 rfl) ?_
                    refine lv_iload hx hb dL_folds_106 (lv_at hl 6 rfl) ?_
                    refine lv_iload hx hb dL_folds_108 (lv_at hl 8 rfl) ?_
                    refine lv_if_eq (tgt := 120) hx hb dL_folds_110 (by decide) (fun c_110 => ?_) (fun c_110 => ?_)
                    · have c_110 := sl_bF c_110
                      refine lv_iconst (v := 0) hx hb dL_folds_120 (by decide) ?_
                      refine sl_iastN hC hG 46 (sl_up_s _ _ _) (j := pp) rfl (by omega) (by omega) dL_folds_121 (fun H locs hG => ?_)
                      rw [sl_up_up] at hG
                      have hG : sl_I Γ (sl_up g 46 (a6, .inl (Γ.2.1 0, 60, .inl (upd F pp 0)))) s H _ := hG
                      refine lv_iinc (v := nI (pp + 1)) (lv' := [(6, .int (nI (pp + 1))), (0, .ref (α 0)), (1, .ref a1), (2, .ref a3), (3, .ref a4), (4, .ref a6), (5, .int (nI (sl_kn C))), (7, .int (C pp)), (8, .int (sl_bi b)), (9, .int (nI q))]) hx hb dL_folds_122 hl (k := 6) rfl (nI_1 pp) (by decide) rfl (fun ls hl => ?_)
                      refine lv_goto (tgt := 3) hx hb dL_folds_125 (by decide) ?_
                      exact ih_3 (pp + 1) (upd F pp 0) (cs + 1) (ss + 6) (by omega) (by omega) (by omega) (by omega) (lp_fu hF ((lp_ef_n (hev.trans c_110)).symm)) _ _ hG _ (lv_sub hl [1, 2, 3, 4, 5, 6, 0] rfl)
                    · have c_110 := sl_bT c_110
                      refine lv_iload hx hb dL_folds_113 (lv_at hl 7 rfl) ?_
                      refine lv_iconst (v := 1) hx hb dL_folds_115 (by decide) ?_
                      refine lv_iadd hx hb dL_folds_116 ?_
                      refine lv_goto (tgt := 121) hx hb dL_folds_117 (by decide) ?_
                      refine sl_iastN hC hG 46 (sl_up_s _ _ _) (j := pp) rfl (by omega) (by omega) dL_folds_121 (fun H locs hG => ?_)
                      rw [sl_up_up] at hG
                      have hG : sl_I Γ (sl_up g 46 (a6, .inl (Γ.2.1 0, 60, .inl (upd F pp ((C pp) + 1))))) s H _ := hG
                      refine lv_iinc (v := nI (pp + 1)) (lv' := [(6, .int (nI (pp + 1))), (0, .ref (α 0)), (1, .ref a1), (2, .ref a3), (3, .ref a4), (4, .ref a6), (5, .int (nI (sl_kn C))), (7, .int (C pp)), (8, .int (sl_bi b)), (9, .int (nI q))]) hx hb dL_folds_122 hl (k := 6) rfl (nI_1 pp) (by decide) rfl (fun ls hl => ?_)
                      refine lv_goto (tgt := 3) hx hb dL_folds_125 (by decide) ?_
                      exact ih_3 (pp + 1) (upd F pp ((C pp) + 1)) (cs + 1) (ss + 6) (by omega) (by omega) (by omega) (by omega) (lp_fu hF ((lp_ef_y (hev.trans c_110)).symm)) _ _ hG _ (lv_sub hl [1, 2, 3, 4, 5, 6, 0] rfl)
                  · have c_56 := sl_bT c_56
                    refine lv_aload_n hx hb dL_folds_59 rfl (lv_at hl 2 rfl) ?_
                    refine lv_iload hx hb dL_folds_60 (lv_at hl 7 rfl) ?_
                    refine sl_ialdN hC hG 43 (sl_up_to (by decide) h43) (j := t) et (by omega) (by omega) dL_folds_62 ?_
                    refine sl_topi (y := (E t).2.2.2.2.1) (hR t ht) ?_
                    refine lv_if_le (tgt := 104) hx hb dL_folds_63 (by decide) (fun c_63 => ?_) (fun c_63 => ?_)
                    · have hev : sl_ev n C E pp = b := (sl_ev_rd etok (sl_le0 c_63 hrd.1)).trans c_56.symm
                      refine lv_aload hx hb dL_folds_104 (lv_at hl 4 rfl) ?_
                      refine lv_iload hx hb dL_folds_106 (lv_at hl 6 rfl) ?_
                      refine lv_iload hx hb dL_folds_108 (lv_at hl 8 rfl) ?_
                      refine lv_if_eq (tgt := 120) hx hb dL_folds_110 (by decide) (fun c_110 => ?_) (fun c_110 => ?_)
                      · have c_110 := sl_bF c_110
                        refine lv_iconst (v := 0) hx hb dL_folds_120 (by decide) ?_
                        refine sl_iastN hC hG 46 (sl_up_s _ _ _) (j := pp) rfl (by omega) (by omega) dL_folds_121 (fun H locs hG => ?_)
                        rw [sl_up_up] at hG
                        have hG : sl_I Γ (sl_up g 46 (a6, .inl (Γ.2.1 0, 60, .inl (upd F pp 0)))) s H _ := hG
                        refine lv_iinc (v := nI (pp + 1)) (lv' := [(6, .int (nI (pp + 1))), (0, .ref (α 0)), (1, .ref a1), (2, .ref a3), (3, .ref a4), (4, .ref a6), (5, .int (nI (sl_kn C))), (7, .int (C pp)), (8, .int (sl_bi b)), (9, .int (nI q))]) hx hb dL_folds_122 hl (k := 6) rfl (nI_1 pp) (by decide) rfl (fun ls hl => ?_)
                        refine lv_goto (tgt := 3) hx hb dL_folds_125 (by decide) ?_
                        exact ih_3 (pp + 1) (upd F pp 0) (cs + 1) (ss + 6) (by omega) (by omega) (by omega) (by omega) (lp_fu hF ((lp_ef_n (hev.trans c_110)).symm)) _ _ hG _ (lv_sub hl [1, 2, 3, 4, 5, 6, 0] rfl)
                      · have c_110 := sl_bT c_110
                        refine lv_iload hx hb dL_folds_113 (lv_at hl 7 rfl) ?_
                        refine lv_iconst (v := 1) hx hb dL_folds_115 (by decide) ?_
                        refine lv_iadd hx hb dL_folds_116 ?_
                        refine lv_goto (tgt := 121) hx hb dL_folds_117 (by decide) ?_
                        refine sl_iastN hC hG 46 (sl_up_s _ _ _) (j := pp) rfl (by omega) (by omega) dL_folds_121 (fun H locs hG => ?_)
                        rw [sl_up_up] at hG
                        have hG : sl_I Γ (sl_up g 46 (a6, .inl (Γ.2.1 0, 60, .inl (upd F pp ((C pp) + 1))))) s H _ := hG
                        refine lv_iinc (v := nI (pp + 1)) (lv' := [(6, .int (nI (pp + 1))), (0, .ref (α 0)), (1, .ref a1), (2, .ref a3), (3, .ref a4), (4, .ref a6), (5, .int (nI (sl_kn C))), (7, .int (C pp)), (8, .int (sl_bi b)), (9, .int (nI q))]) hx hb dL_folds_122 hl (k := 6) rfl (nI_1 pp) (by decide) rfl (fun ls hl => ?_)
                        refine lv_goto (tgt := 3) hx hb dL_folds_125 (by decide) ?_
                        exact ih_3 (pp + 1) (upd F pp ((C pp) + 1)) (cs + 1) (ss + 6) (by omega) (by omega) (by omega) (by omega) (lp_fu hF ((lp_ef_y (hev.trans c_110)).symm)) _ _ hG _ (lv_sub hl [1, 2, 3, 4, 5, 6, 0] rfl)
                    · refine lv_aload hx hb dL_folds_66 (lv_at hl 4 rfl) ?_
                      refine lv_iload hx hb dL_folds_68 (lv_at hl 9 rfl) ?_
                      refine sl_ialdN hC hG 46 (sl_up_s _ _ _) (j := q) rfl (by omega) (by omega) dL_folds_70 ?_
                      refine sl_topi (y := lp_ef n C E q) (hF q (by omega)) ?_
                      refine lv_if_eq (tgt := 91) hx hb dL_folds_71 (by decide) (fun c_71 => ?_) (fun c_71 => ?_)
                      · refine lv_iconst (v := 1) hx hb dL_folds_91 (by decide) ?_
                        refine lv_goto (tgt := 96) hx hb dL_folds_92 (by decide) ?_
                        refine lv_istore (lv' := [(8, .int 1), (0, .ref (α 0)), (1, .ref a1), (2, .ref a3), (3, .ref a4), (4, .ref a6), (5, .int (nI (sl_kn C))), (6, .int (nI pp)), (7, .int (C pp)), (9, .int (nI q))]) hx hb dL_folds_96 hl (by decide) rfl (fun ls hl => ?_)
                        refine lv_iinc (v := nI (q + 1)) (lv' := [(9, .int (nI (q + 1))), (8, .int 1), (0, .ref (α 0)), (1, .ref a1), (2, .ref a3), (3, .ref a4), (4, .ref a6), (5, .int (nI (sl_kn C))), (6, .int (nI pp)), (7, .int (C pp))]) hx hb dL_folds_98 hl (k := 9) rfl (nI_1 q) (by decide) rfl (fun ls hl => ?_)
                        refine lv_goto (tgt := 47) hx hb dL_folds_101 (by decide) ?_
                        exact ih_47 (q + 1) true (by omega) (by omega) (by omega) (Or.inr (by omega)) (lp_iq_a (c_56.symm.trans hbq) (lp_ef_0 hn9 c_71)) _ _ hG _ (lv_sub hl [2, 3, 4, 5, 6, 7, 8, 9, 1, 0] rfl)
                      · have hqe := lp_ef_1 c_71
                        obtain ⟨u, hu, eu, hqt, hq9⟩ := lp_ef_t hn9 hqe
                        refine lv_aload_n hx hb dL_folds_74 rfl (lv_at hl 1 rfl) ?_
                        refine lv_aload hx hb dL_folds_75 (lv_at hl 4 rfl) ?_
                        refine lv_iload hx hb dL_folds_77 (lv_at hl 9 rfl) ?_
                        refine sl_ialdN hC hG 46 (sl_up_s _ _ _) (j := q) rfl (by omega) (by omega) dL_folds_79 ?_
                        refine sl_topi (y := nI (u + 1)) ((hF q (by omega)).trans hq9) ?_
                        refine lv_iconst (v := 1) hx hb dL_folds_80 (by decide) ?_
                        refine lv_isub hx hb dL_folds_81 ?_
                        refine sl_topi (y := nI (u + 0)) (nI_pred (u + 0)) ?_
                        refine sl_ialdN hC hG 41 (sl_up_to (by decide) h41) (j := u) rfl (by omega) (by omega) dL_folds_82 ?_
                        refine sl_topi (y := (E u).2.2.1) (hS u hu) ?_
                        refine lv_aload_n hx hb dL_folds_83 rfl (lv_at hl 2 rfl) ?_
                        refine lv_iload hx hb dL_folds_84 (lv_at hl 7 rfl) ?_
                        refine sl_ialdN hC hG 43 (sl_up_to (by decide) h43) (j := t) et (by omega) (by omega) dL_folds_86 ?_
                        refine sl_topi (y := (E t).2.2.2.2.1) (hR t ht) ?_
                        refine lv_iand hx hb dL_folds_87 ?_
                        refine lv_if_ne (tgt := 95) hx hb dL_folds_88 (by decide) (fun c_88 => ?_) (fun c_88 => ?_)
                        · refine lv_iconst (v := 0) hx hb dL_folds_95 (by decide) ?_
                          refine lv_istore (lv' := [(8, .int 0), (0, .ref (α 0)), (1, .ref a1), (2, .ref a3), (3, .ref a4), (4, .ref a6), (5, .int (nI (sl_kn C))), (6, .int (nI pp)), (7, .int (C pp)), (9, .int (nI q))]) hx hb dL_folds_96 hl (by decide) rfl (fun ls hl => ?_)
                          refine lv_iinc (v := nI (q + 1)) (lv' := [(9, .int (nI (q + 1))), (8, .int 0), (0, .ref (α 0)), (1, .ref a1), (2, .ref a3), (3, .ref a4), (4, .ref a6), (5, .int (nI (sl_kn C))), (6, .int (nI pp)), (7, .int (C pp))]) hx hb dL_folds_98 hl (k := 9) rfl (nI_1 q) (by decide) rfl (fun ls hl => ?_)
                          refine lv_goto (tgt := 47) hx hb dL_folds_101 (by decide) ?_
                          exact ih_47 (q + 1) false (by omega) (by omega) (by omega) (Or.inr (by omega)) (lp_iq_c hvq hqe hqt c_88) _ _ hG _ (lv_sub hl [2, 3, 4, 5, 6, 7, 8, 9, 1, 0] rfl)
                        · refine lv_iconst (v := 1) hx hb dL_folds_91 (by decide) ?_
                          refine lv_goto (tgt := 96) hx hb dL_folds_92 (by decide) ?_
                          refine lv_istore (lv' := [(8, .int 1), (0, .ref (α 0)), (1, .ref a1), (2, .ref a3), (3, .ref a4), (4, .ref a6), (5, .int (nI (sl_kn C))), (6, .int (nI pp)), (7, .int (C pp)), (9, .int (nI q))]) hx hb dL_folds_96 hl (by decide) rfl (fun ls hl => ?_)
                          refine lv_iinc (v := nI (q + 1)) (lv' := [(9, .int (nI (q + 1))), (8, .int 1), (0, .ref (α 0)), (1, .ref a1), (2, .ref a3), (3, .ref a4), (4, .ref a6), (5, .int (nI (sl_kn C))), (6, .int (nI pp)), (7, .int (C pp))]) hx hb dL_folds_98 hl (k := 9) rfl (nI_1 q) (by decide) rfl (fun ls hl => ?_)
                          refine lv_goto (tgt := 47) hx hb dL_folds_101 (by decide) ?_
                          exact ih_47 (q + 1) true (by omega) (by omega) (by omega) (Or.inr (by omega)) (lp_iq_b (c_56.symm.trans hbq) hqt c_88) _ _ hG _ (lv_sub hl [2, 3, 4, 5, 6, 7, 8, 9, 1, 0] rfl)
            exact loop_47 (v + pp + 1) v true (by omega) (by omega) (by omega) (Or.inl (Nat.le_refl v)) ((sl_iq_v _ _ _ _ _ v (Nat.le_refl v)).symm) _ _ hG _ (lv_sub hl [3, 4, 5, 6, 7, 8, 9, 2, 1, 0] rfl)
  have hup0 := sl_up_same h46
  rw [← hup0] at hG
  exact loop_3 (sl_kn C + 1) 0 Fz 0 0 (by omega) (by omega) (by omega) (by omega) (fun q hq => absurd hq (Nat.not_lt_zero q)) _ _ hG _ (lv_sub hl [1, 2, 3, 4, 5, 6, 0] rfl)
end
