/-! the law's loop -/
theorem sl_and31 (x : Int32) : ∃ k, k ≤ 31 ∧ x &&& 31 = nI k := by
  have h : (x &&& 31).toBitVec.toNat ≤ 31 := by
    rw [Int32.toBitVec_and, BitVec.toNat_and]
    exact Nat.le_trans Nat.and_le_right (by decide)
  have h2 : (x &&& 31).toInt = ((x &&& 31).toBitVec.toNat : Int) := BitVec.toInt_eq_toNat_of_lt (by omega)
  exact sl_nat (by omega) (by omega) (by omega)
theorem sl_L5 {L : Nat} (hL : L ≤ 2560) : (Int32.ofNat L - 5).toInt = (L : Int) - 5 := by
  have e : (Int32.ofNat L).toInt = (L : Int) := nI_toInt (by omega)
  rw [Int32.toInt_sub, e, show (5 : Int32).toInt = 5 from rfl, Int.bmod_eq_of_le (by omega) (by omega)]
set_option maxHeartbeats 4000000 in
set_option maxRecDepth 100000 in
theorem sl_body {p : Program} {l : Launch} {e : Env} {s : State} {m : MethodId} {below : List Frame} {meth : Method} {c : Code} {H : Heap} {locs : List Loc} {cells slots : Nat} {Q : State → Prop} {Γ : sl_G} {α μ : Nat → Nat} {ao bb L e0 i : Nat} {xs : Nat → Int32} {g : sl_W} {th0 : Int32} {f0 : Nat → Int64} {ls : Array Slot} (hlt : l.stackTraces = false) (hC : sl_C Γ p s m meth c cL_law 7 RL) (hz : ¬ sl_A Γ bb) (hX : va_X bb L xs s s.heap) (hbl : bb < s.heap.size) (hL : L ≤ 2560) (hi : i + 5 ≤ L) (hG : sl_I Γ g s H locs) (hI : sl_LT Γ α μ ao e0 th0 f0 g) (he : e0 < 100000) (hcs : cells + 4 ≤ 601024) (hss : slots + 40 ≤ 7293034) (hl : lv_has ls 7 [(4, .int (nI i)), (3, .ref ao), (2, .ref (μ 0)), (1, .ref (α 0)), (0, .ref bb)]) (kk : ∀ (e1 : Nat) (th1 : Int32) (f1 : Nat → Int64) (g1 : sl_W) (H1 : Heap) (locs1 : List Loc) (ls1 : Array Slot) (k1 n1 : Nat), e1 ≤ e0 + 1 → sl_LT Γ α μ ao e1 th1 f1 g1 → sl_I Γ g1 s H1 locs1 → lv_has ls1 7 [(4, .int (nI i)), (3, .ref ao), (2, .ref (μ 0)), (1, .ref (α 0)), (0, .ref bb)] → k1 ≤ cells + 4 → n1 ≤ slots + 40 → W p l e room_1 s m #[.ref bb] below meth c H1 locs1 k1 n1 Q (F0 m 1039 ls1 [])) : W p l e room_1 s m #[.ref bb] below meth c H locs cells slots Q (F0 m 32 ls []) := by
  have hx := hC.1
  have hb := hC.2.1
  refine lv_aload_n hx hb dL_law_32 rfl (lv_at hl 4 rfl) ?_
  refine lv_iload hx hb dL_law_33 (lv_at hl 0 rfl) ?_
  refine va_sld hx hb hX hbl hz hG.2 (i := nI i) (vp_in_nI (by omega) (by omega)) dL_law_35 ?_
  refine sl_topi (y := xs i) (by rw [nI_clamp (by omega)]) ?_
  refine lv_bipush (v := 31) hx hb dL_law_36 (by decide) ?_
  refine lv_iand hx hb dL_law_38 ?_
  obtain ⟨k, hk, ek⟩ := sl_and31 (xs i)
  refine sl_topi (y := nI k) ek ?_
  have hk2 : k = 0 ∨ k = 1 ∨ k = 2 ∨ k = 3 ∨ k = 4 ∨ k = 5 ∨ k = 6 ∨ k = 7 ∨ k = 8 ∨ k = 9 ∨ k = 10 ∨ k = 11 ∨ k = 12 ∨ k = 13 ∨ k = 14 ∨ k = 15 ∨ k = 16 ∨ k = 17 ∨ 18 ≤ k := by omega
  rcases hk2 with rfl | rfl | rfl | rfl | rfl | rfl | rfl | rfl | rfl | rfl | rfl | rfl | rfl | rfl | rfl | rfl | rfl | rfl | hk2
  · refine lv_tableIn (tgt := 124) (off := 85) hx hb dL_law_39 (by decide) (by decide) rfl (by decide) ?_
    exact sl_seg_take hlt hC hz hX hbl hL hi hG hI he hcs hss hl kk
  · refine lv_tableIn (tgt := 192) (off := 153) hx hb dL_law_39 (by decide) (by decide) rfl (by decide) ?_
    exact sl_seg_takeIf hlt hC hz hX hbl hL hi hG hI he hcs hss hl kk
  · refine lv_tableIn (tgt := 284) (off := 245) hx hb dL_law_39 (by decide) (by decide) rfl (by decide) ?_
    exact sl_seg_lose hlt hC hz hX hbl hL hi hG hI he hcs hss hl kk
  · refine lv_tableIn (tgt := 328) (off := 289) hx hb dL_law_39 (by decide) (by decide) rfl (by decide) ?_
    exact sl_seg_seal hlt hC hz hX hbl hL hi hG hI he hcs hss hl kk
  · refine lv_tableIn (tgt := 341) (off := 302) hx hb dL_law_39 (by decide) (by decide) rfl (by decide) ?_
    exact sl_seg_write hlt hC hz hX hbl hL hi hG hI he hcs hss hl kk
  · refine lv_tableIn (tgt := 397) (off := 358) hx hb dL_law_39 (by decide) (by decide) rfl (by decide) ?_
    exact sl_seg_fill hlt hC hz hX hbl hL hi hG hI he hcs hss hl kk
  · refine lv_tableIn (tgt := 460) (off := 421) hx hb dL_law_39 (by decide) (by decide) rfl (by decide) ?_
    exact sl_seg_epoch hlt hC hz hX hbl hL hi hG hI he hcs hss hl kk
  · refine lv_tableIn (tgt := 473) (off := 434) hx hb dL_law_39 (by decide) (by decide) rfl (by decide) ?_
    exact sl_seg_tail hlt hC hz hX hbl hL hi hG hI he hcs hss hl kk
  · refine lv_tableIn (tgt := 486) (off := 447) hx hb dL_law_39 (by decide) (by decide) rfl (by decide) ?_
    exact sl_seg_tokens hlt hC hz hX hbl hL hi hG hI he hcs hss hl kk
  · refine lv_tableIn (tgt := 499) (off := 460) hx hb dL_law_39 (by decide) (by decide) rfl (by decide) ?_
    exact sl_seg_positionOf hlt hC hz hX hbl hL hi hG hI he hcs hss hl kk
  · refine lv_tableIn (tgt := 555) (off := 516) hx hb dL_law_39 (by decide) (by decide) rfl (by decide) ?_
    exact sl_seg_stateOf hlt hC hz hX hbl hL hi hG hI he hcs hss hl kk
  · refine lv_tableIn (tgt := 611) (off := 572) hx hb dL_law_39 (by decide) (by decide) rfl (by decide) ?_
    exact sl_seg_pointer hlt hC hz hX hbl hL hi hG hI he hcs hss hl kk
  · refine lv_tableIn (tgt := 691) (off := 652) hx hb dL_law_39 (by decide) (by decide) rfl (by decide) ?_
    exact sl_seg_cellAt hlt hC hz hX hbl hL hi hG hI he hcs hss hl kk
  · refine lv_tableIn (tgt := 759) (off := 720) hx hb dL_law_39 (by decide) (by decide) rfl (by decide) ?_
    exact sl_seg_known hlt hC hz hX hbl hL hi hG hI he hcs hss hl kk
  · refine lv_tableIn (tgt := 772) (off := 733) hx hb dL_law_39 (by decide) (by decide) rfl (by decide) ?_
    exact sl_seg_takesEffect hlt hC hz hX hbl hL hi hG hI he hcs hss hl kk
  · refine lv_tableIn (tgt := 835) (off := 796) hx hb dL_law_39 (by decide) (by decide) rfl (by decide) ?_
    exact sl_seg_value hlt hC hz hX hbl hL hi hG hI he hcs hss hl kk
  · refine lv_tableIn (tgt := 903) (off := 864) hx hb dL_law_39 (by decide) (by decide) rfl (by decide) ?_
    exact sl_seg_valueByPointers hlt hC hz hX hbl hL hi hG hI he hcs hss hl kk
  · refine lv_tableIn (tgt := 971) (off := 932) hx hb dL_law_39 (by decide) (by decide) rfl (by decide) ?_
    exact sl_seg_latest hlt hC hz hX hbl hL hi hG hI he hcs hss hl kk
  · refine lv_tableOut (tgt := 1039) hx hb dL_law_39 (Or.inr (by rw [nI_toInt (by omega)]; omega)) (by decide) ?_
    exact kk e0 th0 f0 g H locs ls cells slots (by omega) hI hG hl (by omega) (by omega)
set_option maxHeartbeats 4000000 in
set_option maxRecDepth 100000 in
theorem sl_lawloop {p : Program} {l : Launch} {e : Env} {s : State} {m : MethodId} {below : List Frame} {meth : Method} {c : Code} {Q : State → Prop} {Γ : sl_G} {α μ : Nat → Nat} {ao bb L : Nat} {xs : Nat → Int32} (hlt : l.stackTraces = false) (hC : sl_C Γ p s m meth c cL_law 7 RL) (hz : ¬ sl_A Γ bb) (hX : va_X bb L xs s s.heap) (hbl : bb < s.heap.size) (hL : L ≤ 2560)
    (kend : ∀ (g : sl_W) (H : Heap) (locs : List Loc) (ls : Array Slot) (k1 n1 : Nat), sl_I Γ g s H locs → k1 ≤ 601024 → n1 ≤ 7293034 → W p l e room_1 s m #[.ref bb] below meth c H locs k1 n1 Q (F0 m 1045 ls [])) :
    ∀ (fuel j e0 : Nat) (th0 : Int32) (f0 : Nat → Int64) (g : sl_W) (H : Heap) (locs : List Loc) (ls : Array Slot) (cells slots : Nat), j ≤ 512 → 513 ≤ j + fuel → e0 ≤ j → cells ≤ 40 + 4 * j → slots ≤ 9000 + 40 * j → sl_LT Γ α μ ao e0 th0 f0 g → sl_I Γ g s H locs → lv_has ls 7 [(4, .int (nI (5 * j))), (3, .ref ao), (2, .ref (μ 0)), (1, .ref (α 0)), (0, .ref bb)] → W p l e room_1 s m #[.ref bb] below meth c H locs cells slots Q (F0 m 23 ls []) := by
  have hx := hC.1
  have hb := hC.2.1
  intro fuel
  induction fuel with
  | zero =>
    intro j e0 th0 f0 g H locs ls cells slots h1 h2
    exact absurd h2 (by omega)
  | succ fuel ih =>
    intro j e0 th0 f0 g H locs ls cells slots h1 h2 h3 h4 h5 hI hG hl
    refine lv_iload hx hb dL_law_23 (lv_at hl 0 rfl) ?_
    refine lv_aload_n hx hb dL_law_25 rfl (lv_at hl 4 rfl) ?_
    refine va_slen hx hb hX hbl hz hG.2 dL_law_26 ?_
    refine lv_iconst (v := 5) hx hb dL_law_27 (by decide) ?_
    refine lv_isub hx hb dL_law_28 ?_
    refine lv_icmp_gt (tgt := 1045) hx hb dL_law_29 (by decide) (fun c_29 => ?_) (fun c_29 => ?_)
    · exact kend g H locs ls cells slots hG (by omega) (by omega)
    · have hi : 5 * j + 5 ≤ L := by
        have h6 : ¬ (Int32.ofNat L - 5 < nI (5 * j)) := c_29
        rw [sl_ltI, sl_L5 hL, nI_toInt (by omega)] at h6
        omega
      refine sl_body hlt hC hz hX hbl hL hi hG hI (by omega) (by omega) (by omega) hl (fun e1 th1 f1 g1 H1 locs1 ls1 k1 n1 q1 q2 q3 q4 q5 q6 => ?_)
      refine lv_iinc (v := nI (5 * (j + 1))) (lv' := [(4, .int (nI (5 * (j + 1)))), (3, .ref ao), (2, .ref (μ 0)), (1, .ref (α 0)), (0, .ref bb)]) hx hb dL_law_1039 q4 (k := 0) rfl (by rw [show Int32.ofInt 5 = nI 5 from rfl, nI_add]; congr 1) (by decide) rfl (fun ls hl => ?_)
      refine lv_goto (tgt := 23) hx hb dL_law_1042 (by decide) ?_
      exact ih (j + 1) e1 th1 f1 g1 H1 locs1 ls k1 n1 (by omega) (by omega) (by omega) (by omega) (by omega) q2 q3 hl
