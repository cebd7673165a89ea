/-! the law, case by case -/
set_option maxHeartbeats 4000000 in
set_option maxRecDepth 100000 in
theorem sl_seg_known {p : Program} {l : Launch} {e : Env} {s : State} {m : MethodId} {below : List Frame} {meth : Method} {c : Code} {H : Heap} {locs : List Loc} {cells slots : Nat} {Q : State → Prop} {Γ : sl_G} {α μ : Nat → Nat} {ao bb L e0 i : Nat} {xs : Nat → Int32} {g : sl_W} {th0 : Int32} {f0 : Nat → Int64} {ls : Array Slot} (hlt : l.stackTraces = false) (hC : sl_C Γ p s m meth c cL_law 7 RL) (hz : ¬ sl_A Γ bb) (hX : va_X bb L xs s s.heap) (hbl : bb < s.heap.size) (hL : L ≤ 2560) (hi : i + 5 ≤ L) (hG : sl_I Γ g s H locs) (hI : sl_LT Γ α μ ao e0 th0 f0 g) (he : e0 < 100000) (hcs : cells + 4 ≤ 601024) (hss : slots + 40 ≤ 7293034) (hl : lv_has ls 7 [(4, .int (nI i)), (3, .ref ao), (2, .ref (μ 0)), (1, .ref (α 0)), (0, .ref bb)]) (kk : ∀ (e1 : Nat) (th1 : Int32) (f1 : Nat → Int64) (g1 : sl_W) (H1 : Heap) (locs1 : List Loc) (ls1 : Array Slot) (k1 n1 : Nat), e1 ≤ e0 + 1 → sl_LT Γ α μ ao e1 th1 f1 g1 → sl_I Γ g1 s H1 locs1 → lv_has ls1 7 [(4, .int (nI i)), (3, .ref ao), (2, .ref (μ 0)), (1, .ref (α 0)), (0, .ref bb)] → k1 ≤ cells + 4 → n1 ≤ slots + 40 → W p l e room_1 s m #[.ref bb] below meth c H1 locs1 k1 n1 Q (F0 m 1039 ls1 [])) : W p l e room_1 s m #[.ref bb] below meth c H locs cells slots Q (F0 m 759 ls []) := by
  have hx := hC.1
  have hb := hC.2.1
  obtain ⟨β, n, ep, tl, lo, T, C, E, hK, hM, hJ, h40⟩ := id hI
  have hw := sl_Mdl.wf hM
  refine lv_aload_n hx hb dL_law_759 rfl (lv_at hl 3 rfl) ?_
  refine sl_calli (sl_runV (As := []) (rest := []) hC hG (kX4_known l Γ g α β n ep tl lo T C E hK) mi_X4_known lk_RL_117 0 hK.1 rfl rfl rfl ⟨Nat.le_of_ble_eq_true rfl, Nat.le_of_ble_eq_true rfl⟩ rfl hl.1 rfl (Nat.le_of_ble_eq_true rfl) dL_law_760 ⟨(by show _ + _ ≤ 601024; omega), (by show _ + _ ≤ 7293034; omega)⟩) hG (fun r_760 u_760 H locs hr_760 hG => ?_)
  have hG : sl_I Γ g s H locs := hG
  refine sl_topi (y := nI (sl_kn C)) hr_760 ?_
  refine lv_aload_n hx hb dL_law_763 rfl (lv_at hl 2 rfl) ?_
  refine sl_calli (sl_runV (As := []) (rest := [.int (nI (sl_kn C))]) hC hG (kX5_known l Γ g μ n ep tl lo T C E th0 hM) mi_X5_known lk_RL_120 20 hM.1 rfl rfl rfl ⟨Nat.le_of_ble_eq_true rfl, Nat.le_of_ble_eq_true rfl⟩ rfl hl.1 rfl (Nat.le_of_ble_eq_true rfl) dL_law_764 ⟨(by show _ + _ ≤ 601024; omega), (by show _ + _ ≤ 7293034; omega)⟩) hG (fun r_764 u_764 H locs hr_764 hG => ?_)
  have hG : sl_I Γ u_764 s H locs := hG
  have hT9 := sl_ad_known hK hJ h40 hr_764
  obtain ⟨β9, n9, ep9, tl9, lo9, T9, C9, E9, hK9, hM9, hJ9, h49⟩ := id hT9
  refine sl_topi (y := nI (sl_kn C)) (hr_764.1) ?_
  refine lv_icmp_eq (tgt := 1039) hx hb dL_law_767 (by decide) (fun c_767 => ?_) (fun c_767 => ?_)
  · exact kk (e0) _ _ _ _ _ _ _ _ (by omega) hT9 hG (lv_sub hl [0, 1, 2, 3, 4] rfl) (by omega) (by omega)
  · exact absurd rfl c_767
set_option maxHeartbeats 4000000 in
set_option maxRecDepth 100000 in
theorem sl_seg_takesEffect {p : Program} {l : Launch} {e : Env} {s : State} {m : MethodId} {below : List Frame} {meth : Method} {c : Code} {H : Heap} {locs : List Loc} {cells slots : Nat} {Q : State → Prop} {Γ : sl_G} {α μ : Nat → Nat} {ao bb L e0 i : Nat} {xs : Nat → Int32} {g : sl_W} {th0 : Int32} {f0 : Nat → Int64} {ls : Array Slot} (hlt : l.stackTraces = false) (hC : sl_C Γ p s m meth c cL_law 7 RL) (hz : ¬ sl_A Γ bb) (hX : va_X bb L xs s s.heap) (hbl : bb < s.heap.size) (hL : L ≤ 2560) (hi : i + 5 ≤ L) (hG : sl_I Γ g s H locs) (hI : sl_LT Γ α μ ao e0 th0 f0 g) (he : e0 < 100000) (hcs : cells + 4 ≤ 601024) (hss : slots + 40 ≤ 7293034) (hl : lv_has ls 7 [(4, .int (nI i)), (3, .ref ao), (2, .ref (μ 0)), (1, .ref (α 0)), (0, .ref bb)]) (kk : ∀ (e1 : Nat) (th1 : Int32) (f1 : Nat → Int64) (g1 : sl_W) (H1 : Heap) (locs1 : List Loc) (ls1 : Array Slot) (k1 n1 : Nat), e1 ≤ e0 + 1 → sl_LT Γ α μ ao e1 th1 f1 g1 → sl_I Γ g1 s H1 locs1 → lv_has ls1 7 [(4, .int (nI i)), (3, .ref ao), (2, .ref (μ 0)), (1, .ref (α 0)), (0, .ref bb)] → k1 ≤ cells + 4 → n1 ≤ slots + 40 → W p l e room_1 s m #[.ref bb] below meth c H1 locs1 k1 n1 Q (F0 m 1039 ls1 [])) : W p l e room_1 s m #[.ref bb] below meth c H locs cells slots Q (F0 m 772 ls []) := by
  have hx := hC.1
  have hb := hC.2.1
  obtain ⟨β, n, ep, tl, lo, T, C, E, hK, hM, hJ, h40⟩ := id hI
  have hw := sl_Mdl.wf hM
  refine lv_aload_n hx hb dL_law_772 rfl (lv_at hl 3 rfl) ?_
  refine lv_aload_n hx hb dL_law_773 rfl (lv_at hl 4 rfl) ?_
  refine lv_iload hx hb dL_law_774 (lv_at hl 0 rfl) ?_
  refine lv_iconst (v := 1) hx hb dL_law_776 (by decide) ?_
  refine lv_iadd hx hb dL_law_777 ?_
  refine sl_topi (y := nI (i + 1)) (nI_add i 1) ?_
  refine va_sld hx hb hX hbl hz hG.2 (i := nI (i + 1)) (vp_in_nI (by omega) (by omega)) dL_law_778 ?_
  refine sl_topi (y := xs (i + 1)) (by rw [nI_clamp (by omega)]) ?_
  refine lv_aload_n hx hb dL_law_779 rfl (lv_at hl 1 rfl) ?_
  refine sl_calli (sl_runSW (As := [.ref (α 0), .int (xs (i + 1)), .ref ao]) (rest := []) hC hG (kL_takesEffect l hlt Γ g α β n ep tl lo T C E hK ao f0 h40 (xs (i + 1))) mi_L_takesEffect lk_RL_121 rfl rfl ⟨Nat.le_of_ble_eq_true rfl, Nat.le_of_ble_eq_true rfl⟩ rfl hl.1 rfl (Nat.le_of_ble_eq_true rfl) dL_law_780 ⟨(by show _ + _ ≤ 601024; omega), (by show _ + _ ≤ 7293034; omega)⟩) hG (fun r_780 u_780 H locs hr_780 hG => ?_)
  have hG : sl_I Γ u_780 s H locs := hG
  have hM2 := hM.cg (sl_Wr.md hr_780)
  refine lv_istore (lv' := [(5, .int r_780), (4, .int (nI i)), (3, .ref ao), (2, .ref (μ 0)), (1, .ref (α 0)), (0, .ref bb)]) hx hb dL_law_783 hl (by decide) rfl (fun ls hl => ?_)
  refine lv_aload_n hx hb dL_law_785 rfl (lv_at hl 3 rfl) ?_
  refine lv_aload_n hx hb dL_law_786 rfl (lv_at hl 5 rfl) ?_
  refine lv_iload hx hb dL_law_787 (lv_at hl 1 rfl) ?_
  refine lv_iconst (v := 1) hx hb dL_law_789 (by decide) ?_
  refine lv_iadd hx hb dL_law_790 ?_
  refine sl_topi (y := nI (i + 1)) (nI_add i 1) ?_
  refine va_sld hx hb hX hbl hz hG.2 (i := nI (i + 1)) (vp_in_nI (by omega) (by omega)) dL_law_791 ?_
  refine sl_topi (y := xs (i + 1)) (by rw [nI_clamp (by omega)]) ?_
  refine sl_calli (sl_runV (As := [.int (xs (i + 1))]) (rest := []) hC hG (kX5_takesEffect l Γ u_780 μ n ep tl lo T C E th0 hM2 hJ.st (xs (i + 1))) mi_X5_takesEffect lk_RL_123 20 hM2.1 rfl rfl rfl ⟨Nat.le_of_ble_eq_true rfl, Nat.le_of_ble_eq_true rfl⟩ rfl hl.1 rfl (Nat.le_of_ble_eq_true rfl) dL_law_792 ⟨(by show _ + _ ≤ 601024; omega), (by show _ + _ ≤ 7293034; omega)⟩) hG (fun r_792 u_792 H locs hr_792 hG => ?_)
  have hG : sl_I Γ u_792 s H locs := hG
  have hb9 : r_780 = 0 → ∃ b9, r_792 = sl_bi b9 := sl_ab_takesEffect hK hJ hw hr_780 hr_792
  obtain ⟨th9, f9, hT9, hrr, hf9⟩ := sl_ag_takesEffect hK hJ hw h40 hr_780 hr_792
  subst hrr
  obtain ⟨β9, n9, ep9, tl9, lo9, T9, C9, E9, hK9, hM9, hJ9, h49⟩ := id hT9
  refine lv_istore (lv' := [(6, .int r_792), (5, .int r_780), (4, .int (nI i)), (3, .ref ao), (2, .ref (μ 0)), (1, .ref (α 0)), (0, .ref bb)]) hx hb dL_law_795 hl (by decide) rfl (fun ls hl => ?_)
  refine lv_aload_n hx hb dL_law_797 rfl (lv_at hl 4 rfl) ?_
  refine sl_calli (sl_runV (As := []) (rest := []) hC hG (kX5_thrown l Γ u_792 μ n9 ep9 tl9 lo9 T9 C9 E9 r_780 hM9) mi_X5_thrown lk_RL_70 20 hM9.1 rfl rfl rfl ⟨Nat.le_of_ble_eq_true rfl, Nat.le_of_ble_eq_true rfl⟩ rfl hl.1 rfl (Nat.le_of_ble_eq_true rfl) dL_law_798 ⟨(by show _ + _ ≤ 601024; omega), (by show _ + _ ≤ 7293034; omega)⟩) hG (fun r_798 u_798 H locs hr_798 hG => ?_)
  refine sl_topi (y := r_780) hr_798 ?_
  refine lv_iload hx hb dL_law_801 (lv_at hl 1 rfl) ?_
  refine lv_icmp_eq (tgt := 808) hx hb dL_law_803 (by decide) (fun c_803 => ?_) (fun c_803 => ?_)
  · refine lv_iload hx hb dL_law_808 (lv_at hl 1 rfl) ?_
    refine lv_if_ne (tgt := 832) hx hb dL_law_810 (by decide) (fun c_810 => ?_) (fun c_810 => ?_)
    · refine lv_goto (tgt := 1039) hx hb dL_law_832 (by decide) ?_
      exact kk (e0) _ _ _ _ _ _ _ _ (by omega) hT9 hG (lv_sub hl [2, 3, 4, 5, 6] rfl) (by omega) (by omega)
    · refine lv_aload_n hx hb dL_law_813 rfl (lv_at hl 3 rfl) ?_
      refine lv_iconst (v := 0) hx hb dL_law_814 (by decide) ?_
      refine sl_laldN hC hG 40 h49 (j := 0) rfl (by omega) (by omega) dL_law_815 ?_
      refine lv_iload hx hb dL_law_816 (lv_at hl 0 rfl) ?_
      refine lv_if_eq (tgt := 825) hx hb dL_law_818 (by decide) (fun c_818 => ?_) (fun c_818 => ?_)
      · refine lv_lconst (v := 0) hx hb dL_law_825 (by decide) ?_
        refine W.lcmp hx hb dL_law_826 ?_
        refine sl_topi (y := 0) (by rw [sl_b0z (hf9 c_810) c_818]; exact sl_cmp0 _) ?_
        refine lv_if_eq (tgt := 832) hx hb dL_law_827 (by decide) (fun c_827 => ?_) (fun c_827 => ?_)
        · refine lv_goto (tgt := 1039) hx hb dL_law_832 (by decide) ?_
          exact kk (e0) _ _ _ _ _ _ _ _ (by omega) hT9 hG (lv_sub hl [2, 3, 4, 5, 6] rfl) (by omega) (by omega)
        · exact absurd c_827 (by decide)
      · refine lv_lconst (v := 1) hx hb dL_law_821 (by decide) ?_
        refine lv_goto (tgt := 826) hx hb dL_law_822 (by decide) ?_
        refine W.lcmp hx hb dL_law_826 ?_
        refine sl_topi (y := 0) (by rw [sl_b1 (hf9 c_810) (hb9 c_810) c_818]; exact sl_cmp0 _) ?_
        refine lv_if_eq (tgt := 832) hx hb dL_law_827 (by decide) (fun c_827 => ?_) (fun c_827 => ?_)
        · refine lv_goto (tgt := 1039) hx hb dL_law_832 (by decide) ?_
          exact kk (e0) _ _ _ _ _ _ _ _ (by omega) hT9 hG (lv_sub hl [2, 3, 4, 5, 6] rfl) (by omega) (by omega)
        · exact absurd c_827 (by decide)
  · exact absurd rfl c_803
set_option maxHeartbeats 4000000 in
set_option maxRecDepth 100000 in
theorem sl_seg_value {p : Program} {l : Launch} {e : Env} {s : State} {m : MethodId} {below : List Frame} {meth : Method} {c : Code} {H : Heap} {locs : List Loc} {cells slots : Nat} {Q : State → Prop} {Γ : sl_G} {α μ : Nat → Nat} {ao bb L e0 i : Nat} {xs : Nat → Int32} {g : sl_W} {th0 : Int32} {f0 : Nat → Int64} {ls : Array Slot} (hlt : l.stackTraces = false) (hC : sl_C Γ p s m meth c cL_law 7 RL) (hz : ¬ sl_A Γ bb) (hX : va_X bb L xs s s.heap) (hbl : bb < s.heap.size) (hL : L ≤ 2560) (hi : i + 5 ≤ L) (hG : sl_I Γ g s H locs) (hI : sl_LT Γ α μ ao e0 th0 f0 g) (he : e0 < 100000) (hcs : cells + 4 ≤ 601024) (hss : slots + 40 ≤ 7293034) (hl : lv_has ls 7 [(4, .int (nI i)), (3, .ref ao), (2, .ref (μ 0)), (1, .ref (α 0)), (0, .ref bb)]) (kk : ∀ (e1 : Nat) (th1 : Int32) (f1 : Nat → Int64) (g1 : sl_W) (H1 : Heap) (locs1 : List Loc) (ls1 : Array Slot) (k1 n1 : Nat), e1 ≤ e0 + 1 → sl_LT Γ α μ ao e1 th1 f1 g1 → sl_I Γ g1 s H1 locs1 → lv_has ls1 7 [(4, .int (nI i)), (3, .ref ao), (2, .ref (μ 0)), (1, .ref (α 0)), (0, .ref bb)] → k1 ≤ cells + 4 → n1 ≤ slots + 40 → W p l e room_1 s m #[.ref bb] below meth c H1 locs1 k1 n1 Q (F0 m 1039 ls1 [])) : W p l e room_1 s m #[.ref bb] below meth c H locs cells slots Q (F0 m 835 ls []) := by
  have hx := hC.1
  have hb := hC.2.1
  obtain ⟨β, n, ep, tl, lo, T, C, E, hK, hM, hJ, h40⟩ := id hI
  have hw := sl_Mdl.wf hM
  refine lv_aload_n hx hb dL_law_835 rfl (lv_at hl 3 rfl) ?_
  refine lv_aload_n hx hb dL_law_836 rfl (lv_at hl 4 rfl) ?_
  refine lv_iload hx hb dL_law_837 (lv_at hl 0 rfl) ?_
  refine lv_iconst (v := 1) hx hb dL_law_839 (by decide) ?_
  refine lv_iadd hx hb dL_law_840 ?_
  refine sl_topi (y := nI (i + 1)) (nI_add i 1) ?_
  refine va_sld hx hb hX hbl hz hG.2 (i := nI (i + 1)) (vp_in_nI (by omega) (by omega)) dL_law_841 ?_
  refine sl_topi (y := xs (i + 1)) (by rw [nI_clamp (by omega)]) ?_
  refine lv_aload_n hx hb dL_law_842 rfl (lv_at hl 4 rfl) ?_
  refine lv_iload hx hb dL_law_843 (lv_at hl 0 rfl) ?_
  refine lv_iconst (v := 2) hx hb dL_law_845 (by decide) ?_
  refine lv_iadd hx hb dL_law_846 ?_
  refine sl_topi (y := nI (i + 2)) (nI_add i 2) ?_
  refine va_sld hx hb hX hbl hz hG.2 (i := nI (i + 2)) (vp_in_nI (by omega) (by omega)) dL_law_847 ?_
  refine sl_topi (y := xs (i + 2)) (by rw [nI_clamp (by omega)]) ?_
  refine lv_aload_n hx hb dL_law_848 rfl (lv_at hl 1 rfl) ?_
  refine sl_calli (sl_runSW (As := [.ref (α 0), .int (xs (i + 1)), .int (xs (i + 2)), .ref ao]) (rest := []) hC hG (kL_value l hlt Γ g α β n ep tl lo T C E hK ao f0 h40 (xs (i + 1)) (xs (i + 2))) mi_L_value lk_RL_124 rfl rfl ⟨Nat.le_of_ble_eq_true rfl, Nat.le_of_ble_eq_true rfl⟩ rfl hl.1 rfl (Nat.le_of_ble_eq_true rfl) dL_law_849 ⟨(by show _ + _ ≤ 601024; omega), (by show _ + _ ≤ 7293034; omega)⟩) hG (fun r_849 u_849 H locs hr_849 hG => ?_)
  have hG : sl_I Γ u_849 s H locs := hG
  have hM2 := hM.cg (sl_Wr.md hr_849)
  refine lv_istore (lv' := [(5, .int r_849), (4, .int (nI i)), (3, .ref ao), (2, .ref (μ 0)), (1, .ref (α 0)), (0, .ref bb)]) hx hb dL_law_852 hl (by decide) rfl (fun ls hl => ?_)
  refine lv_aload_n hx hb dL_law_854 rfl (lv_at hl 3 rfl) ?_
  refine lv_aload_n hx hb dL_law_855 rfl (lv_at hl 5 rfl) ?_
  refine lv_iload hx hb dL_law_856 (lv_at hl 1 rfl) ?_
  refine lv_iconst (v := 1) hx hb dL_law_858 (by decide) ?_
  refine lv_iadd hx hb dL_law_859 ?_
  refine sl_topi (y := nI (i + 1)) (nI_add i 1) ?_
  refine va_sld hx hb hX hbl hz hG.2 (i := nI (i + 1)) (vp_in_nI (by omega) (by omega)) dL_law_860 ?_
  refine sl_topi (y := xs (i + 1)) (by rw [nI_clamp (by omega)]) ?_
  refine lv_aload_n hx hb dL_law_861 rfl (lv_at hl 5 rfl) ?_
  refine lv_iload hx hb dL_law_862 (lv_at hl 1 rfl) ?_
  refine lv_iconst (v := 2) hx hb dL_law_864 (by decide) ?_
  refine lv_iadd hx hb dL_law_865 ?_
  refine sl_topi (y := nI (i + 2)) (nI_add i 2) ?_
  refine va_sld hx hb hX hbl hz hG.2 (i := nI (i + 2)) (vp_in_nI (by omega) (by omega)) dL_law_866 ?_
  refine sl_topi (y := xs (i + 2)) (by rw [nI_clamp (by omega)]) ?_
  refine sl_calli (sl_runV (As := [.int (xs (i + 1)), .int (xs (i + 2))]) (rest := []) hC hG (kX5_value l Γ u_849 μ n ep tl lo T C E th0 hM2 hJ.st (xs (i + 1)) (xs (i + 2))) mi_X5_value lk_RL_126 20 hM2.1 rfl rfl rfl ⟨Nat.le_of_ble_eq_true rfl, Nat.le_of_ble_eq_true rfl⟩ rfl hl.1 rfl (Nat.le_of_ble_eq_true rfl) dL_law_867 ⟨(by show _ + _ ≤ 601024; omega), (by show _ + _ ≤ 7293034; omega)⟩) hG (fun r_867 u_867 H locs hr_867 hG => ?_)
  have hG : sl_I Γ u_867 s H locs := hG
  obtain ⟨th9, f9, hT9, hrr, hf9⟩ := sl_ag_value hK hJ hw h40 hr_849 hr_867
  subst hrr
  obtain ⟨β9, n9, ep9, tl9, lo9, T9, C9, E9, hK9, hM9, hJ9, h49⟩ := id hT9
  refine lv_istore (lv' := [(6, .int r_867), (5, .int r_849), (4, .int (nI i)), (3, .ref ao), (2, .ref (μ 0)), (1, .ref (α 0)), (0, .ref bb)]) hx hb dL_law_870 hl (by decide) rfl (fun ls hl => ?_)
  refine lv_aload_n hx hb dL_law_872 rfl (lv_at hl 4 rfl) ?_
  refine sl_calli (sl_runV (As := []) (rest := []) hC hG (kX5_thrown l Γ u_867 μ n9 ep9 tl9 lo9 T9 C9 E9 r_849 hM9) mi_X5_thrown lk_RL_70 20 hM9.1 rfl rfl rfl ⟨Nat.le_of_ble_eq_true rfl, Nat.le_of_ble_eq_true rfl⟩ rfl hl.1 rfl (Nat.le_of_ble_eq_true rfl) dL_law_873 ⟨(by show _ + _ ≤ 601024; omega), (by show _ + _ ≤ 7293034; omega)⟩) hG (fun r_873 u_873 H locs hr_873 hG => ?_)
  refine sl_topi (y := r_849) hr_873 ?_
  refine lv_iload hx hb dL_law_876 (lv_at hl 1 rfl) ?_
  refine lv_icmp_eq (tgt := 883) hx hb dL_law_878 (by decide) (fun c_878 => ?_) (fun c_878 => ?_)
  · refine lv_iload hx hb dL_law_883 (lv_at hl 1 rfl) ?_
    refine lv_if_ne (tgt := 900) hx hb dL_law_885 (by decide) (fun c_885 => ?_) (fun c_885 => ?_)
    · refine lv_goto (tgt := 1039) hx hb dL_law_900 (by decide) ?_
      exact kk (e0) _ _ _ _ _ _ _ _ (by omega) hT9 hG (lv_sub hl [2, 3, 4, 5, 6] rfl) (by omega) (by omega)
    · refine lv_aload_n hx hb dL_law_888 rfl (lv_at hl 3 rfl) ?_
      refine lv_iconst (v := 0) hx hb dL_law_889 (by decide) ?_
      refine sl_laldN hC hG 40 h49 (j := 0) rfl (by omega) (by omega) dL_law_890 ?_
      refine lv_iload hx hb dL_law_891 (lv_at hl 0 rfl) ?_
      refine lv_i2l hx hb dL_law_893 rfl ?_
      refine W.lcmp hx hb dL_law_894 ?_
      refine sl_topi (y := 0) (by rw [hf9 c_885]; exact sl_cmp0 _) ?_
      refine lv_if_eq (tgt := 900) hx hb dL_law_895 (by decide) (fun c_895 => ?_) (fun c_895 => ?_)
      · refine lv_goto (tgt := 1039) hx hb dL_law_900 (by decide) ?_
        exact kk (e0) _ _ _ _ _ _ _ _ (by omega) hT9 hG (lv_sub hl [2, 3, 4, 5, 6] rfl) (by omega) (by omega)
      · exact absurd c_895 (by decide)
  · exact absurd rfl c_878
set_option maxHeartbeats 4000000 in
set_option maxRecDepth 100000 in
theorem sl_seg_valueByPointers {p : Program} {l : Launch} {e : Env} {s : State} {m : MethodId} {below : List Frame} {meth : Method} {c : Code} {H : Heap} {locs : List Loc} {cells slots : Nat} {Q : State → Prop} {Γ : sl_G} {α μ : Nat → Nat} {ao bb L e0 i : Nat} {xs : Nat → Int32} {g : sl_W} {th0 : Int32} {f0 : Nat → Int64} {ls : Array Slot} (hlt : l.stackTraces = false) (hC : sl_C Γ p s m meth c cL_law 7 RL) (hz : ¬ sl_A Γ bb) (hX : va_X bb L xs s s.heap) (hbl : bb < s.heap.size) (hL : L ≤ 2560) (hi : i + 5 ≤ L) (hG : sl_I Γ g s H locs) (hI : sl_LT Γ α μ ao e0 th0 f0 g) (he : e0 < 100000) (hcs : cells + 4 ≤ 601024) (hss : slots + 40 ≤ 7293034) (hl : lv_has ls 7 [(4, .int (nI i)), (3, .ref ao), (2, .ref (μ 0)), (1, .ref (α 0)), (0, .ref bb)]) (kk : ∀ (e1 : Nat) (th1 : Int32) (f1 : Nat → Int64) (g1 : sl_W) (H1 : Heap) (locs1 : List Loc) (ls1 : Array Slot) (k1 n1 : Nat), e1 ≤ e0 + 1 → sl_LT Γ α μ ao e1 th1 f1 g1 → sl_I Γ g1 s H1 locs1 → lv_has ls1 7 [(4, .int (nI i)), (3, .ref ao), (2, .ref (μ 0)), (1, .ref (α 0)), (0, .ref bb)] → k1 ≤ cells + 4 → n1 ≤ slots + 40 → W p l e room_1 s m #[.ref bb] below meth c H1 locs1 k1 n1 Q (F0 m 1039 ls1 [])) : W p l e room_1 s m #[.ref bb] below meth c H locs cells slots Q (F0 m 903 ls []) := by
  have hx := hC.1
  have hb := hC.2.1
  obtain ⟨β, n, ep, tl, lo, T, C, E, hK, hM, hJ, h40⟩ := id hI
  have hw := sl_Mdl.wf hM
  refine lv_aload_n hx hb dL_law_903 rfl (lv_at hl 3 rfl) ?_
  refine lv_aload_n hx hb dL_law_904 rfl (lv_at hl 4 rfl) ?_
  refine lv_iload hx hb dL_law_905 (lv_at hl 0 rfl) ?_
  refine lv_iconst (v := 1) hx hb dL_law_907 (by decide) ?_
  refine lv_iadd hx hb dL_law_908 ?_
  refine sl_topi (y := nI (i + 1)) (nI_add i 1) ?_
  refine va_sld hx hb hX hbl hz hG.2 (i := nI (i + 1)) (vp_in_nI (by omega) (by omega)) dL_law_909 ?_
  refine sl_topi (y := xs (i + 1)) (by rw [nI_clamp (by omega)]) ?_
  refine lv_aload_n hx hb dL_law_910 rfl (lv_at hl 4 rfl) ?_
  refine lv_iload hx hb dL_law_911 (lv_at hl 0 rfl) ?_
  refine lv_iconst (v := 2) hx hb dL_law_913 (by decide) ?_
  refine lv_iadd hx hb dL_law_914 ?_
  refine sl_topi (y := nI (i + 2)) (nI_add i 2) ?_
  refine va_sld hx hb hX hbl hz hG.2 (i := nI (i + 2)) (vp_in_nI (by omega) (by omega)) dL_law_915 ?_
  refine sl_topi (y := xs (i + 2)) (by rw [nI_clamp (by omega)]) ?_
  refine lv_aload_n hx hb dL_law_916 rfl (lv_at hl 1 rfl) ?_
  refine sl_calli (sl_runSW (As := [.ref (α 0), .int (xs (i + 1)), .int (xs (i + 2)), .ref ao]) (rest := []) hC hG (kL_valueByPointers l hlt Γ g α β n ep tl lo T C E hK hJ.hP (hJ.hPP hw) ao f0 h40 (xs (i + 1)) (xs (i + 2))) mi_L_valueByPointers lk_RL_127 rfl rfl ⟨Nat.le_of_ble_eq_true rfl, Nat.le_of_ble_eq_true rfl⟩ rfl hl.1 rfl (Nat.le_of_ble_eq_true rfl) dL_law_917 ⟨(by show _ + _ ≤ 601024; omega), (by show _ + _ ≤ 7293034; omega)⟩) hG (fun r_917 u_917 H locs hr_917 hG => ?_)
  have hG : sl_I Γ u_917 s H locs := hG
  have hM2 := hM.cg (sl_Wr.md hr_917)
  refine lv_istore (lv' := [(5, .int r_917), (4, .int (nI i)), (3, .ref ao), (2, .ref (μ 0)), (1, .ref (α 0)), (0, .ref bb)]) hx hb dL_law_920 hl (by decide) rfl (fun ls hl => ?_)
  refine lv_aload_n hx hb dL_law_922 rfl (lv_at hl 3 rfl) ?_
  refine lv_aload_n hx hb dL_law_923 rfl (lv_at hl 5 rfl) ?_
  refine lv_iload hx hb dL_law_924 (lv_at hl 1 rfl) ?_
  refine lv_iconst (v := 1) hx hb dL_law_926 (by decide) ?_
  refine lv_iadd hx hb dL_law_927 ?_
  refine sl_topi (y := nI (i + 1)) (nI_add i 1) ?_
  refine va_sld hx hb hX hbl hz hG.2 (i := nI (i + 1)) (vp_in_nI (by omega) (by omega)) dL_law_928 ?_
  refine sl_topi (y := xs (i + 1)) (by rw [nI_clamp (by omega)]) ?_
  refine lv_aload_n hx hb dL_law_929 rfl (lv_at hl 5 rfl) ?_
  refine lv_iload hx hb dL_law_930 (lv_at hl 1 rfl) ?_
  refine lv_iconst (v := 2) hx hb dL_law_932 (by decide) ?_
  refine lv_iadd hx hb dL_law_933 ?_
  refine sl_topi (y := nI (i + 2)) (nI_add i 2) ?_
  refine va_sld hx hb hX hbl hz hG.2 (i := nI (i + 2)) (vp_in_nI (by omega) (by omega)) dL_law_934 ?_
  refine sl_topi (y := xs (i + 2)) (by rw [nI_clamp (by omega)]) ?_
  refine sl_calli (sl_runV (As := [.int (xs (i + 1)), .int (xs (i + 2))]) (rest := []) hC hG (kX5_valueByPointers l Γ u_917 μ n ep tl lo T C E th0 hM2 hJ.st (xs (i + 1)) (xs (i + 2))) mi_X5_valueByPointers lk_RL_129 20 hM2.1 rfl rfl rfl ⟨Nat.le_of_ble_eq_true rfl, Nat.le_of_ble_eq_true rfl⟩ rfl hl.1 rfl (Nat.le_of_ble_eq_true rfl) dL_law_935 ⟨(by show _ + _ ≤ 601024; omega), (by show _ + _ ≤ 7293034; omega)⟩) hG (fun r_935 u_935 H locs hr_935 hG => ?_)
  have hG : sl_I Γ u_935 s H locs := hG
  obtain ⟨th9, f9, hT9, hrr, hf9⟩ := sl_ag_valueByPointers hK hJ hw h40 hr_917 hr_935
  subst hrr
  obtain ⟨β9, n9, ep9, tl9, lo9, T9, C9, E9, hK9, hM9, hJ9, h49⟩ := id hT9
  refine lv_istore (lv' := [(6, .int r_935), (5, .int r_917), (4, .int (nI i)), (3, .ref ao), (2, .ref (μ 0)), (1, .ref (α 0)), (0, .ref bb)]) hx hb dL_law_938 hl (by decide) rfl (fun ls hl => ?_)
  refine lv_aload_n hx hb dL_law_940 rfl (lv_at hl 4 rfl) ?_
  refine sl_calli (sl_runV (As := []) (rest := []) hC hG (kX5_thrown l Γ u_935 μ n9 ep9 tl9 lo9 T9 C9 E9 r_917 hM9) mi_X5_thrown lk_RL_70 20 hM9.1 rfl rfl rfl ⟨Nat.le_of_ble_eq_true rfl, Nat.le_of_ble_eq_true rfl⟩ rfl hl.1 rfl (Nat.le_of_ble_eq_true rfl) dL_law_941 ⟨(by show _ + _ ≤ 601024; omega), (by show _ + _ ≤ 7293034; omega)⟩) hG (fun r_941 u_941 H locs hr_941 hG => ?_)
  refine sl_topi (y := r_917) hr_941 ?_
  refine lv_iload hx hb dL_law_944 (lv_at hl 1 rfl) ?_
  refine lv_icmp_eq (tgt := 951) hx hb dL_law_946 (by decide) (fun c_946 => ?_) (fun c_946 => ?_)
  · refine lv_iload hx hb dL_law_951 (lv_at hl 1 rfl) ?_
    refine lv_if_ne (tgt := 968) hx hb dL_law_953 (by decide) (fun c_953 => ?_) (fun c_953 => ?_)
    · refine lv_goto (tgt := 1039) hx hb dL_law_968 (by decide) ?_
      exact kk (e0) _ _ _ _ _ _ _ _ (by omega) hT9 hG (lv_sub hl [2, 3, 4, 5, 6] rfl) (by omega) (by omega)
    · refine lv_aload_n hx hb dL_law_956 rfl (lv_at hl 3 rfl) ?_
      refine lv_iconst (v := 0) hx hb dL_law_957 (by decide) ?_
      refine sl_laldN hC hG 40 h49 (j := 0) rfl (by omega) (by omega) dL_law_958 ?_
      refine lv_iload hx hb dL_law_959 (lv_at hl 0 rfl) ?_
      refine lv_i2l hx hb dL_law_961 rfl ?_
      refine W.lcmp hx hb dL_law_962 ?_
      refine sl_topi (y := 0) (by rw [hf9 c_953]; exact sl_cmp0 _) ?_
      refine lv_if_eq (tgt := 968) hx hb dL_law_963 (by decide) (fun c_963 => ?_) (fun c_963 => ?_)
      · refine lv_goto (tgt := 1039) hx hb dL_law_968 (by decide) ?_
        exact kk (e0) _ _ _ _ _ _ _ _ (by omega) hT9 hG (lv_sub hl [2, 3, 4, 5, 6] rfl) (by omega) (by omega)
      · exact absurd c_963 (by decide)
  · exact absurd rfl c_946
set_option maxHeartbeats 4000000 in
set_option maxRecDepth 100000 in
theorem sl_seg_latest {p : Program} {l : Launch} {e : Env} {s : State} {m : MethodId} {below : List Frame} {meth : Method} {c : Code} {H : Heap} {locs : List Loc} {cells slots : Nat} {Q : State → Prop} {Γ : sl_G} {α μ : Nat → Nat} {ao bb L e0 i : Nat} {xs : Nat → Int32} {g : sl_W} {th0 : Int32} {f0 : Nat → Int64} {ls : Array Slot} (hlt : l.stackTraces = false) (hC : sl_C Γ p s m meth c cL_law 7 RL) (hz : ¬ sl_A Γ bb) (hX : va_X bb L xs s s.heap) (hbl : bb < s.heap.size) (hL : L ≤ 2560) (hi : i + 5 ≤ L) (hG : sl_I Γ g s H locs) (hI : sl_LT Γ α μ ao e0 th0 f0 g) (he : e0 < 100000) (hcs : cells + 4 ≤ 601024) (hss : slots + 40 ≤ 7293034) (hl : lv_has ls 7 [(4, .int (nI i)), (3, .ref ao), (2, .ref (μ 0)), (1, .ref (α 0)), (0, .ref bb)]) (kk : ∀ (e1 : Nat) (th1 : Int32) (f1 : Nat → Int64) (g1 : sl_W) (H1 : Heap) (locs1 : List Loc) (ls1 : Array Slot) (k1 n1 : Nat), e1 ≤ e0 + 1 → sl_LT Γ α μ ao e1 th1 f1 g1 → sl_I Γ g1 s H1 locs1 → lv_has ls1 7 [(4, .int (nI i)), (3, .ref ao), (2, .ref (μ 0)), (1, .ref (α 0)), (0, .ref bb)] → k1 ≤ cells + 4 → n1 ≤ slots + 40 → W p l e room_1 s m #[.ref bb] below meth c H1 locs1 k1 n1 Q (F0 m 1039 ls1 [])) : W p l e room_1 s m #[.ref bb] below meth c H locs cells slots Q (F0 m 971 ls []) := by
  have hx := hC.1
  have hb := hC.2.1
  obtain ⟨β, n, ep, tl, lo, T, C, E, hK, hM, hJ, h40⟩ := id hI
  have hw := sl_Mdl.wf hM
  refine lv_aload_n hx hb dL_law_971 rfl (lv_at hl 3 rfl) ?_
  refine lv_aload_n hx hb dL_law_972 rfl (lv_at hl 4 rfl) ?_
  refine lv_iload hx hb dL_law_973 (lv_at hl 0 rfl) ?_
  refine lv_iconst (v := 1) hx hb dL_law_975 (by decide) ?_
  refine lv_iadd hx hb dL_law_976 ?_
  refine sl_topi (y := nI (i + 1)) (nI_add i 1) ?_
  refine va_sld hx hb hX hbl hz hG.2 (i := nI (i + 1)) (vp_in_nI (by omega) (by omega)) dL_law_977 ?_
  refine sl_topi (y := xs (i + 1)) (by rw [nI_clamp (by omega)]) ?_
  refine lv_aload_n hx hb dL_law_978 rfl (lv_at hl 4 rfl) ?_
  refine lv_iload hx hb dL_law_979 (lv_at hl 0 rfl) ?_
  refine lv_iconst (v := 2) hx hb dL_law_981 (by decide) ?_
  refine lv_iadd hx hb dL_law_982 ?_
  refine sl_topi (y := nI (i + 2)) (nI_add i 2) ?_
  refine va_sld hx hb hX hbl hz hG.2 (i := nI (i + 2)) (vp_in_nI (by omega) (by omega)) dL_law_983 ?_
  refine sl_topi (y := xs (i + 2)) (by rw [nI_clamp (by omega)]) ?_
  refine lv_aload_n hx hb dL_law_984 rfl (lv_at hl 1 rfl) ?_
  refine sl_calli (sl_runSW (As := [.ref (α 0), .int (xs (i + 1)), .int (xs (i + 2)), .ref ao]) (rest := []) hC hG (kL_latest l hlt Γ g α β n ep tl lo T C E hK ao f0 h40 (xs (i + 1)) (xs (i + 2))) mi_L_latest lk_RL_130 rfl rfl ⟨Nat.le_of_ble_eq_true rfl, Nat.le_of_ble_eq_true rfl⟩ rfl hl.1 rfl (Nat.le_of_ble_eq_true rfl) dL_law_985 ⟨(by show _ + _ ≤ 601024; omega), (by show _ + _ ≤ 7293034; omega)⟩) hG (fun r_985 u_985 H locs hr_985 hG => ?_)
  have hG : sl_I Γ u_985 s H locs := hG
  have hM2 := hM.cg (sl_Wr.md hr_985)
  refine lv_istore (lv' := [(5, .int r_985), (4, .int (nI i)), (3, .ref ao), (2, .ref (μ 0)), (1, .ref (α 0)), (0, .ref bb)]) hx hb dL_law_988 hl (by decide) rfl (fun ls hl => ?_)
  refine lv_aload_n hx hb dL_law_990 rfl (lv_at hl 3 rfl) ?_
  refine lv_aload_n hx hb dL_law_991 rfl (lv_at hl 5 rfl) ?_
  refine lv_iload hx hb dL_law_992 (lv_at hl 1 rfl) ?_
  refine lv_iconst (v := 1) hx hb dL_law_994 (by decide) ?_
  refine lv_iadd hx hb dL_law_995 ?_
  refine sl_topi (y := nI (i + 1)) (nI_add i 1) ?_
  refine va_sld hx hb hX hbl hz hG.2 (i := nI (i + 1)) (vp_in_nI (by omega) (by omega)) dL_law_996 ?_
  refine sl_topi (y := xs (i + 1)) (by rw [nI_clamp (by omega)]) ?_
  refine lv_aload_n hx hb dL_law_997 rfl (lv_at hl 5 rfl) ?_
  refine lv_iload hx hb dL_law_998 (lv_at hl 1 rfl) ?_
  refine lv_iconst (v := 2) hx hb dL_law_1000 (by decide) ?_
  refine lv_iadd hx hb dL_law_1001 ?_
  refine sl_topi (y := nI (i + 2)) (nI_add i 2) ?_
  refine va_sld hx hb hX hbl hz hG.2 (i := nI (i + 2)) (vp_in_nI (by omega) (by omega)) dL_law_1002 ?_
  refine sl_topi (y := xs (i + 2)) (by rw [nI_clamp (by omega)]) ?_
  refine sl_calli (sl_runV (As := [.int (xs (i + 1)), .int (xs (i + 2))]) (rest := []) hC hG (kX5_latest l Γ u_985 μ n ep tl lo T C E th0 hM2 (xs (i + 1)) (xs (i + 2))) mi_X5_latest lk_RL_132 20 hM2.1 rfl rfl rfl ⟨Nat.le_of_ble_eq_true rfl, Nat.le_of_ble_eq_true rfl⟩ rfl hl.1 rfl (Nat.le_of_ble_eq_true rfl) dL_law_1003 ⟨(by show _ + _ ≤ 601024; omega), (by show _ + _ ≤ 7293034; omega)⟩) hG (fun r_1003 u_1003 H locs hr_1003 hG => ?_)
  have hG : sl_I Γ u_1003 s H locs := hG
  obtain ⟨th9, f9, hT9, hrr, hf9⟩ := sl_ag_latest hK hJ hw h40 hr_985 hr_1003
  subst hrr
  obtain ⟨β9, n9, ep9, tl9, lo9, T9, C9, E9, hK9, hM9, hJ9, h49⟩ := id hT9
  refine lv_istore (lv' := [(6, .int r_1003), (5, .int r_985), (4, .int (nI i)), (3, .ref ao), (2, .ref (μ 0)), (1, .ref (α 0)), (0, .ref bb)]) hx hb dL_law_1006 hl (by decide) rfl (fun ls hl => ?_)
  refine lv_aload_n hx hb dL_law_1008 rfl (lv_at hl 4 rfl) ?_
  refine sl_calli (sl_runV (As := []) (rest := []) hC hG (kX5_thrown l Γ u_1003 μ n9 ep9 tl9 lo9 T9 C9 E9 r_985 hM9) mi_X5_thrown lk_RL_70 20 hM9.1 rfl rfl rfl ⟨Nat.le_of_ble_eq_true rfl, Nat.le_of_ble_eq_true rfl⟩ rfl hl.1 rfl (Nat.le_of_ble_eq_true rfl) dL_law_1009 ⟨(by show _ + _ ≤ 601024; omega), (by show _ + _ ≤ 7293034; omega)⟩) hG (fun r_1009 u_1009 H locs hr_1009 hG => ?_)
  refine sl_topi (y := r_985) hr_1009 ?_
  refine lv_iload hx hb dL_law_1012 (lv_at hl 1 rfl) ?_
  refine lv_icmp_eq (tgt := 1019) hx hb dL_law_1014 (by decide) (fun c_1014 => ?_) (fun c_1014 => ?_)
  · refine lv_iload hx hb dL_law_1019 (lv_at hl 1 rfl) ?_
    refine lv_if_ne (tgt := 1036) hx hb dL_law_1021 (by decide) (fun c_1021 => ?_) (fun c_1021 => ?_)
    · refine lv_goto (tgt := 1039) hx hb dL_law_1036 (by decide) ?_
      exact kk (e0) _ _ _ _ _ _ _ _ (by omega) hT9 hG (lv_sub hl [2, 3, 4, 5, 6] rfl) (by omega) (by omega)
    · refine lv_aload_n hx hb dL_law_1024 rfl (lv_at hl 3 rfl) ?_
      refine lv_iconst (v := 0) hx hb dL_law_1025 (by decide) ?_
      refine sl_laldN hC hG 40 h49 (j := 0) rfl (by omega) (by omega) dL_law_1026 ?_
      refine lv_iload hx hb dL_law_1027 (lv_at hl 0 rfl) ?_
      refine lv_i2l hx hb dL_law_1029 rfl ?_
      refine W.lcmp hx hb dL_law_1030 ?_
      refine sl_topi (y := 0) (by rw [hf9 c_1021]; exact sl_cmp0 _) ?_
      refine lv_if_eq (tgt := 1036) hx hb dL_law_1031 (by decide) (fun c_1031 => ?_) (fun c_1031 => ?_)
      · refine lv_goto (tgt := 1039) hx hb dL_law_1036 (by decide) ?_
        exact kk (e0) _ _ _ _ _ _ _ _ (by omega) hT9 hG (lv_sub hl [2, 3, 4, 5, 6] rfl) (by omega) (by omega)
      · exact absurd c_1031 (by decide)
  · exact absurd rfl c_1014
