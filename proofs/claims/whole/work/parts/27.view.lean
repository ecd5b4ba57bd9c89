/-! sub, slice, extend, swap: GridVault$View -/
set_option maxRecDepth 20000 in
theorem c_X10_sourcePlace0 {l : Launch} {G : gV} {M : gMem} {N : gN} {a s tl j e : Nat} {at0 : Int32} {tf : Nat → Int32} (hs : nStat G M N a) (hA : M a = some (oB 10 [.ref (nsh N a), .int (nI (ndp N a)), .ref (nca N a), .ref (naa N a), .ref s, .ref tl, .int at0])) (ht : M tl = some (aI G 3 tf)) (he : e < 3) : qC l G yX10_sourcePlace cX10_sourcePlace 4 (some .int) 5 0 0 [.ref a, .int (nI e), .int (nI j)] M (pP (.int (vwP N a tf at0 j e)) M) := by
  refine qC_of (by decide +kernel) (Nat.le_of_ble_eq_true rfl) (fun F hF X hr hn => ?_)
  subst hF
  have X : qX G F cX10_sourcePlace 4 RX10 5 := X
  obtain ⟨qb, qc, qd, qs, q1, -⟩ := id hs.2.2.1
  show qJ G F _ 4 M 0 0 0 [(0, .ref a), (1, .int (nI e)), (2, .int (nI j))] []
  refine q_iload_n X dX10_sourcePlace_0 1 rfl ?_
  refine q_if_lt X 22 dX10_sourcePlace_1 (by decide) (fun c_1 => absurd c_1 (nI_pos (by omega))) (fun c_1 => ?_)
  refine q_iload_n X dX10_sourcePlace_4 1 rfl ?_
  refine q_aload_n X dX10_sourcePlace_5 0 rfl ?_
  refine q_get X hA rfl in_RX10 5 (by decide) tw_702 rfl rfl dX10_sourcePlace_6 ?_
  refine q_alen X 0 ht rfl dX10_sourcePlace_9 ?_
  refine q_icmp_ge X 22 dX10_sourcePlace_10 (by decide) (fun c_2 => absurd c_2 (nI_ge he (show 3 < 2 ^ 31 by decide))) (fun c_2 => ?_)
  refine q_aload_n X dX10_sourcePlace_13 0 rfl ?_
  refine q_get X hA rfl in_RX10 5 (by decide) tw_702 rfl rfl dX10_sourcePlace_14 ?_
  refine q_iload_n X dX10_sourcePlace_17 1 rfl ?_
  refine q_ialdN X e ht (rfl) (he) (by decide) dX10_sourcePlace_18 ?_
  refine q_goto X 23 dX10_sourcePlace_19 (by decide) ?_
  refine q_istore_n (lv' := [(3, .int (tf e)), (0, .ref a), (1, .int (nI e)), (2, .int (nI j))]) X dX10_sourcePlace_23 (by decide) rfl ?_
  refine q_iload_n X dX10_sourcePlace_24 0 rfl ?_
  refine q_iconst (v := (-1)) X dX10_sourcePlace_25 (by decide) ?_
  refine q_icmp_ne X 36 dX10_sourcePlace_26 (by decide) (fun k1 => ?_) (fun k1 => ?_)
  · refine q_aload_n X dX10_sourcePlace_36 1 rfl ?_
    refine q_callUp X (x := ⟨"GridVault$View", "form", "()LGridVault$Shape;"⟩) (owner := "GridVault$Node") (ci := 10) (c_X5_form hs) Y_X5_form tw_1100 tw_1101 (by decide) rfl (g_decl X tn_1008) tw_629 ⟨_, rfl, tw_1102⟩ hA (by omega) rfl rfl (Nat.le_of_ble_eq_true rfl) dX10_sourcePlace_37 ?_
    refine q_iload_n X dX10_sourcePlace_40 3 rfl ?_
    refine q_iload_n X dX10_sourcePlace_41 0 rfl ?_
    refine q_callVp X (c_X7_placeOf hs.2.2.1) Y_X7_placeOf tw_1103 tw_460 tw_461 q1 rfl (by omega) rfl rfl (Nat.le_of_ble_eq_true rfl) dX10_sourcePlace_42 ?_
    exact q_iret X hr dX10_sourcePlace_45 (⟨congrArg (fun z => some (Value.int z)) (by unfold vwP; rw [if_neg k1]), rfl⟩)
  · refine q_aload_n X dX10_sourcePlace_29 1 rfl ?_
    refine q_get X hA rfl in_RX10 6 (by decide) tw_703 rfl rfl dX10_sourcePlace_30 ?_
    refine q_goto X 45 dX10_sourcePlace_33 (by decide) ?_
    exact q_iret X hr dX10_sourcePlace_45 (⟨congrArg (fun z => some (Value.int z)) (by unfold vwP; rw [if_pos k1]), rfl⟩)

theorem c_X10_sourcePlace {l : Launch} {G : gV} {M : gMem} {N : gN} {a s tl j e : Nat} {at0 d : Int32} {tf : Nat → Int32} (hs : nStat G M N a) (hA : M a = some (oB 10 [.ref (nsh N a), .int (nI (ndp N a)), .ref (nca N a), .ref (naa N a), .ref s, .ref tl, .int at0])) (ht : M tl = some (aI G 3 tf)) (he : e < 3) (hd : d = nI e) : qC l G yX10_sourcePlace cX10_sourcePlace 4 (some .int) 5 0 0 [.ref a, .int d, .int (nI j)] M (pP (.int (vwP N a tf at0 j e)) M) := by
  subst hd
  exact c_X10_sourcePlace0 hs hA ht he

set_option maxRecDepth 20000 in
theorem c_X10_work {l : Launch} {G : gV} {M : gMem} {N : gN} {P : Nat → Nat → Prop} {a j : Nat} (H : HoldsC l G N (ndp N a)) (h : nInv G M N (pA P a j)) (ha : nS N a) (hj : j < nsz N a) (hask : nAsk G M N a j) (hP0 : ∀ b i, P b i → ndp N a < ndp N b) {s tl : Nat} {at0 : Int32} {tf : Nat → Int32} (e0 : nci N a = 10) (ex : nex N a = [.ref s, .ref tl, .int at0]) (hs1 : nS N s) (hd1 : ndp N s < ndp N a) (ht : M tl = some (aI G 3 tf)) (hden : nden N a j = nAt N s (nIdx N s (vwP N a tf at0 j 0) (vwP N a tf at0 j 1) (vwP N a tf at0 j 2))) : qC l G yX10_work cX10_work 3 none (9 + 4 * ndp N a) 0 0 [.ref a, .int (nI j)] M (wP G N a M P) := by
  refine qC_of (by decide +kernel) (Nat.le_of_ble_eq_true rfl) (fun F hF X hr hn => ?_)
  subst hF
  have X : qX G F cX10_work 3 RX10 (9 + 4 * ndp N a) := X
  have hPa : ∀ i, ¬ P a i := fun i p => absurd (hP0 a i p) (Nat.lt_irrefl _)
  have h9 : nci N a ≠ 9 := by rw [e0]; decide
  have hsa := (h.1 a ha).1
  have z2 : nsz N a ≤ 4096 := hsa.2.2.2.2.1
  have hss := (h.1 s hs1).1
  have hA : M a = some (oB 10 [.ref (nsh N a), .int (nI (ndp N a)), .ref (nca N a), .ref (naa N a), .ref s, .ref tl, .int at0]) := by rw [hsa.2.1, e0, ex]
  have z1 : nsz N s ≤ 4096 := hss.2.2.2.2.1
  obtain ⟨qb, qc, qd, qs, q1, -⟩ := id hss.2.2.1
  show qJ G F _ 3 M 0 0 0 [(0, .ref a), (1, .int (nI j))] []
  refine q_aload_n X dX10_work_0 0 rfl ?_
  refine q_get X hA rfl in_RX10 4 (by decide) tw_701 rfl rfl dX10_work_1 ?_
  refine q_callUp X (x := ⟨"GridVault$Node", "form", "()LGridVault$Shape;"⟩) (owner := "GridVault$Node") (ci := nci N s) (c_X5_form hss) Y_X5_form tw_1095 tw_630 (by decide) rfl (g_decl X tn_1008) tw_629 (se_X5_form hss.1) hss.2.1 (by omega) rfl rfl (Nat.le_of_ble_eq_true rfl) dX10_work_4 ?_
  refine q_aload_n X dX10_work_7 0 rfl ?_
  refine q_iconst (v := 0) X dX10_work_8 (by decide) ?_
  refine q_iload_n X dX10_work_9 1 rfl ?_
  refine q_callVp X (c_X10_sourcePlace (e := 0) hsa hA ht (by decide) rfl) Y_X10_sourcePlace tw_1096 tw_1098 sel_21 hA rfl (by omega) rfl rfl (Nat.le_of_ble_eq_true rfl) dX10_work_10 ?_
  refine q_aload_n X dX10_work_13 0 rfl ?_
  refine q_iconst (v := 1) X dX10_work_14 (by decide) ?_
  refine q_iload_n X dX10_work_15 1 rfl ?_
  refine q_callVp X (c_X10_sourcePlace (e := 1) hsa hA ht (by decide) rfl) Y_X10_sourcePlace tw_1096 tw_1098 sel_21 hA rfl (by omega) rfl rfl (Nat.le_of_ble_eq_true rfl) dX10_work_16 ?_
  refine q_aload_n X dX10_work_19 0 rfl ?_
  refine q_iconst (v := 2) X dX10_work_20 (by decide) ?_
  refine q_iload_n X dX10_work_21 1 rfl ?_
  refine q_callVp X (c_X10_sourcePlace (e := 2) hsa hA ht (by decide) rfl) Y_X10_sourcePlace tw_1096 tw_1098 sel_21 hA rfl (by omega) rfl rfl (Nat.le_of_ble_eq_true rfl) dX10_work_22 ?_
  refine q_callVp X (c_X7_indexOf hss.2.2.1) Y_X7_indexOf tw_1104 tw_262 tw_263 q1 rfl (by omega) rfl rfl (Nat.le_of_ble_eq_true rfl) dX10_work_25 ?_
  refine q_topi (fun fr efr => ?_)
  refine q_istore_n (lv' := [(2, .int fr), (0, .ref a), (1, .int (nI j))]) X dX10_work_28 (by decide) rfl ?_
  refine q_aload_n X dX10_work_29 1 rfl ?_
  refine q_get X hA rfl in_RX10 4 (by decide) tw_701 rfl rfl dX10_work_30 ?_
  refine q_iload_n X dX10_work_33 0 rfl ?_
  refine q_callU X (x := ⟨"GridVault$Node", "holds", "(I)Z"⟩) (owner := "GridVault$Node") (ci := nci N s) (H s M _ fr hs1 hd1 h (pA_dp hP0 hd1)) Y_X5_holds tw_1105 tw_955 (by decide) rfl (g_declC X tw_954 tw_962) tw_954 (se_X5_holds hss.1) hss.2.1 (by omega) rfl rfl (Nat.le_of_ble_eq_true rfl) (rc' := 0) (rs' := 0) (Nat.le_refl _) (Nat.le_refl _) dX10_work_34 (fun v M' hp _ => ?_)
  obtain ⟨rfl, h1, hf1, hq1⟩ := hp
  have hf1 := hf1.mono (Nat.le_of_lt hd1)
  generalize M' = M1 at *
  have hA1 : M1 a = some (oB 10 [.ref (nsh N a), .int (nI (ndp N a)), .ref (nca N a), .ref (naa N a), .ref s, .ref tl, .int at0]) := (hf1.1 a (nAdr_obj h hA (by decide))).trans hA
  have ht1 : M1 tl = some (aI G 3 tf) := (hf1.1 tl (nAdr_int h ht)).trans ht
  have hss1 := (h1.1 s hs1).1
  have hsa1 := (h1.1 a ha).1
  show qJ G F _ 3 M1 0 0 37 [(2, .int fr), (0, .ref a), (1, .int (nI j))] [.int (bI (nAt N s fr).isSome)]
  refine q_if_eq X 53 dX10_work_37 (by decide) (fun k1 => ?_) (fun k1 => ?_)
  · exact q_vret X hr dX10_work_53 (⟨rfl, nInv_done h1 ha h9 (by rw [hden]; unfold nIdx; rw [← efr]; exact nAt_no k1) hPa, hf1⟩)
  · obtain ⟨j2, v, hj2, e2, hv, hat⟩ := nAt_in z1 k1
    subst e2
    have hvv : nden N a j = some v := by rw [hden]; unfold nIdx; rw [← efr]; exact hat
    have hk1 := hf1.2 a ha j hask
    refine q_aload_n X dX10_work_40 1 rfl ?_
    refine q_iload_n X dX10_work_41 2 rfl ?_
    refine q_aload_n X dX10_work_42 1 rfl ?_
    refine q_get X hA1 rfl in_RX10 4 (by decide) tw_701 rfl rfl dX10_work_43 ?_
    refine q_iload_n X dX10_work_46 0 rfl ?_
    refine q_callUp X (x := ⟨"GridVault$Node", "number", "(I)J"⟩) (owner := "GridVault$Node") (ci := nci N s) (nNum h1 hs1 hj2 (hq1 j2 hj2 rfl) (pA_no hP0 hd1)) Y_X5_number tw_1106 tw_973 (by decide) rfl (g_declC X tw_972 tw_980) tw_972 (se_X5_number hss1.1) hss1.2.1 (by omega) rfl rfl (Nat.le_of_ble_eq_true rfl) dX10_work_47 ?_
    rw [show (nden N s j2).getD 0 = v by rw [hv]; rfl]
    obtain ⟨-, -, cf9, ak9, hc9, -⟩ := h1.1 a ha
    refine q_callU X (x := ⟨"GridVault$View", "settle", "(IJ)V"⟩) (owner := "GridVault$Node") (ci := 10) (c_X5_settle (v := v) hsa1 hc9 hj) Y_X5_settle tw_1107 tw_1108 (by decide) rfl (g_decl X tn_988) tw_990 ⟨_, rfl, tw_1109⟩ hA1 (by omega) rfl rfl (Nat.le_of_ble_eq_true rfl) (rc' := 0) (rs' := 0) (Nat.le_refl _) (Nat.le_refl _) dX10_work_50 (fun v M' hp _ => ?_)
    obtain ⟨rfl, hC9, hm9⟩ := hp
    have G9 := nInv_set h1 ha h9 hj hvv hPa hc9 hC9 hm9 hk1
    show qJ G F _ 3 M' 0 0 53 [(2, .int (nI j2)), (0, .ref a), (1, .int (nI j))] []
    exact q_vret X hr dX10_work_53 (⟨rfl, G9.1, hf1.trans G9.2⟩)
