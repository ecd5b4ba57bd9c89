/-! join: GridVault$Joined -/
set_option maxRecDepth 20000 in
theorem c_X4_joined {l : Launch} {G : gV} {M : gMem} {N : gN} {a s t : Nat} {op : Int32} {v w : Int64} (hA : M a = some (oB 5 [.ref (nsh N a), .int (nI (ndp N a)), .ref (nca N a), .ref (naa N a), .ref s, .ref t, .int op])) : qC l G yX4_joined cX4_joined 5 (some .long) 2 0 0 [.ref a, .long v, .long w] M (pP (.long (joinD op v w)) M) := by
  refine qC_of (by decide +kernel) (Nat.le_of_ble_eq_true rfl) (fun F hF X hr hn => ?_)
  subst hF
  have X : qX G F cX4_joined 5 RX4 2 := X
  show qJ G F _ 5 M 0 0 0 [(0, .ref a), (1, .long v), (3, .long w)] []
  refine q_aload_n X dX4_joined_0 0 rfl ?_
  refine q_get X hA rfl in_RX4 6 (by decide) tw_809 rfl rfl dX4_joined_1 ?_
  by_cases k0 : 0 ≤ op.toInt ∧ op.toInt ≤ 4
  · have ko : op = 0 ∨ op = 1 ∨ op = 2 ∨ op = 3 ∨ op = 4 := by
      rcases (show op.toInt = 0 ∨ op.toInt = 1 ∨ op.toInt = 2 ∨ op.toInt = 3 ∨ op.toInt = 4 by omega) with q | q | q | q | q
      · exact (Or.inl (Int32.toInt_inj.mp q))
      · exact Or.inr ((Or.inl (Int32.toInt_inj.mp q)))
      · exact Or.inr (Or.inr ((Or.inl (Int32.toInt_inj.mp q))))
      · exact Or.inr (Or.inr (Or.inr ((Or.inl (Int32.toInt_inj.mp q)))))
      · exact Or.inr (Or.inr (Or.inr (Or.inr ((Int32.toInt_inj.mp q)))))
    rcases ko with rfl | rfl | rfl | rfl | rfl
    · refine q_tableIn (off := 36) X 40 dX4_joined_4 (by decide) (by decide) (by decide) (by decide) ?_
      refine q_lload_n X dX4_joined_40 1 rfl ?_
      refine q_lload_n X dX4_joined_41 2 rfl ?_
      refine q_ladd X dX4_joined_42 ?_
      exact q_lret X hr dX4_joined_43 (⟨rfl, rfl⟩)
    · refine q_tableIn (off := 40) X 44 dX4_joined_4 (by decide) (by decide) (by decide) (by decide) ?_
      refine q_lload_n X dX4_joined_44 1 rfl ?_
      refine q_lload_n X dX4_joined_45 2 rfl ?_
      refine q_lsub X dX4_joined_46 ?_
      exact q_lret X hr dX4_joined_47 (⟨rfl, rfl⟩)
    · refine q_tableIn (off := 44) X 48 dX4_joined_4 (by decide) (by decide) (by decide) (by decide) ?_
      refine q_lload_n X dX4_joined_48 1 rfl ?_
      refine q_lload_n X dX4_joined_49 2 rfl ?_
      refine q_lmul X dX4_joined_50 ?_
      exact q_lret X hr dX4_joined_51 (⟨rfl, rfl⟩)
    · refine q_tableIn (off := 48) X 52 dX4_joined_4 (by decide) (by decide) (by decide) (by decide) ?_
      refine q_lload_n X dX4_joined_52 1 rfl ?_
      refine q_lload_n X dX4_joined_53 2 rfl ?_
      refine q_callSp X (c_J9_min_f86c9) Y_J9_min_f86c9 tw_1066 tw_1035 (by decide) rfl rfl (Nat.le_of_ble_eq_true rfl) dX4_joined_54 ?_
      exact q_lret X hr dX4_joined_57 (⟨rfl, rfl⟩)
    · refine q_tableIn (off := 54) X 58 dX4_joined_4 (by decide) (by decide) (by decide) (by decide) ?_
      refine q_lload_n X dX4_joined_58 1 rfl ?_
      refine q_lload_n X dX4_joined_59 2 rfl ?_
      refine q_callSp X (c_J9_max_f86c9) Y_J9_max_f86c9 tw_1067 tw_1038 (by decide) rfl rfl (Nat.le_of_ble_eq_true rfl) dX4_joined_60 ?_
      exact q_lret X hr dX4_joined_63 (⟨rfl, rfl⟩)
  · refine q_tableOut X 64 dX4_joined_4 (by omega) (by decide) ?_
    refine q_lload_n X dX4_joined_64 1 rfl ?_
    exact q_lret X hr dX4_joined_65 (⟨congrArg (fun z => some (Value.long z)) (by unfold joinD; rw [if_neg (fun q => k0 (by rw [q]; decide)), if_neg (fun q => k0 (by rw [q]; decide)), if_neg (fun q => k0 (by rw [q]; decide)), if_neg (fun q => k0 (by rw [q]; decide)), if_neg (fun q => k0 (by rw [q]; decide))]), rfl⟩)

set_option maxRecDepth 20000 in
theorem c_X4_work {l : Launch} {G : gV} {M : gMem} {N : gN} {P : Nat → Nat → Prop} {a j : Nat} (H : HoldsC l G N (ndp N a)) (h : nInv G M N (pA P a j)) (ha : nS N a) (hj : j < nsz N a) (hask : nAsk G M N a j) (hP0 : ∀ b i, P b i → ndp N a < ndp N b) {s t : Nat} {op : Int32} (e0 : nci N a = 5) (ex : nex N a = [.ref s, .ref t, .int op]) (hs1 : nS N s) (ht1 : nS N t) (hd1 : ndp N s < ndp N a) (hd2 : ndp N t < ndp N a) (hden : nden N a j = (nAt N s (nIdx N s (sPlace (nlo N a) (nhi N a) (nI j) 0) (sPlace (nlo N a) (nhi N a) (nI j) 1) (sPlace (nlo N a) (nhi N a) (nI j) 2))).bind (fun v => (nAt N t (nIdx N t (sPlace (nlo N a) (nhi N a) (nI j) 0) (sPlace (nlo N a) (nhi N a) (nI j) 1) (sPlace (nlo N a) (nhi N a) (nI j) 2))).map (joinD op v))) : qC l G yX4_work cX4_work 7 none (9 + 4 * ndp N a) 0 0 [.ref a, .int (nI j)] M (wP G N a M P) := by
  refine qC_of (by decide +kernel) (Nat.le_of_ble_eq_true rfl) (fun F hF X hr hn => ?_)
  subst hF
  have X : qX G F cX4_work 7 RX4 (9 + 4 * ndp N a) := X
  have hPa : ∀ i, ¬ P a i := fun i p => absurd (hP0 a i p) (Nat.lt_irrefl _)
  have h9 : nci N a ≠ 9 := by rw [e0]; decide
  have hsa := (h.1 a ha).1
  have z2 : nsz N a ≤ 4096 := hsa.2.2.2.2.1
  have hss := (h.1 s hs1).1
  have hst := (h.1 t ht1).1
  have hA : M a = some (oB 5 [.ref (nsh N a), .int (nI (ndp N a)), .ref (nca N a), .ref (naa N a), .ref s, .ref t, .int op]) := by rw [hsa.2.1, e0, ex]
  have z1 : nsz N s ≤ 4096 := hss.2.2.2.2.1
  have z3 : nsz N t ≤ 4096 := hst.2.2.2.2.1
  obtain ⟨qb, qc, qd, qs, q1, -⟩ := id hss.2.2.1
  obtain ⟨rb, rc0, rd, rs0, r1, -⟩ := id hst.2.2.1
  obtain ⟨ub, uc, ud, us, u1, -⟩ := id hsa.2.2.1
  show qJ G F _ 7 M 0 0 0 [(0, .ref a), (1, .int (nI j))] []
  refine q_aload_n X dX4_work_0 0 rfl ?_
  refine q_callUp X (x := ⟨"GridVault$Joined", "form", "()LGridVault$Shape;"⟩) (owner := "GridVault$Node") (ci := 5) (c_X5_form hsa) Y_X5_form tw_1054 tw_1055 (by decide) rfl (g_decl X tn_1008) tw_629 ⟨_, rfl, tw_1056⟩ hA (by omega) rfl rfl (Nat.le_of_ble_eq_true rfl) dX4_work_1 ?_
  refine q_iload_n X dX4_work_4 1 rfl ?_
  refine q_iconst (v := 0) X dX4_work_5 (by decide) ?_
  refine q_callVp X (c_X7_placeOf hsa.2.2.1) Y_X7_placeOf tw_1057 tw_460 tw_461 u1 rfl (by omega) rfl rfl (Nat.le_of_ble_eq_true rfl) dX4_work_6 ?_
  refine q_istore_n (lv' := [(2, .int (sPlace (nlo N a) (nhi N a) (nI j) 0)), (0, .ref a), (1, .int (nI j))]) X dX4_work_9 (by decide) rfl ?_
  refine q_aload_n X dX4_work_10 1 rfl ?_
  refine q_callUp X (x := ⟨"GridVault$Joined", "form", "()LGridVault$Shape;"⟩) (owner := "GridVault$Node") (ci := 5) (c_X5_form hsa) Y_X5_form tw_1054 tw_1055 (by decide) rfl (g_decl X tn_1008) tw_629 ⟨_, rfl, tw_1056⟩ hA (by omega) rfl rfl (Nat.le_of_ble_eq_true rfl) dX4_work_11 ?_
  refine q_iload_n X dX4_work_14 2 rfl ?_
  refine q_iconst (v := 1) X dX4_work_15 (by decide) ?_
  refine q_callVp X (c_X7_placeOf hsa.2.2.1) Y_X7_placeOf tw_1057 tw_460 tw_461 u1 rfl (by omega) rfl rfl (Nat.le_of_ble_eq_true rfl) dX4_work_16 ?_
  refine q_istore_n (lv' := [(3, .int (sPlace (nlo N a) (nhi N a) (nI j) 1)), (2, .int (sPlace (nlo N a) (nhi N a) (nI j) 0)), (0, .ref a), (1, .int (nI j))]) X dX4_work_19 (by decide) rfl ?_
  refine q_aload_n X dX4_work_20 2 rfl ?_
  refine q_callUp X (x := ⟨"GridVault$Joined", "form", "()LGridVault$Shape;"⟩) (owner := "GridVault$Node") (ci := 5) (c_X5_form hsa) Y_X5_form tw_1054 tw_1055 (by decide) rfl (g_decl X tn_1008) tw_629 ⟨_, rfl, tw_1056⟩ hA (by omega) rfl rfl (Nat.le_of_ble_eq_true rfl) dX4_work_21 ?_
  refine q_iload_n X dX4_work_24 3 rfl ?_
  refine q_iconst (v := 2) X dX4_work_25 (by decide) ?_
  refine q_callVp X (c_X7_placeOf hsa.2.2.1) Y_X7_placeOf tw_1057 tw_460 tw_461 u1 rfl (by omega) rfl rfl (Nat.le_of_ble_eq_true rfl) dX4_work_26 ?_
  refine q_istore (lv' := [(4, .int (sPlace (nlo N a) (nhi N a) (nI j) 2)), (3, .int (sPlace (nlo N a) (nhi N a) (nI j) 1)), (2, .int (sPlace (nlo N a) (nhi N a) (nI j) 0)), (0, .ref a), (1, .int (nI j))]) X dX4_work_29 (by decide) rfl ?_
  refine q_aload_n X dX4_work_31 3 rfl ?_
  refine q_get X hA rfl in_RX4 4 (by decide) tw_807 rfl rfl dX4_work_32 ?_
  refine q_callUp X (x := ⟨"GridVault$Node", "form", "()LGridVault$Shape;"⟩) (owner := "GridVault$Node") (ci := nci N s) (c_X5_form hss) Y_X5_form tw_1058 tw_630 (by decide) rfl (g_decl X tn_1008) tw_629 (se_X5_form hss.1) hss.2.1 (by omega) rfl rfl (Nat.le_of_ble_eq_true rfl) dX4_work_35 ?_
  refine q_iload_n X dX4_work_38 2 rfl ?_
  refine q_iload_n X dX4_work_39 1 rfl ?_
  refine q_iload X dX4_work_40 0 rfl ?_
  refine q_callVp X (c_X7_indexOf hss.2.2.1) Y_X7_indexOf tw_1059 tw_262 tw_263 q1 rfl (by omega) rfl rfl (Nat.le_of_ble_eq_true rfl) dX4_work_42 ?_
  refine q_topi (fun p ep => ?_)
  refine q_istore (lv' := [(5, .int p), (4, .int (sPlace (nlo N a) (nhi N a) (nI j) 2)), (3, .int (sPlace (nlo N a) (nhi N a) (nI j) 1)), (2, .int (sPlace (nlo N a) (nhi N a) (nI j) 0)), (0, .ref a), (1, .int (nI j))]) X dX4_work_45 (by decide) rfl ?_
  refine q_aload_n X dX4_work_47 4 rfl ?_
  refine q_get X hA rfl in_RX4 5 (by decide) tw_808 rfl rfl dX4_work_48 ?_
  refine q_callUp X (x := ⟨"GridVault$Node", "form", "()LGridVault$Shape;"⟩) (owner := "GridVault$Node") (ci := nci N t) (c_X5_form hst) Y_X5_form tw_1058 tw_630 (by decide) rfl (g_decl X tn_1008) tw_629 (se_X5_form hst.1) hst.2.1 (by omega) rfl rfl (Nat.le_of_ble_eq_true rfl) dX4_work_51 ?_
  refine q_iload_n X dX4_work_54 3 rfl ?_
  refine q_iload_n X dX4_work_55 2 rfl ?_
  refine q_iload X dX4_work_56 1 rfl ?_
  refine q_callVp X (c_X7_indexOf hst.2.2.1) Y_X7_indexOf tw_1059 tw_262 tw_263 r1 rfl (by omega) rfl rfl (Nat.le_of_ble_eq_true rfl) dX4_work_58 ?_
  refine q_topi (fun q eq => ?_)
  refine q_istore (lv' := [(6, .int q), (5, .int p), (4, .int (sPlace (nlo N a) (nhi N a) (nI j) 2)), (3, .int (sPlace (nlo N a) (nhi N a) (nI j) 1)), (2, .int (sPlace (nlo N a) (nhi N a) (nI j) 0)), (0, .ref a), (1, .int (nI j))]) X dX4_work_61 (by decide) rfl ?_
  refine q_aload_n X dX4_work_63 5 rfl ?_
  refine q_get X hA rfl in_RX4 4 (by decide) tw_807 rfl rfl dX4_work_64 ?_
  refine q_iload X dX4_work_67 1 rfl ?_
  refine q_callU X (x := ⟨"GridVault$Node", "holds", "(I)Z"⟩) (owner := "GridVault$Node") (ci := nci N s) (H s M _ p hs1 hd1 h (pA_dp hP0 hd1)) Y_X5_holds tw_1060 tw_955 (by decide) rfl (g_declC X tw_954 tw_962) tw_954 (se_X5_holds hss.1) hss.2.1 (by omega) rfl rfl (Nat.le_of_ble_eq_true rfl) (rc' := 0) (rs' := 0) (Nat.le_refl _) (Nat.le_refl _) dX4_work_69 (fun v M' hp _ => ?_)
  obtain ⟨rfl, h1, hf1, hq1⟩ := hp
  have hf1 := hf1.mono (Nat.le_of_lt hd1)
  generalize M' = M1 at *
  have hA1 : M1 a = some (oB 5 [.ref (nsh N a), .int (nI (ndp N a)), .ref (nca N a), .ref (naa N a), .ref s, .ref t, .int op]) := (hf1.1 a (nAdr_obj h hA (by decide))).trans hA
  have hss1 := (h1.1 s hs1).1
  have hst1 := (h1.1 t ht1).1
  have hsa1 := (h1.1 a ha).1
  show qJ G F _ 7 M1 0 0 72 [(6, .int q), (5, .int p), (4, .int (sPlace (nlo N a) (nhi N a) (nI j) 2)), (3, .int (sPlace (nlo N a) (nhi N a) (nI j) 1)), (2, .int (sPlace (nlo N a) (nhi N a) (nI j) 0)), (0, .ref a), (1, .int (nI j))] [.int (bI (nAt N s p).isSome)]
  refine q_if_eq X 114 dX4_work_72 (by decide) (fun k1 => ?_) (fun k1 => ?_)
  · exact q_vret X hr dX4_work_114 (⟨rfl, nInv_done h1 ha h9 (by rw [hden]; unfold nIdx; rw [← ep, nAt_no k1]; rfl) hPa, hf1⟩)
  · refine q_aload_n X dX4_work_75 5 rfl ?_
    refine q_get X hA1 rfl in_RX4 5 (by decide) tw_808 rfl rfl dX4_work_76 ?_
    refine q_iload X dX4_work_79 0 rfl ?_
    refine q_callU X (x := ⟨"GridVault$Node", "holds", "(I)Z"⟩) (owner := "GridVault$Node") (ci := nci N t) (H t M1 _ q ht1 hd2 h1 (pA_dp hP0 hd2)) Y_X5_holds tw_1060 tw_955 (by decide) rfl (g_declC X tw_954 tw_962) tw_954 (se_X5_holds hst1.1) hst1.2.1 (by omega) rfl rfl (Nat.le_of_ble_eq_true rfl) (rc' := 0) (rs' := 0) (Nat.le_refl _) (Nat.le_refl _) dX4_work_81 (fun v M' hp _ => ?_)
    obtain ⟨rfl, h2, hf2, hq2⟩ := hp
    have hf2 := hf2.mono (Nat.le_of_lt hd2)
    generalize M' = M2 at *
    have hA2 : M2 a = some (oB 5 [.ref (nsh N a), .int (nI (ndp N a)), .ref (nca N a), .ref (naa N a), .ref s, .ref t, .int op]) := (hf2.1 a (nAdr_obj h1 hA1 (by decide))).trans hA1
    have hss2 := (h2.1 s hs1).1
    have hst2 := (h2.1 t ht1).1
    have hsa2 := (h2.1 a ha).1
    show qJ G F _ 7 M2 0 0 84 [(6, .int q), (5, .int p), (4, .int (sPlace (nlo N a) (nhi N a) (nI j) 2)), (3, .int (sPlace (nlo N a) (nhi N a) (nI j) 1)), (2, .int (sPlace (nlo N a) (nhi N a) (nI j) 0)), (0, .ref a), (1, .int (nI j))] [.int (bI (nAt N t q).isSome)]
    refine q_if_eq X 114 dX4_work_84 (by decide) (fun k2 => ?_) (fun k2 => ?_)
    · exact q_vret X hr dX4_work_114 (⟨rfl, nInv_done h2 ha h9 (by rw [hden]; unfold nIdx; rw [← ep, ← eq, nAt_no k2]; cases nAt N s p <;> rfl) hPa, hf1.trans hf2⟩)
    · obtain ⟨p2, v, hj1, e1, hv1, hat1⟩ := nAt_in z1 k1
      obtain ⟨q2, w, hj2, e2, hv2, hat2⟩ := nAt_in z3 k2
      subst e1
      subst e2
      have hvv : nden N a j = some (joinD op v w) := by rw [hden]; unfold nIdx; rw [← ep, ← eq]; rw [hat1, hat2]; rfl
      have hk1 := hf2.2 a ha j (hf1.2 a ha j hask)
      have hf := hf1.trans hf2
      refine q_aload_n X dX4_work_87 5 rfl ?_
      refine q_iload_n X dX4_work_88 6 rfl ?_
      refine q_aload_n X dX4_work_89 5 rfl ?_
      refine q_aload_n X dX4_work_90 5 rfl ?_
      refine q_get X hA2 rfl in_RX4 4 (by decide) tw_807 rfl rfl dX4_work_91 ?_
      refine q_iload X dX4_work_94 1 rfl ?_
      refine q_callUp X (x := ⟨"GridVault$Node", "number", "(I)J"⟩) (owner := "GridVault$Node") (ci := nci N s) (nNum h2 hs1 hj1 (fun z => hf2.2 s hs1 p2 (hq1 p2 hj1 rfl z)) (pA_no hP0 hd1)) Y_X5_number tw_1061 tw_973 (by decide) rfl (g_declC X tw_972 tw_980) tw_972 (se_X5_number hss2.1) hss2.2.1 (by omega) rfl rfl (Nat.le_of_ble_eq_true rfl) dX4_work_96 ?_
      rw [show (nden N s p2).getD 0 = v by rw [hv1]; rfl]
      refine q_aload_n X dX4_work_99 5 rfl ?_
      refine q_get X hA2 rfl in_RX4 5 (by decide) tw_808 rfl rfl dX4_work_100 ?_
      refine q_iload X dX4_work_103 0 rfl ?_
      refine q_callUp X (x := ⟨"GridVault$Node", "number", "(I)J"⟩) (owner := "GridVault$Node") (ci := nci N t) (nNum h2 ht1 hj2 (hq2 q2 hj2 rfl) (pA_no hP0 hd2)) Y_X5_number tw_1061 tw_973 (by decide) rfl (g_declC X tw_972 tw_980) tw_972 (se_X5_number hst2.1) hst2.2.1 (by omega) rfl rfl (Nat.le_of_ble_eq_true rfl) dX4_work_105 ?_
      rw [show (nden N t q2).getD 0 = w by rw [hv2]; rfl]
      refine q_callVp X (c_X4_joined hA2) Y_X4_joined tw_1062 tw_1064 sel_20 hA2 rfl (by omega) rfl rfl (Nat.le_of_ble_eq_true rfl) dX4_work_108 ?_
      obtain ⟨-, -, cf9, ak9, hc9, -⟩ := h2.1 a ha
      refine q_callU X (x := ⟨"GridVault$Joined", "settle", "(IJ)V"⟩) (owner := "GridVault$Node") (ci := 5) (c_X5_settle (v := joinD op v w) hsa2 hc9 hj) Y_X5_settle tw_1068 tw_1069 (by decide) rfl (g_decl X tn_988) tw_990 ⟨_, rfl, tw_1070⟩ hA2 (by omega) rfl rfl (Nat.le_of_ble_eq_true rfl) (rc' := 0) (rs' := 0) (Nat.le_refl _) (Nat.le_refl _) dX4_work_111 (fun v M' hp _ => ?_)
      obtain ⟨rfl, hC9, hm9⟩ := hp
      have G9 := nInv_set h2 ha h9 hj hvv hPa hc9 hC9 hm9 hk1
      show qJ G F _ 7 M' 0 0 114 [(6, .int (nI q2)), (5, .int (nI p2)), (4, .int (sPlace (nlo N a) (nhi N a) (nI j) 2)), (3, .int (sPlace (nlo N a) (nhi N a) (nI j) 1)), (2, .int (sPlace (nlo N a) (nhi N a) (nI j) 0)), (0, .ref a), (1, .int (nI j))] []
      exact q_vret X hr dX4_work_114 (⟨rfl, G9.1, hf.trans G9.2⟩)
