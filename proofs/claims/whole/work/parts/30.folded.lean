/-! gather, regrid, window: GridVault$Folded -/
set_option maxRecDepth 20000 in
theorem c_X3_firstPlace {l : Launch} {G : gV} {M : gMem} {N : gN} {a s j : Nat} {d kind reach : Int32} (hsa : nStat G M N a) (hss : nStat G M N s) (hA : M a = some (oB 4 [.ref (nsh N a), .int (nI (ndp N a)), .ref (nca N a), .ref (naa N a), .ref s, .int d, .int kind, .int reach, .ref (nta N a)])) : qC l G yX3_firstPlace cX3_firstPlace 2 (some .int) 5 0 0 [.ref a, .int (nI j)] M (pP (.int (foF N a s d kind reach j)) M) := by
  refine qC_of (by decide +kernel) (Nat.le_of_ble_eq_true rfl) (fun F hF X hr hn => ?_)
  subst hF
  have X : qX G F cX3_firstPlace 2 RX3 5 := X
  obtain ⟨qb, qc, qd, qs, q1, -⟩ := id hss.2.2.1
  obtain ⟨ub, uc, ud, us, u1, -⟩ := id hsa.2.2.1
  show qJ G F _ 2 M 0 0 0 [(0, .ref a), (1, .int (nI j))] []
  refine q_aload_n X dX3_firstPlace_0 0 rfl ?_
  refine q_get X hA rfl in_RX3 6 (by decide) tw_860 rfl rfl dX3_firstPlace_1 ?_
  by_cases k1 : kind = 1
  · refine q_lookup (off := 28) X 32 dX3_firstPlace_4 (by decide) (by rw [k1]; decide) (by decide) ?_
    refine q_aload_n X dX3_firstPlace_32 0 rfl ?_
    refine q_callUp X (x := ⟨"GridVault$Folded", "form", "()LGridVault$Shape;"⟩) (owner := "GridVault$Node") (ci := 4) (c_X5_form hsa) Y_X5_form tw_1006 tw_1007 (by decide) rfl (g_decl X tn_1008) tw_629 ⟨_, rfl, tw_1009⟩ hA (by omega) rfl rfl (Nat.le_of_ble_eq_true rfl) dX3_firstPlace_33 ?_
    refine q_iload_n X dX3_firstPlace_36 1 rfl ?_
    refine q_aload_n X dX3_firstPlace_37 0 rfl ?_
    refine q_get X hA rfl in_RX3 5 (by decide) tw_859 rfl rfl dX3_firstPlace_38 ?_
    refine q_callVp X (c_X7_placeOf hsa.2.2.1) Y_X7_placeOf tw_1010 tw_460 tw_461 u1 rfl (by omega) rfl rfl (Nat.le_of_ble_eq_true rfl) dX3_firstPlace_41 ?_
    refine q_aload_n X dX3_firstPlace_44 0 rfl ?_
    refine q_get X hA rfl in_RX3 7 (by decide) tw_861 rfl rfl dX3_firstPlace_45 ?_
    refine q_imul X dX3_firstPlace_48 ?_
    exact q_iret X hr dX3_firstPlace_49 (⟨congrArg (fun z => some (Value.int z)) (by unfold foF; first | rw [if_neg k1, if_pos k2] | rw [if_pos k1] | rw [if_neg k1, if_neg k2]), rfl⟩)
  · by_cases k2 : kind = 2
    · refine q_lookup (off := 46) X 50 dX3_firstPlace_4 (by decide) (by rw [k2]; decide) (by decide) ?_
      refine q_aload_n X dX3_firstPlace_50 0 rfl ?_
      refine q_callUp X (x := ⟨"GridVault$Folded", "form", "()LGridVault$Shape;"⟩) (owner := "GridVault$Node") (ci := 4) (c_X5_form hsa) Y_X5_form tw_1006 tw_1007 (by decide) rfl (g_decl X tn_1008) tw_629 ⟨_, rfl, tw_1009⟩ hA (by omega) rfl rfl (Nat.le_of_ble_eq_true rfl) dX3_firstPlace_51 ?_
      refine q_iload_n X dX3_firstPlace_54 1 rfl ?_
      refine q_aload_n X dX3_firstPlace_55 0 rfl ?_
      refine q_get X hA rfl in_RX3 5 (by decide) tw_859 rfl rfl dX3_firstPlace_56 ?_
      refine q_callVp X (c_X7_placeOf hsa.2.2.1) Y_X7_placeOf tw_1010 tw_460 tw_461 u1 rfl (by omega) rfl rfl (Nat.le_of_ble_eq_true rfl) dX3_firstPlace_59 ?_
      refine q_aload_n X dX3_firstPlace_62 0 rfl ?_
      refine q_get X hA rfl in_RX3 7 (by decide) tw_861 rfl rfl dX3_firstPlace_63 ?_
      refine q_isub X dX3_firstPlace_66 ?_
      exact q_iret X hr dX3_firstPlace_67 (⟨congrArg (fun z => some (Value.int z)) (by unfold foF; first | rw [if_neg k1, if_pos k2] | rw [if_pos k1] | rw [if_neg k1, if_neg k2]), rfl⟩)
    · refine q_lookup (off := 64) X 68 dX3_firstPlace_4 (by decide) (by show Op.lookupswitch.offset [(1, 28), (2, 46)] 64 kind.toInt = _; rw [lv_osw k1 (by decide), lv_osw k2 (by decide)]; rfl) (by decide) ?_
      refine q_aload_n X dX3_firstPlace_68 0 rfl ?_
      refine q_get X hA rfl in_RX3 4 (by decide) tw_858 rfl rfl dX3_firstPlace_69 ?_
      refine q_callUp X (x := ⟨"GridVault$Node", "form", "()LGridVault$Shape;"⟩) (owner := "GridVault$Node") (ci := nci N s) (c_X5_form hss) Y_X5_form tw_1000 tw_630 (by decide) rfl (g_decl X tn_1008) tw_629 (se_X5_form hss.1) hss.2.1 (by omega) rfl rfl (Nat.le_of_ble_eq_true rfl) dX3_firstPlace_72 ?_
      refine q_aload_n X dX3_firstPlace_75 0 rfl ?_
      refine q_get X hA rfl in_RX3 5 (by decide) tw_859 rfl rfl dX3_firstPlace_76 ?_
      refine q_callVp X (c_X7_low hss.2.2.1) Y_X7_low tw_1001 tw_77 tw_78 q1 rfl (by omega) rfl rfl (Nat.le_of_ble_eq_true rfl) dX3_firstPlace_79 ?_
      exact q_iret X hr dX3_firstPlace_82 (⟨congrArg (fun z => some (Value.int z)) (by unfold foF; first | rw [if_neg k1, if_pos k2] | rw [if_pos k1] | rw [if_neg k1, if_neg k2]), rfl⟩)

set_option maxRecDepth 20000 in
theorem c_X3_lastPlace {l : Launch} {G : gV} {M : gMem} {N : gN} {a s j : Nat} {d kind reach : Int32} (hsa : nStat G M N a) (hss : nStat G M N s) (hA : M a = some (oB 4 [.ref (nsh N a), .int (nI (ndp N a)), .ref (nca N a), .ref (naa N a), .ref s, .int d, .int kind, .int reach, .ref (nta N a)])) : qC l G yX3_lastPlace cX3_lastPlace 2 (some .int) 6 0 0 [.ref a, .int (nI j)] M (pP (.int (foL N a s d kind reach j)) M) := by
  refine qC_of (by decide +kernel) (Nat.le_of_ble_eq_true rfl) (fun F hF X hr hn => ?_)
  subst hF
  have X : qX G F cX3_lastPlace 2 RX3 6 := X
  obtain ⟨qb, qc, qd, qs, q1, -⟩ := id hss.2.2.1
  obtain ⟨ub, uc, ud, us, u1, -⟩ := id hsa.2.2.1
  show qJ G F _ 2 M 0 0 0 [(0, .ref a), (1, .int (nI j))] []
  refine q_aload_n X dX3_lastPlace_0 0 rfl ?_
  refine q_get X hA rfl in_RX3 6 (by decide) tw_860 rfl rfl dX3_lastPlace_1 ?_
  by_cases k1 : kind = 1
  · refine q_lookup (off := 28) X 32 dX3_lastPlace_4 (by decide) (by rw [k1]; decide) (by decide) ?_
    refine q_aload_n X dX3_lastPlace_32 0 rfl ?_
    refine q_callUp X (x := ⟨"GridVault$Folded", "form", "()LGridVault$Shape;"⟩) (owner := "GridVault$Node") (ci := 4) (c_X5_form hsa) Y_X5_form tw_1006 tw_1007 (by decide) rfl (g_decl X tn_1008) tw_629 ⟨_, rfl, tw_1009⟩ hA (by omega) rfl rfl (Nat.le_of_ble_eq_true rfl) dX3_lastPlace_33 ?_
    refine q_iload_n X dX3_lastPlace_36 1 rfl ?_
    refine q_aload_n X dX3_lastPlace_37 0 rfl ?_
    refine q_get X hA rfl in_RX3 5 (by decide) tw_859 rfl rfl dX3_lastPlace_38 ?_
    refine q_callVp X (c_X7_placeOf hsa.2.2.1) Y_X7_placeOf tw_1010 tw_460 tw_461 u1 rfl (by omega) rfl rfl (Nat.le_of_ble_eq_true rfl) dX3_lastPlace_41 ?_
    refine q_aload_n X dX3_lastPlace_44 0 rfl ?_
    refine q_get X hA rfl in_RX3 7 (by decide) tw_861 rfl rfl dX3_lastPlace_45 ?_
    refine q_imul X dX3_lastPlace_48 ?_
    refine q_aload_n X dX3_lastPlace_49 0 rfl ?_
    refine q_get X hA rfl in_RX3 7 (by decide) tw_861 rfl rfl dX3_lastPlace_50 ?_
    refine q_iadd X dX3_lastPlace_53 ?_
    refine q_iconst (v := 1) X dX3_lastPlace_54 (by decide) ?_
    refine q_isub X dX3_lastPlace_55 ?_
    exact q_iret X hr dX3_lastPlace_56 (⟨congrArg (fun z => some (Value.int z)) (by unfold foL; first | rw [if_neg k1, if_pos k2] | (rw [if_pos k1]; unfold foF; rw [if_pos k1]) | rw [if_neg k1, if_neg k2]), rfl⟩)
  · by_cases k2 : kind = 2
    · refine q_lookup (off := 53) X 57 dX3_lastPlace_4 (by decide) (by rw [k2]; decide) (by decide) ?_
      refine q_aload_n X dX3_lastPlace_57 0 rfl ?_
      refine q_callUp X (x := ⟨"GridVault$Folded", "form", "()LGridVault$Shape;"⟩) (owner := "GridVault$Node") (ci := 4) (c_X5_form hsa) Y_X5_form tw_1006 tw_1007 (by decide) rfl (g_decl X tn_1008) tw_629 ⟨_, rfl, tw_1009⟩ hA (by omega) rfl rfl (Nat.le_of_ble_eq_true rfl) dX3_lastPlace_58 ?_
      refine q_iload_n X dX3_lastPlace_61 1 rfl ?_
      refine q_aload_n X dX3_lastPlace_62 0 rfl ?_
      refine q_get X hA rfl in_RX3 5 (by decide) tw_859 rfl rfl dX3_lastPlace_63 ?_
      refine q_callVp X (c_X7_placeOf hsa.2.2.1) Y_X7_placeOf tw_1010 tw_460 tw_461 u1 rfl (by omega) rfl rfl (Nat.le_of_ble_eq_true rfl) dX3_lastPlace_66 ?_
      refine q_aload_n X dX3_lastPlace_69 0 rfl ?_
      refine q_get X hA rfl in_RX3 7 (by decide) tw_861 rfl rfl dX3_lastPlace_70 ?_
      refine q_iadd X dX3_lastPlace_73 ?_
      exact q_iret X hr dX3_lastPlace_74 (⟨congrArg (fun z => some (Value.int z)) (by unfold foL; first | rw [if_neg k1, if_pos k2] | (rw [if_pos k1]; unfold foF; rw [if_pos k1]) | rw [if_neg k1, if_neg k2]), rfl⟩)
    · refine q_lookup (off := 71) X 75 dX3_lastPlace_4 (by decide) (by show Op.lookupswitch.offset [(1, 28), (2, 53)] 71 kind.toInt = _; rw [lv_osw k1 (by decide), lv_osw k2 (by decide)]; rfl) (by decide) ?_
      refine q_aload_n X dX3_lastPlace_75 0 rfl ?_
      refine q_get X hA rfl in_RX3 4 (by decide) tw_858 rfl rfl dX3_lastPlace_76 ?_
      refine q_callUp X (x := ⟨"GridVault$Node", "form", "()LGridVault$Shape;"⟩) (owner := "GridVault$Node") (ci := nci N s) (c_X5_form hss) Y_X5_form tw_1000 tw_630 (by decide) rfl (g_decl X tn_1008) tw_629 (se_X5_form hss.1) hss.2.1 (by omega) rfl rfl (Nat.le_of_ble_eq_true rfl) dX3_lastPlace_79 ?_
      refine q_aload_n X dX3_lastPlace_82 0 rfl ?_
      refine q_get X hA rfl in_RX3 5 (by decide) tw_859 rfl rfl dX3_lastPlace_83 ?_
      refine q_callVp X (c_X7_high hss.2.2.1) Y_X7_high tw_1012 tw_73 tw_74 q1 rfl (by omega) rfl rfl (Nat.le_of_ble_eq_true rfl) dX3_lastPlace_86 ?_
      exact q_iret X hr dX3_lastPlace_89 (⟨congrArg (fun z => some (Value.int z)) (by unfold foL; first | rw [if_neg k1, if_pos k2] | (rw [if_pos k1]; unfold foF; rw [if_pos k1]) | rw [if_neg k1, if_neg k2]), rfl⟩)

set_option maxRecDepth 20000 in
theorem c_X3_sourcePlace {l : Launch} {G : gV} {M : gMem} {N : gN} {a s j : Nat} {d kind reach : Int32} (hsa : nStat G M N a) (hss : nStat G M N s) (hA : M a = some (oB 4 [.ref (nsh N a), .int (nI (ndp N a)), .ref (nca N a), .ref (naa N a), .ref s, .int d, .int kind, .int reach, .ref (nta N a)])) {e fr : Int32} : qC l G yX3_sourcePlace cX3_sourcePlace 5 (some .int) 5 0 0 [.ref a, .int e, .int (nI j), .int fr] M (pP (.int (foP N a d kind e fr j)) M) := by
  refine qC_of (by decide +kernel) (Nat.le_of_ble_eq_true rfl) (fun F hF X hr hn => ?_)
  subst hF
  have X : qX G F cX3_sourcePlace 5 RX3 5 := X
  obtain ⟨qb, qc, qd, qs, q1, -⟩ := id hss.2.2.1
  obtain ⟨ub, uc, ud, us, u1, -⟩ := id hsa.2.2.1
  show qJ G F _ 5 M 0 0 0 [(0, .ref a), (1, .int e), (2, .int (nI j)), (3, .int fr)] []
  refine q_iload_n X dX3_sourcePlace_0 1 rfl ?_
  refine q_aload_n X dX3_sourcePlace_1 0 rfl ?_
  refine q_get X hA rfl in_RX3 5 (by decide) tw_859 rfl rfl dX3_sourcePlace_2 ?_
  refine q_icmp_ne X 10 dX3_sourcePlace_5 (by decide) (fun k1 => ?_) (fun k1 => ?_)
  · refine q_aload_n X dX3_sourcePlace_10 0 rfl ?_
    refine q_get X hA rfl in_RX3 6 (by decide) tw_860 rfl rfl dX3_sourcePlace_11 ?_
    refine q_if_ne X 29 dX3_sourcePlace_14 (by decide) (fun k2 => ?_) (fun k2 => ?_)
    · refine q_iconst (v := 0) X dX3_sourcePlace_29 (by decide) ?_
      refine q_istore (lv' := [(4, .int 0), (0, .ref a), (1, .int e), (2, .int (nI j)), (3, .int fr)]) X dX3_sourcePlace_30 (by decide) rfl ?_
      refine q_aload_n X dX3_sourcePlace_32 1 rfl ?_
      refine q_callUp X (x := ⟨"GridVault$Folded", "form", "()LGridVault$Shape;"⟩) (owner := "GridVault$Node") (ci := 4) (c_X5_form hsa) Y_X5_form tw_1006 tw_1007 (by decide) rfl (g_decl X tn_1008) tw_629 ⟨_, rfl, tw_1009⟩ hA (by omega) rfl rfl (Nat.le_of_ble_eq_true rfl) dX3_sourcePlace_33 ?_
      refine q_iload_n X dX3_sourcePlace_36 3 rfl ?_
      refine q_iload X dX3_sourcePlace_37 0 rfl ?_
      refine q_if_eq X 48 dX3_sourcePlace_39 (by decide) (fun k4 => ?_) (fun k4 => absurd (by decide) k4)
      refine q_iload_n X dX3_sourcePlace_48 2 rfl ?_
      refine q_callVp X (c_X7_placeOf hsa.2.2.1) Y_X7_placeOf tw_1010 tw_460 tw_461 u1 rfl (by omega) rfl rfl (Nat.le_of_ble_eq_true rfl) dX3_sourcePlace_49 ?_
      exact q_iret X hr dX3_sourcePlace_52 (⟨congrArg (fun z => some (Value.int z)) (by unfold foP; rw [if_neg k1, if_neg (fun q => by first | exact k2 q.1 | exact absurd k3 (Int32.not_le.mpr q.2))]), rfl⟩)
    · refine q_iload_n X dX3_sourcePlace_17 1 rfl ?_
      refine q_aload_n X dX3_sourcePlace_18 0 rfl ?_
      refine q_get X hA rfl in_RX3 5 (by decide) tw_859 rfl rfl dX3_sourcePlace_19 ?_
      refine q_icmp_le X 29 dX3_sourcePlace_22 (by decide) (fun k3 => ?_) (fun k3 => ?_)
      · refine q_iconst (v := 0) X dX3_sourcePlace_29 (by decide) ?_
        refine q_istore (lv' := [(4, .int 0), (0, .ref a), (1, .int e), (2, .int (nI j)), (3, .int fr)]) X dX3_sourcePlace_30 (by decide) rfl ?_
        refine q_aload_n X dX3_sourcePlace_32 1 rfl ?_
        refine q_callUp X (x := ⟨"GridVault$Folded", "form", "()LGridVault$Shape;"⟩) (owner := "GridVault$Node") (ci := 4) (c_X5_form hsa) Y_X5_form tw_1006 tw_1007 (by decide) rfl (g_decl X tn_1008) tw_629 ⟨_, rfl, tw_1009⟩ hA (by omega) rfl rfl (Nat.le_of_ble_eq_true rfl) dX3_sourcePlace_33 ?_
        refine q_iload_n X dX3_sourcePlace_36 3 rfl ?_
        refine q_iload X dX3_sourcePlace_37 0 rfl ?_
        refine q_if_eq X 48 dX3_sourcePlace_39 (by decide) (fun k4 => ?_) (fun k4 => absurd (by decide) k4)
        refine q_iload_n X dX3_sourcePlace_48 2 rfl ?_
        refine q_callVp X (c_X7_placeOf hsa.2.2.1) Y_X7_placeOf tw_1010 tw_460 tw_461 u1 rfl (by omega) rfl rfl (Nat.le_of_ble_eq_true rfl) dX3_sourcePlace_49 ?_
        exact q_iret X hr dX3_sourcePlace_52 (⟨congrArg (fun z => some (Value.int z)) (by unfold foP; rw [if_neg k1, if_neg (fun q => by first | exact k2 q.1 | exact absurd k3 (Int32.not_le.mpr q.2))]), rfl⟩)
      · refine q_iconst (v := 1) X dX3_sourcePlace_25 (by decide) ?_
        refine q_goto X 30 dX3_sourcePlace_26 (by decide) ?_
        refine q_istore (lv' := [(4, .int 1), (0, .ref a), (1, .int e), (2, .int (nI j)), (3, .int fr)]) X dX3_sourcePlace_30 (by decide) rfl ?_
        refine q_aload_n X dX3_sourcePlace_32 1 rfl ?_
        refine q_callUp X (x := ⟨"GridVault$Folded", "form", "()LGridVault$Shape;"⟩) (owner := "GridVault$Node") (ci := 4) (c_X5_form hsa) Y_X5_form tw_1006 tw_1007 (by decide) rfl (g_decl X tn_1008) tw_629 ⟨_, rfl, tw_1009⟩ hA (by omega) rfl rfl (Nat.le_of_ble_eq_true rfl) dX3_sourcePlace_33 ?_
        refine q_iload_n X dX3_sourcePlace_36 3 rfl ?_
        refine q_iload X dX3_sourcePlace_37 0 rfl ?_
        refine q_if_eq X 48 dX3_sourcePlace_39 (by decide) (fun k4 => absurd k4 (by decide)) (fun k4 => ?_)
        refine q_iload_n X dX3_sourcePlace_42 2 rfl ?_
        refine q_iconst (v := 1) X dX3_sourcePlace_43 (by decide) ?_
        refine q_isub X dX3_sourcePlace_44 ?_
        refine q_goto X 49 dX3_sourcePlace_45 (by decide) ?_
        refine q_callVp X (c_X7_placeOf hsa.2.2.1) Y_X7_placeOf tw_1010 tw_460 tw_461 u1 rfl (by omega) rfl rfl (Nat.le_of_ble_eq_true rfl) dX3_sourcePlace_49 ?_
        exact q_iret X hr dX3_sourcePlace_52 (⟨congrArg (fun z => some (Value.int z)) (by unfold foP; rw [if_neg k1, if_pos ⟨k2, Int32.not_le.mp k3⟩]), rfl⟩)
  · refine q_iload_n X dX3_sourcePlace_8 3 rfl ?_
    exact q_iret X hr dX3_sourcePlace_9 (⟨congrArg (fun z => some (Value.int z)) (by unfold foP; rw [if_pos k1]), rfl⟩)

set_option maxRecDepth 20000 in
theorem c_X3_work {l : Launch} {G : gV} {M : gMem} {N : gN} {P : Nat → Nat → Prop} {a j : Nat} (H : HoldsC l G N (ndp N a)) (h : nInv G M N (pA P a j)) (ha : nS N a) (hj : j < nsz N a) (hask : nAsk G M N a j) (hP0 : ∀ b i, P b i → ndp N a < ndp N b) {s K : Nat} {d kind reach what tk : Int32} {re : Int64} (e0 : nci N a = 4) (ex : nex N a = [.ref s, .int d, .int kind, .int reach, .ref (nta N a)]) (hs1 : nS N s) (hd1 : ndp N s < ndp N a) (hT : M (nta N a) = some (oB 8 [.int what, .int tk, .long re])) (hK : K ≤ 4096) (hKe : (mnI (s3 (nhi N s) 0 d) (foL N a s d kind reach j)) - (mxI (s3 (nlo N s) 0 d) (foF N a s d kind reach j)) + 1 = nI K) (hden : nden N a j = talO (talR N s what (nIdx N s (foP N a d kind 0 (mxI (s3 (nlo N s) 0 d) (foF N a s d kind reach j)) j) (foP N a d kind 1 (mxI (s3 (nlo N s) 0 d) (foF N a s d kind reach j)) j) (foP N a d kind 2 (mxI (s3 (nlo N s) 0 d) (foF N a s d kind reach j)) j)) (s3 (sp3 (nlo N s) (nhi N s)) 1 d) K)) : qC l G yX3_work cX3_work 5 none (9 + 4 * ndp N a) 0 0 [.ref a, .int (nI j)] M (wP G N a M P) := by
  refine qC_of (by decide +kernel) (Nat.le_of_ble_eq_true rfl) (fun F hF X hr hn => ?_)
  subst hF
  have X : qX G F cX3_work 5 RX3 (9 + 4 * ndp N a) := X
  have hPa : ∀ i, ¬ P a i := fun i p => absurd (hP0 a i p) (Nat.lt_irrefl _)
  have h9 : nci N a ≠ 9 := by rw [e0]; decide
  have hsa := (h.1 a ha).1
  have z2 : nsz N a ≤ 4096 := hsa.2.2.2.2.1
  have hss := (h.1 s hs1).1
  have hA : M a = some (oB 4 [.ref (nsh N a), .int (nI (ndp N a)), .ref (nca N a), .ref (naa N a), .ref s, .int d, .int kind, .int reach, .ref (nta N a)]) := by rw [hsa.2.1, e0, ex]
  obtain ⟨qb, qc, qd, qs, q1, -⟩ := id hss.2.2.1
  obtain ⟨ub, uc, ud, us, u1, -⟩ := id hsa.2.2.1
  have hta : ¬ nAdr N (ndp N s) (nta N a) := fun q => by
    obtain ⟨b, hb, hbd, q⟩ := q
    rcases q with q | q | q | ⟨q4, q⟩
    · obtain ⟨-, -, cf, ak, ⟨num, mk, -, g2, -⟩, -⟩ := h.1 b hb; rw [← q, hT] at g2; cases g2
    · obtain ⟨-, -, cf, ak, ⟨num, mk, -, -, g3, -⟩, -⟩ := h.1 b hb; rw [← q, hT] at g3; cases g3
    · obtain ⟨-, -, cf, ak, -, g3, -⟩ := h.1 b hb; rw [← q, hT] at g3; cases g3
    · have e := (h.2 a b ha hb).2.2.2.2.2.2 e0 q4 q; rw [← e] at hbd; omega
  show qJ G F _ 5 M 0 0 0 [(0, .ref a), (1, .int (nI j))] []
  refine q_aload_n X dX3_work_0 0 rfl ?_
  refine q_get X hA rfl in_RX3 4 (by decide) tw_858 rfl rfl dX3_work_1 ?_
  refine q_callUp X (x := ⟨"GridVault$Node", "form", "()LGridVault$Shape;"⟩) (owner := "GridVault$Node") (ci := nci N s) (c_X5_form hss) Y_X5_form tw_1000 tw_630 (by decide) rfl (g_decl X tn_1008) tw_629 (se_X5_form hss.1) hss.2.1 (by omega) rfl rfl (Nat.le_of_ble_eq_true rfl) dX3_work_4 ?_
  refine q_aload_n X dX3_work_7 0 rfl ?_
  refine q_get X hA rfl in_RX3 5 (by decide) tw_859 rfl rfl dX3_work_8 ?_
  refine q_callVp X (c_X7_low hss.2.2.1) Y_X7_low tw_1001 tw_77 tw_78 q1 rfl (by omega) rfl rfl (Nat.le_of_ble_eq_true rfl) dX3_work_11 ?_
  refine q_aload_n X dX3_work_14 0 rfl ?_
  refine q_iload_n X dX3_work_15 1 rfl ?_
  refine q_callVp X (c_X3_firstPlace hsa hss hA) Y_X3_firstPlace tw_1002 tw_1004 sel_16 hA rfl (by omega) rfl rfl (Nat.le_of_ble_eq_true rfl) dX3_work_16 ?_
  refine q_callSp X (c_J9_max_7cf53) Y_J9_max_7cf53 tw_1011 tw_123 (by omega) rfl rfl (Nat.le_of_ble_eq_true rfl) dX3_work_19 ?_
  refine q_istore_n (lv' := [(2, .int (mxI (s3 (nlo N s) 0 d) (foF N a s d kind reach j))), (0, .ref a), (1, .int (nI j))]) X dX3_work_22 (by decide) rfl ?_
  refine q_aload_n X dX3_work_23 1 rfl ?_
  refine q_get X hA rfl in_RX3 4 (by decide) tw_858 rfl rfl dX3_work_24 ?_
  refine q_callUp X (x := ⟨"GridVault$Node", "form", "()LGridVault$Shape;"⟩) (owner := "GridVault$Node") (ci := nci N s) (c_X5_form hss) Y_X5_form tw_1000 tw_630 (by decide) rfl (g_decl X tn_1008) tw_629 (se_X5_form hss.1) hss.2.1 (by omega) rfl rfl (Nat.le_of_ble_eq_true rfl) dX3_work_27 ?_
  refine q_aload_n X dX3_work_30 1 rfl ?_
  refine q_get X hA rfl in_RX3 5 (by decide) tw_859 rfl rfl dX3_work_31 ?_
  refine q_callVp X (c_X7_high hss.2.2.1) Y_X7_high tw_1012 tw_73 tw_74 q1 rfl (by omega) rfl rfl (Nat.le_of_ble_eq_true rfl) dX3_work_34 ?_
  refine q_aload_n X dX3_work_37 1 rfl ?_
  refine q_iload_n X dX3_work_38 2 rfl ?_
  refine q_callVp X (c_X3_lastPlace hsa hss hA) Y_X3_lastPlace tw_1013 tw_1015 sel_17 hA rfl (by omega) rfl rfl (Nat.le_of_ble_eq_true rfl) dX3_work_39 ?_
  refine q_callSp X (c_J9_min_7cf53) Y_J9_min_7cf53 tw_1017 tw_239 (by omega) rfl rfl (Nat.le_of_ble_eq_true rfl) dX3_work_42 ?_
  refine q_istore_n (lv' := [(3, .int (mnI (s3 (nhi N s) 0 d) (foL N a s d kind reach j))), (2, .int (mxI (s3 (nlo N s) 0 d) (foF N a s d kind reach j))), (0, .ref a), (1, .int (nI j))]) X dX3_work_45 (by decide) rfl ?_
  refine q_aload_n X dX3_work_46 2 rfl ?_
  refine q_get X hA rfl in_RX3 4 (by decide) tw_858 rfl rfl dX3_work_47 ?_
  refine q_callUp X (x := ⟨"GridVault$Node", "form", "()LGridVault$Shape;"⟩) (owner := "GridVault$Node") (ci := nci N s) (c_X5_form hss) Y_X5_form tw_1000 tw_630 (by decide) rfl (g_decl X tn_1008) tw_629 (se_X5_form hss.1) hss.2.1 (by omega) rfl rfl (Nat.le_of_ble_eq_true rfl) dX3_work_50 ?_
  refine q_aload_n X dX3_work_53 2 rfl ?_
  refine q_iconst (v := 0) X dX3_work_54 (by decide) ?_
  refine q_iload_n X dX3_work_55 3 rfl ?_
  refine q_iload_n X dX3_work_56 1 rfl ?_
  refine q_callVp X (c_X3_sourcePlace hsa hss hA) Y_X3_sourcePlace tw_1018 tw_1020 sel_18 hA rfl (by omega) rfl rfl (Nat.le_of_ble_eq_true rfl) dX3_work_57 ?_
  refine q_aload_n X dX3_work_60 2 rfl ?_
  refine q_iconst (v := 1) X dX3_work_61 (by decide) ?_
  refine q_iload_n X dX3_work_62 3 rfl ?_
  refine q_iload_n X dX3_work_63 1 rfl ?_
  refine q_callVp X (c_X3_sourcePlace hsa hss hA) Y_X3_sourcePlace tw_1018 tw_1020 sel_18 hA rfl (by omega) rfl rfl (Nat.le_of_ble_eq_true rfl) dX3_work_64 ?_
  refine q_aload_n X dX3_work_67 2 rfl ?_
  refine q_iconst (v := 2) X dX3_work_68 (by decide) ?_
  refine q_iload_n X dX3_work_69 3 rfl ?_
  refine q_iload_n X dX3_work_70 1 rfl ?_
  refine q_callVp X (c_X3_sourcePlace hsa hss hA) Y_X3_sourcePlace tw_1018 tw_1020 sel_18 hA rfl (by omega) rfl rfl (Nat.le_of_ble_eq_true rfl) dX3_work_71 ?_
  refine q_callVp X (c_X7_indexOf hss.2.2.1) Y_X7_indexOf tw_1022 tw_262 tw_263 q1 rfl (by omega) rfl rfl (Nat.le_of_ble_eq_true rfl) dX3_work_74 ?_
  refine q_istore (lv' := [(4, .int (nIdx N s (foP N a d kind 0 (mxI (s3 (nlo N s) 0 d) (foF N a s d kind reach j)) j) (foP N a d kind 1 (mxI (s3 (nlo N s) 0 d) (foF N a s d kind reach j)) j) (foP N a d kind 2 (mxI (s3 (nlo N s) 0 d) (foF N a s d kind reach j)) j))), (3, .int (mnI (s3 (nhi N s) 0 d) (foL N a s d kind reach j))), (2, .int (mxI (s3 (nlo N s) 0 d) (foF N a s d kind reach j))), (0, .ref a), (1, .int (nI j))]) X dX3_work_77 (by decide) rfl ?_
  refine q_aload_n X dX3_work_79 3 rfl ?_
  refine q_get X hA rfl in_RX3 8 (by decide) tw_862 rfl rfl dX3_work_80 ?_
  refine q_aload_n X dX3_work_83 3 rfl ?_
  refine q_get X hA rfl in_RX3 4 (by decide) tw_858 rfl rfl dX3_work_84 ?_
  refine q_iload X dX3_work_87 0 rfl ?_
  refine q_aload_n X dX3_work_89 3 rfl ?_
  refine q_get X hA rfl in_RX3 4 (by decide) tw_858 rfl rfl dX3_work_90 ?_
  refine q_callUp X (x := ⟨"GridVault$Node", "form", "()LGridVault$Shape;"⟩) (owner := "GridVault$Node") (ci := nci N s) (c_X5_form hss) Y_X5_form tw_1000 tw_630 (by decide) rfl (g_decl X tn_1008) tw_629 (se_X5_form hss.1) hss.2.1 (by omega) rfl rfl (Nat.le_of_ble_eq_true rfl) dX3_work_93 ?_
  refine q_aload_n X dX3_work_96 3 rfl ?_
  refine q_get X hA rfl in_RX3 5 (by decide) tw_859 rfl rfl dX3_work_97 ?_
  refine q_callVp X (c_X7_step hss.2.2.1) Y_X7_step tw_1023 tw_85 tw_86 q1 rfl (by omega) rfl rfl (Nat.le_of_ble_eq_true rfl) dX3_work_100 ?_
  refine q_iload_n X dX3_work_103 1 rfl ?_
  refine q_iload_n X dX3_work_104 2 rfl ?_
  refine q_isub X dX3_work_105 ?_
  refine q_iconst (v := 1) X dX3_work_106 (by decide) ?_
  refine q_iadd X dX3_work_107 ?_
  rw [hKe]
  refine q_callV X (c_X8_takeRow (P := pA P a j) (k := 8 + 4 * ndp N a) (fun b M5 P5 i5 u1 u2 u3 u4 => H b M5 P5 i5 u1 (by omega) u3 u4) h hs1 (pA_dp hP0 hd1) hT hta hK (by omega)) Y_X8_takeRow tw_1024 tw_1025 tw_1026 hT rfl (by omega) rfl rfl (Nat.le_of_ble_eq_true rfl) (rc' := 0) (rs' := 0) (Nat.le_refl _) (Nat.le_refl _) dX3_work_108 (fun v M' hp _ => ?_)
  obtain ⟨rfl, h1, hT1, hf1, hq1⟩ := hp
  generalize M' = M1 at *
  have hA1 : M1 a = some (oB 4 [.ref (nsh N a), .int (nI (ndp N a)), .ref (nca N a), .ref (naa N a), .ref s, .int d, .int kind, .int reach, .ref (nta N a)]) := (hf1 a (nAdr_obj h hA (by decide)) (fun e => by rw [e, hT] at hA; cases hA)).trans hA
  have hsa1 := (h1.1 a ha).1
  have hle := talR_le N s what (nIdx N s (foP N a d kind 0 (mxI (s3 (nlo N s) 0 d) (foF N a s d kind reach j)) j) (foP N a d kind 1 (mxI (s3 (nlo N s) 0 d) (foF N a s d kind reach j)) j) (foP N a d kind 2 (mxI (s3 (nlo N s) 0 d) (foF N a s d kind reach j)) j)) (s3 (sp3 (nlo N s) (nhi N s)) 1 d) K
  have hf : nFr G N (ndp N a) M M1 := ⟨fun q hq => hf1 q (fun z => hq (z.mono (Nat.le_of_lt hd1))) (fun e => hq ⟨a, ha, Nat.le_refl _, Or.inr (Or.inr (Or.inr ⟨e0, e⟩))⟩), hq1⟩
  show qJ G F _ 5 M1 0 0 111 [(4, .int (nIdx N s (foP N a d kind 0 (mxI (s3 (nlo N s) 0 d) (foF N a s d kind reach j)) j) (foP N a d kind 1 (mxI (s3 (nlo N s) 0 d) (foF N a s d kind reach j)) j) (foP N a d kind 2 (mxI (s3 (nlo N s) 0 d) (foF N a s d kind reach j)) j))), (3, .int (mnI (s3 (nhi N s) 0 d) (foL N a s d kind reach j))), (2, .int (mxI (s3 (nlo N s) 0 d) (foF N a s d kind reach j))), (0, .ref a), (1, .int (nI j))] []
  refine q_aload_n X dX3_work_111 3 rfl ?_
  refine q_get X hA1 rfl in_RX3 8 (by decide) tw_862 rfl rfl dX3_work_112 ?_
  refine q_callVp X (c_X8_isOfNone hT1 (by omega)) Y_X8_isOfNone tw_1040 tw_1041 tw_1042 hT1 rfl (by omega) rfl rfl (Nat.le_of_ble_eq_true rfl) dX3_work_115 ?_
  refine q_if_ne X 133 dX3_work_118 (by decide) (fun k1 => ?_) (fun k1 => ?_)
  · exact q_vret X hr dX3_work_133 (⟨rfl, nInv_done h1 ha h9 (by rw [hden]; unfold talO; rw [if_pos (of_decide_eq_true (bI_ne k1))]) hPa, hf⟩)
  · refine q_aload_n X dX3_work_121 3 rfl ?_
    refine q_iload_n X dX3_work_122 4 rfl ?_
    refine q_aload_n X dX3_work_123 3 rfl ?_
    refine q_get X hA1 rfl in_RX3 8 (by decide) tw_862 rfl rfl dX3_work_124 ?_
    refine q_callVp X (c_X8_result hT1 (by omega)) Y_X8_result tw_1044 tw_1045 tw_1046 hT1 rfl (by omega) rfl rfl (Nat.le_of_ble_eq_true rfl) dX3_work_127 ?_
    obtain ⟨-, -, cf9, ak9, hc9, -⟩ := h1.1 a ha
    refine q_callU X (x := ⟨"GridVault$Folded", "settle", "(IJ)V"⟩) (owner := "GridVault$Node") (ci := 4) (c_X5_settle (v := (talR N s what (nIdx N s (foP N a d kind 0 (mxI (s3 (nlo N s) 0 d) (foF N a s d kind reach j)) j) (foP N a d kind 1 (mxI (s3 (nlo N s) 0 d) (foF N a s d kind reach j)) j) (foP N a d kind 2 (mxI (s3 (nlo N s) 0 d) (foF N a s d kind reach j)) j)) (s3 (sp3 (nlo N s) (nhi N s)) 1 d) K).2) hsa1 hc9 hj) Y_X5_settle tw_1048 tw_1049 (by decide) rfl (g_decl X tn_988) tw_990 ⟨_, rfl, tw_1050⟩ hA1 (by omega) rfl rfl (Nat.le_of_ble_eq_true rfl) (rc' := 0) (rs' := 0) (Nat.le_refl _) (Nat.le_refl _) dX3_work_130 (fun v M' hp _ => ?_)
    obtain ⟨rfl, hC9, hm9⟩ := hp
    have hvv : nden N a j = some (talR N s what (nIdx N s (foP N a d kind 0 (mxI (s3 (nlo N s) 0 d) (foF N a s d kind reach j)) j) (foP N a d kind 1 (mxI (s3 (nlo N s) 0 d) (foF N a s d kind reach j)) j) (foP N a d kind 2 (mxI (s3 (nlo N s) 0 d) (foF N a s d kind reach j)) j)) (s3 (sp3 (nlo N s) (nhi N s)) 1 d) K).2 := by rw [hden]; unfold talO; rw [if_neg (of_decide_eq_false (bI_fl k1))]
    have G9 := nInv_set h1 ha h9 hj hvv hPa hc9 hC9 hm9 (hq1 a ha j hask)
    show qJ G F _ 5 M' 0 0 133 [(4, .int (nIdx N s (foP N a d kind 0 (mxI (s3 (nlo N s) 0 d) (foF N a s d kind reach j)) j) (foP N a d kind 1 (mxI (s3 (nlo N s) 0 d) (foF N a s d kind reach j)) j) (foP N a d kind 2 (mxI (s3 (nlo N s) 0 d) (foF N a s d kind reach j)) j))), (3, .int (mnI (s3 (nhi N s) 0 d) (foL N a s d kind reach j))), (2, .int (mxI (s3 (nlo N s) 0 d) (foF N a s d kind reach j))), (0, .ref a), (1, .int (nI j))] []
    exact q_vret X hr dX3_work_133 (⟨rfl, G9.1, hf.trans G9.2⟩)
