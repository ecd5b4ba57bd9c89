/-! the reference: extend, read -/

set_option maxRecDepth 20000 in
theorem r_extend {l : Launch} {G : gV} {M : gMem} {r : Nat} {e : Int32} {σ : sA} (hW : gvW σ) (hR : isRF G M r e σ) {a d x y : Int32} : qC l G yX13_extend cX13_extend 5 (some .int) 6 5 4108 [.ref r, .int a, .int d, .int x, .int y] M (rfP G r cOp (some (.int 0)) (sp_extend σ a d x y)) := by
  refine qC_of (by decide +kernel) (Nat.le_of_ble_eq_true rfl) (fun F hF X hr hn => ?_)
  subst hF
  have X : qX G F cX13_extend 5 RX13 6 := X
  obtain ⟨vA, nA, pA, plA, dg, dla, dha, dva, dza, dvf, dzf, vf, nf, pf, tk, su, le, gr, hB⟩ := hR
  have hl150 := hW.1.2.2.2.2.1
  show qJ G F _ 5 M 5 4108 0 [(0, .ref r), (1, .int a), (2, .int d), (3, .int x), (4, .int y)] []
  refine q_aload_n X dX13_extend_0 0 rfl ?_
  rcases Nat.lt_or_ge (aN σ).length 150 with q150 | q150
  · refine q_callV X (c_full_y hB q150) Y_X13_full tw_1332 tw_1334 sel_27 hB.1 rfl (by omega) rfl rfl (Nat.le_of_ble_eq_true rfl) (rc' := 5) (rs' := 4108) (by omega) (by omega) dX13_extend_1 (fun v M' hp _ => ?_)
    obtain ⟨rfl, eM⟩ := hp
    have hB101 : rfB G M' r 0 σ vA nA pA plA dg dla dha dva dza dvf dzf vf nf pf tk su le gr := by rw [eM]; exact hB.ro
    clear eM
    generalize M' = M101 at *
    show qJ G F _ 5 M101 5 4108 4 [(0, .ref r), (1, .int a), (2, .int d), (3, .int x), (4, .int y)] [.int 0]
    obtain ⟨z_2r, z_21, z_22, z_23, ⟨z_2x, z_24⟩, z_25, z_26, z_27, z_28, z_29, z_210⟩ := id hB101
    refine q_if_eq X 9 dX13_extend_4 (by decide) (fun c_3 => ?_) (fun c_3 => absurd (by decide) c_3)
    refine q_aload_n X dX13_extend_9 0 rfl ?_
    refine q_aload_n X dX13_extend_10 0 rfl ?_
    refine q_iload_n X dX13_extend_11 1 rfl ?_
    refine q_iload_n X dX13_extend_12 2 rfl ?_
    rcases hnd : ndAt σ a with _ | w
    · refine q_callVp X (c_noDim_n hB101 (by omega) hnd) Y_X13_noDim tw_1347 tw_1349 sel_29 z_2r rfl (by omega) rfl rfl (Nat.le_of_ble_eq_true rfl) dX13_extend_13 ?_
      refine q_if_ne X 65 dX13_extend_16 (by decide) (fun c16 => ?_) (fun c16 => absurd c16 (by decide))
      refine q_iconst (v := 1) X dX13_extend_65 (by decide) ?_
      refine q_goto X 70 dX13_extend_66 (by decide) ?_
      refine q_iconst (v := 1) X dX13_extend_70 (by decide) ?_
      refine q_callV X (c_fails1 (why := 1) hB101.1) Y_X13_fails tw_1246 tw_1248 sel_23 z_2r rfl (by omega) rfl rfl (Nat.le_of_ble_eq_true rfl) (rc' := 5) (rs' := 4108) (by omega) (by omega) dX13_extend_71 (fun v M' hp _ => ?_)
      obtain ⟨rfl, eM⟩ := hp
      have hB104 : rfB G M' r 1 σ vA nA pA plA dg dla dha dva dza dvf dzf vf nf pf tk su le gr := by rw [eM]; exact hB101.ro
      clear eM
      generalize M' = M104 at *
      show qJ G F _ 5 M104 5 4108 74 [(0, .ref r), (1, .int a), (2, .int d), (3, .int x), (4, .int y)] [.int 1]
      obtain ⟨z_5r, z_51, z_52, z_53, ⟨z_5x, z_54⟩, z_55, z_56, z_57, z_58, z_59, z_510⟩ := id hB104
      refine q_if_eq X 79 dX13_extend_74 (by decide) (fun c_6 => absurd c_6 (by decide)) (fun c_6 => ?_)
      refine q_iconst (v := 0) X dX13_extend_77 (by decide) ?_
      exact q_iret X hr dX13_extend_78 (rfP_T ((gRoom_y q150).trans (gNode_n hnd)) cOp_IA ⟨vA, nA, pA, plA, dg, dla, dha, dva, dza, dvf, dzf, vf, nf, pf, tk, su, le, gr, hB104⟩)
    · obtain ⟨i, hi9, rfl, hi⟩ := ndAt_some hnd
      have hw := hW.2 i w hi
      have hi150 : i < 150 := by omega
      obtain ⟨o, hnfo, ola, oha, ova, oza, ovf, ozf, hO, bo1, bo2, bo3, bo4⟩ := hB101.2.2.2.2.2.2.2.2.1 i w hi
      refine q_callVp X (c_noDim_y hB101 hl150 hi) Y_X13_noDim tw_1347 tw_1349 sel_29 z_2r rfl (by omega) rfl rfl (Nat.le_of_ble_eq_true rfl) dX13_extend_13 ?_
      refine q_if_ne X 65 dX13_extend_16 (by decide) (fun c16 => ?_) (fun c16 => ?_)
      · refine q_iconst (v := 1) X dX13_extend_65 (by decide) ?_
        refine q_goto X 70 dX13_extend_66 (by decide) ?_
        refine q_iconst (v := 1) X dX13_extend_70 (by decide) ?_
        refine q_callV X (c_fails1 (why := 1) hB101.1) Y_X13_fails tw_1246 tw_1248 sel_23 z_2r rfl (by omega) rfl rfl (Nat.le_of_ble_eq_true rfl) (rc' := 5) (rs' := 4108) (by omega) (by omega) dX13_extend_71 (fun v M' hp _ => ?_)
        have m_7 : M' o = some (oB 12 [.int (nI (vm w)), .int (nI (vdp w)), .ref ola, .ref oha, .ref ova, .ref oza]) := by rw [hp.2]; exact (mU_n (g_neoo hO.1 z_2r (by decide))).trans hO.1
        have m_8 : M' ola = some (aI G 3 (vlo w)) := by rw [hp.2]; exact (mU_n (Ne.symm (g_neoa z_2r hO.2.1))).trans hO.2.1
        have m_9 : M' oha = some (aI G 3 (vhi w)) := by rw [hp.2]; exact (mU_n (Ne.symm (g_neoa z_2r hO.2.2.1))).trans hO.2.2.1
        have m_10 : M' ova = some (aJ G (wsz w) ovf) := by rw [hp.2]; exact (mU_n (Ne.symm (g_neoa z_2r hO.2.2.2.1))).trans hO.2.2.2.1
        have m_11 : M' oza = some (aZ G (wsz w) ozf) := by rw [hp.2]; exact (mU_n (Ne.symm (g_neoa z_2r hO.2.2.2.2.1))).trans hO.2.2.2.2.1
        obtain ⟨rfl, eM⟩ := hp
        have hB112 : rfB G M' r 1 σ vA nA pA plA dg dla dha dva dza dvf dzf vf nf pf tk su le gr := by rw [eM]; exact hB101.ro
        clear eM
        generalize M' = M112 at *
        show qJ G F _ 5 M112 5 4108 74 [(0, .ref r), (1, .int (nI i)), (2, .int d), (3, .int x), (4, .int y)] [.int 1]
        obtain ⟨z_13r, z_131, z_132, z_133, ⟨z_13x, z_134⟩, z_135, z_136, z_137, z_138, z_139, z_1310⟩ := id hB112
        refine q_if_eq X 79 dX13_extend_74 (by decide) (fun c_14 => absurd c_14 (by decide)) (fun c_14 => ?_)
        refine q_iconst (v := 0) X dX13_extend_77 (by decide) ?_
        exact q_iret X hr dX13_extend_78 (rfP_T ((gRoom_y q150).trans ((gNode_y hnd).trans (gNeed_n (fun z => z.1 (Classical.not_not.mp (mt nHas_0.mpr c16)))))) cOp_IA ⟨vA, nA, pA, plA, dg, dla, dha, dva, dza, dvf, dzf, vf, nf, pf, tk, su, le, gr, hB112⟩)
      · obtain ⟨jd, hjd, rfl⟩ := sHas_in hw.1.2.1 (nHas_0.mp c16)
        have hj3 : jd < 3 := Nat.lt_of_lt_of_le hjd hw.1.2.1
        refine q_iload_n X dX13_extend_19 3 rfl ?_
        refine q_aload_n X dX13_extend_20 0 rfl ?_
        refine q_get X z_2r rfl in_RX13 2 (by decide) tw_1196 rfl rfl dX13_extend_21 ?_
        refine q_iload_n X dX13_extend_24 1 rfl ?_
        refine q_gald X i z_22 (rfl) (hi150) (by decide) hnfo dX13_extend_25 ?_
        refine q_get X hO.1 rfl in_RX12 2 (by decide) tw_1159 rfl rfl dX13_extend_26 ?_
        refine q_iload_n X dX13_extend_29 2 rfl ?_
        refine q_ialdN X jd hO.2.1 (rfl) (hj3) (by decide) dX13_extend_30 ?_
        refine q_icmp_gt X 65 dX13_extend_31 (by decide) (fun c31 => ?_) (fun c31 => ?_)
        · refine q_iconst (v := 1) X dX13_extend_65 (by decide) ?_
          refine q_goto X 70 dX13_extend_66 (by decide) ?_
          refine q_iconst (v := 1) X dX13_extend_70 (by decide) ?_
          refine q_callV X (c_fails1 (why := 1) hB101.1) Y_X13_fails tw_1246 tw_1248 sel_23 z_2r rfl (by omega) rfl rfl (Nat.le_of_ble_eq_true rfl) (rc' := 5) (rs' := 4108) (by omega) (by omega) dX13_extend_71 (fun v M' hp _ => ?_)
          have m_15 : M' o = some (oB 12 [.int (nI (vm w)), .int (nI (vdp w)), .ref ola, .ref oha, .ref ova, .ref oza]) := by rw [hp.2]; exact (mU_n (g_neoo hO.1 z_2r (by decide))).trans hO.1
          have m_16 : M' ola = some (aI G 3 (vlo w)) := by rw [hp.2]; exact (mU_n (Ne.symm (g_neoa z_2r hO.2.1))).trans hO.2.1
          have m_17 : M' oha = some (aI G 3 (vhi w)) := by rw [hp.2]; exact (mU_n (Ne.symm (g_neoa z_2r hO.2.2.1))).trans hO.2.2.1
          have m_18 : M' ova = some (aJ G (wsz w) ovf) := by rw [hp.2]; exact (mU_n (Ne.symm (g_neoa z_2r hO.2.2.2.1))).trans hO.2.2.2.1
          have m_19 : M' oza = some (aZ G (wsz w) ozf) := by rw [hp.2]; exact (mU_n (Ne.symm (g_neoa z_2r hO.2.2.2.2.1))).trans hO.2.2.2.2.1
          obtain ⟨rfl, eM⟩ := hp
          have hB120 : rfB G M' r 1 σ vA nA pA plA dg dla dha dva dza dvf dzf vf nf pf tk su le gr := by rw [eM]; exact hB101.ro
          clear eM
          generalize M' = M120 at *
          show qJ G F _ 5 M120 5 4108 74 [(0, .ref r), (1, .int (nI i)), (2, .int (nI jd)), (3, .int x), (4, .int y)] [.int 1]
          obtain ⟨z_21r, z_211, z_212, z_213, ⟨z_21x, z_214⟩, z_215, z_216, z_217, z_218, z_219, z_2110⟩ := id hB120
          refine q_if_eq X 79 dX13_extend_74 (by decide) (fun c_22 => absurd c_22 (by decide)) (fun c_22 => ?_)
          refine q_iconst (v := 0) X dX13_extend_77 (by decide) ?_
          exact q_iret X hr dX13_extend_78 (rfP_T ((gRoom_y q150).trans ((gNode_y hnd).trans (gNeed_n (fun z => z.2.1 (by rw [s3_N jd hj3 rfl]; exact c31))))) cOp_IA ⟨vA, nA, pA, plA, dg, dla, dha, dva, dza, dvf, dzf, vf, nf, pf, tk, su, le, gr, hB120⟩)
        · refine q_iload X dX13_extend_34 4 rfl ?_
          refine q_aload_n X dX13_extend_36 0 rfl ?_
          refine q_get X z_2r rfl in_RX13 2 (by decide) tw_1196 rfl rfl dX13_extend_37 ?_
          refine q_iload_n X dX13_extend_40 1 rfl ?_
          refine q_gald X i z_22 (rfl) (hi150) (by decide) hnfo dX13_extend_41 ?_
          refine q_get X hO.1 rfl in_RX12 3 (by decide) tw_1161 rfl rfl dX13_extend_42 ?_
          refine q_iload_n X dX13_extend_45 2 rfl ?_
          refine q_ialdN X jd hO.2.2.1 (rfl) (hj3) (by decide) dX13_extend_46 ?_
          refine q_icmp_lt X 65 dX13_extend_47 (by decide) (fun c47 => ?_) (fun c47 => ?_)
          · refine q_iconst (v := 1) X dX13_extend_65 (by decide) ?_
            refine q_goto X 70 dX13_extend_66 (by decide) ?_
            refine q_iconst (v := 1) X dX13_extend_70 (by decide) ?_
            refine q_callV X (c_fails1 (why := 1) hB101.1) Y_X13_fails tw_1246 tw_1248 sel_23 z_2r rfl (by omega) rfl rfl (Nat.le_of_ble_eq_true rfl) (rc' := 5) (rs' := 4108) (by omega) (by omega) dX13_extend_71 (fun v M' hp _ => ?_)
            have m_23 : M' o = some (oB 12 [.int (nI (vm w)), .int (nI (vdp w)), .ref ola, .ref oha, .ref ova, .ref oza]) := by rw [hp.2]; exact (mU_n (g_neoo hO.1 z_2r (by decide))).trans hO.1
            have m_24 : M' ola = some (aI G 3 (vlo w)) := by rw [hp.2]; exact (mU_n (Ne.symm (g_neoa z_2r hO.2.1))).trans hO.2.1
            have m_25 : M' oha = some (aI G 3 (vhi w)) := by rw [hp.2]; exact (mU_n (Ne.symm (g_neoa z_2r hO.2.2.1))).trans hO.2.2.1
            have m_26 : M' ova = some (aJ G (wsz w) ovf) := by rw [hp.2]; exact (mU_n (Ne.symm (g_neoa z_2r hO.2.2.2.1))).trans hO.2.2.2.1
            have m_27 : M' oza = some (aZ G (wsz w) ozf) := by rw [hp.2]; exact (mU_n (Ne.symm (g_neoa z_2r hO.2.2.2.2.1))).trans hO.2.2.2.2.1
            obtain ⟨rfl, eM⟩ := hp
            have hB128 : rfB G M' r 1 σ vA nA pA plA dg dla dha dva dza dvf dzf vf nf pf tk su le gr := by rw [eM]; exact hB101.ro
            clear eM
            generalize M' = M128 at *
            show qJ G F _ 5 M128 5 4108 74 [(0, .ref r), (1, .int (nI i)), (2, .int (nI jd)), (3, .int x), (4, .int y)] [.int 1]
            obtain ⟨z_29r, z_291, z_292, z_293, ⟨z_29x, z_294⟩, z_295, z_296, z_297, z_298, z_299, z_2910⟩ := id hB128
            refine q_if_eq X 79 dX13_extend_74 (by decide) (fun c_30 => absurd c_30 (by decide)) (fun c_30 => ?_)
            refine q_iconst (v := 0) X dX13_extend_77 (by decide) ?_
            exact q_iret X hr dX13_extend_78 (rfP_T ((gRoom_y q150).trans ((gNode_y hnd).trans (gNeed_n (fun z => z.2.2 (by rw [s3_N jd hj3 rfl]; exact c47))))) cOp_IA ⟨vA, nA, pA, plA, dg, dla, dha, dva, dza, dvf, dzf, vf, nf, pf, tk, su, le, gr, hB128⟩)
          · refine q_iload_n X dX13_extend_50 3 rfl ?_
            refine q_sipush (v := (-1000)) X dX13_extend_51 (by decide) ?_
            refine q_icmp_lt X 65 dX13_extend_54 (by decide) (fun c54 => ?_) (fun c54 => ?_)
            · refine q_iconst (v := 1) X dX13_extend_65 (by decide) ?_
              refine q_goto X 70 dX13_extend_66 (by decide) ?_
              refine q_iconst (v := 1) X dX13_extend_70 (by decide) ?_
              refine q_callV X (c_fails1 (why := 1) hB101.1) Y_X13_fails tw_1246 tw_1248 sel_23 z_2r rfl (by omega) rfl rfl (Nat.le_of_ble_eq_true rfl) (rc' := 5) (rs' := 4108) (by omega) (by omega) dX13_extend_71 (fun v M' hp _ => ?_)
              have m_31 : M' o = some (oB 12 [.int (nI (vm w)), .int (nI (vdp w)), .ref ola, .ref oha, .ref ova, .ref oza]) := by rw [hp.2]; exact (mU_n (g_neoo hO.1 z_2r (by decide))).trans hO.1
              have m_32 : M' ola = some (aI G 3 (vlo w)) := by rw [hp.2]; exact (mU_n (Ne.symm (g_neoa z_2r hO.2.1))).trans hO.2.1
              have m_33 : M' oha = some (aI G 3 (vhi w)) := by rw [hp.2]; exact (mU_n (Ne.symm (g_neoa z_2r hO.2.2.1))).trans hO.2.2.1
              have m_34 : M' ova = some (aJ G (wsz w) ovf) := by rw [hp.2]; exact (mU_n (Ne.symm (g_neoa z_2r hO.2.2.2.1))).trans hO.2.2.2.1
              have m_35 : M' oza = some (aZ G (wsz w) ozf) := by rw [hp.2]; exact (mU_n (Ne.symm (g_neoa z_2r hO.2.2.2.2.1))).trans hO.2.2.2.2.1
              obtain ⟨rfl, eM⟩ := hp
              have hB136 : rfB G M' r 1 σ vA nA pA plA dg dla dha dva dza dvf dzf vf nf pf tk su le gr := by rw [eM]; exact hB101.ro
              clear eM
              generalize M' = M136 at *
              show qJ G F _ 5 M136 5 4108 74 [(0, .ref r), (1, .int (nI i)), (2, .int (nI jd)), (3, .int x), (4, .int y)] [.int 1]
              obtain ⟨z_37r, z_371, z_372, z_373, ⟨z_37x, z_374⟩, z_375, z_376, z_377, z_378, z_379, z_3710⟩ := id hB136
              refine q_if_eq X 79 dX13_extend_74 (by decide) (fun c_38 => absurd c_38 (by decide)) (fun c_38 => ?_)
              refine q_iconst (v := 0) X dX13_extend_77 (by decide) ?_
              exact q_iret X hr dX13_extend_78 (rfP_T ((gRoom_y q150).trans ((gNode_y hnd).trans ((gNeed_y ⟨nHas_0.mp c16, by rw [s3_N jd hj3 rfl]; exact c31, by rw [s3_N jd hj3 rfl]; exact c47⟩).trans (gNeed_n (fun z => z.1 c54))))) cOp_IA ⟨vA, nA, pA, plA, dg, dla, dha, dva, dza, dvf, dzf, vf, nf, pf, tk, su, le, gr, hB136⟩)
            · refine q_iload X dX13_extend_57 4 rfl ?_
              refine q_sipush (v := 1000) X dX13_extend_59 (by decide) ?_
              refine q_icmp_le X 69 dX13_extend_62 (by decide) (fun c62 => ?_) (fun c62 => ?_)
              · refine q_iconst (v := 0) X dX13_extend_69 (by decide) ?_
                refine q_iconst (v := 1) X dX13_extend_70 (by decide) ?_
                refine q_callV X (c_fails0 (why := 1) hB101.1) Y_X13_fails tw_1246 tw_1248 sel_23 z_2r rfl (by omega) rfl rfl (Nat.le_of_ble_eq_true rfl) (rc' := 5) (rs' := 4108) (by omega) (by omega) dX13_extend_71 (fun v M' hp _ => ?_)
                have m_39 : M' o = some (oB 12 [.int (nI (vm w)), .int (nI (vdp w)), .ref ola, .ref oha, .ref ova, .ref oza]) := by rw [hp.2]; exact (mU_n (g_neoo hO.1 z_2r (by decide))).trans hO.1
                have m_40 : M' ola = some (aI G 3 (vlo w)) := by rw [hp.2]; exact (mU_n (Ne.symm (g_neoa z_2r hO.2.1))).trans hO.2.1
                have m_41 : M' oha = some (aI G 3 (vhi w)) := by rw [hp.2]; exact (mU_n (Ne.symm (g_neoa z_2r hO.2.2.1))).trans hO.2.2.1
                have m_42 : M' ova = some (aJ G (wsz w) ovf) := by rw [hp.2]; exact (mU_n (Ne.symm (g_neoa z_2r hO.2.2.2.1))).trans hO.2.2.2.1
                have m_43 : M' oza = some (aZ G (wsz w) ozf) := by rw [hp.2]; exact (mU_n (Ne.symm (g_neoa z_2r hO.2.2.2.2.1))).trans hO.2.2.2.2.1
                obtain ⟨rfl, eM⟩ := hp
                have hB144 : rfB G M' r 0 σ vA nA pA plA dg dla dha dva dza dvf dzf vf nf pf tk su le gr := by rw [eM]; exact hB101.ro
                clear eM
                generalize M' = M144 at *
                show qJ G F _ 5 M144 5 4108 74 [(0, .ref r), (1, .int (nI i)), (2, .int (nI jd)), (3, .int x), (4, .int y)] [.int 0]
                obtain ⟨z_45r, z_451, z_452, z_453, ⟨z_45x, z_454⟩, z_455, z_456, z_457, z_458, z_459, z_4510⟩ := id hB144
                refine q_if_eq X 79 dX13_extend_74 (by decide) (fun c_46 => ?_) (fun c_46 => absurd (by decide) c_46)
                obtain ⟨j9, -, -, hok⟩ := rg_ext hw.1 (nHas_0.mp c16) (by rw [s3_N jd hj3 rfl]; exact c31) (by rw [s3_N jd hj3 rfl]; exact c47) c54 (Int32.not_lt.mpr c62)
                refine q_aload_n X dX13_extend_79 0 rfl ?_
                refine q_iload_n X dX13_extend_80 1 rfl ?_
                refine q_iload_n X dX13_extend_81 2 rfl ?_
                refine q_iload_n X dX13_extend_82 3 rfl ?_
                refine q_iload X dX13_extend_83 4 rfl ?_
                refine q_callV X (c_ranged hB144 hw hi q150 hjd hok) Y_X13_ranged tw_1355 tw_1357 sel_31 z_45r rfl (by omega) rfl rfl (Nat.le_of_ble_eq_true rfl) (rc' := 0) (rs' := 0) (by omega) (by omega) dX13_extend_85 (fun v M' hp _ => ?_)
                obtain ⟨n9, rfl, hz9⟩ := ranged_int hp
                show qJ G F _ 5 M' 0 0 88 [(0, .ref r), (1, .int (nI i)), (2, .int (nI jd)), (3, .int x), (4, .int y)] [.int n9]
                exact q_iret X hr dX13_extend_88 (rfP_c ((gRoom_y q150).trans ((gNode_y hnd).trans ((gNeed_y ⟨nHas_0.mp c16, by rw [s3_N jd hj3 rfl]; exact c31, by rw [s3_N jd hj3 rfl]; exact c47⟩).trans (gNeed_y ⟨c54, Int32.not_lt.mpr c62⟩)))) hz9)
              · refine q_iconst (v := 1) X dX13_extend_65 (by decide) ?_
                refine q_goto X 70 dX13_extend_66 (by decide) ?_
                refine q_iconst (v := 1) X dX13_extend_70 (by decide) ?_
                refine q_callV X (c_fails1 (why := 1) hB101.1) Y_X13_fails tw_1246 tw_1248 sel_23 z_2r rfl (by omega) rfl rfl (Nat.le_of_ble_eq_true rfl) (rc' := 5) (rs' := 4108) (by omega) (by omega) dX13_extend_71 (fun v M' hp _ => ?_)
                have m_47 : M' o = some (oB 12 [.int (nI (vm w)), .int (nI (vdp w)), .ref ola, .ref oha, .ref ova, .ref oza]) := by rw [hp.2]; exact (mU_n (g_neoo hO.1 z_2r (by decide))).trans hO.1
                have m_48 : M' ola = some (aI G 3 (vlo w)) := by rw [hp.2]; exact (mU_n (Ne.symm (g_neoa z_2r hO.2.1))).trans hO.2.1
                have m_49 : M' oha = some (aI G 3 (vhi w)) := by rw [hp.2]; exact (mU_n (Ne.symm (g_neoa z_2r hO.2.2.1))).trans hO.2.2.1
                have m_50 : M' ova = some (aJ G (wsz w) ovf) := by rw [hp.2]; exact (mU_n (Ne.symm (g_neoa z_2r hO.2.2.2.1))).trans hO.2.2.2.1
                have m_51 : M' oza = some (aZ G (wsz w) ozf) := by rw [hp.2]; exact (mU_n (Ne.symm (g_neoa z_2r hO.2.2.2.2.1))).trans hO.2.2.2.2.1
                obtain ⟨rfl, eM⟩ := hp
                have hB152 : rfB G M' r 1 σ vA nA pA plA dg dla dha dva dza dvf dzf vf nf pf tk su le gr := by rw [eM]; exact hB101.ro
                clear eM
                generalize M' = M152 at *
                show qJ G F _ 5 M152 5 4108 74 [(0, .ref r), (1, .int (nI i)), (2, .int (nI jd)), (3, .int x), (4, .int y)] [.int 1]
                obtain ⟨z_53r, z_531, z_532, z_533, ⟨z_53x, z_534⟩, z_535, z_536, z_537, z_538, z_539, z_5310⟩ := id hB152
                refine q_if_eq X 79 dX13_extend_74 (by decide) (fun c_54 => absurd c_54 (by decide)) (fun c_54 => ?_)
                refine q_iconst (v := 0) X dX13_extend_77 (by decide) ?_
                exact q_iret X hr dX13_extend_78 (rfP_T ((gRoom_y q150).trans ((gNode_y hnd).trans ((gNeed_y ⟨nHas_0.mp c16, by rw [s3_N jd hj3 rfl]; exact c31, by rw [s3_N jd hj3 rfl]; exact c47⟩).trans (gNeed_n (fun z => z.2 (Int32.not_le.mp c62)))))) cOp_IA ⟨vA, nA, pA, plA, dg, dla, dha, dva, dza, dvf, dzf, vf, nf, pf, tk, su, le, gr, hB152⟩)
  · refine q_callV X (c_full_n hB q150 hl150) Y_X13_full tw_1332 tw_1334 sel_27 hB.1 rfl (by omega) rfl rfl (Nat.le_of_ble_eq_true rfl) (rc' := 5) (rs' := 4108) (by omega) (by omega) dX13_extend_1 (fun v M' hp _ => ?_)
    obtain ⟨rfl, eM⟩ := hp
    have hB155 : rfB G M' r 2 σ vA nA pA plA dg dla dha dva dza dvf dzf vf nf pf tk su le gr := by rw [eM]; exact hB.ro
    clear eM
    generalize M' = M155 at *
    show qJ G F _ 5 M155 5 4108 4 [(0, .ref r), (1, .int a), (2, .int d), (3, .int x), (4, .int y)] [.int 1]
    obtain ⟨z_56r, z_561, z_562, z_563, ⟨z_56x, z_564⟩, z_565, z_566, z_567, z_568, z_569, z_5610⟩ := id hB155
    refine q_if_eq X 9 dX13_extend_4 (by decide) (fun c_57 => absurd c_57 (by decide)) (fun c_57 => ?_)
    refine q_iconst (v := 0) X dX13_extend_7 (by decide) ?_
    exact q_iret X hr dX13_extend_8 (rfP_T (gRoom_n (Nat.not_lt.mpr q150)) cOp_IO ⟨vA, nA, pA, plA, dg, dla, dha, dva, dza, dvf, dzf, vf, nf, pf, tk, su, le, gr, hB155⟩)

set_option maxRecDepth 20000 in
theorem r_read {l : Launch} {G : gV} {M : gMem} {r : Nat} {e : Int32} {σ : sA} (hW : gvW σ) (hR : isRF G M r e σ) {i : Int32} : qC l G yX13_read cX13_read 3 (some .int) 6 3 12 [.ref r, .int i] M (rfP G r cOp (some (.int 0)) (sp_read σ i)) := by
  refine qC_of (by decide +kernel) (Nat.le_of_ble_eq_true rfl) (fun F hF X hr hn => ?_)
  subst hF
  have X : qX G F cX13_read 3 RX13 6 := X
  obtain ⟨vA, nA, pA, plA, dg, dla, dha, dva, dza, dvf, dzf, vf, nf, pf, tk, su, le, gr, hB⟩ := hR
  have hl150 := hW.1.2.2.2.2.1
  have hl41 := hW.1.2.2.2.1
  show qJ G F _ 3 M 3 12 0 [(0, .ref r), (1, .int i)] []
  refine q_aload_n X dX13_read_0 0 rfl ?_
  rcases Nat.lt_or_ge (aN σ).length 150 with q150 | q150
  · refine q_callV X (c_full_y hB q150) Y_X13_full tw_1332 tw_1334 sel_27 hB.1 rfl (by omega) rfl rfl (Nat.le_of_ble_eq_true rfl) (rc' := 3) (rs' := 12) (by omega) (by omega) dX13_read_1 (fun v M' hp _ => ?_)
    obtain ⟨rfl, eM⟩ := hp
    have hB101 : rfB G M' r 0 σ vA nA pA plA dg dla dha dva dza dvf dzf vf nf pf tk su le gr := by rw [eM]; exact hB.ro
    clear eM
    generalize M' = M101 at *
    show qJ G F _ 3 M101 3 12 4 [(0, .ref r), (1, .int i)] [.int 0]
    obtain ⟨z_2r, z_21, z_22, z_23, ⟨z_2x, z_24⟩, z_25, z_26, z_27, z_28, z_29, z_210⟩ := id hB101
    refine q_if_eq X 9 dX13_read_4 (by decide) (fun c_3 => ?_) (fun c_3 => absurd (by decide) c_3)
    refine q_aload_n X dX13_read_9 0 rfl ?_
    refine q_aload_n X dX13_read_10 0 rfl ?_
    refine q_iload_n X dX13_read_11 1 rfl ?_
    rcases hvr : vAt σ i with _ | c
    · refine q_callVp X (c_noVersion_n hB101 (by omega) hvr) Y_X13_noVersion tw_1292 tw_1294 sel_26 z_2r rfl (by omega) rfl rfl (Nat.le_of_ble_eq_true rfl) dX13_read_12 ?_
      refine q_iconst (v := 1) X dX13_read_15 (by decide) ?_
      refine q_callV X (c_fails1 (why := 1) hB101.1) Y_X13_fails tw_1246 tw_1248 sel_23 z_2r rfl (by omega) rfl rfl (Nat.le_of_ble_eq_true rfl) (rc' := 3) (rs' := 12) (by omega) (by omega) dX13_read_16 (fun v M' hp _ => ?_)
      obtain ⟨rfl, eM⟩ := hp
      have hB104 : rfB G M' r 1 σ vA nA pA plA dg dla dha dva dza dvf dzf vf nf pf tk su le gr := by rw [eM]; exact hB101.ro
      clear eM
      generalize M' = M104 at *
      show qJ G F _ 3 M104 3 12 19 [(0, .ref r), (1, .int i)] [.int 1]
      obtain ⟨z_5r, z_51, z_52, z_53, ⟨z_5x, z_54⟩, z_55, z_56, z_57, z_58, z_59, z_510⟩ := id hB104
      refine q_if_eq X 24 dX13_read_19 (by decide) (fun c_6 => absurd c_6 (by decide)) (fun c_6 => ?_)
      refine q_iconst (v := 0) X dX13_read_22 (by decide) ?_
      exact q_iret X hr dX13_read_23 (rfP_T ((gRoom_y q150).trans (gVer_n hvr)) cOp_IA ⟨vA, nA, pA, plA, dg, dla, dha, dva, dza, dvf, dzf, vf, nf, pf, tk, su, le, gr, hB104⟩)
    · refine q_callVp X (c_noVersion_y hB101 (by omega) hvr) Y_X13_noVersion tw_1292 tw_1294 sel_26 z_2r rfl (by omega) rfl rfl (Nat.le_of_ble_eq_true rfl) dX13_read_12 ?_
      obtain ⟨jv, hjv, rfl, hc⟩ := vAt_some hvr
      have hj41 : jv < 41 := by omega
      obtain ⟨o, hvfo, ⟨ola, oha, ova, oza, ovf, ozf, hO, bo1, bo2, bo3, bo4⟩, hpar⟩ := hB101.2.2.2.2.2.2.2.1 jv c hc
      refine q_iconst (v := 1) X dX13_read_15 (by decide) ?_
      refine q_callV X (c_fails0 (why := 1) hB101.1) Y_X13_fails tw_1246 tw_1248 sel_23 z_2r rfl (by omega) rfl rfl (Nat.le_of_ble_eq_true rfl) (rc' := 3) (rs' := 12) (by omega) (by omega) dX13_read_16 (fun v M' hp _ => ?_)
      have m_7 : M' o = some (oB 12 [.int (nI (vm (veV σ c))), .int (nI (vdp (veV σ c))), .ref ola, .ref oha, .ref ova, .ref oza]) := by rw [hp.2]; exact (mU_n (g_neoo hO.1 z_2r (by decide))).trans hO.1
      have m_8 : M' ola = some (aI G 3 (vlo (veV σ c))) := by rw [hp.2]; exact (mU_n (Ne.symm (g_neoa z_2r hO.2.1))).trans hO.2.1
      have m_9 : M' oha = some (aI G 3 (vhi (veV σ c))) := by rw [hp.2]; exact (mU_n (Ne.symm (g_neoa z_2r hO.2.2.1))).trans hO.2.2.1
      have m_10 : M' ova = some (aJ G (wsz (veV σ c)) ovf) := by rw [hp.2]; exact (mU_n (Ne.symm (g_neoa z_2r hO.2.2.2.1))).trans hO.2.2.2.1
      have m_11 : M' oza = some (aZ G (wsz (veV σ c)) ozf) := by rw [hp.2]; exact (mU_n (Ne.symm (g_neoa z_2r hO.2.2.2.2.1))).trans hO.2.2.2.2.1
      obtain ⟨rfl, eM⟩ := hp
      have hB112 : rfB G M' r 0 σ vA nA pA plA dg dla dha dva dza dvf dzf vf nf pf tk su le gr := by rw [eM]; exact hB101.ro
      clear eM
      generalize M' = M112 at *
      show qJ G F _ 3 M112 3 12 19 [(0, .ref r), (1, .int (nI jv))] [.int 0]
      obtain ⟨z_13r, z_131, z_132, z_133, ⟨z_13x, z_134⟩, z_135, z_136, z_137, z_138, z_139, z_1310⟩ := id hB112
      refine q_if_eq X 24 dX13_read_19 (by decide) (fun c_14 => ?_) (fun c_14 => absurd (by decide) c_14)
      refine q_aload_n X dX13_read_24 0 rfl ?_
      refine q_get X z_13r rfl in_RX13 1 (by decide) tw_1195 rfl rfl dX13_read_25 ?_
      refine q_iload_n X dX13_read_28 1 rfl ?_
      refine q_gald X jv z_131 (rfl) (hj41) (by decide) hvfo dX13_read_29 ?_
      refine q_iconst (v := 1) X dX13_read_30 (by decide) ?_
      refine q_callS X (c_like (dp := 1) m_7 m_8 m_9) Y_X13_like tw_1336 tw_1337 (by omega) rfl rfl (Nat.le_of_ble_eq_true rfl) (rc' := 0) (rs' := 0) (by omega) (by omega) dX13_read_31 (fun v M' hp _ => ?_)
      obtain ⟨q, la, ha, rfl, fq, fla, fha, llh, llq, lhq, hq1, hla1, hha1, ev1⟩ := hp
      generalize M' = N15 at *
      have m_16 : N15 r = some (oB 13 [.int 0, .ref vA, .ref nA, .ref pA, .ref plA, .ref dg, .int (nI (aV σ).length), .int (nI (aN σ).length), .int (nI (aOf σ)), .int (nI (aBg σ)), .int tk, .long su, .long le, .long gr]) := ev1.keep z_13r id
      have m_17 : N15 vA = some (aG G 41 vf) := ev1.keep z_131 id
      have m_18 : N15 nA = some (aG G 150 nf) := ev1.keep z_132 id
      have m_19 : N15 pA = some (aI G 41 pf) := ev1.keep z_133 id
      have m_20 : N15 plA = some (aI G 3 z_13x) := ev1.keep z_134 id
      have m_21 : N15 o = some (oB 12 [.int (nI (vm (veV σ c))), .int (nI (vdp (veV σ c))), .ref ola, .ref oha, .ref ova, .ref oza]) := ev1.keep m_7 id
      have m_22 : N15 ola = some (aI G 3 (vlo (veV σ c))) := ev1.keep m_8 id
      have m_23 : N15 oha = some (aI G 3 (vhi (veV σ c))) := ev1.keep m_9 id
      have m_24 : N15 ova = some (aJ G (wsz (veV σ c)) ovf) := ev1.keep m_10 id
      have m_25 : N15 oza = some (aZ G (wsz (veV σ c)) ozf) := ev1.keep m_11 id
      have hBn := hB112.ev ev1
      show qJ G F _ 3 N15 0 0 34 [(0, .ref r), (1, .int (nI jv))] [.ref q]
      refine q_astore_n (lv' := [(2, .ref q), (0, .ref r), (1, .int (nI jv))]) X dX13_read_34 (by decide) rfl ?_
      refine q_aload_n X dX13_read_35 0 rfl ?_
      refine q_aload_n X dX13_read_36 1 rfl ?_
      refine q_get X m_16 rfl in_RX13 1 (by decide) tw_1195 rfl rfl dX13_read_37 ?_
      refine q_iload_n X dX13_read_40 2 rfl ?_
      refine q_gald X jv m_17 (rfl) (hj41) (by decide) hvfo dX13_read_41 ?_
      refine q_get X m_21 rfl in_RX12 4 (by decide) tw_1163 rfl rfl dX13_read_42 ?_
      refine q_put X hq1 rfl in_RX12 tyX12 tyX12_ok nmX12 4 (by decide) tw_1163 rfl rfl rfl rfl rfl (Nat.le_of_ble_eq_true rfl) (fs1 := [.int (nI (aM σ)), .int 1, .ref la, .ref ha, .ref ova, .null]) rfl dX13_read_45 ?_
      have m_26 : (mU N15 q (oB 12 [.int (nI (aM σ)), .int 1, .ref la, .ref ha, .ref ova, .null])) r = some (oB 13 [.int 0, .ref vA, .ref nA, .ref pA, .ref plA, .ref dg, .int (nI (aV σ).length), .int (nI (aN σ).length), .int (nI (aOf σ)), .int (nI (aBg σ)), .int tk, .long su, .long le, .long gr]) := (mU_n (g_nef z_13r fq)).trans m_16
      have m_27 : (mU N15 q (oB 12 [.int (nI (aM σ)), .int 1, .ref la, .ref ha, .ref ova, .null])) vA = some (aG G 41 vf) := (mU_n (g_nef z_131 fq)).trans m_17
      have m_28 : (mU N15 q (oB 12 [.int (nI (aM σ)), .int 1, .ref la, .ref ha, .ref ova, .null])) nA = some (aG G 150 nf) := (mU_n (g_nef z_132 fq)).trans m_18
      have m_29 : (mU N15 q (oB 12 [.int (nI (aM σ)), .int 1, .ref la, .ref ha, .ref ova, .null])) pA = some (aI G 41 pf) := (mU_n (g_nef z_133 fq)).trans m_19
      have m_30 : (mU N15 q (oB 12 [.int (nI (aM σ)), .int 1, .ref la, .ref ha, .ref ova, .null])) plA = some (aI G 3 z_13x) := (mU_n (g_nef z_134 fq)).trans m_20
      have m_31 : (mU N15 q (oB 12 [.int (nI (aM σ)), .int 1, .ref la, .ref ha, .ref ova, .null])) o = some (oB 12 [.int (nI (vm (veV σ c))), .int (nI (vdp (veV σ c))), .ref ola, .ref oha, .ref ova, .ref oza]) := (mU_n (g_nef m_7 fq)).trans m_21
      have m_32 : (mU N15 q (oB 12 [.int (nI (aM σ)), .int 1, .ref la, .ref ha, .ref ova, .null])) ola = some (aI G 3 (vlo (veV σ c))) := (mU_n (g_nef m_8 fq)).trans m_22
      have m_33 : (mU N15 q (oB 12 [.int (nI (aM σ)), .int 1, .ref la, .ref ha, .ref ova, .null])) oha = some (aI G 3 (vhi (veV σ c))) := (mU_n (g_nef m_9 fq)).trans m_23
      have m_34 : (mU N15 q (oB 12 [.int (nI (aM σ)), .int 1, .ref la, .ref ha, .ref ova, .null])) ova = some (aJ G (wsz (veV σ c)) ovf) := (mU_n (g_nef m_10 fq)).trans m_24
      have m_35 : (mU N15 q (oB 12 [.int (nI (aM σ)), .int 1, .ref la, .ref ha, .ref ova, .null])) oza = some (aZ G (wsz (veV σ c)) ozf) := (mU_n (g_nef m_11 fq)).trans m_25
      have m_36 : (mU N15 q (oB 12 [.int (nI (aM σ)), .int 1, .ref la, .ref ha, .ref ova, .null])) q = some (oB 12 [.int (nI (aM σ)), .int 1, .ref la, .ref ha, .ref ova, .null]) := mU_s
      refine q_aload_n X dX13_read_48 0 rfl ?_
      refine q_aload_n X dX13_read_49 1 rfl ?_
      refine q_get X m_26 rfl in_RX13 1 (by decide) tw_1195 rfl rfl dX13_read_50 ?_
      refine q_iload_n X dX13_read_53 2 rfl ?_
      refine q_gald X jv m_27 (rfl) (hj41) (by decide) hvfo dX13_read_54 ?_
      refine q_get X m_31 rfl in_RX12 5 (by decide) tw_1165 rfl rfl dX13_read_55 ?_
      refine q_put X m_36 rfl in_RX12 tyX12 tyX12_ok nmX12 5 (by decide) tw_1165 rfl rfl rfl rfl rfl (Nat.le_of_ble_eq_true rfl) (fs1 := [.int (nI (aM σ)), .int 1, .ref la, .ref ha, .ref ova, .ref oza]) rfl dX13_read_58 ?_
      have m_37 : (mU (mU N15 q (oB 12 [.int (nI (aM σ)), .int 1, .ref la, .ref ha, .ref ova, .null])) q (oB 12 [.int (nI (aM σ)), .int 1, .ref la, .ref ha, .ref ova, .ref oza])) r = some (oB 13 [.int 0, .ref vA, .ref nA, .ref pA, .ref plA, .ref dg, .int (nI (aV σ).length), .int (nI (aN σ).length), .int (nI (aOf σ)), .int (nI (aBg σ)), .int tk, .long su, .long le, .long gr]) := (mU_n (g_nef z_13r fq)).trans m_26
      have m_38 : (mU (mU N15 q (oB 12 [.int (nI (aM σ)), .int 1, .ref la, .ref ha, .ref ova, .null])) q (oB 12 [.int (nI (aM σ)), .int 1, .ref la, .ref ha, .ref ova, .ref oza])) vA = some (aG G 41 vf) := (mU_n (g_nef z_131 fq)).trans m_27
      have m_39 : (mU (mU N15 q (oB 12 [.int (nI (aM σ)), .int 1, .ref la, .ref ha, .ref ova, .null])) q (oB 12 [.int (nI (aM σ)), .int 1, .ref la, .ref ha, .ref ova, .ref oza])) nA = some (aG G 150 nf) := (mU_n (g_nef z_132 fq)).trans m_28
      have m_40 : (mU (mU N15 q (oB 12 [.int (nI (aM σ)), .int 1, .ref la, .ref ha, .ref ova, .null])) q (oB 12 [.int (nI (aM σ)), .int 1, .ref la, .ref ha, .ref ova, .ref oza])) pA = some (aI G 41 pf) := (mU_n (g_nef z_133 fq)).trans m_29
      have m_41 : (mU (mU N15 q (oB 12 [.int (nI (aM σ)), .int 1, .ref la, .ref ha, .ref ova, .null])) q (oB 12 [.int (nI (aM σ)), .int 1, .ref la, .ref ha, .ref ova, .ref oza])) plA = some (aI G 3 z_13x) := (mU_n (g_nef z_134 fq)).trans m_30
      have m_42 : (mU (mU N15 q (oB 12 [.int (nI (aM σ)), .int 1, .ref la, .ref ha, .ref ova, .null])) q (oB 12 [.int (nI (aM σ)), .int 1, .ref la, .ref ha, .ref ova, .ref oza])) o = some (oB 12 [.int (nI (vm (veV σ c))), .int (nI (vdp (veV σ c))), .ref ola, .ref oha, .ref ova, .ref oza]) := (mU_n (g_nef m_7 fq)).trans m_31
      have m_43 : (mU (mU N15 q (oB 12 [.int (nI (aM σ)), .int 1, .ref la, .ref ha, .ref ova, .null])) q (oB 12 [.int (nI (aM σ)), .int 1, .ref la, .ref ha, .ref ova, .ref oza])) ola = some (aI G 3 (vlo (veV σ c))) := (mU_n (g_nef m_8 fq)).trans m_32
      have m_44 : (mU (mU N15 q (oB 12 [.int (nI (aM σ)), .int 1, .ref la, .ref ha, .ref ova, .null])) q (oB 12 [.int (nI (aM σ)), .int 1, .ref la, .ref ha, .ref ova, .ref oza])) oha = some (aI G 3 (vhi (veV σ c))) := (mU_n (g_nef m_9 fq)).trans m_33
      have m_45 : (mU (mU N15 q (oB 12 [.int (nI (aM σ)), .int 1, .ref la, .ref ha, .ref ova, .null])) q (oB 12 [.int (nI (aM σ)), .int 1, .ref la, .ref ha, .ref ova, .ref oza])) ova = some (aJ G (wsz (veV σ c)) ovf) := (mU_n (g_nef m_10 fq)).trans m_34
      have m_46 : (mU (mU N15 q (oB 12 [.int (nI (aM σ)), .int 1, .ref la, .ref ha, .ref ova, .null])) q (oB 12 [.int (nI (aM σ)), .int 1, .ref la, .ref ha, .ref ova, .ref oza])) oza = some (aZ G (wsz (veV σ c)) ozf) := (mU_n (g_nef m_11 fq)).trans m_35
      have m_47 : (mU (mU N15 q (oB 12 [.int (nI (aM σ)), .int 1, .ref la, .ref ha, .ref ova, .null])) q (oB 12 [.int (nI (aM σ)), .int 1, .ref la, .ref ha, .ref ova, .ref oza])) q = some (oB 12 [.int (nI (aM σ)), .int 1, .ref la, .ref ha, .ref ova, .ref oza]) := mU_s
      have nb : ∀ {x : Nat}, M112 x = none → ¬ rBad plA pA dva dza x := fun h z => by
        rcases z with z | z | z | z
        · obtain ⟨pl0, hpl0⟩ := hB112.2.2.2.2.1; rw [z, hpl0] at h; cases h
        · rw [z, hB112.2.2.2.1] at h; cases h
        · rw [z, hB112.2.2.2.2.2.1.2.2.2.1] at h; cases h
        · rw [z, hB112.2.2.2.2.2.1.2.2.2.2.1] at h; cases h
      have evq : mEv (fun _ => False) M112 (mU (mU N15 q (oB 12 [.int (nI (aM σ)), .int 1, .ref la, .ref ha, .ref ova, .null])) q (oB 12 [.int (nI (aM σ)), .int 1, .ref la, .ref ha, .ref ova, .ref oza])) := fun x hx => by
        have w1 : x ≠ q := fun z => hx (z ▸ fq)
        have e1 := ev1 x hx
        have e : (mU (mU N15 q (oB 12 [.int (nI (aM σ)), .int 1, .ref la, .ref ha, .ref ova, .null])) q (oB 12 [.int (nI (aM σ)), .int 1, .ref la, .ref ha, .ref ova, .ref oza])) x = _ := (mU_n w1).trans (mU_n w1)
        exact ⟨by rw [e]; exact e1.1, fun k => e.trans (e1.2 k)⟩
      have hBq := hB112.ev evq
      have hg : isGrd G (mU (mU N15 q (oB 12 [.int (nI (aM σ)), .int 1, .ref la, .ref ha, .ref ova, .null])) q (oB 12 [.int (nI (aM σ)), .int 1, .ref la, .ref ha, .ref ova, .ref oza])) (rBad plA pA dva dza) q (aM σ, aLo σ, aHi σ, 1, c.1) := grd_mk m_47 ((mU_n llq).trans ((mU_n llq).trans hla1)) ((mU_n lhq).trans ((mU_n lhq).trans hha1)) m_45 m_46 hO.2.2.2.2.2 (nb fla) (nb fha) bo3 bo4
      refine q_aload_n X dX13_read_61 1 rfl ?_
      refine q_aload_n X dX13_read_62 0 rfl ?_
      refine q_callV X (c_made hBq hg q150) Y_X13_made tw_1339 tw_1341 sel_28 m_37 rfl (by omega) rfl rfl (Nat.le_of_ble_eq_true rfl) (rc' := 0) (rs' := 0) (by omega) (by omega) dX13_read_63 (fun v M' hp _ => ?_)
      obtain ⟨rfl, hz9⟩ := hp
      generalize M' = MZ at *
      show qJ G F _ 3 MZ 0 0 66 [(2, .ref q), (0, .ref r), (1, .int (nI jv))] [.int (nI (aN σ).length)]
      exact q_iret X hr dX13_read_66 (rfP_K ((gRoom_y q150).trans (gVer_y hvr)) hz9)
  · refine q_callV X (c_full_n hB q150 hl150) Y_X13_full tw_1332 tw_1334 sel_27 hB.1 rfl (by omega) rfl rfl (Nat.le_of_ble_eq_true rfl) (rc' := 3) (rs' := 12) (by omega) (by omega) dX13_read_1 (fun v M' hp _ => ?_)
    obtain ⟨rfl, eM⟩ := hp
    have hB148 : rfB G M' r 2 σ vA nA pA plA dg dla dha dva dza dvf dzf vf nf pf tk su le gr := by rw [eM]; exact hB.ro
    clear eM
    generalize M' = M148 at *
    show qJ G F _ 3 M148 3 12 4 [(0, .ref r), (1, .int i)] [.int 1]
    obtain ⟨z_49r, z_491, z_492, z_493, ⟨z_49x, z_494⟩, z_495, z_496, z_497, z_498, z_499, z_4910⟩ := id hB148
    refine q_if_eq X 9 dX13_read_4 (by decide) (fun c_50 => absurd c_50 (by decide)) (fun c_50 => ?_)
    refine q_iconst (v := 0) X dX13_read_7 (by decide) ?_
    exact q_iret X hr dX13_read_8 (rfP_T (gRoom_n (Nat.not_lt.mpr q150)) cOp_IO ⟨vA, nA, pA, plA, dg, dla, dha, dva, dza, dvf, dzf, vf, nf, pf, tk, su, le, gr, hB148⟩)
