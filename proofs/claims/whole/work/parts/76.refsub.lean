/-! the reference: noDim, sub, extend, read -/
def nHas (n d : Int32) : Int32 := if sHas n d = 0 then 1 else 0
theorem nHas_0 {n d : Int32} : nHas n d = 0 ↔ ¬ sHas n d = 0 := by
  unfold nHas; by_cases c : sHas n d = 0
  · rw [if_pos c]; exact ⟨fun h => absurd h (by decide), fun h => absurd c h⟩
  · rw [if_neg c]; exact ⟨fun _ => c, fun _ => rfl⟩
theorem nHas_01 (n d : Int32) : nHas n d = 0 ∨ nHas n d = 1 := by unfold nHas; split; exact Or.inr rfl; exact Or.inl rfl

set_option maxRecDepth 20000 in
theorem c_noDim_n {l : Launch} {G : gV} {M : gMem} {r : Nat} {e : Int32} {σ : sA} {vA nA pA plA dg dla dha dva dza : Nat} {dvf : Nat → Int64} {dzf : Nat → Int32} {vf nf : Nat → Option Nat} {pf : Nat → Int32} {tk : Int32} {su le gr : Int64} (hB : rfB G M r e σ vA nA pA plA dg dla dha dva dza dvf dzf vf nf pf tk su le gr) {a d : Int32} (hl : (aN σ).length ≤ 4096) (hw : ndAt σ a = none) : qC l G yX13_noDim cX13_noDim 3 (some .boolean) 2 0 0 [.ref r, .int a, .int d] M (pP (.int 1) M) := by
  refine qC_of (by decide +kernel) (Nat.le_of_ble_eq_true rfl) (fun F hF X hr hn => ?_)
  subst hF
  have X : qX G F cX13_noDim 3 RX13 2 := X
  show qJ G F _ 3 M 0 0 0 [(0, .ref r), (1, .int a), (2, .int d)] []
  refine q_aload_n X dX13_noDim_0 0 rfl ?_
  refine q_iload_n X dX13_noDim_1 1 rfl ?_
  refine q_callVp X (c_none_n hB hl hw) Y_X13_none tw_1351 tw_1353 sel_30 hB.1 rfl (by omega) rfl rfl (Nat.le_of_ble_eq_true rfl) dX13_noDim_2 ?_
  refine q_if_ne X 25 dX13_noDim_5 (by decide) (fun c_1 => ?_) (fun c_1 => absurd c_1 (by decide))
  refine q_iconst (v := 1) X dX13_noDim_25 (by decide) ?_
  refine q_goto X 30 dX13_noDim_26 (by decide) ?_
  exact q_zret X hr (by decide) dX13_noDim_30 (⟨rfl, rfl⟩)

set_option maxRecDepth 20000 in
theorem c_noDim_y {l : Launch} {G : gV} {M : gMem} {r : Nat} {e : Int32} {σ : sA} {vA nA pA plA dg dla dha dva dza : Nat} {dvf : Nat → Int64} {dzf : Nat → Int32} {vf nf : Nat → Option Nat} {pf : Nat → Int32} {tk : Int32} {su le gr : Int64} (hB : rfB G M r e σ vA nA pA plA dg dla dha dva dza dvf dzf vf nf pf tk su le gr) {i : Nat} {d : Int32} {w : vN} (hl : (aN σ).length ≤ 150) (hi : (aN σ)[i]? = some w) : qC l G yX13_noDim cX13_noDim 3 (some .boolean) 2 0 0 [.ref r, .int (nI i), .int d] M (pP (.int (nHas (nI (vm w)) d)) M) := by
  refine qC_of (by decide +kernel) (Nat.le_of_ble_eq_true rfl) (fun F hF X hr hn => ?_)
  subst hF
  have X : qX G F cX13_noDim 3 RX13 2 := X
  obtain ⟨o, hnfo, ola, oha, ova, oza, ovf, ozf, hO, bo1, bo2, bo3, bo4⟩ := hB.2.2.2.2.2.2.2.2.1 i w hi
  have hi150 : i < 150 := Nat.lt_of_lt_of_le (List.getElem?_eq_some_iff.mp hi).1 hl
  have hw9 : ndAt σ (nI i) = some w := (ndAt_in (by omega)).trans hi
  show qJ G F _ 3 M 0 0 0 [(0, .ref r), (1, .int (nI i)), (2, .int d)] []
  refine q_aload_n X dX13_noDim_0 0 rfl ?_
  refine q_iload_n X dX13_noDim_1 1 rfl ?_
  refine q_callVp X (c_none_y hB (by omega) hw9) Y_X13_none tw_1351 tw_1353 sel_30 hB.1 rfl (by omega) rfl rfl (Nat.le_of_ble_eq_true rfl) dX13_noDim_2 ?_
  refine q_if_ne X 25 dX13_noDim_5 (by decide) (fun c_1 => absurd (by decide) c_1) (fun c_1 => ?_)
  refine q_iload_n X dX13_noDim_8 2 rfl ?_
  refine q_if_lt X 25 dX13_noDim_9 (by decide) (fun c1 => ?_) (fun c1 => ?_)
  · refine q_iconst (v := 1) X dX13_noDim_25 (by decide) ?_
    refine q_goto X 30 dX13_noDim_26 (by decide) ?_
    exact q_zret X hr (by decide) dX13_noDim_30 (⟨congrArg (fun z => some (Value.int z)) (by unfold nHas sHas; rw [if_pos c1]; rfl), rfl⟩)
  · refine q_iload_n X dX13_noDim_12 2 rfl ?_
    refine q_aload_n X dX13_noDim_13 0 rfl ?_
    refine q_get X hB.1 rfl in_RX13 2 (by decide) tw_1196 rfl rfl dX13_noDim_14 ?_
    refine q_iload_n X dX13_noDim_17 1 rfl ?_
    refine q_gald X i hB.2.2.1 (rfl) (hi150) (by decide) hnfo dX13_noDim_18 ?_
    refine q_get X hO.1 rfl in_RX12 0 (by decide) tw_1156 rfl rfl dX13_noDim_19 ?_
    refine q_icmp_lt X 29 dX13_noDim_22 (by decide) (fun c2 => ?_) (fun c2 => ?_)
    · refine q_iconst (v := 0) X dX13_noDim_29 (by decide) ?_
      exact q_zret X hr (by decide) dX13_noDim_30 (⟨congrArg (fun z => some (Value.int z)) (by unfold nHas sHas; rw [if_neg c1, if_neg (Int32.not_le.mpr c2)]; rfl), rfl⟩)
    · refine q_iconst (v := 1) X dX13_noDim_25 (by decide) ?_
      refine q_goto X 30 dX13_noDim_26 (by decide) ?_
      exact q_zret X hr (by decide) dX13_noDim_30 (⟨congrArg (fun z => some (Value.int z)) (by unfold nHas sHas; rw [if_neg c1, if_pos (Int32.not_lt.mp c2)]; rfl), rfl⟩)

theorem sR_no {n : Int32} {lo hi : Nat → Int32} {d f t : Int32} (h : sHas n d = 0 ∨ t < f ∨ f < s3 lo 0 d ∨ s3 hi 0 d < t) : sRange n lo hi d f t = 0 := by
  unfold sRange
  by_cases c0 : sHas n d = 0
  · rw [if_pos c0]
  rw [if_neg c0]
  by_cases c1 : t < f
  · rw [if_pos c1]
  rw [if_neg c1]
  by_cases c2 : f < s3 lo 0 d
  · rw [if_pos c2]
  rw [if_neg c2]
  by_cases c3 : s3 hi 0 d < t
  · rw [if_pos c3]
  rcases h with h | h | h | h
  · exact absurd h c0
  · exact absurd h c1
  · exact absurd h c2
  · exact absurd h c3
theorem sR_ok {n : Int32} {lo hi : Nat → Int32} {d f t : Int32} (c0 : ¬ sHas n d = 0) (c1 : ¬ t < f) (c2 : ¬ f < s3 lo 0 d) (c3 : ¬ s3 hi 0 d < t) : ¬ sRange n lo hi d f t = 0 := by
  unfold sRange; rw [if_neg c0, if_neg c1, if_neg c2, if_neg c3]; decide

theorem rfP_c {G : gV} {r : Nat} {mp : String → Int32} {z : Option Value} {o o' : oc} {v : Option Value} {M : gMem} (e : o = o') (h : rfP G r mp z o' v M) : rfP G r mp z o v M := e ▸ h
theorem ranged_int {G : gV} {r : Nat} {mp : String → Int32} {σ : sA} {w : vN} {d x y : Int32} {v : Option Value} {M : gMem} (h : rfP G r mp (some (.int 0)) (spRg σ w d x y) v M) : ∃ n, v = some (.int n) ∧ rfP G r mp (some (.int 0)) (spRg σ w d x y) v M := by
  have h0 := h
  unfold spRg gLim at h
  split at h
  · exact ⟨_, h.1, h0⟩
  · exact ⟨_, h.1, h0⟩

set_option maxRecDepth 20000 in
theorem r_sub {l : Launch} {G : gV} {M : gMem} {r : Nat} {e : Int32} {σ : sA} (hW : gvW σ) (hR : isRF G M r e σ) {a d x y : Int32} : qC l G yX13_sub cX13_sub 5 (some .int) 6 5 4108 [.ref r, .int a, .int d, .int x, .int y] M (rfP G r cOp (some (.int 0)) (sp_sub σ a d x y)) := by
  refine qC_of (by decide +kernel) (Nat.le_of_ble_eq_true rfl) (fun F hF X hr hn => ?_)
  subst hF
  have X : qX G F cX13_sub 5 RX13 6 := X
  obtain ⟨vA, nA, pA, plA, dg, dla, dha, dva, dza, dvf, dzf, vf, nf, pf, tk, su, le, gr, hB⟩ := hR
  have hl150 := hW.1.2.2.2.2.1
  show qJ G F _ 5 M 5 4108 0 [(0, .ref r), (1, .int a), (2, .int d), (3, .int x), (4, .int y)] []
  refine q_aload_n X dX13_sub_0 0 rfl ?_
  rcases Nat.lt_or_ge (aN σ).length 150 with q150 | q150
  · refine q_callV X (c_full_y hB q150) Y_X13_full tw_1332 tw_1334 sel_27 hB.1 rfl (by omega) rfl rfl (Nat.le_of_ble_eq_true rfl) (rc' := 5) (rs' := 4108) (by omega) (by omega) dX13_sub_1 (fun v M' hp _ => ?_)
    obtain ⟨rfl, eM⟩ := hp
    have hB101 : rfB G M' r 0 σ vA nA pA plA dg dla dha dva dza dvf dzf vf nf pf tk su le gr := by rw [eM]; exact hB.ro
    clear eM
    generalize M' = M101 at *
    show qJ G F _ 5 M101 5 4108 4 [(0, .ref r), (1, .int a), (2, .int d), (3, .int x), (4, .int y)] [.int 0]
    obtain ⟨z_2r, z_21, z_22, z_23, ⟨z_2x, z_24⟩, z_25, z_26, z_27, z_28, z_29, z_210⟩ := id hB101
    refine q_if_eq X 9 dX13_sub_4 (by decide) (fun c_3 => ?_) (fun c_3 => absurd (by decide) c_3)
    refine q_aload_n X dX13_sub_9 0 rfl ?_
    refine q_aload_n X dX13_sub_10 0 rfl ?_
    refine q_iload_n X dX13_sub_11 1 rfl ?_
    refine q_iload_n X dX13_sub_12 2 rfl ?_
    rcases hnd : ndAt σ a with _ | w
    · refine q_callVp X (c_noDim_n hB101 (by omega) hnd) Y_X13_noDim tw_1347 tw_1349 sel_29 z_2r rfl (by omega) rfl rfl (Nat.le_of_ble_eq_true rfl) dX13_sub_13 ?_
      refine q_if_ne X 56 dX13_sub_16 (by decide) (fun c16 => ?_) (fun c16 => absurd c16 (by decide))
      refine q_iconst (v := 1) X dX13_sub_56 (by decide) ?_
      refine q_goto X 61 dX13_sub_57 (by decide) ?_
      refine q_iconst (v := 1) X dX13_sub_61 (by decide) ?_
      refine q_callV X (c_fails1 (why := 1) hB101.1) Y_X13_fails tw_1246 tw_1248 sel_23 z_2r rfl (by omega) rfl rfl (Nat.le_of_ble_eq_true rfl) (rc' := 5) (rs' := 4108) (by omega) (by omega) dX13_sub_62 (fun v M' hp _ => ?_)
      obtain ⟨rfl, eM⟩ := hp
      have hB104 : rfB G M' r 1 σ vA nA pA plA dg dla dha dva dza dvf dzf vf nf pf tk su le gr := by rw [eM]; exact hB101.ro
      clear eM
      generalize M' = M104 at *
      show qJ G F _ 5 M104 5 4108 65 [(0, .ref r), (1, .int a), (2, .int d), (3, .int x), (4, .int y)] [.int 1]
      obtain ⟨z_5r, z_51, z_52, z_53, ⟨z_5x, z_54⟩, z_55, z_56, z_57, z_58, z_59, z_510⟩ := id hB104
      refine q_if_eq X 70 dX13_sub_65 (by decide) (fun c_6 => absurd c_6 (by decide)) (fun c_6 => ?_)
      refine q_iconst (v := 0) X dX13_sub_68 (by decide) ?_
      exact q_iret X hr dX13_sub_69 (rfP_T ((gRoom_y q150).trans (gNode_n hnd)) cOp_IA ⟨vA, nA, pA, plA, dg, dla, dha, dva, dza, dvf, dzf, vf, nf, pf, tk, su, le, gr, hB104⟩)
    · obtain ⟨i, hi9, rfl, hi⟩ := ndAt_some hnd
      have hw := hW.2 i w hi
      have hi150 : i < 150 := by omega
      obtain ⟨o, hnfo, ola, oha, ova, oza, ovf, ozf, hO, bo1, bo2, bo3, bo4⟩ := hB101.2.2.2.2.2.2.2.2.1 i w hi
      refine q_callVp X (c_noDim_y hB101 hl150 hi) Y_X13_noDim tw_1347 tw_1349 sel_29 z_2r rfl (by omega) rfl rfl (Nat.le_of_ble_eq_true rfl) dX13_sub_13 ?_
      refine q_if_ne X 56 dX13_sub_16 (by decide) (fun c16 => ?_) (fun c16 => ?_)
      · refine q_iconst (v := 1) X dX13_sub_56 (by decide) ?_
        refine q_goto X 61 dX13_sub_57 (by decide) ?_
        refine q_iconst (v := 1) X dX13_sub_61 (by decide) ?_
        refine q_callV X (c_fails1 (why := 1) hB101.1) Y_X13_fails tw_1246 tw_1248 sel_23 z_2r rfl (by omega) rfl rfl (Nat.le_of_ble_eq_true rfl) (rc' := 5) (rs' := 4108) (by omega) (by omega) dX13_sub_62 (fun v M' hp _ => ?_)
        have m_7 : M' o = some (oB 12 [.int (nI (vm w)), .int (nI (vdp w)), .ref ola, .ref oha, .ref ova, .ref oza]) := by rw [hp.2]; exact (mU_n (g_neoo hO.1 z_2r (by decide))).trans hO.1
        have m_8 : M' ola = some (aI G 3 (vlo w)) := by rw [hp.2]; exact (mU_n (Ne.symm (g_neoa z_2r hO.2.1))).trans hO.2.1
        have m_9 : M' oha = some (aI G 3 (vhi w)) := by rw [hp.2]; exact (mU_n (Ne.symm (g_neoa z_2r hO.2.2.1))).trans hO.2.2.1
        have m_10 : M' ova = some (aJ G (wsz w) ovf) := by rw [hp.2]; exact (mU_n (Ne.symm (g_neoa z_2r hO.2.2.2.1))).trans hO.2.2.2.1
        have m_11 : M' oza = some (aZ G (wsz w) ozf) := by rw [hp.2]; exact (mU_n (Ne.symm (g_neoa z_2r hO.2.2.2.2.1))).trans hO.2.2.2.2.1
        obtain ⟨rfl, eM⟩ := hp
        have hB112 : rfB G M' r 1 σ vA nA pA plA dg dla dha dva dza dvf dzf vf nf pf tk su le gr := by rw [eM]; exact hB101.ro
        clear eM
        generalize M' = M112 at *
        show qJ G F _ 5 M112 5 4108 65 [(0, .ref r), (1, .int (nI i)), (2, .int d), (3, .int x), (4, .int y)] [.int 1]
        obtain ⟨z_13r, z_131, z_132, z_133, ⟨z_13x, z_134⟩, z_135, z_136, z_137, z_138, z_139, z_1310⟩ := id hB112
        refine q_if_eq X 70 dX13_sub_65 (by decide) (fun c_14 => absurd c_14 (by decide)) (fun c_14 => ?_)
        refine q_iconst (v := 0) X dX13_sub_68 (by decide) ?_
        exact q_iret X hr dX13_sub_69 (rfP_T ((gRoom_y q150).trans ((gNode_y hnd).trans (gNeed_n (not_not_intro (sR_no (Or.inl (Classical.not_not.mp (mt nHas_0.mpr c16)))))))) cOp_IA ⟨vA, nA, pA, plA, dg, dla, dha, dva, dza, dvf, dzf, vf, nf, pf, tk, su, le, gr, hB112⟩)
      · obtain ⟨jd, hjd, rfl⟩ := sHas_in hw.1.2.1 (nHas_0.mp c16)
        have hj3 : jd < 3 := Nat.lt_of_lt_of_le hjd hw.1.2.1
        refine q_iload_n X dX13_sub_19 3 rfl ?_
        refine q_iload X dX13_sub_20 4 rfl ?_
        refine q_icmp_gt X 56 dX13_sub_22 (by decide) (fun c22 => ?_) (fun c22 => ?_)
        · refine q_iconst (v := 1) X dX13_sub_56 (by decide) ?_
          refine q_goto X 61 dX13_sub_57 (by decide) ?_
          refine q_iconst (v := 1) X dX13_sub_61 (by decide) ?_
          refine q_callV X (c_fails1 (why := 1) hB101.1) Y_X13_fails tw_1246 tw_1248 sel_23 z_2r rfl (by omega) rfl rfl (Nat.le_of_ble_eq_true rfl) (rc' := 5) (rs' := 4108) (by omega) (by omega) dX13_sub_62 (fun v M' hp _ => ?_)
          have m_15 : M' o = some (oB 12 [.int (nI (vm w)), .int (nI (vdp w)), .ref ola, .ref oha, .ref ova, .ref oza]) := by rw [hp.2]; exact (mU_n (g_neoo hO.1 z_2r (by decide))).trans hO.1
          have m_16 : M' ola = some (aI G 3 (vlo w)) := by rw [hp.2]; exact (mU_n (Ne.symm (g_neoa z_2r hO.2.1))).trans hO.2.1
          have m_17 : M' oha = some (aI G 3 (vhi w)) := by rw [hp.2]; exact (mU_n (Ne.symm (g_neoa z_2r hO.2.2.1))).trans hO.2.2.1
          have m_18 : M' ova = some (aJ G (wsz w) ovf) := by rw [hp.2]; exact (mU_n (Ne.symm (g_neoa z_2r hO.2.2.2.1))).trans hO.2.2.2.1
          have m_19 : M' oza = some (aZ G (wsz w) ozf) := by rw [hp.2]; exact (mU_n (Ne.symm (g_neoa z_2r hO.2.2.2.2.1))).trans hO.2.2.2.2.1
          obtain ⟨rfl, eM⟩ := hp
          have hB120 : rfB G M' r 1 σ vA nA pA plA dg dla dha dva dza dvf dzf vf nf pf tk su le gr := by rw [eM]; exact hB101.ro
          clear eM
          generalize M' = M120 at *
          show qJ G F _ 5 M120 5 4108 65 [(0, .ref r), (1, .int (nI i)), (2, .int (nI jd)), (3, .int x), (4, .int y)] [.int 1]
          obtain ⟨z_21r, z_211, z_212, z_213, ⟨z_21x, z_214⟩, z_215, z_216, z_217, z_218, z_219, z_2110⟩ := id hB120
          refine q_if_eq X 70 dX13_sub_65 (by decide) (fun c_22 => absurd c_22 (by decide)) (fun c_22 => ?_)
          refine q_iconst (v := 0) X dX13_sub_68 (by decide) ?_
          exact q_iret X hr dX13_sub_69 (rfP_T ((gRoom_y q150).trans ((gNode_y hnd).trans (gNeed_n (not_not_intro (sR_no (Or.inr (Or.inl c22))))))) cOp_IA ⟨vA, nA, pA, plA, dg, dla, dha, dva, dza, dvf, dzf, vf, nf, pf, tk, su, le, gr, hB120⟩)
        · refine q_iload_n X dX13_sub_25 3 rfl ?_
          refine q_aload_n X dX13_sub_26 0 rfl ?_
          refine q_get X z_2r rfl in_RX13 2 (by decide) tw_1196 rfl rfl dX13_sub_27 ?_
          refine q_iload_n X dX13_sub_30 1 rfl ?_
          refine q_gald X i z_22 (rfl) (hi150) (by decide) hnfo dX13_sub_31 ?_
          refine q_get X hO.1 rfl in_RX12 2 (by decide) tw_1159 rfl rfl dX13_sub_32 ?_
          refine q_iload_n X dX13_sub_35 2 rfl ?_
          refine q_ialdN X jd hO.2.1 (rfl) (hj3) (by decide) dX13_sub_36 ?_
          refine q_icmp_lt X 56 dX13_sub_37 (by decide) (fun c37 => ?_) (fun c37 => ?_)
          · refine q_iconst (v := 1) X dX13_sub_56 (by decide) ?_
            refine q_goto X 61 dX13_sub_57 (by decide) ?_
            refine q_iconst (v := 1) X dX13_sub_61 (by decide) ?_
            refine q_callV X (c_fails1 (why := 1) hB101.1) Y_X13_fails tw_1246 tw_1248 sel_23 z_2r rfl (by omega) rfl rfl (Nat.le_of_ble_eq_true rfl) (rc' := 5) (rs' := 4108) (by omega) (by omega) dX13_sub_62 (fun v M' hp _ => ?_)
            have m_23 : M' o = some (oB 12 [.int (nI (vm w)), .int (nI (vdp w)), .ref ola, .ref oha, .ref ova, .ref oza]) := by rw [hp.2]; exact (mU_n (g_neoo hO.1 z_2r (by decide))).trans hO.1
            have m_24 : M' ola = some (aI G 3 (vlo w)) := by rw [hp.2]; exact (mU_n (Ne.symm (g_neoa z_2r hO.2.1))).trans hO.2.1
            have m_25 : M' oha = some (aI G 3 (vhi w)) := by rw [hp.2]; exact (mU_n (Ne.symm (g_neoa z_2r hO.2.2.1))).trans hO.2.2.1
            have m_26 : M' ova = some (aJ G (wsz w) ovf) := by rw [hp.2]; exact (mU_n (Ne.symm (g_neoa z_2r hO.2.2.2.1))).trans hO.2.2.2.1
            have m_27 : M' oza = some (aZ G (wsz w) ozf) := by rw [hp.2]; exact (mU_n (Ne.symm (g_neoa z_2r hO.2.2.2.2.1))).trans hO.2.2.2.2.1
            obtain ⟨rfl, eM⟩ := hp
            have hB128 : rfB G M' r 1 σ vA nA pA plA dg dla dha dva dza dvf dzf vf nf pf tk su le gr := by rw [eM]; exact hB101.ro
            clear eM
            generalize M' = M128 at *
            show qJ G F _ 5 M128 5 4108 65 [(0, .ref r), (1, .int (nI i)), (2, .int (nI jd)), (3, .int x), (4, .int y)] [.int 1]
            obtain ⟨z_29r, z_291, z_292, z_293, ⟨z_29x, z_294⟩, z_295, z_296, z_297, z_298, z_299, z_2910⟩ := id hB128
            refine q_if_eq X 70 dX13_sub_65 (by decide) (fun c_30 => absurd c_30 (by decide)) (fun c_30 => ?_)
            refine q_iconst (v := 0) X dX13_sub_68 (by decide) ?_
            exact q_iret X hr dX13_sub_69 (rfP_T ((gRoom_y q150).trans ((gNode_y hnd).trans (gNeed_n (not_not_intro (sR_no (Or.inr (Or.inr (Or.inl (by rw [s3_N jd hj3 rfl]; exact c37))))))))) cOp_IA ⟨vA, nA, pA, plA, dg, dla, dha, dva, dza, dvf, dzf, vf, nf, pf, tk, su, le, gr, hB128⟩)
          · refine q_iload X dX13_sub_40 4 rfl ?_
            refine q_aload_n X dX13_sub_42 0 rfl ?_
            refine q_get X z_2r rfl in_RX13 2 (by decide) tw_1196 rfl rfl dX13_sub_43 ?_
            refine q_iload_n X dX13_sub_46 1 rfl ?_
            refine q_gald X i z_22 (rfl) (hi150) (by decide) hnfo dX13_sub_47 ?_
            refine q_get X hO.1 rfl in_RX12 3 (by decide) tw_1161 rfl rfl dX13_sub_48 ?_
            refine q_iload_n X dX13_sub_51 2 rfl ?_
            refine q_ialdN X jd hO.2.2.1 (rfl) (hj3) (by decide) dX13_sub_52 ?_
            refine q_icmp_le X 60 dX13_sub_53 (by decide) (fun c53 => ?_) (fun c53 => ?_)
            · refine q_iconst (v := 0) X dX13_sub_60 (by decide) ?_
              refine q_iconst (v := 1) X dX13_sub_61 (by decide) ?_
              refine q_callV X (c_fails0 (why := 1) hB101.1) Y_X13_fails tw_1246 tw_1248 sel_23 z_2r rfl (by omega) rfl rfl (Nat.le_of_ble_eq_true rfl) (rc' := 5) (rs' := 4108) (by omega) (by omega) dX13_sub_62 (fun v M' hp _ => ?_)
              have m_31 : M' o = some (oB 12 [.int (nI (vm w)), .int (nI (vdp w)), .ref ola, .ref oha, .ref ova, .ref oza]) := by rw [hp.2]; exact (mU_n (g_neoo hO.1 z_2r (by decide))).trans hO.1
              have m_32 : M' ola = some (aI G 3 (vlo w)) := by rw [hp.2]; exact (mU_n (Ne.symm (g_neoa z_2r hO.2.1))).trans hO.2.1
              have m_33 : M' oha = some (aI G 3 (vhi w)) := by rw [hp.2]; exact (mU_n (Ne.symm (g_neoa z_2r hO.2.2.1))).trans hO.2.2.1
              have m_34 : M' ova = some (aJ G (wsz w) ovf) := by rw [hp.2]; exact (mU_n (Ne.symm (g_neoa z_2r hO.2.2.2.1))).trans hO.2.2.2.1
              have m_35 : M' oza = some (aZ G (wsz w) ozf) := by rw [hp.2]; exact (mU_n (Ne.symm (g_neoa z_2r hO.2.2.2.2.1))).trans hO.2.2.2.2.1
              obtain ⟨rfl, eM⟩ := hp
              have hB136 : rfB G M' r 0 σ vA nA pA plA dg dla dha dva dza dvf dzf vf nf pf tk su le gr := by rw [eM]; exact hB101.ro
              clear eM
              generalize M' = M136 at *
              show qJ G F _ 5 M136 5 4108 65 [(0, .ref r), (1, .int (nI i)), (2, .int (nI jd)), (3, .int x), (4, .int y)] [.int 0]
              obtain ⟨z_37r, z_371, z_372, z_373, ⟨z_37x, z_374⟩, z_375, z_376, z_377, z_378, z_379, z_3710⟩ := id hB136
              refine q_if_eq X 70 dX13_sub_65 (by decide) (fun c_38 => ?_) (fun c_38 => absurd (by decide) c_38)
              have hsr : ¬ sRange (nI (vm w)) (vlo w) (vhi w) (nI jd) x y = 0 := sR_ok (nHas_0.mp c16) c22 (by rw [s3_N jd hj3 rfl]; exact c37) (by rw [s3_N jd hj3 rfl]; exact Int32.not_lt.mpr c53)
              obtain ⟨j9, -, -, hok, -⟩ := rg_sub hw.1 hsr
              refine q_aload_n X dX13_sub_70 0 rfl ?_
              refine q_iload_n X dX13_sub_71 1 rfl ?_
              refine q_iload_n X dX13_sub_72 2 rfl ?_
              refine q_iload_n X dX13_sub_73 3 rfl ?_
              refine q_iload X dX13_sub_74 4 rfl ?_
              refine q_callV X (c_ranged hB136 hw hi q150 hjd hok) Y_X13_ranged tw_1355 tw_1357 sel_31 z_37r rfl (by omega) rfl rfl (Nat.le_of_ble_eq_true rfl) (rc' := 0) (rs' := 0) (by omega) (by omega) dX13_sub_76 (fun v M' hp _ => ?_)
              obtain ⟨n9, rfl, hz9⟩ := ranged_int hp
              show qJ G F _ 5 M' 0 0 79 [(0, .ref r), (1, .int (nI i)), (2, .int (nI jd)), (3, .int x), (4, .int y)] [.int n9]
              exact q_iret X hr dX13_sub_79 (rfP_c ((gRoom_y q150).trans ((gNode_y hnd).trans (gNeed_y hsr))) hz9)
            · refine q_iconst (v := 1) X dX13_sub_56 (by decide) ?_
              refine q_goto X 61 dX13_sub_57 (by decide) ?_
              refine q_iconst (v := 1) X dX13_sub_61 (by decide) ?_
              refine q_callV X (c_fails1 (why := 1) hB101.1) Y_X13_fails tw_1246 tw_1248 sel_23 z_2r rfl (by omega) rfl rfl (Nat.le_of_ble_eq_true rfl) (rc' := 5) (rs' := 4108) (by omega) (by omega) dX13_sub_62 (fun v M' hp _ => ?_)
              have m_39 : M' o = some (oB 12 [.int (nI (vm w)), .int (nI (vdp w)), .ref ola, .ref oha, .ref ova, .ref oza]) := by rw [hp.2]; exact (mU_n (g_neoo hO.1 z_2r (by decide))).trans hO.1
              have m_40 : M' ola = some (aI G 3 (vlo w)) := by rw [hp.2]; exact (mU_n (Ne.symm (g_neoa z_2r hO.2.1))).trans hO.2.1
              have m_41 : M' oha = some (aI G 3 (vhi w)) := by rw [hp.2]; exact (mU_n (Ne.symm (g_neoa z_2r hO.2.2.1))).trans hO.2.2.1
              have m_42 : M' ova = some (aJ G (wsz w) ovf) := by rw [hp.2]; exact (mU_n (Ne.symm (g_neoa z_2r hO.2.2.2.1))).trans hO.2.2.2.1
              have m_43 : M' oza = some (aZ G (wsz w) ozf) := by rw [hp.2]; exact (mU_n (Ne.symm (g_neoa z_2r hO.2.2.2.2.1))).trans hO.2.2.2.2.1
              obtain ⟨rfl, eM⟩ := hp
              have hB144 : rfB G M' r 1 σ vA nA pA plA dg dla dha dva dza dvf dzf vf nf pf tk su le gr := by rw [eM]; exact hB101.ro
              clear eM
              generalize M' = M144 at *
              show qJ G F _ 5 M144 5 4108 65 [(0, .ref r), (1, .int (nI i)), (2, .int (nI jd)), (3, .int x), (4, .int y)] [.int 1]
              obtain ⟨z_45r, z_451, z_452, z_453, ⟨z_45x, z_454⟩, z_455, z_456, z_457, z_458, z_459, z_4510⟩ := id hB144
              refine q_if_eq X 70 dX13_sub_65 (by decide) (fun c_46 => absurd c_46 (by decide)) (fun c_46 => ?_)
              refine q_iconst (v := 0) X dX13_sub_68 (by decide) ?_
              exact q_iret X hr dX13_sub_69 (rfP_T ((gRoom_y q150).trans ((gNode_y hnd).trans (gNeed_n (not_not_intro (sR_no (Or.inr (Or.inr (Or.inr (by rw [s3_N jd hj3 rfl]; exact Int32.not_le.mp c53))))))))) cOp_IA ⟨vA, nA, pA, plA, dg, dla, dha, dva, dza, dvf, dzf, vf, nf, pf, tk, su, le, gr, hB144⟩)
  · refine q_callV X (c_full_n hB q150 hl150) Y_X13_full tw_1332 tw_1334 sel_27 hB.1 rfl (by omega) rfl rfl (Nat.le_of_ble_eq_true rfl) (rc' := 5) (rs' := 4108) (by omega) (by omega) dX13_sub_1 (fun v M' hp _ => ?_)
    obtain ⟨rfl, eM⟩ := hp
    have hB147 : rfB G M' r 2 σ vA nA pA plA dg dla dha dva dza dvf dzf vf nf pf tk su le gr := by rw [eM]; exact hB.ro
    clear eM
    generalize M' = M147 at *
    show qJ G F _ 5 M147 5 4108 4 [(0, .ref r), (1, .int a), (2, .int d), (3, .int x), (4, .int y)] [.int 1]
    obtain ⟨z_48r, z_481, z_482, z_483, ⟨z_48x, z_484⟩, z_485, z_486, z_487, z_488, z_489, z_4810⟩ := id hB147
    refine q_if_eq X 9 dX13_sub_4 (by decide) (fun c_49 => absurd c_49 (by decide)) (fun c_49 => ?_)
    refine q_iconst (v := 0) X dX13_sub_7 (by decide) ?_
    exact q_iret X hr dX13_sub_8 (rfP_T (gRoom_n (Nat.not_lt.mpr q150)) cOp_IO ⟨vA, nA, pA, plA, dg, dla, dha, dva, dza, dvf, dzf, vf, nf, pf, tk, su, le, gr, hB147⟩)
