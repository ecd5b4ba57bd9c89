/-! the reference: all, fill, open -/
theorem al_fr {w : vN} (hw : vOk w) {e j k : Nat} (he : e < sN (vlo w) (vhi w) 0) (hj : j < sN (vlo w) (vhi w) 1) (hk : k < sN (vlo w) (vhi w) 2) : frV w (vlo w 0 + nI e) (vlo w 1 + nI j) (vlo w 2 + nI k) = wAt w (0 + nI (c3 (sN (vlo w) (vhi w) 1) (sN (vlo w) (vhi w) 2) e j k) * 1) := by
  have lt : c3 (sN (vlo w) (vhi w) 1) (sN (vlo w) (vhi w) 2) e j k < wsz w := c3_lt he hj hk
  have hz := hw.2.1
  rw [frV_in (jn_in hw.1 (fun d _ => ⟨Int.le_refl _, Int.le_refl _⟩) hw.1 he hj hk) (gAt_lo hw.1) (by omega), Int32.mul_one, Int32.zero_add, wAt_N hw lt]
theorem tKn_y {what : Int32} (a : ¬ what < 0) (b : what ≤ 3) : ¬ tKn what = 0 := by unfold tKn; rw [if_neg a, if_neg (Int32.not_lt.mpr b)]; decide
theorem tKn_n {what : Int32} (h : what < 0 ∨ ¬ what ≤ 3) : tKn what = 0 := by
  unfold tKn
  by_cases a : what < 0
  · rw [if_pos a]
  · rw [if_neg a, if_pos (Int32.not_le.mp (h.resolve_left a))]
theorem nI_z0 {n : Nat} (h : n < 2 ^ 30) (e : nI n = 0) : n = 0 := nI_inj (by omega) (by decide) (show nI n = nI 0 from e)

set_option maxRecDepth 20000 in
theorem r_all {l : Launch} {G : gV} {M : gMem} {r : Nat} {e : Int32} {σ : sA} (hW : gvW σ) (hR : isRF G M r e σ) {a what : Int32} : qC l G yX13_all cX13_all 7 (some .long) 6 0 0 [.ref r, .int a, .int what] M (rfP G r cAl (some (.long 0)) (sp_all σ a what)) := by
  refine qC_of (by decide +kernel) (Nat.le_of_ble_eq_true rfl) (fun F hF X hr hn => ?_)
  subst hF
  have X : qX G F cX13_all 7 RX13 6 := X
  obtain ⟨vA, nA, pA, plA, dg, dla, dha, dva, dza, dvf, dzf, vf, nf, pf, tk, su, le, gr, hB⟩ := hR
  have hl150 := hW.1.2.2.2.2.1
  have hl41 := hW.1.2.2.2.1
  have hz := hW.1.sz
  have hcI := cI_ne X
  have tail : ∀ (M : gMem) (i : Nat) (w : vN) (hB : rfB G M r 0 σ vA nA pA plA dg dla dha dva dza dvf dzf vf nf pf tk su le gr) (hi : (aN σ)[i]? = some w) (hw : vOk w) (specE : sp_all σ (nI i) what = oL (talO (talW w what 0 1 (sz3 (vlo w) (vhi w)))) eUO σ), qJ G F (qQ G F (rfP G r cAl (some (.long 0)) (sp_all σ (nI i) what))) 7 M 0 0 32 [(0, .ref r), (1, .int (nI i)), (2, .int what)] [] := by
    intro M i w hB hi hw specE
    obtain ⟨o, hnfo, ola, oha, ova, oza, ovf, ozf, hO, bo1, bo2, bo3, bo4⟩ := hB.2.2.2.2.2.2.2.2.1 i w hi
    have hi150 : i < 150 := Nat.lt_of_lt_of_le (List.getElem?_eq_some_iff.mp hi).1 hl150
    obtain ⟨pl0, hpl0⟩ := hB.2.2.2.2.1
    refine q_aload_n X dX13_all_32 0 rfl ?_
    refine q_get X hB.1 rfl in_RX13 2 (by decide) tw_1196 rfl rfl dX13_all_33 ?_
    refine q_iload_n X dX13_all_36 1 rfl ?_
    refine q_gald X i hB.2.2.1 (rfl) (hi150) (by decide) hnfo dX13_all_37 ?_
    refine q_astore_n (lv' := [(3, .ref o), (0, .ref r), (1, .int (nI i)), (2, .int what)]) X dX13_all_38 (by decide) rfl ?_
    refine q_aload_n X dX13_all_39 1 rfl ?_
    refine q_callV X (c_nothing hB.1) Y_X13_nothing tw_1409 tw_1411 sel_34 hB.1 rfl (by omega) rfl rfl (Nat.le_of_ble_eq_true rfl) (rc' := 0) (rs' := 0) (by omega) (by omega) dX13_all_40 (fun v M' hp _ => ?_)
    obtain ⟨rfl, eM⟩ := hp
    rw [eM]
    clear eM
    have m_1 : (mU M r (oB 13 [.int 0, .ref vA, .ref nA, .ref pA, .ref plA, .ref dg, .int (nI (aV σ).length), .int (nI (aN σ).length), .int (nI (aOf σ)), .int (nI (aBg σ)), .int (nI ((0, 0, le, gr)).1), .long (((0, 0, le, gr)).2.1), .long (((0, 0, le, gr)).2.2.1), .long (((0, 0, le, gr)).2.2.2)])) r = some (oB 13 [.int 0, .ref vA, .ref nA, .ref pA, .ref plA, .ref dg, .int (nI (aV σ).length), .int (nI (aN σ).length), .int (nI (aOf σ)), .int (nI (aBg σ)), .int (nI ((0, 0, le, gr)).1), .long (((0, 0, le, gr)).2.1), .long (((0, 0, le, gr)).2.2.1), .long (((0, 0, le, gr)).2.2.2)]) := mU_s
    have m_2 : (mU M r (oB 13 [.int 0, .ref vA, .ref nA, .ref pA, .ref plA, .ref dg, .int (nI (aV σ).length), .int (nI (aN σ).length), .int (nI (aOf σ)), .int (nI (aBg σ)), .int (nI ((0, 0, le, gr)).1), .long (((0, 0, le, gr)).2.1), .long (((0, 0, le, gr)).2.2.1), .long (((0, 0, le, gr)).2.2.2)])) nA = some (aG G 150 nf) := (mU_n (Ne.symm (g_neoa hB.1 hB.2.2.1))).trans hB.2.2.1
    have m_3 : (mU M r (oB 13 [.int 0, .ref vA, .ref nA, .ref pA, .ref plA, .ref dg, .int (nI (aV σ).length), .int (nI (aN σ).length), .int (nI (aOf σ)), .int (nI (aBg σ)), .int (nI ((0, 0, le, gr)).1), .long (((0, 0, le, gr)).2.1), .long (((0, 0, le, gr)).2.2.1), .long (((0, 0, le, gr)).2.2.2)])) o = some (oB 12 [.int (nI (vm w)), .int (nI (vdp w)), .ref ola, .ref oha, .ref ova, .ref oza]) := (mU_n (g_neoo hO.1 hB.1 (by decide))).trans hO.1
    have m_4 : (mU M r (oB 13 [.int 0, .ref vA, .ref nA, .ref pA, .ref plA, .ref dg, .int (nI (aV σ).length), .int (nI (aN σ).length), .int (nI (aOf σ)), .int (nI (aBg σ)), .int (nI ((0, 0, le, gr)).1), .long (((0, 0, le, gr)).2.1), .long (((0, 0, le, gr)).2.2.1), .long (((0, 0, le, gr)).2.2.2)])) ola = some (aI G 3 (vlo w)) := (mU_n (Ne.symm (g_neoa hB.1 hO.2.1))).trans hO.2.1
    have m_5 : (mU M r (oB 13 [.int 0, .ref vA, .ref nA, .ref pA, .ref plA, .ref dg, .int (nI (aV σ).length), .int (nI (aN σ).length), .int (nI (aOf σ)), .int (nI (aBg σ)), .int (nI ((0, 0, le, gr)).1), .long (((0, 0, le, gr)).2.1), .long (((0, 0, le, gr)).2.2.1), .long (((0, 0, le, gr)).2.2.2)])) oha = some (aI G 3 (vhi w)) := (mU_n (Ne.symm (g_neoa hB.1 hO.2.2.1))).trans hO.2.2.1
    have m_6 : (mU M r (oB 13 [.int 0, .ref vA, .ref nA, .ref pA, .ref plA, .ref dg, .int (nI (aV σ).length), .int (nI (aN σ).length), .int (nI (aOf σ)), .int (nI (aBg σ)), .int (nI ((0, 0, le, gr)).1), .long (((0, 0, le, gr)).2.1), .long (((0, 0, le, gr)).2.2.1), .long (((0, 0, le, gr)).2.2.2)])) ova = some (aJ G (wsz w) ovf) := (mU_n (Ne.symm (g_neoa hB.1 hO.2.2.2.1))).trans hO.2.2.2.1
    have m_7 : (mU M r (oB 13 [.int 0, .ref vA, .ref nA, .ref pA, .ref plA, .ref dg, .int (nI (aV σ).length), .int (nI (aN σ).length), .int (nI (aOf σ)), .int (nI (aBg σ)), .int (nI ((0, 0, le, gr)).1), .long (((0, 0, le, gr)).2.1), .long (((0, 0, le, gr)).2.2.1), .long (((0, 0, le, gr)).2.2.2)])) oza = some (aZ G (wsz w) ozf) := (mU_n (Ne.symm (g_neoa hB.1 hO.2.2.2.2.1))).trans hO.2.2.2.2.1
    have m_8 : (mU M r (oB 13 [.int 0, .ref vA, .ref nA, .ref pA, .ref plA, .ref dg, .int (nI (aV σ).length), .int (nI (aN σ).length), .int (nI (aOf σ)), .int (nI (aBg σ)), .int (nI ((0, 0, le, gr)).1), .long (((0, 0, le, gr)).2.1), .long (((0, 0, le, gr)).2.2.1), .long (((0, 0, le, gr)).2.2.2)])) plA = some (aI G 3 pl0) := (mU_n (Ne.symm (g_neoa hB.1 hpl0))).trans hpl0
    show qJ G F _ 7 (mU M r (rfO 0 vA nA pA plA dg σ (nI (((0, 0, le, gr) : tT)).1) (((0, 0, le, gr) : tT)).2.1 (((0, 0, le, gr) : tT)).2.2.1 (((0, 0, le, gr) : tT)).2.2.2)) 0 0 43 [(3, .ref o), (0, .ref r), (1, .int (nI i)), (2, .int what)] []
    have ko : ∀ t9 : tT, (mU M r (rfO 0 vA nA pA plA dg σ (nI (t9).1) (t9).2.1 (t9).2.2.1 (t9).2.2.2)) o = some (oB 12 [.int (nI (vm w)), .int (nI (vdp w)), .ref ola, .ref oha, .ref ova, .ref oza]) := fun t9 => (mU_n (g_neoo hO.1 hB.1 (by decide))).trans hO.1
    have kola : ∀ t9 : tT, (mU M r (rfO 0 vA nA pA plA dg σ (nI (t9).1) (t9).2.1 (t9).2.2.1 (t9).2.2.2)) ola = some (aI G 3 (vlo w)) := fun t9 => (mU_n (Ne.symm (g_neoa hB.1 hO.2.1))).trans hO.2.1
    have koha : ∀ t9 : tT, (mU M r (rfO 0 vA nA pA plA dg σ (nI (t9).1) (t9).2.1 (t9).2.2.1 (t9).2.2.2)) oha = some (aI G 3 (vhi w)) := fun t9 => (mU_n (Ne.symm (g_neoa hB.1 hO.2.2.1))).trans hO.2.2.1
    have kova : ∀ t9 : tT, (mU M r (rfO 0 vA nA pA plA dg σ (nI (t9).1) (t9).2.1 (t9).2.2.1 (t9).2.2.2)) ova = some (aJ G (wsz w) ovf) := fun t9 => (mU_n (Ne.symm (g_neoa hB.1 hO.2.2.2.1))).trans hO.2.2.2.1
    have koza : ∀ t9 : tT, (mU M r (rfO 0 vA nA pA plA dg σ (nI (t9).1) (t9).2.1 (t9).2.2.1 (t9).2.2.2)) oza = some (aZ G (wsz w) ozf) := fun t9 => (mU_n (Ne.symm (g_neoa hB.1 hO.2.2.2.2.1))).trans hO.2.2.2.2.1
    have kr : ∀ t9 : tT, (mU M r (rfO 0 vA nA pA plA dg σ (nI (t9).1) (t9).2.1 (t9).2.2.1 (t9).2.2.2)) r = some (rfO 0 vA nA pA plA dg σ (nI (t9).1) (t9).2.1 (t9).2.2.1 (t9).2.2.2) := fun t9 => mU_s
    have koX : ∀ t9 : tT, isGrX G (mU M r (rfO 0 vA nA pA plA dg σ (nI (t9).1) (t9).2.1 (t9).2.2.1 (t9).2.2.2)) o ola oha ova oza ovf ozf w := fun t9 => ⟨ko t9, kola t9, koha t9, kova t9, koza t9, hO.2.2.2.2.2⟩
    have hzw := hw.2.1
    have l0 := hw.1.lo (d := 0) (by decide)
    have N0 := hw.1.N (d := 0) (by decide)
    have y0 := hw.1.hi (d := 0) (by decide)
    have l1 := hw.1.lo (d := 1) (by decide)
    have N1 := hw.1.N (d := 1) (by decide)
    have y1 := hw.1.hi (d := 1) (by decide)
    have l2 := hw.1.lo (d := 2) (by decide)
    have N2 := hw.1.N (d := 2) (by decide)
    have y2 := hw.1.hi (d := 2) (by decide)
    have hfin : ∀ M2 : gMem, (∃ t9 : tT, M2 = mU M r (rfO 0 vA nA pA plA dg σ (nI (t9).1) (t9).2.1 (t9).2.2.1 (t9).2.2.2) ∧ tOk what (talW w what 0 1 (c3 (sN (vlo w) (vhi w) 1) (sN (vlo w) (vhi w) 2) (sN (vlo w) (vhi w) 0) 0 0)) t9) → qJ G F (qQ G F (rfP G r cAl (some (.long 0)) (sp_all σ (nI i) what))) 7 M2 0 0 129 [(0, .ref r), (1, .int (nI i)), (2, .int what), (3, .ref o)] [] := by
      intro M2 hI
      obtain ⟨t9, rfl, hT⟩ := hI
      rw [c3_A] at hT
      have hn9 := talW_le w what 0 1 (wsz w)
      have hT : tOk what (talW w what 0 1 (wsz w)) t9 := hT
      have ht9 : t9.1 < 2 ^ 30 := by rw [hT.1] at hn9; have := hw.2.1; omega
      have hBz : rfB G (mU M r (rfO 0 vA nA pA plA dg σ (nI (t9).1) (t9).2.1 (t9).2.2.1 (t9).2.2.2)) r 0 σ vA nA pA plA dg dla dha dva dza dvf dzf vf nf pf (nI t9.1) t9.2.1 t9.2.2.1 t9.2.2.2 := hB.ro
      refine q_aload_n X dX13_all_129 0 rfl ?_
      refine q_aload_n X dX13_all_130 0 rfl ?_
      refine q_get X hBz.1 rfl in_RX13 10 (by decide) tw_1204 rfl rfl dX13_all_131 ?_
      refine q_if_ne X 141 dX13_all_134 (by decide) (fun c134 => ?_) (fun c134 => ?_)
      · refine q_iconst (v := 0) X dX13_all_141 (by decide) ?_
        refine q_iconst (v := 2) X dX13_all_142 (by decide) ?_
        refine q_callV X (c_fails0 (why := 2) hBz.1) Y_X13_fails tw_1246 tw_1248 sel_23 hBz.1 rfl (by omega) rfl rfl (Nat.le_of_ble_eq_true rfl) (rc' := 0) (rs' := 0) (by omega) (by omega) dX13_all_143 (fun v M' hp _ => ?_)
        obtain ⟨rfl, eM⟩ := hp
        have hB109 : rfB G M' r 0 σ vA nA pA plA dg dla dha dva dza dvf dzf vf nf pf (nI t9.1) t9.2.1 t9.2.2.1 t9.2.2.2 := by rw [eM]; exact hBz.ro
        clear eM
        generalize M' = M109 at *
        show qJ G F _ 7 M109 0 0 146 [(0, .ref r), (1, .int (nI i)), (2, .int what), (3, .ref o)] [.int 0]
        obtain ⟨z_10r, z_101, z_102, z_103, ⟨z_10x, z_104⟩, z_105, z_106, z_107, z_108, z_109, z_1010⟩ := id hB109
        refine q_if_eq X 153 dX13_all_146 (by decide) (fun c_11 => ?_) (fun c_11 => absurd (by decide) c_11)
        refine q_aload_n X dX13_all_153 0 rfl ?_
        refine q_iload_n X dX13_all_154 2 rfl ?_
        refine q_callVp X (c_together (t := t9) z_10r) Y_X13_together tw_1421 tw_1423 sel_37 z_10r rfl (by omega) rfl rfl (Nat.le_of_ble_eq_true rfl) dX13_all_155 ?_
        exact q_lret X hr dX13_all_158 (rfP_K (specE.trans (oL_y (by rw [show sz3 (vlo w) (vhi w) = wsz w from rfl, tOk_O hT, if_neg (fun z => c134 (by rw [z]; rfl))]))) ⟨vA, nA, pA, plA, dg, dla, dha, dva, dza, dvf, dzf, vf, nf, pf, (nI t9.1), t9.2.1, t9.2.2.1, t9.2.2.2, hB109⟩)
      · refine q_iconst (v := 1) X dX13_all_137 (by decide) ?_
        refine q_goto X 142 dX13_all_138 (by decide) ?_
        refine q_iconst (v := 2) X dX13_all_142 (by decide) ?_
        refine q_callV X (c_fails1 (why := 2) hBz.1) Y_X13_fails tw_1246 tw_1248 sel_23 hBz.1 rfl (by omega) rfl rfl (Nat.le_of_ble_eq_true rfl) (rc' := 0) (rs' := 0) (by omega) (by omega) dX13_all_143 (fun v M' hp _ => ?_)
        obtain ⟨rfl, eM⟩ := hp
        have hB112 : rfB G M' r 2 σ vA nA pA plA dg dla dha dva dza dvf dzf vf nf pf (nI t9.1) t9.2.1 t9.2.2.1 t9.2.2.2 := by rw [eM]; exact hBz.ro
        clear eM
        generalize M' = M112 at *
        show qJ G F _ 7 M112 0 0 146 [(0, .ref r), (1, .int (nI i)), (2, .int what), (3, .ref o)] [.int 1]
        obtain ⟨z_13r, z_131, z_132, z_133, ⟨z_13x, z_134⟩, z_135, z_136, z_137, z_138, z_139, z_1310⟩ := id hB112
        refine q_if_eq X 153 dX13_all_146 (by decide) (fun c_14 => absurd c_14 (by decide)) (fun c_14 => ?_)
        refine q_lconst (v := 0) X dX13_all_149 (by decide) ?_
        refine q_goto X 158 dX13_all_150 (by decide) ?_
        exact q_lret X hr dX13_all_158 (rfP_T (specE.trans (oL_n (by rw [show sz3 (vlo w) (vhi w) = wsz w from rfl, tOk_O hT, if_pos (nI_z0 ht9 c134)]))) cAl_UO ⟨vA, nA, pA, plA, dg, dla, dha, dva, dza, dvf, dzf, vf, nf, pf, (nI t9.1), t9.2.1, t9.2.2.1, t9.2.2.2, hB112⟩)
    have L2 : ∀ (e j : Nat) (he : e < sN (vlo w) (vhi w) 0) (hj : j < sN (vlo w) (vhi w) 1) (kk : ∀ M2 : gMem, (∃ t9 : tT, M2 = mU M r (rfO 0 vA nA pA plA dg σ (nI (t9).1) (t9).2.1 (t9).2.2.1 (t9).2.2.2) ∧ tOk what (talW w what 0 1 (c3 (sN (vlo w) (vhi w) 1) (sN (vlo w) (vhi w) 2) e j (sN (vlo w) (vhi w) 2))) t9) → qJ G F (qQ G F (rfP G r cAl (some (.long 0)) (sp_all σ (nI i) what))) 7 M2 0 0 117 [(0, .ref r), (1, .int (nI i)), (2, .int what), (3, .ref o), (4, .int ((vlo w) 0 + nI (e))), (5, .int ((vlo w) 1 + nI (j)))] []) (t k : Nat) (M1 : gMem), k + t = sN (vlo w) (vhi w) 2 → (∃ t9 : tT, M1 = mU M r (rfO 0 vA nA pA plA dg σ (nI (t9).1) (t9).2.1 (t9).2.2.1 (t9).2.2.2) ∧ tOk what (talW w what 0 1 (c3 (sN (vlo w) (vhi w) 1) (sN (vlo w) (vhi w) 2) e j k)) t9) → qJ G F (qQ G F (rfP G r cAl (some (.long 0)) (sp_all σ (nI i) what))) 7 M1 0 0 89 [(0, .ref r), (1, .int (nI i)), (2, .int what), (3, .ref o), (4, .int ((vlo w) 0 + nI (e))), (5, .int ((vlo w) 1 + nI (j))), (6, .int ((vlo w) 2 + nI (k)))] [] := by
      intro e j he hj kk t
      induction t with
      | zero =>
        intro k M1 hk0 hI
        obtain rfl : k = sN (vlo w) (vhi w) 2 := by omega
        have hI0 := hI
        obtain ⟨t9, rfl, hT⟩ := hI
        refine q_iload X dX13_all_89 6 rfl ?_
        refine q_aload_n X dX13_all_91 3 rfl ?_
        refine q_get X (ko t9) rfl in_RX12 3 (by decide) tw_1161 rfl rfl dX13_all_92 ?_
        refine q_iconst (v := 2) X dX13_all_95 (by decide) ?_
        refine q_ialdN X 2 (koha t9) (rfl) (by decide) (by decide) dX13_all_96 ?_
        refine q_icmp_gt X 117 dX13_all_97 (by decide) (fun c_15 => ?_) (fun c_15 => absurd (by rw [y2]; exact (lo_lt l2.1 l2.2 (by omega) (by omega)).mpr (by omega)) c_15)
        refine q_sub [0, 1, 2, 3, 4, 5] rfl ?_
        exact kk _ hI0
      | succ t ih =>
        intro k M1 hk0 hI
        have hk : k < sN (vlo w) (vhi w) 2 := by omega
        have hI0 := hI
        obtain ⟨t9, rfl, hT⟩ := hI
        have hc9 : c3 (sN (vlo w) (vhi w) 1) (sN (vlo w) (vhi w) 2) e j k < wsz w := c3_lt he hj hk
        have hn9 := talW_le w what 0 1 (c3 (sN (vlo w) (vhi w) 1) (sN (vlo w) (vhi w) 2) e j k)
        have ht9 : t9.1 < 2 ^ 30 := by rw [hT.1] at hn9; omega
        have fr9 := al_fr hw he hj hk
        refine q_iload X dX13_all_89 6 rfl ?_
        refine q_aload_n X dX13_all_91 3 rfl ?_
        refine q_get X (ko t9) rfl in_RX12 3 (by decide) tw_1161 rfl rfl dX13_all_92 ?_
        refine q_iconst (v := 2) X dX13_all_95 (by decide) ?_
        refine q_ialdN X 2 (koha t9) (rfl) (by decide) (by decide) dX13_all_96 ?_
        refine q_icmp_gt X 117 dX13_all_97 (by decide) (fun c_16 => absurd ((lo_lt l2.1 l2.2 (by omega) (by omega)).mp (y2 ▸ c_16)) (by omega)) (fun c_16 => ?_)
        refine q_aload_n X dX13_all_100 0 rfl ?_
        refine q_aload_n X dX13_all_101 3 rfl ?_
        refine q_iload X dX13_all_102 4 rfl ?_
        refine q_iload X dX13_all_104 5 rfl ?_
        refine q_iload X dX13_all_106 6 rfl ?_
        refine q_callV X (c_take (kr t9) hw (koX t9) ht9) Y_X13_take tw_1413 tw_1415 sel_35 (kr t9) rfl (by omega) rfl rfl (Nat.le_of_ble_eq_true rfl) (rc' := 0) (rs' := 0) (Nat.le_refl _) (Nat.le_refl _) dX13_all_108 (fun v M' hp _ => ?_)
        obtain ⟨rfl, eM⟩ := hp
        rw [eM, mU_mU]
        clear eM
        show qJ G F _ 7 (mU M r (rfO 0 vA nA pA plA dg σ (nI (tkU (frV w (vlo w 0 + nI (e)) (vlo w 1 + nI (j)) (vlo w 2 + nI (k))) t9).1) (tkU (frV w (vlo w 0 + nI (e)) (vlo w 1 + nI (j)) (vlo w 2 + nI (k))) t9).2.1 (tkU (frV w (vlo w 0 + nI (e)) (vlo w 1 + nI (j)) (vlo w 2 + nI (k))) t9).2.2.1 (tkU (frV w (vlo w 0 + nI (e)) (vlo w 1 + nI (j)) (vlo w 2 + nI (k))) t9).2.2.2)) 0 0 111 [(0, .ref r), (1, .int (nI i)), (2, .int what), (3, .ref o), (4, .int ((vlo w) 0 + nI (e))), (5, .int ((vlo w) 1 + nI (j))), (6, .int ((vlo w) 2 + nI (k)))] []
        refine q_iinc (v := ((vlo w) 2 + nI (k + 1))) (lv' := [(6, .int ((vlo w) 2 + nI (k + 1))), (0, .ref r), (1, .int (nI i)), (2, .int what), (3, .ref o), (4, .int ((vlo w) 0 + nI (e))), (5, .int ((vlo w) 1 + nI (j)))]) X dX13_all_111 6 rfl (lo_s) (by decide) rfl ?_
        refine q_goto X 89 dX13_all_114 (by decide) ?_
        refine q_sub [1, 2, 3, 4, 5, 6, 0] rfl ?_
        exact ih (k + 1) _ (by omega) ⟨_, rfl, tOk_W hT (by omega) fr9⟩
    have L1 : ∀ (e : Nat) (he : e < sN (vlo w) (vhi w) 0) (kk : ∀ M2 : gMem, (∃ t9 : tT, M2 = mU M r (rfO 0 vA nA pA plA dg σ (nI (t9).1) (t9).2.1 (t9).2.2.1 (t9).2.2.2) ∧ tOk what (talW w what 0 1 (c3 (sN (vlo w) (vhi w) 1) (sN (vlo w) (vhi w) 2) e (sN (vlo w) (vhi w) 1) 0)) t9) → qJ G F (qQ G F (rfP G r cAl (some (.long 0)) (sp_all σ (nI i) what))) 7 M2 0 0 123 [(0, .ref r), (1, .int (nI i)), (2, .int what), (3, .ref o), (4, .int ((vlo w) 0 + nI (e)))] []) (t j : Nat) (M1 : gMem), j + t = sN (vlo w) (vhi w) 1 → (∃ t9 : tT, M1 = mU M r (rfO 0 vA nA pA plA dg σ (nI (t9).1) (t9).2.1 (t9).2.2.1 (t9).2.2.2) ∧ tOk what (talW w what 0 1 (c3 (sN (vlo w) (vhi w) 1) (sN (vlo w) (vhi w) 2) e j 0)) t9) → qJ G F (qQ G F (rfP G r cAl (some (.long 0)) (sp_all σ (nI i) what))) 7 M1 0 0 70 [(0, .ref r), (1, .int (nI i)), (2, .int what), (3, .ref o), (4, .int ((vlo w) 0 + nI (e))), (5, .int ((vlo w) 1 + nI (j)))] [] := by
      intro e he kk t
      induction t with
      | zero =>
        intro j M1 hj0 hI
        obtain rfl : j = sN (vlo w) (vhi w) 1 := by omega
        have hI0 := hI
        obtain ⟨t9, rfl, hT⟩ := hI
        refine q_iload X dX13_all_70 5 rfl ?_
        refine q_aload_n X dX13_all_72 3 rfl ?_
        refine q_get X (ko t9) rfl in_RX12 3 (by decide) tw_1161 rfl rfl dX13_all_73 ?_
        refine q_iconst (v := 1) X dX13_all_76 (by decide) ?_
        refine q_ialdN X 1 (koha t9) (rfl) (by decide) (by decide) dX13_all_77 ?_
        refine q_icmp_gt X 123 dX13_all_78 (by decide) (fun c_17 => ?_) (fun c_17 => absurd (by rw [y1]; exact (lo_lt l1.1 l1.2 (by omega) (by omega)).mpr (by omega)) c_17)
        refine q_sub [0, 1, 2, 3, 4] rfl ?_
        exact kk _ hI0
      | succ t ih =>
        intro j M1 hj0 hI
        have hj : j < sN (vlo w) (vhi w) 1 := by omega
        have hI0 := hI
        obtain ⟨t9, rfl, hT⟩ := hI
        refine q_iload X dX13_all_70 5 rfl ?_
        refine q_aload_n X dX13_all_72 3 rfl ?_
        refine q_get X (ko t9) rfl in_RX12 3 (by decide) tw_1161 rfl rfl dX13_all_73 ?_
        refine q_iconst (v := 1) X dX13_all_76 (by decide) ?_
        refine q_ialdN X 1 (koha t9) (rfl) (by decide) (by decide) dX13_all_77 ?_
        refine q_icmp_gt X 123 dX13_all_78 (by decide) (fun c_18 => absurd ((lo_lt l1.1 l1.2 (by omega) (by omega)).mp (y1 ▸ c_18)) (by omega)) (fun c_18 => ?_)
        refine q_aload_n X dX13_all_81 3 rfl ?_
        refine q_get X (ko t9) rfl in_RX12 2 (by decide) tw_1159 rfl rfl dX13_all_82 ?_
        refine q_iconst (v := 2) X dX13_all_85 (by decide) ?_
        refine q_ialdN X 2 (kola t9) (rfl) (by decide) (by decide) dX13_all_86 ?_
        rw [show (vlo w) 2 = (vlo w) 2 + nI 0 from lo_0.symm]
        refine q_istore (lv' := [(6, .int ((vlo w) 2 + nI (0))), (0, .ref r), (1, .int (nI i)), (2, .int what), (3, .ref o), (4, .int ((vlo w) 0 + nI (e))), (5, .int ((vlo w) 1 + nI (j)))]) X dX13_all_87 (by decide) rfl ?_
        refine q_sub [1, 2, 3, 4, 5, 6, 0] rfl ?_
        refine L2 e j he hj (fun M2 hI2 => ?_) (sN (vlo w) (vhi w) 2) 0 _ (Nat.zero_add _) hI0
        rw [c3_k] at hI2
        refine q_iinc (v := ((vlo w) 1 + nI (j + 1))) (lv' := [(5, .int ((vlo w) 1 + nI (j + 1))), (0, .ref r), (1, .int (nI i)), (2, .int what), (3, .ref o), (4, .int ((vlo w) 0 + nI (e)))]) X dX13_all_117 5 rfl (lo_s) (by decide) rfl ?_
        refine q_goto X 70 dX13_all_120 (by decide) ?_
        refine q_sub [1, 2, 3, 4, 5, 0] rfl ?_
        exact ih (j + 1) M2 (by omega) hI2
    have L0 : ∀ (kk : ∀ M2 : gMem, (∃ t9 : tT, M2 = mU M r (rfO 0 vA nA pA plA dg σ (nI (t9).1) (t9).2.1 (t9).2.2.1 (t9).2.2.2) ∧ tOk what (talW w what 0 1 (c3 (sN (vlo w) (vhi w) 1) (sN (vlo w) (vhi w) 2) (sN (vlo w) (vhi w) 0) 0 0)) t9) → qJ G F (qQ G F (rfP G r cAl (some (.long 0)) (sp_all σ (nI i) what))) 7 M2 0 0 129 [(0, .ref r), (1, .int (nI i)), (2, .int what), (3, .ref o)] []) (t e : Nat) (M1 : gMem), e + t = sN (vlo w) (vhi w) 0 → (∃ t9 : tT, M1 = mU M r (rfO 0 vA nA pA plA dg σ (nI (t9).1) (t9).2.1 (t9).2.2.1 (t9).2.2.2) ∧ tOk what (talW w what 0 1 (c3 (sN (vlo w) (vhi w) 1) (sN (vlo w) (vhi w) 2) e 0 0)) t9) → qJ G F (qQ G F (rfP G r cAl (some (.long 0)) (sp_all σ (nI i) what))) 7 M1 0 0 51 [(0, .ref r), (1, .int (nI i)), (2, .int what), (3, .ref o), (4, .int ((vlo w) 0 + nI (e)))] [] := by
      intro  kk t
      induction t with
      | zero =>
        intro e M1 he0 hI
        obtain rfl : e = sN (vlo w) (vhi w) 0 := by omega
        have hI0 := hI
        obtain ⟨t9, rfl, hT⟩ := hI
        refine q_iload X dX13_all_51 4 rfl ?_
        refine q_aload_n X dX13_all_53 3 rfl ?_
        refine q_get X (ko t9) rfl in_RX12 3 (by decide) tw_1161 rfl rfl dX13_all_54 ?_
        refine q_iconst (v := 0) X dX13_all_57 (by decide) ?_
        refine q_ialdN X 0 (koha t9) (rfl) (by decide) (by decide) dX13_all_58 ?_
        refine q_icmp_gt X 129 dX13_all_59 (by decide) (fun c_19 => ?_) (fun c_19 => absurd (by rw [y0]; exact (lo_lt l0.1 l0.2 (by omega) (by omega)).mpr (by omega)) c_19)
        refine q_sub [0, 1, 2, 3] rfl ?_
        exact kk _ hI0
      | succ t ih =>
        intro e M1 he0 hI
        have he : e < sN (vlo w) (vhi w) 0 := by omega
        have hI0 := hI
        obtain ⟨t9, rfl, hT⟩ := hI
        refine q_iload X dX13_all_51 4 rfl ?_
        refine q_aload_n X dX13_all_53 3 rfl ?_
        refine q_get X (ko t9) rfl in_RX12 3 (by decide) tw_1161 rfl rfl dX13_all_54 ?_
        refine q_iconst (v := 0) X dX13_all_57 (by decide) ?_
        refine q_ialdN X 0 (koha t9) (rfl) (by decide) (by decide) dX13_all_58 ?_
        refine q_icmp_gt X 129 dX13_all_59 (by decide) (fun c_20 => absurd ((lo_lt l0.1 l0.2 (by omega) (by omega)).mp (y0 ▸ c_20)) (by omega)) (fun c_20 => ?_)
        refine q_aload_n X dX13_all_62 3 rfl ?_
        refine q_get X (ko t9) rfl in_RX12 2 (by decide) tw_1159 rfl rfl dX13_all_63 ?_
        refine q_iconst (v := 1) X dX13_all_66 (by decide) ?_
        refine q_ialdN X 1 (kola t9) (rfl) (by decide) (by decide) dX13_all_67 ?_
        rw [show (vlo w) 1 = (vlo w) 1 + nI 0 from lo_0.symm]
        refine q_istore (lv' := [(5, .int ((vlo w) 1 + nI (0))), (0, .ref r), (1, .int (nI i)), (2, .int what), (3, .ref o), (4, .int ((vlo w) 0 + nI (e)))]) X dX13_all_68 (by decide) rfl ?_
        refine q_sub [1, 2, 3, 4, 5, 0] rfl ?_
        refine L1 e he (fun M2 hI2 => ?_) (sN (vlo w) (vhi w) 1) 0 _ (Nat.zero_add _) hI0
        rw [c3_j] at hI2
        refine q_iinc (v := ((vlo w) 0 + nI (e + 1))) (lv' := [(4, .int ((vlo w) 0 + nI (e + 1))), (0, .ref r), (1, .int (nI i)), (2, .int what), (3, .ref o)]) X dX13_all_123 4 rfl (lo_s) (by decide) rfl ?_
        refine q_goto X 51 dX13_all_126 (by decide) ?_
        refine q_sub [1, 2, 3, 4, 0] rfl ?_
        exact ih (e + 1) M2 (by omega) hI2
    refine q_aload_n X dX13_all_43 0 rfl ?_
    refine q_get X m_3 rfl in_RX12 2 (by decide) tw_1159 rfl rfl dX13_all_44 ?_
    refine q_iconst (v := 0) X dX13_all_47 (by decide) ?_
    refine q_ialdN X 0 m_4 (rfl) (by decide) (by decide) dX13_all_48 ?_
    rw [show (vlo w) 0 = (vlo w) 0 + nI 0 from lo_0.symm]
    refine q_istore (lv' := [(4, .int ((vlo w) 0 + nI (0))), (3, .ref o), (0, .ref r), (1, .int (nI i)), (2, .int what)]) X dX13_all_49 (by decide) rfl ?_
    refine q_sub [2, 3, 4, 1, 0] rfl ?_
    exact L0 hfin (sN (vlo w) (vhi w) 0) 0 _ (Nat.zero_add _) ⟨(0, 0, le, gr), rfl, by rw [c3_0]; exact tOk_0⟩
  show qJ G F _ 7 M 0 0 0 [(0, .ref r), (1, .int a), (2, .int what)] []
  refine q_aload_n X dX13_all_0 0 rfl ?_
  refine q_aload_n X dX13_all_1 0 rfl ?_
  refine q_iload_n X dX13_all_2 1 rfl ?_
  rcases hnd : ndAt σ a with _ | w
  · refine q_callVp X (c_none_n hB (by omega) hnd) Y_X13_none tw_1351 tw_1353 sel_30 hB.1 rfl (by omega) rfl rfl (Nat.le_of_ble_eq_true rfl) dX13_all_3 ?_
    refine q_if_ne X 18 dX13_all_6 (by decide) (fun c_21 => ?_) (fun c_21 => absurd c_21 (by decide))
    refine q_iconst (v := 1) X dX13_all_18 (by decide) ?_
    refine q_goto X 23 dX13_all_19 (by decide) ?_
    refine q_iconst (v := 1) X dX13_all_23 (by decide) ?_
    refine q_callV X (c_fails1 (why := 1) hB.1) Y_X13_fails tw_1246 tw_1248 sel_23 hB.1 rfl (by omega) rfl rfl (Nat.le_of_ble_eq_true rfl) (rc' := 0) (rs' := 0) (by omega) (by omega) dX13_all_24 (fun v M' hp _ => ?_)
    obtain ⟨rfl, eM⟩ := hp
    have hB122 : rfB G M' r 1 σ vA nA pA plA dg dla dha dva dza dvf dzf vf nf pf tk su le gr := by rw [eM]; exact hB.ro
    clear eM
    generalize M' = M122 at *
    show qJ G F _ 7 M122 0 0 27 [(0, .ref r), (1, .int a), (2, .int what)] [.int 1]
    obtain ⟨z_23r, z_231, z_232, z_233, ⟨z_23x, z_234⟩, z_235, z_236, z_237, z_238, z_239, z_2310⟩ := id hB122
    refine q_if_eq X 32 dX13_all_27 (by decide) (fun c_24 => absurd c_24 (by decide)) (fun c_24 => ?_)
    refine q_lconst (v := 0) X dX13_all_30 (by decide) ?_
    exact q_lret X hr dX13_all_31 (rfP_T (gNode_n hnd) cAl_IA ⟨vA, nA, pA, plA, dg, dla, dha, dva, dza, dvf, dzf, vf, nf, pf, tk, su, le, gr, hB122⟩)
  · refine q_callVp X (c_none_y hB (by omega) hnd) Y_X13_none tw_1351 tw_1353 sel_30 hB.1 rfl (by omega) rfl rfl (Nat.le_of_ble_eq_true rfl) dX13_all_3 ?_
    obtain ⟨i, hi9, rfl, hi⟩ := ndAt_some hnd
    have hw := hW.2 i w hi
    have hi150 : i < 150 := by omega
    refine q_if_ne X 18 dX13_all_6 (by decide) (fun c_25 => absurd (by decide) c_25) (fun c_25 => ?_)
    refine q_iload_n X dX13_all_9 2 rfl ?_
    refine q_if_lt X 18 dX13_all_10 (by decide) (fun c10 => ?_) (fun c10 => ?_)
    · refine q_iconst (v := 1) X dX13_all_18 (by decide) ?_
      refine q_goto X 23 dX13_all_19 (by decide) ?_
      refine q_iconst (v := 1) X dX13_all_23 (by decide) ?_
      refine q_callV X (c_fails1 (why := 1) hB.1) Y_X13_fails tw_1246 tw_1248 sel_23 hB.1 rfl (by omega) rfl rfl (Nat.le_of_ble_eq_true rfl) (rc' := 0) (rs' := 0) (by omega) (by omega) dX13_all_24 (fun v M' hp _ => ?_)
      obtain ⟨rfl, eM⟩ := hp
      have hB126 : rfB G M' r 1 σ vA nA pA plA dg dla dha dva dza dvf dzf vf nf pf tk su le gr := by rw [eM]; exact hB.ro
      clear eM
      generalize M' = M126 at *
      show qJ G F _ 7 M126 0 0 27 [(0, .ref r), (1, .int (nI i)), (2, .int what)] [.int 1]
      obtain ⟨z_27r, z_271, z_272, z_273, ⟨z_27x, z_274⟩, z_275, z_276, z_277, z_278, z_279, z_2710⟩ := id hB126
      refine q_if_eq X 32 dX13_all_27 (by decide) (fun c_28 => absurd c_28 (by decide)) (fun c_28 => ?_)
      refine q_lconst (v := 0) X dX13_all_30 (by decide) ?_
      exact q_lret X hr dX13_all_31 (rfP_T ((gNode_y hnd).trans (gNeed_n (fun z => z (tKn_n (Or.inl c10))))) cAl_IA ⟨vA, nA, pA, plA, dg, dla, dha, dva, dza, dvf, dzf, vf, nf, pf, tk, su, le, gr, hB126⟩)
    · refine q_iload_n X dX13_all_13 2 rfl ?_
      refine q_iconst (v := 3) X dX13_all_14 (by decide) ?_
      refine q_icmp_le X 22 dX13_all_15 (by decide) (fun c15 => ?_) (fun c15 => ?_)
      · refine q_iconst (v := 0) X dX13_all_22 (by decide) ?_
        refine q_iconst (v := 1) X dX13_all_23 (by decide) ?_
        refine q_callV X (c_fails0 (why := 1) hB.1) Y_X13_fails tw_1246 tw_1248 sel_23 hB.1 rfl (by omega) rfl rfl (Nat.le_of_ble_eq_true rfl) (rc' := 0) (rs' := 0) (by omega) (by omega) dX13_all_24 (fun v M' hp _ => ?_)
        obtain ⟨rfl, eM⟩ := hp
        have hB129 : rfB G M' r 0 σ vA nA pA plA dg dla dha dva dza dvf dzf vf nf pf tk su le gr := by rw [eM]; exact hB.ro
        clear eM
        generalize M' = M129 at *
        show qJ G F _ 7 M129 0 0 27 [(0, .ref r), (1, .int (nI i)), (2, .int what)] [.int 0]
        obtain ⟨z_30r, z_301, z_302, z_303, ⟨z_30x, z_304⟩, z_305, z_306, z_307, z_308, z_309, z_3010⟩ := id hB129
        refine q_if_eq X 32 dX13_all_27 (by decide) (fun c_31 => ?_) (fun c_31 => absurd (by decide) c_31)
        refine q_sub [0, 1, 2] rfl ?_
        exact tail _ i w hB129 hi hw ((gNode_y hnd).trans (gNeed_y (tKn_y c10 c15)))
      · refine q_iconst (v := 1) X dX13_all_18 (by decide) ?_
        refine q_goto X 23 dX13_all_19 (by decide) ?_
        refine q_iconst (v := 1) X dX13_all_23 (by decide) ?_
        refine q_callV X (c_fails1 (why := 1) hB.1) Y_X13_fails tw_1246 tw_1248 sel_23 hB.1 rfl (by omega) rfl rfl (Nat.le_of_ble_eq_true rfl) (rc' := 0) (rs' := 0) (by omega) (by omega) dX13_all_24 (fun v M' hp _ => ?_)
        obtain ⟨rfl, eM⟩ := hp
        have hB132 : rfB G M' r 1 σ vA nA pA plA dg dla dha dva dza dvf dzf vf nf pf tk su le gr := by rw [eM]; exact hB.ro
        clear eM
        generalize M' = M132 at *
        show qJ G F _ 7 M132 0 0 27 [(0, .ref r), (1, .int (nI i)), (2, .int what)] [.int 1]
        obtain ⟨z_33r, z_331, z_332, z_333, ⟨z_33x, z_334⟩, z_335, z_336, z_337, z_338, z_339, z_3310⟩ := id hB132
        refine q_if_eq X 32 dX13_all_27 (by decide) (fun c_34 => absurd c_34 (by decide)) (fun c_34 => ?_)
        refine q_lconst (v := 0) X dX13_all_30 (by decide) ?_
        exact q_lret X hr dX13_all_31 (rfP_T ((gNode_y hnd).trans (gNeed_n (fun z => z (tKn_n (Or.inr c15))))) cAl_IA ⟨vA, nA, pA, plA, dg, dla, dha, dva, dza, dvf, dzf, vf, nf, pf, tk, su, le, gr, hB132⟩)
