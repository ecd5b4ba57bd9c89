/-! the reference: shape, cell, what is taken together -/
theorem sh_ix {what : Int32} (a : ¬ what < 0) (b : what ≤ 8) (n0 : ¬ what = 0) (n1 : ¬ what = 1) (n8 : ¬ what = 8) : ∃ j, j < 3 ∧ what / 2 - 1 = nI j := by
  obtain ⟨r, hr, rfl⟩ := op_in (k := 9) (by decide) a (fun z => absurd (Int32.le_trans z b) (by decide))
  rcases (show r = 0 ∨ r = 1 ∨ r = 2 ∨ r = 3 ∨ r = 4 ∨ r = 5 ∨ r = 6 ∨ r = 7 ∨ r = 8 by omega) with rfl | rfl | rfl | rfl | rfl | rfl | rfl | rfl | rfl
  · exact absurd rfl n0
  · exact absurd rfl n1
  · exact ⟨0, by decide, by decide⟩
  · exact ⟨0, by decide, by decide⟩
  · exact ⟨1, by decide, by decide⟩
  · exact ⟨1, by decide, by decide⟩
  · exact ⟨2, by decide, by decide⟩
  · exact ⟨2, by decide, by decide⟩
  · exact absurd rfl n8
theorem wIx_out {w : vN} (h : vOk w) {x y z q1 q2 : Int32} (e1 : q1 = c1n (vm w) y) (e2 : q2 = c2n (vm w) z) (c : gIn (vlo w) (vhi w) x q1 q2 = 0) : ¬ 0 ≤ wIx w x y z := by
  have hz2 : sz3 (vlo w) (vhi w) ≤ 4096 := h.2.1
  subst e1; subst e2
  have hs : ¬ inS (vm w) (vlo w) (vhi w) x y z := fun q => (gIn_S h.1).mpr q c
  unfold wIx; rw [sIdx_out h.1 rfl (by omega) hs]; decide
theorem wIx_in {w : vN} (h : vOk w) {x y z q1 q2 : Int32} (e1 : q1 = c1n (vm w) y) (e2 : q2 = c2n (vm w) z) (c : ¬ gIn (vlo w) (vhi w) x q1 q2 = 0) : 0 ≤ wIx w x y z := by
  have hz2 : sz3 (vlo w) (vhi w) ≤ 4096 := h.2.1
  subst e1; subst e2
  have hs := (gIn_S h.1).mp c
  have lt := ixS_lt h.1 hs
  unfold wIx; rw [sIdx_in h.1 rfl (by omega) hs, Int32.le_iff_toInt_le, nI_toInt (by omega)]; rw [z_toInt]; omega
/-- what was taken: how many, their sum, the least, the greatest -/
abbrev tT : Type := Nat × Int64 × Int64 × Int64
def tkU (r : Option Int64) (t : tT) : tT := match r with
  | none => t
  | some v => (t.1 + 1, t.2.1 + v, if t.1 = 0 then v else mnJ t.2.2.1 v, if t.1 = 0 then v else mxJ t.2.2.2 v)
def tgV (what : Int32) (t : tT) : Int64 := if what = 0 then t.2.1 else if what = 1 then (nI t.1).toInt64 else if what = 2 then t.2.2.1 else t.2.2.2
/-- the class's tally and the reference's -/
def tOk (what : Int32) (c : Nat × Int64) (t : tT) : Prop := c.1 = t.1 ∧ (what = 0 → c.2 = t.2.1) ∧ (what = 1 → c.2 = (nI t.1).toInt64) ∧ (what = 2 → t.1 ≠ 0 → c.2 = t.2.2.1) ∧ (¬ what = 0 → ¬ what = 1 → ¬ what = 2 → t.1 ≠ 0 → c.2 = t.2.2.2)
theorem tOk_0 {what : Int32} {le gr : Int64} : tOk what (0, 0) (0, 0, le, gr) := ⟨rfl, fun _ => rfl, fun _ => by show (0 : Int64) = (nI 0).toInt64; decide, fun _ h => absurd rfl h, fun _ _ _ h => absurd rfl h⟩
theorem nI_64 {n : Nat} (h : n < 2 ^ 30) : (nI n).toInt64 + 1 = (nI (n + 1)).toInt64 := by
  apply Int64.toInt_inj.mp
  rw [Int64.toInt_add, Int32.toInt_toInt64, Int32.toInt_toInt64, nI_toInt (by omega), nI_toInt (by omega)]
  have : (1 : Int64).toInt = 1 := by decide
  rw [this]
  have e : ((n : Int) + 1).bmod (2 ^ 64) = (n : Int) + 1 := by
    apply Int.bmod_eq_of_le_mul_two <;> omega
  rw [e]; omega
theorem tOk_s {what : Int32} {c : Nat × Int64} {t : tT} (h : tOk what c t) (hn : t.1 < 2 ^ 30) (v : Int64) : tOk what (talS what c v) (tkU (some v) t) := by
  obtain ⟨h0, h1, h2, h3, h4⟩ := h
  unfold talS tkU
  refine ⟨by show c.1 + 1 = t.1 + 1; rw [h0], fun e => ?_, fun e => ?_, fun e _ => ?_, fun n0 n1 n2 _ => ?_⟩
  · show (if what = 0 then _ else _) = _
    rw [if_pos e, h1 e]
  · show (if what = 0 then _ else _) = _
    rw [if_neg (by rw [e]; decide), if_pos e, h2 e]; exact nI_64 hn
  · show (if what = 0 then _ else _) = _
    rw [if_neg (by rw [e]; decide), if_neg (by rw [e]; decide), if_pos e, h0]
    by_cases z : t.1 = 0
    · rw [if_pos z]; show _ = (if t.1 = 0 then _ else _); rw [if_pos z]
    · rw [if_neg z]; show _ = (if t.1 = 0 then _ else _); rw [if_neg z, h3 e z]
  · show (if what = 0 then _ else _) = _
    rw [if_neg n0, if_neg n1, if_neg n2, h0]
    by_cases z : t.1 = 0
    · rw [if_pos z]; show _ = (if t.1 = 0 then _ else _); rw [if_pos z]
    · rw [if_neg z]; show _ = (if t.1 = 0 then _ else _); rw [if_neg z, h4 n0 n1 n2 z]
theorem tOk_O {what : Int32} {c : Nat × Int64} {t : tT} (h : tOk what c t) : talO c = if t.1 = 0 then none else some (tgV what t) := by
  obtain ⟨h0, h1, h2, h3, h4⟩ := h
  unfold talO; rw [h0]
  by_cases z : t.1 = 0
  · rw [if_pos z, if_pos z]
  · rw [if_neg z, if_neg z]; congr 1
    unfold tgV
    by_cases e0 : what = 0
    · rw [if_pos e0]; exact h1 e0
    rw [if_neg e0]
    by_cases e1 : what = 1
    · rw [if_pos e1]; exact h2 e1
    rw [if_neg e1]
    by_cases e2 : what = 2
    · rw [if_pos e2]; exact h3 e2 z
    rw [if_neg e2]; exact h4 e0 e1 e2 z
theorem talW_le (w : vN) (what start step : Int32) (k : Nat) : (talW w what start step k).1 ≤ k := by
  induction k with
  | zero => exact Nat.le_refl 0
  | succ k ih =>
    show (match wAt w (start + nI k * step) with
      | none => talW w what start step k
      | some v => talS what (talW w what start step k) v).1 ≤ k + 1
    cases wAt w (start + nI k * step) with
    | none => exact Nat.le_succ_of_le ih
    | some v => exact Nat.succ_le_succ ih
/-- a step of the class's tally -/
theorem tOk_W {w : vN} {what start step : Int32} {k : Nat} {t : tT} (h : tOk what (talW w what start step k) t) (hk : k < 2 ^ 30) {r : Option Int64} (hr : r = wAt w (start + nI k * step)) : tOk what (talW w what start step (k + 1)) (tkU r t) := by
  show tOk what (match wAt w (start + nI k * step) with
      | none => talW w what start step k
      | some v => talS what (talW w what start step k) v) (tkU r t)
  rw [← hr]
  cases r with
  | none => exact h
  | some v => exact tOk_s h (by have := talW_le w what start step k; rw [h.1] at this; omega) v

set_option maxRecDepth 20000 in
theorem r_shape {l : Launch} {G : gV} {M : gMem} {r : Nat} {e : Int32} {σ : sA} (hW : gvW σ) (hR : isRF G M r e σ) {a what : Int32} : qC l G yX13_shape cX13_shape 4 (some .int) 6 0 0 [.ref r, .int a, .int what] M (rfP G r cOne (some (.int 0)) (sp_shape σ a what)) := by
  refine qC_of (by decide +kernel) (Nat.le_of_ble_eq_true rfl) (fun F hF X hr hn => ?_)
  subst hF
  have X : qX G F cX13_shape 4 RX13 6 := X
  obtain ⟨vA, nA, pA, plA, dg, dla, dha, dva, dza, dvf, dzf, vf, nf, pf, tk, su, le, gr, hB⟩ := hR
  have hl150 := hW.1.2.2.2.2.1
  have hz := hW.1.sz
  have hcI := cI_ne X
  have hl41 := hW.1.2.2.2.1
  show qJ G F _ 4 M 0 0 0 [(0, .ref r), (1, .int a), (2, .int what)] []
  refine q_aload_n X dX13_shape_0 0 rfl ?_
  refine q_aload_n X dX13_shape_1 0 rfl ?_
  refine q_iload_n X dX13_shape_2 1 rfl ?_
  rcases hnd : ndAt σ a with _ | w
  · refine q_callVp X (c_none_n hB (by omega) hnd) Y_X13_none tw_1351 tw_1353 sel_30 hB.1 rfl (by omega) rfl rfl (Nat.le_of_ble_eq_true rfl) dX13_shape_3 ?_
    refine q_if_ne X 19 dX13_shape_6 (by decide) (fun c_1 => ?_) (fun c_1 => absurd c_1 (by decide))
    refine q_iconst (v := 1) X dX13_shape_19 (by decide) ?_
    refine q_goto X 24 dX13_shape_20 (by decide) ?_
    refine q_iconst (v := 1) X dX13_shape_24 (by decide) ?_
    refine q_callV X (c_fails1 (why := 1) hB.1) Y_X13_fails tw_1246 tw_1248 sel_23 hB.1 rfl (by omega) rfl rfl (Nat.le_of_ble_eq_true rfl) (rc' := 0) (rs' := 0) (by omega) (by omega) dX13_shape_25 (fun v M' hp _ => ?_)
    obtain ⟨rfl, eM⟩ := hp
    have hB102 : rfB G M' r 1 σ vA nA pA plA dg dla dha dva dza dvf dzf vf nf pf tk su le gr := by rw [eM]; exact hB.ro
    clear eM
    generalize M' = M102 at *
    show qJ G F _ 4 M102 0 0 28 [(0, .ref r), (1, .int a), (2, .int what)] [.int 1]
    obtain ⟨z_3r, z_31, z_32, z_33, ⟨z_3x, z_34⟩, z_35, z_36, z_37, z_38, z_39, z_310⟩ := id hB102
    refine q_if_eq X 33 dX13_shape_28 (by decide) (fun c_4 => absurd c_4 (by decide)) (fun c_4 => ?_)
    refine q_iconst (v := 0) X dX13_shape_31 (by decide) ?_
    exact q_iret X hr dX13_shape_32 (rfP_T (gNode_n hnd) cOne_1 ⟨vA, nA, pA, plA, dg, dla, dha, dva, dza, dvf, dzf, vf, nf, pf, tk, su, le, gr, hB102⟩)
  · refine q_callVp X (c_none_y hB (by omega) hnd) Y_X13_none tw_1351 tw_1353 sel_30 hB.1 rfl (by omega) rfl rfl (Nat.le_of_ble_eq_true rfl) dX13_shape_3 ?_
    obtain ⟨i, hi9, rfl, hi⟩ := ndAt_some hnd
    have hw := hW.2 i w hi
    have hi150 : i < 150 := by omega
    refine q_if_ne X 19 dX13_shape_6 (by decide) (fun c_5 => absurd (by decide) c_5) (fun c_5 => ?_)
    refine q_iload_n X dX13_shape_9 2 rfl ?_
    refine q_if_lt X 19 dX13_shape_10 (by decide) (fun c10 => ?_) (fun c10 => ?_)
    · refine q_iconst (v := 1) X dX13_shape_19 (by decide) ?_
      refine q_goto X 24 dX13_shape_20 (by decide) ?_
      refine q_iconst (v := 1) X dX13_shape_24 (by decide) ?_
      refine q_callV X (c_fails1 (why := 1) hB.1) Y_X13_fails tw_1246 tw_1248 sel_23 hB.1 rfl (by omega) rfl rfl (Nat.le_of_ble_eq_true rfl) (rc' := 0) (rs' := 0) (by omega) (by omega) dX13_shape_25 (fun v M' hp _ => ?_)
      obtain ⟨rfl, eM⟩ := hp
      have hB106 : rfB G M' r 1 σ vA nA pA plA dg dla dha dva dza dvf dzf vf nf pf tk su le gr := by rw [eM]; exact hB.ro
      clear eM
      generalize M' = M106 at *
      show qJ G F _ 4 M106 0 0 28 [(0, .ref r), (1, .int (nI i)), (2, .int what)] [.int 1]
      obtain ⟨z_7r, z_71, z_72, z_73, ⟨z_7x, z_74⟩, z_75, z_76, z_77, z_78, z_79, z_710⟩ := id hB106
      refine q_if_eq X 33 dX13_shape_28 (by decide) (fun c_8 => absurd c_8 (by decide)) (fun c_8 => ?_)
      refine q_iconst (v := 0) X dX13_shape_31 (by decide) ?_
      exact q_iret X hr dX13_shape_32 (rfP_T ((gNode_y hnd).trans (gNeed_n (fun z => z.1 c10))) cOne_1 ⟨vA, nA, pA, plA, dg, dla, dha, dva, dza, dvf, dzf, vf, nf, pf, tk, su, le, gr, hB106⟩)
    · refine q_iload_n X dX13_shape_13 2 rfl ?_
      refine q_bipush (v := 8) X dX13_shape_14 (by decide) ?_
      refine q_icmp_le X 23 dX13_shape_16 (by decide) (fun c16 => ?_) (fun c16 => ?_)
      · refine q_iconst (v := 0) X dX13_shape_23 (by decide) ?_
        refine q_iconst (v := 1) X dX13_shape_24 (by decide) ?_
        refine q_callV X (c_fails0 (why := 1) hB.1) Y_X13_fails tw_1246 tw_1248 sel_23 hB.1 rfl (by omega) rfl rfl (Nat.le_of_ble_eq_true rfl) (rc' := 0) (rs' := 0) (by omega) (by omega) dX13_shape_25 (fun v M' hp _ => ?_)
        obtain ⟨rfl, eM⟩ := hp
        have hB109 : rfB G M' r 0 σ vA nA pA plA dg dla dha dva dza dvf dzf vf nf pf tk su le gr := by rw [eM]; exact hB.ro
        clear eM
        generalize M' = M109 at *
        show qJ G F _ 4 M109 0 0 28 [(0, .ref r), (1, .int (nI i)), (2, .int what)] [.int 0]
        obtain ⟨z_10r, z_101, z_102, z_103, ⟨z_10x, z_104⟩, z_105, z_106, z_107, z_108, z_109, z_1010⟩ := id hB109
        refine q_if_eq X 33 dX13_shape_28 (by decide) (fun c_11 => ?_) (fun c_11 => absurd (by decide) c_11)
        obtain ⟨o, hnfo, ola, oha, ova, oza, ovf, ozf, hO, bo1, bo2, bo3, bo4⟩ := hB109.2.2.2.2.2.2.2.2.1 i w hi
        refine q_aload_n X dX13_shape_33 0 rfl ?_
        refine q_get X z_10r rfl in_RX13 2 (by decide) tw_1196 rfl rfl dX13_shape_34 ?_
        refine q_iload_n X dX13_shape_37 1 rfl ?_
        refine q_gald X i z_102 (rfl) (hi150) (by decide) hnfo dX13_shape_38 ?_
        refine q_astore_n (lv' := [(3, .ref o), (0, .ref r), (1, .int (nI i)), (2, .int what)]) X dX13_shape_39 (by decide) rfl ?_
        refine q_iload_n X dX13_shape_40 3 rfl ?_
        refine q_if_ne X 49 dX13_shape_41 (by decide) (fun d0 => ?_) (fun d0 => ?_)
        · refine q_iload_n X dX13_shape_49 3 rfl ?_
          refine q_iconst (v := 1) X dX13_shape_50 (by decide) ?_
          refine q_icmp_ne X 59 dX13_shape_51 (by decide) (fun d1 => ?_) (fun d1 => ?_)
          · refine q_iload_n X dX13_shape_59 3 rfl ?_
            refine q_bipush (v := 8) X dX13_shape_60 (by decide) ?_
            refine q_icmp_ne X 70 dX13_shape_62 (by decide) (fun d8 => ?_) (fun d8 => ?_)
            · obtain ⟨jx, hjx, ejx⟩ := sh_ix c10 c16 d0 d1 d8
              refine q_iload_n X dX13_shape_70 3 rfl ?_
              refine q_iconst (v := 2) X dX13_shape_71 (by decide) ?_
              refine q_irem X dX13_shape_72 (by decide) ?_
              refine q_if_ne X 89 dX13_shape_73 (by decide) (fun d73 => ?_) (fun d73 => ?_)
              · refine q_aload_n X dX13_shape_89 0 rfl ?_
                refine q_get X hO.1 rfl in_RX12 3 (by decide) tw_1161 rfl rfl dX13_shape_90 ?_
                refine q_iload_n X dX13_shape_93 3 rfl ?_
                refine q_iconst (v := 2) X dX13_shape_94 (by decide) ?_
                refine q_idiv X dX13_shape_95 (by decide) ?_
                refine q_iconst (v := 1) X dX13_shape_96 (by decide) ?_
                refine q_isub X dX13_shape_97 ?_
                refine q_ialdN X jx hO.2.2.1 (ejx) (hjx) (by decide) dX13_shape_98 ?_
                exact q_iret X hr dX13_shape_99 (rfP_K ((gNode_y hnd).trans ((gNeed_y ⟨c10, Int32.not_lt.mpr c16⟩).trans (by rw [if_neg d0, if_neg d1, if_neg d8, if_neg d73, s3_N jx hjx ejx]; rfl))) ⟨vA, nA, pA, plA, dg, dla, dha, dva, dza, dvf, dzf, vf, nf, pf, tk, su, le, gr, hB109⟩)
              · refine q_aload_n X dX13_shape_76 0 rfl ?_
                refine q_get X hO.1 rfl in_RX12 2 (by decide) tw_1159 rfl rfl dX13_shape_77 ?_
                refine q_iload_n X dX13_shape_80 3 rfl ?_
                refine q_iconst (v := 2) X dX13_shape_81 (by decide) ?_
                refine q_idiv X dX13_shape_82 (by decide) ?_
                refine q_iconst (v := 1) X dX13_shape_83 (by decide) ?_
                refine q_isub X dX13_shape_84 ?_
                refine q_ialdN X jx hO.2.1 (ejx) (hjx) (by decide) dX13_shape_85 ?_
                refine q_goto X 99 dX13_shape_86 (by decide) ?_
                exact q_iret X hr dX13_shape_99 (rfP_K ((gNode_y hnd).trans ((gNeed_y ⟨c10, Int32.not_lt.mpr c16⟩).trans (by rw [if_neg d0, if_neg d1, if_neg d8, if_pos d73, s3_N jx hjx ejx]; rfl))) ⟨vA, nA, pA, plA, dg, dla, dha, dva, dza, dvf, dzf, vf, nf, pf, tk, su, le, gr, hB109⟩)
            · refine q_aload_n X dX13_shape_65 0 rfl ?_
              refine q_callVp X (c_X12_filled hO.1 hO.2.2.2.2.1 (fun i hi => (hO.2.2.2.2.2 i hi).1) hw.2.1) Y_X12_filled tw_1310 tw_1311 tw_1312 hO.1 rfl (by omega) rfl rfl (Nat.le_of_ble_eq_true rfl) dX13_shape_66 ?_
              exact q_iret X hr dX13_shape_69 (rfP_K ((gNode_y hnd).trans ((gNeed_y ⟨c10, Int32.not_lt.mpr c16⟩).trans (by rw [if_neg d0, if_neg d1, if_pos d8]; rfl))) ⟨vA, nA, pA, plA, dg, dla, dha, dva, dza, dvf, dzf, vf, nf, pf, tk, su, le, gr, hB109⟩)
          · refine q_aload_n X dX13_shape_54 0 rfl ?_
            refine q_get X hO.1 rfl in_RX12 1 (by decide) tw_1157 rfl rfl dX13_shape_55 ?_
            exact q_iret X hr dX13_shape_58 (rfP_K ((gNode_y hnd).trans ((gNeed_y ⟨c10, Int32.not_lt.mpr c16⟩).trans (by rw [if_neg d0, if_pos d1]; rfl))) ⟨vA, nA, pA, plA, dg, dla, dha, dva, dza, dvf, dzf, vf, nf, pf, tk, su, le, gr, hB109⟩)
        · refine q_aload_n X dX13_shape_44 0 rfl ?_
          refine q_get X hO.1 rfl in_RX12 0 (by decide) tw_1156 rfl rfl dX13_shape_45 ?_
          exact q_iret X hr dX13_shape_48 (rfP_K ((gNode_y hnd).trans ((gNeed_y ⟨c10, Int32.not_lt.mpr c16⟩).trans (by rw [if_pos d0]; rfl))) ⟨vA, nA, pA, plA, dg, dla, dha, dva, dza, dvf, dzf, vf, nf, pf, tk, su, le, gr, hB109⟩)
      · refine q_iconst (v := 1) X dX13_shape_19 (by decide) ?_
        refine q_goto X 24 dX13_shape_20 (by decide) ?_
        refine q_iconst (v := 1) X dX13_shape_24 (by decide) ?_
        refine q_callV X (c_fails1 (why := 1) hB.1) Y_X13_fails tw_1246 tw_1248 sel_23 hB.1 rfl (by omega) rfl rfl (Nat.le_of_ble_eq_true rfl) (rc' := 0) (rs' := 0) (by omega) (by omega) dX13_shape_25 (fun v M' hp _ => ?_)
        obtain ⟨rfl, eM⟩ := hp
        have hB112 : rfB G M' r 1 σ vA nA pA plA dg dla dha dva dza dvf dzf vf nf pf tk su le gr := by rw [eM]; exact hB.ro
        clear eM
        generalize M' = M112 at *
        show qJ G F _ 4 M112 0 0 28 [(0, .ref r), (1, .int (nI i)), (2, .int what)] [.int 1]
        obtain ⟨z_13r, z_131, z_132, z_133, ⟨z_13x, z_134⟩, z_135, z_136, z_137, z_138, z_139, z_1310⟩ := id hB112
        refine q_if_eq X 33 dX13_shape_28 (by decide) (fun c_14 => absurd c_14 (by decide)) (fun c_14 => ?_)
        refine q_iconst (v := 0) X dX13_shape_31 (by decide) ?_
        exact q_iret X hr dX13_shape_32 (rfP_T ((gNode_y hnd).trans (gNeed_n (fun z => z.2 (Int32.not_le.mp c16)))) cOne_1 ⟨vA, nA, pA, plA, dg, dla, dha, dva, dza, dvf, dzf, vf, nf, pf, tk, su, le, gr, hB112⟩)

set_option maxRecDepth 20000 in
theorem r_cell {l : Launch} {G : gV} {M : gMem} {r : Nat} {e : Int32} {σ : sA} (hW : gvW σ) (hR : isRF G M r e σ) {a x y z : Int32} : qC l G yX13_cell cX13_cell 8 (some .long) 6 0 0 [.ref r, .int a, .int x, .int y, .int z] M (rfP G r cOp (some (.long 0)) (sp_cell σ a x y z)) := by
  refine qC_of (by decide +kernel) (Nat.le_of_ble_eq_true rfl) (fun F hF X hr hn => ?_)
  subst hF
  have X : qX G F cX13_cell 8 RX13 6 := X
  obtain ⟨vA, nA, pA, plA, dg, dla, dha, dva, dza, dvf, dzf, vf, nf, pf, tk, su, le, gr, hB⟩ := hR
  have hl150 := hW.1.2.2.2.2.1
  have hz := hW.1.sz
  have hcI := cI_ne X
  have hl41 := hW.1.2.2.2.1
  show qJ G F _ 8 M 0 0 0 [(0, .ref r), (1, .int a), (2, .int x), (3, .int y), (4, .int z)] []
  refine q_aload_n X dX13_cell_0 0 rfl ?_
  refine q_aload_n X dX13_cell_1 0 rfl ?_
  refine q_iload_n X dX13_cell_2 1 rfl ?_
  rcases hnd : ndAt σ a with _ | w
  · refine q_callVp X (c_none_n hB (by omega) hnd) Y_X13_none tw_1351 tw_1353 sel_30 hB.1 rfl (by omega) rfl rfl (Nat.le_of_ble_eq_true rfl) dX13_cell_3 ?_
    refine q_iconst (v := 1) X dX13_cell_6 (by decide) ?_
    refine q_callV X (c_fails1 (why := 1) hB.1) Y_X13_fails tw_1246 tw_1248 sel_23 hB.1 rfl (by omega) rfl rfl (Nat.le_of_ble_eq_true rfl) (rc' := 0) (rs' := 0) (by omega) (by omega) dX13_cell_7 (fun v M' hp _ => ?_)
    obtain ⟨rfl, eM⟩ := hp
    have hB101 : rfB G M' r 1 σ vA nA pA plA dg dla dha dva dza dvf dzf vf nf pf tk su le gr := by rw [eM]; exact hB.ro
    clear eM
    generalize M' = M101 at *
    show qJ G F _ 8 M101 0 0 10 [(0, .ref r), (1, .int a), (2, .int x), (3, .int y), (4, .int z)] [.int 1]
    obtain ⟨z_2r, z_21, z_22, z_23, ⟨z_2x, z_24⟩, z_25, z_26, z_27, z_28, z_29, z_210⟩ := id hB101
    refine q_if_eq X 15 dX13_cell_10 (by decide) (fun c_3 => absurd c_3 (by decide)) (fun c_3 => ?_)
    refine q_lconst (v := 0) X dX13_cell_13 (by decide) ?_
    exact q_lret X hr dX13_cell_14 (rfP_T (gNode_n hnd) cOp_IA ⟨vA, nA, pA, plA, dg, dla, dha, dva, dza, dvf, dzf, vf, nf, pf, tk, su, le, gr, hB101⟩)
  · refine q_callVp X (c_none_y hB (by omega) hnd) Y_X13_none tw_1351 tw_1353 sel_30 hB.1 rfl (by omega) rfl rfl (Nat.le_of_ble_eq_true rfl) dX13_cell_3 ?_
    obtain ⟨i, hi9, rfl, hi⟩ := ndAt_some hnd
    have hw := hW.2 i w hi
    have hi150 : i < 150 := by omega
    refine q_iconst (v := 1) X dX13_cell_6 (by decide) ?_
    refine q_callV X (c_fails0 (why := 1) hB.1) Y_X13_fails tw_1246 tw_1248 sel_23 hB.1 rfl (by omega) rfl rfl (Nat.le_of_ble_eq_true rfl) (rc' := 0) (rs' := 0) (by omega) (by omega) dX13_cell_7 (fun v M' hp _ => ?_)
    obtain ⟨rfl, eM⟩ := hp
    have hB104 : rfB G M' r 0 σ vA nA pA plA dg dla dha dva dza dvf dzf vf nf pf tk su le gr := by rw [eM]; exact hB.ro
    clear eM
    generalize M' = M104 at *
    show qJ G F _ 8 M104 0 0 10 [(0, .ref r), (1, .int (nI i)), (2, .int x), (3, .int y), (4, .int z)] [.int 0]
    obtain ⟨z_5r, z_51, z_52, z_53, ⟨z_5x, z_54⟩, z_55, z_56, z_57, z_58, z_59, z_510⟩ := id hB104
    refine q_if_eq X 15 dX13_cell_10 (by decide) (fun c_6 => ?_) (fun c_6 => absurd (by decide) c_6)
    obtain ⟨o, hnfo, ola, oha, ova, oza, ovf, ozf, hO, bo1, bo2, bo3, bo4⟩ := hB104.2.2.2.2.2.2.2.2.1 i w hi
    refine q_aload_n X dX13_cell_15 0 rfl ?_
    refine q_get X z_5r rfl in_RX13 2 (by decide) tw_1196 rfl rfl dX13_cell_16 ?_
    refine q_iload_n X dX13_cell_19 1 rfl ?_
    refine q_gald X i z_52 (rfl) (hi150) (by decide) hnfo dX13_cell_20 ?_
    refine q_astore (lv' := [(5, .ref o), (0, .ref r), (1, .int (nI i)), (2, .int x), (3, .int y), (4, .int z)]) X dX13_cell_21 (by decide) rfl ?_
    refine q_aload X dX13_cell_23 0 rfl ?_
    refine q_get X hO.1 rfl in_RX12 0 (by decide) tw_1156 rfl rfl dX13_cell_25 ?_
    refine q_iconst (v := 1) X dX13_cell_28 (by decide) ?_
    refine q_icmp_le X 36 dX13_cell_29 (by decide) (fun c29 => ?_) (fun c29 => ?_)
    · refine q_iconst (v := 0) X dX13_cell_36 (by decide) ?_
      refine q_istore (lv' := [(6, .int 0), (5, .ref o), (0, .ref r), (1, .int (nI i)), (2, .int x), (3, .int y), (4, .int z)]) X dX13_cell_37 (by decide) rfl ?_
      refine q_aload X dX13_cell_39 1 rfl ?_
      refine q_get X hO.1 rfl in_RX12 0 (by decide) tw_1156 rfl rfl dX13_cell_41 ?_
      refine q_iconst (v := 2) X dX13_cell_44 (by decide) ?_
      refine q_icmp_le X 53 dX13_cell_45 (by decide) (fun c45 => ?_) (fun c45 => ?_)
      · refine q_iconst (v := 0) X dX13_cell_53 (by decide) ?_
        refine q_istore (lv' := [(7, .int 0), (6, .int 0), (5, .ref o), (0, .ref r), (1, .int (nI i)), (2, .int x), (3, .int y), (4, .int z)]) X dX13_cell_54 (by decide) rfl ?_
        have e6 : (0 : Int32) = c1n (vm w) y := by unfold c1n; rw [if_neg (show ¬ 1 < vm w from Nat.not_lt.mpr ((m_le (k := 1) hw.1.2.1 (by decide)).mp c29))]
        have e7 : (0 : Int32) = c2n (vm w) z := by unfold c2n; rw [if_neg (show ¬ 2 < vm w from Nat.not_lt.mpr ((m_le (k := 2) hw.1.2.1 (by decide)).mp c45))]
        refine q_aload_n X dX13_cell_56 3 rfl ?_
        refine q_aload X dX13_cell_57 2 rfl ?_
        refine q_iload_n X dX13_cell_59 5 rfl ?_
        refine q_iload X dX13_cell_60 1 rfl ?_
        refine q_iload X dX13_cell_62 0 rfl ?_
        refine q_callVp X (c_X12_in hO.1 hO.2.1 hO.2.2.1) Y_X12_in tw_1261 tw_1262 tw_1263 hO.1 rfl (by omega) rfl rfl (Nat.le_of_ble_eq_true rfl) dX13_cell_64 ?_
        refine q_if_ne X 74 dX13_cell_67 (by decide) (fun c67 => ?_) (fun c67 => ?_)
        · refine q_iconst (v := 0) X dX13_cell_74 (by decide) ?_
          refine q_iconst (v := 2) X dX13_cell_75 (by decide) ?_
          refine q_callV X (c_fails0 (why := 2) hB104.1) Y_X13_fails tw_1246 tw_1248 sel_23 z_5r rfl (by omega) rfl rfl (Nat.le_of_ble_eq_true rfl) (rc' := 0) (rs' := 0) (by omega) (by omega) dX13_cell_76 (fun v M' hp _ => ?_)
          have m_7 : M' o = some (oB 12 [.int (nI (vm w)), .int (nI (vdp w)), .ref ola, .ref oha, .ref ova, .ref oza]) := by rw [hp.2]; exact (mU_n (g_neoo hO.1 z_5r (by decide))).trans hO.1
          have m_8 : M' ola = some (aI G 3 (vlo w)) := by rw [hp.2]; exact (mU_n (Ne.symm (g_neoa z_5r hO.2.1))).trans hO.2.1
          have m_9 : M' oha = some (aI G 3 (vhi w)) := by rw [hp.2]; exact (mU_n (Ne.symm (g_neoa z_5r hO.2.2.1))).trans hO.2.2.1
          have m_10 : M' ova = some (aJ G (wsz w) ovf) := by rw [hp.2]; exact (mU_n (Ne.symm (g_neoa z_5r hO.2.2.2.1))).trans hO.2.2.2.1
          have m_11 : M' oza = some (aZ G (wsz w) ozf) := by rw [hp.2]; exact (mU_n (Ne.symm (g_neoa z_5r hO.2.2.2.2.1))).trans hO.2.2.2.2.1
          obtain ⟨rfl, eM⟩ := hp
          have hB112 : rfB G M' r 0 σ vA nA pA plA dg dla dha dva dza dvf dzf vf nf pf tk su le gr := by rw [eM]; exact hB104.ro
          clear eM
          generalize M' = M112 at *
          show qJ G F _ 8 M112 0 0 79 [(7, .int 0), (6, .int 0), (5, .ref o), (0, .ref r), (1, .int (nI i)), (2, .int x), (3, .int y), (4, .int z)] [.int 0]
          obtain ⟨z_13r, z_131, z_132, z_133, ⟨z_13x, z_134⟩, z_135, z_136, z_137, z_138, z_139, z_1310⟩ := id hB112
          refine q_if_eq X 84 dX13_cell_79 (by decide) (fun c_14 => ?_) (fun c_14 => absurd (by decide) c_14)
          obtain ⟨jx, hjx, ejx⟩ := gAt_lt hw c67
          have fr9 := frV_in c67 ejx (by have := hw.2.1; omega)
          have fr8 := frV_w hw (x := x) (y := y) (z := z)
          rw [← e6, ← e7] at fr8
          replace fr9 := fr8.symm.trans fr9
          refine q_aload_n X dX13_cell_84 3 rfl ?_
          refine q_aload X dX13_cell_85 2 rfl ?_
          refine q_get X m_7 rfl in_RX12 5 (by decide) tw_1165 rfl rfl dX13_cell_87 ?_
          refine q_aload X dX13_cell_90 2 rfl ?_
          refine q_iload_n X dX13_cell_92 5 rfl ?_
          refine q_iload X dX13_cell_93 1 rfl ?_
          refine q_iload X dX13_cell_95 0 rfl ?_
          refine q_callVp X (c_X12_at m_7 m_8 m_9) Y_X12_at tw_1269 tw_1270 tw_1271 m_7 rfl (by omega) rfl rfl (Nat.le_of_ble_eq_true rfl) dX13_cell_97 ?_
          rw [ejx]
          refine q_zaldN X jx m_11 (rfl) (hjx) (by have := hw.2.1; omega) dX13_cell_100 ?_
          refine q_if_ne X 108 dX13_cell_101 (by decide) (fun c101 => ?_) (fun c101 => ?_)
          · refine q_iconst (v := 0) X dX13_cell_108 (by decide) ?_
            refine q_iconst (v := 3) X dX13_cell_109 (by decide) ?_
            refine q_callV X (c_fails0 (why := 3) hB112.1) Y_X13_fails tw_1246 tw_1248 sel_23 z_13r rfl (by omega) rfl rfl (Nat.le_of_ble_eq_true rfl) (rc' := 0) (rs' := 0) (by omega) (by omega) dX13_cell_110 (fun v M' hp _ => ?_)
            have m_15 : M' o = some (oB 12 [.int (nI (vm w)), .int (nI (vdp w)), .ref ola, .ref oha, .ref ova, .ref oza]) := by rw [hp.2]; exact (mU_n (g_neoo m_7 z_13r (by decide))).trans m_7
            have m_16 : M' ola = some (aI G 3 (vlo w)) := by rw [hp.2]; exact (mU_n (Ne.symm (g_neoa z_13r m_8))).trans m_8
            have m_17 : M' oha = some (aI G 3 (vhi w)) := by rw [hp.2]; exact (mU_n (Ne.symm (g_neoa z_13r m_9))).trans m_9
            have m_18 : M' ova = some (aJ G (wsz w) ovf) := by rw [hp.2]; exact (mU_n (Ne.symm (g_neoa z_13r m_10))).trans m_10
            have m_19 : M' oza = some (aZ G (wsz w) ozf) := by rw [hp.2]; exact (mU_n (Ne.symm (g_neoa z_13r m_11))).trans m_11
            obtain ⟨rfl, eM⟩ := hp
            have hB120 : rfB G M' r 0 σ vA nA pA plA dg dla dha dva dza dvf dzf vf nf pf tk su le gr := by rw [eM]; exact hB112.ro
            clear eM
            generalize M' = M120 at *
            show qJ G F _ 8 M120 0 0 113 [(7, .int 0), (6, .int 0), (5, .ref o), (0, .ref r), (1, .int (nI i)), (2, .int x), (3, .int y), (4, .int z)] [.int 0]
            obtain ⟨z_21r, z_211, z_212, z_213, ⟨z_21x, z_214⟩, z_215, z_216, z_217, z_218, z_219, z_2110⟩ := id hB120
            refine q_if_eq X 120 dX13_cell_113 (by decide) (fun c_22 => ?_) (fun c_22 => absurd (by decide) c_22)
            refine q_aload X dX13_cell_120 2 rfl ?_
            refine q_get X m_15 rfl in_RX12 4 (by decide) tw_1163 rfl rfl dX13_cell_122 ?_
            refine q_aload X dX13_cell_125 2 rfl ?_
            refine q_iload_n X dX13_cell_127 5 rfl ?_
            refine q_iload X dX13_cell_128 1 rfl ?_
            refine q_iload X dX13_cell_130 0 rfl ?_
            refine q_callVp X (c_X12_at m_15 m_16 m_17) Y_X12_at tw_1269 tw_1270 tw_1271 m_15 rfl (by omega) rfl rfl (Nat.le_of_ble_eq_true rfl) dX13_cell_132 ?_
            rw [ejx]
            refine q_laldN X jx m_18 (rfl) (hjx) (by have := hw.2.1; omega) dX13_cell_135 ?_
            exact q_lret X hr dX13_cell_136 (rfP_K ((gNode_y hnd).trans ((if_pos (wIx_in hw e6 e7 c67)).trans (oL_y (fr9.trans (ct_some hO.2.2.2.2.2 hjx c101))))) ⟨vA, nA, pA, plA, dg, dla, dha, dva, dza, dvf, dzf, vf, nf, pf, tk, su, le, gr, hB120⟩)
          · refine q_iconst (v := 1) X dX13_cell_104 (by decide) ?_
            refine q_goto X 109 dX13_cell_105 (by decide) ?_
            refine q_iconst (v := 3) X dX13_cell_109 (by decide) ?_
            refine q_callV X (c_fails1 (why := 3) hB112.1) Y_X13_fails tw_1246 tw_1248 sel_23 z_13r rfl (by omega) rfl rfl (Nat.le_of_ble_eq_true rfl) (rc' := 0) (rs' := 0) (by omega) (by omega) dX13_cell_110 (fun v M' hp _ => ?_)
            have m_23 : M' o = some (oB 12 [.int (nI (vm w)), .int (nI (vdp w)), .ref ola, .ref oha, .ref ova, .ref oza]) := by rw [hp.2]; exact (mU_n (g_neoo m_7 z_13r (by decide))).trans m_7
            have m_24 : M' ola = some (aI G 3 (vlo w)) := by rw [hp.2]; exact (mU_n (Ne.symm (g_neoa z_13r m_8))).trans m_8
            have m_25 : M' oha = some (aI G 3 (vhi w)) := by rw [hp.2]; exact (mU_n (Ne.symm (g_neoa z_13r m_9))).trans m_9
            have m_26 : M' ova = some (aJ G (wsz w) ovf) := by rw [hp.2]; exact (mU_n (Ne.symm (g_neoa z_13r m_10))).trans m_10
            have m_27 : M' oza = some (aZ G (wsz w) ozf) := by rw [hp.2]; exact (mU_n (Ne.symm (g_neoa z_13r m_11))).trans m_11
            obtain ⟨rfl, eM⟩ := hp
            have hB128 : rfB G M' r 3 σ vA nA pA plA dg dla dha dva dza dvf dzf vf nf pf tk su le gr := by rw [eM]; exact hB112.ro
            clear eM
            generalize M' = M128 at *
            show qJ G F _ 8 M128 0 0 113 [(7, .int 0), (6, .int 0), (5, .ref o), (0, .ref r), (1, .int (nI i)), (2, .int x), (3, .int y), (4, .int z)] [.int 1]
            obtain ⟨z_29r, z_291, z_292, z_293, ⟨z_29x, z_294⟩, z_295, z_296, z_297, z_298, z_299, z_2910⟩ := id hB128
            refine q_if_eq X 120 dX13_cell_113 (by decide) (fun c_30 => absurd c_30 (by decide)) (fun c_30 => ?_)
            refine q_lconst (v := 0) X dX13_cell_116 (by decide) ?_
            refine q_goto X 136 dX13_cell_117 (by decide) ?_
            exact q_lret X hr dX13_cell_136 (rfP_T ((gNode_y hnd).trans ((if_pos (wIx_in hw e6 e7 c67)).trans (oL_n (fr9.trans (ct_none hO.2.2.2.2.2 hjx c101))))) cOp_UO ⟨vA, nA, pA, plA, dg, dla, dha, dva, dza, dvf, dzf, vf, nf, pf, tk, su, le, gr, hB128⟩)
        · refine q_iconst (v := 1) X dX13_cell_70 (by decide) ?_
          refine q_goto X 75 dX13_cell_71 (by decide) ?_
          refine q_iconst (v := 2) X dX13_cell_75 (by decide) ?_
          refine q_callV X (c_fails1 (why := 2) hB104.1) Y_X13_fails tw_1246 tw_1248 sel_23 z_5r rfl (by omega) rfl rfl (Nat.le_of_ble_eq_true rfl) (rc' := 0) (rs' := 0) (by omega) (by omega) dX13_cell_76 (fun v M' hp _ => ?_)
          have m_31 : M' o = some (oB 12 [.int (nI (vm w)), .int (nI (vdp w)), .ref ola, .ref oha, .ref ova, .ref oza]) := by rw [hp.2]; exact (mU_n (g_neoo hO.1 z_5r (by decide))).trans hO.1
          have m_32 : M' ola = some (aI G 3 (vlo w)) := by rw [hp.2]; exact (mU_n (Ne.symm (g_neoa z_5r hO.2.1))).trans hO.2.1
          have m_33 : M' oha = some (aI G 3 (vhi w)) := by rw [hp.2]; exact (mU_n (Ne.symm (g_neoa z_5r hO.2.2.1))).trans hO.2.2.1
          have m_34 : M' ova = some (aJ G (wsz w) ovf) := by rw [hp.2]; exact (mU_n (Ne.symm (g_neoa z_5r hO.2.2.2.1))).trans hO.2.2.2.1
          have m_35 : M' oza = some (aZ G (wsz w) ozf) := by rw [hp.2]; exact (mU_n (Ne.symm (g_neoa z_5r hO.2.2.2.2.1))).trans hO.2.2.2.2.1
          obtain ⟨rfl, eM⟩ := hp
          have hB136 : rfB G M' r 2 σ vA nA pA plA dg dla dha dva dza dvf dzf vf nf pf tk su le gr := by rw [eM]; exact hB104.ro
          clear eM
          generalize M' = M136 at *
          show qJ G F _ 8 M136 0 0 79 [(7, .int 0), (6, .int 0), (5, .ref o), (0, .ref r), (1, .int (nI i)), (2, .int x), (3, .int y), (4, .int z)] [.int 1]
          obtain ⟨z_37r, z_371, z_372, z_373, ⟨z_37x, z_374⟩, z_375, z_376, z_377, z_378, z_379, z_3710⟩ := id hB136
          refine q_if_eq X 84 dX13_cell_79 (by decide) (fun c_38 => absurd c_38 (by decide)) (fun c_38 => ?_)
          refine q_lconst (v := 0) X dX13_cell_82 (by decide) ?_
          exact q_lret X hr dX13_cell_83 (rfP_T ((gNode_y hnd).trans (if_neg (wIx_out hw e6 e7 c67))) cOp_IO ⟨vA, nA, pA, plA, dg, dla, dha, dva, dza, dvf, dzf, vf, nf, pf, tk, su, le, gr, hB136⟩)
      · refine q_iload X dX13_cell_48 6 rfl ?_
        refine q_goto X 54 dX13_cell_50 (by decide) ?_
        refine q_istore (lv' := [(7, .int z), (6, .int 0), (5, .ref o), (0, .ref r), (1, .int (nI i)), (2, .int x), (3, .int y), (4, .int z)]) X dX13_cell_54 (by decide) rfl ?_
        have e6 : (0 : Int32) = c1n (vm w) y := by unfold c1n; rw [if_neg (show ¬ 1 < vm w from Nat.not_lt.mpr ((m_le (k := 1) hw.1.2.1 (by decide)).mp c29))]
        have e7 : z = c2n (vm w) z := by unfold c2n; rw [if_pos (show 2 < vm w from Nat.lt_of_not_le (fun q => c45 ((m_le (k := 2) hw.1.2.1 (by decide)).mpr q)))]
        refine q_aload_n X dX13_cell_56 3 rfl ?_
        refine q_aload X dX13_cell_57 2 rfl ?_
        refine q_iload_n X dX13_cell_59 5 rfl ?_
        refine q_iload X dX13_cell_60 1 rfl ?_
        refine q_iload X dX13_cell_62 0 rfl ?_
        refine q_callVp X (c_X12_in hO.1 hO.2.1 hO.2.2.1) Y_X12_in tw_1261 tw_1262 tw_1263 hO.1 rfl (by omega) rfl rfl (Nat.le_of_ble_eq_true rfl) dX13_cell_64 ?_
        refine q_if_ne X 74 dX13_cell_67 (by decide) (fun c67 => ?_) (fun c67 => ?_)
        · refine q_iconst (v := 0) X dX13_cell_74 (by decide) ?_
          refine q_iconst (v := 2) X dX13_cell_75 (by decide) ?_
          refine q_callV X (c_fails0 (why := 2) hB104.1) Y_X13_fails tw_1246 tw_1248 sel_23 z_5r rfl (by omega) rfl rfl (Nat.le_of_ble_eq_true rfl) (rc' := 0) (rs' := 0) (by omega) (by omega) dX13_cell_76 (fun v M' hp _ => ?_)
          have m_39 : M' o = some (oB 12 [.int (nI (vm w)), .int (nI (vdp w)), .ref ola, .ref oha, .ref ova, .ref oza]) := by rw [hp.2]; exact (mU_n (g_neoo hO.1 z_5r (by decide))).trans hO.1
          have m_40 : M' ola = some (aI G 3 (vlo w)) := by rw [hp.2]; exact (mU_n (Ne.symm (g_neoa z_5r hO.2.1))).trans hO.2.1
          have m_41 : M' oha = some (aI G 3 (vhi w)) := by rw [hp.2]; exact (mU_n (Ne.symm (g_neoa z_5r hO.2.2.1))).trans hO.2.2.1
          have m_42 : M' ova = some (aJ G (wsz w) ovf) := by rw [hp.2]; exact (mU_n (Ne.symm (g_neoa z_5r hO.2.2.2.1))).trans hO.2.2.2.1
          have m_43 : M' oza = some (aZ G (wsz w) ozf) := by rw [hp.2]; exact (mU_n (Ne.symm (g_neoa z_5r hO.2.2.2.2.1))).trans hO.2.2.2.2.1
          obtain ⟨rfl, eM⟩ := hp
          have hB144 : rfB G M' r 0 σ vA nA pA plA dg dla dha dva dza dvf dzf vf nf pf tk su le gr := by rw [eM]; exact hB104.ro
          clear eM
          generalize M' = M144 at *
          show qJ G F _ 8 M144 0 0 79 [(7, .int z), (6, .int 0), (5, .ref o), (0, .ref r), (1, .int (nI i)), (2, .int x), (3, .int y), (4, .int z)] [.int 0]
          obtain ⟨z_45r, z_451, z_452, z_453, ⟨z_45x, z_454⟩, z_455, z_456, z_457, z_458, z_459, z_4510⟩ := id hB144
          refine q_if_eq X 84 dX13_cell_79 (by decide) (fun c_46 => ?_) (fun c_46 => absurd (by decide) c_46)
          obtain ⟨jx, hjx, ejx⟩ := gAt_lt hw c67
          have fr9 := frV_in c67 ejx (by have := hw.2.1; omega)
          have fr8 := frV_w hw (x := x) (y := y) (z := z)
          rw [← e6, ← e7] at fr8
          replace fr9 := fr8.symm.trans fr9
          refine q_aload_n X dX13_cell_84 3 rfl ?_
          refine q_aload X dX13_cell_85 2 rfl ?_
          refine q_get X m_39 rfl in_RX12 5 (by decide) tw_1165 rfl rfl dX13_cell_87 ?_
          refine q_aload X dX13_cell_90 2 rfl ?_
          refine q_iload_n X dX13_cell_92 5 rfl ?_
          refine q_iload X dX13_cell_93 1 rfl ?_
          refine q_iload X dX13_cell_95 0 rfl ?_
          refine q_callVp X (c_X12_at m_39 m_40 m_41) Y_X12_at tw_1269 tw_1270 tw_1271 m_39 rfl (by omega) rfl rfl (Nat.le_of_ble_eq_true rfl) dX13_cell_97 ?_
          rw [ejx]
          refine q_zaldN X jx m_43 (rfl) (hjx) (by have := hw.2.1; omega) dX13_cell_100 ?_
          refine q_if_ne X 108 dX13_cell_101 (by decide) (fun c101 => ?_) (fun c101 => ?_)
          · refine q_iconst (v := 0) X dX13_cell_108 (by decide) ?_
            refine q_iconst (v := 3) X dX13_cell_109 (by decide) ?_
            refine q_callV X (c_fails0 (why := 3) hB144.1) Y_X13_fails tw_1246 tw_1248 sel_23 z_45r rfl (by omega) rfl rfl (Nat.le_of_ble_eq_true rfl) (rc' := 0) (rs' := 0) (by omega) (by omega) dX13_cell_110 (fun v M' hp _ => ?_)
            have m_47 : M' o = some (oB 12 [.int (nI (vm w)), .int (nI (vdp w)), .ref ola, .ref oha, .ref ova, .ref oza]) := by rw [hp.2]; exact (mU_n (g_neoo m_39 z_45r (by decide))).trans m_39
            have m_48 : M' ola = some (aI G 3 (vlo w)) := by rw [hp.2]; exact (mU_n (Ne.symm (g_neoa z_45r m_40))).trans m_40
            have m_49 : M' oha = some (aI G 3 (vhi w)) := by rw [hp.2]; exact (mU_n (Ne.symm (g_neoa z_45r m_41))).trans m_41
            have m_50 : M' ova = some (aJ G (wsz w) ovf) := by rw [hp.2]; exact (mU_n (Ne.symm (g_neoa z_45r m_42))).trans m_42
            have m_51 : M' oza = some (aZ G (wsz w) ozf) := by rw [hp.2]; exact (mU_n (Ne.symm (g_neoa z_45r m_43))).trans m_43
            obtain ⟨rfl, eM⟩ := hp
            have hB152 : rfB G M' r 0 σ vA nA pA plA dg dla dha dva dza dvf dzf vf nf pf tk su le gr := by rw [eM]; exact hB144.ro
            clear eM
            generalize M' = M152 at *
            show qJ G F _ 8 M152 0 0 113 [(7, .int z), (6, .int 0), (5, .ref o), (0, .ref r), (1, .int (nI i)), (2, .int x), (3, .int y), (4, .int z)] [.int 0]
            obtain ⟨z_53r, z_531, z_532, z_533, ⟨z_53x, z_534⟩, z_535, z_536, z_537, z_538, z_539, z_5310⟩ := id hB152
            refine q_if_eq X 120 dX13_cell_113 (by decide) (fun c_54 => ?_) (fun c_54 => absurd (by decide) c_54)
            refine q_aload X dX13_cell_120 2 rfl ?_
            refine q_get X m_47 rfl in_RX12 4 (by decide) tw_1163 rfl rfl dX13_cell_122 ?_
            refine q_aload X dX13_cell_125 2 rfl ?_
            refine q_iload_n X dX13_cell_127 5 rfl ?_
            refine q_iload X dX13_cell_128 1 rfl ?_
            refine q_iload X dX13_cell_130 0 rfl ?_
            refine q_callVp X (c_X12_at m_47 m_48 m_49) Y_X12_at tw_1269 tw_1270 tw_1271 m_47 rfl (by omega) rfl rfl (Nat.le_of_ble_eq_true rfl) dX13_cell_132 ?_
            rw [ejx]
            refine q_laldN X jx m_50 (rfl) (hjx) (by have := hw.2.1; omega) dX13_cell_135 ?_
            exact q_lret X hr dX13_cell_136 (rfP_K ((gNode_y hnd).trans ((if_pos (wIx_in hw e6 e7 c67)).trans (oL_y (fr9.trans (ct_some hO.2.2.2.2.2 hjx c101))))) ⟨vA, nA, pA, plA, dg, dla, dha, dva, dza, dvf, dzf, vf, nf, pf, tk, su, le, gr, hB152⟩)
          · refine q_iconst (v := 1) X dX13_cell_104 (by decide) ?_
            refine q_goto X 109 dX13_cell_105 (by decide) ?_
            refine q_iconst (v := 3) X dX13_cell_109 (by decide) ?_
            refine q_callV X (c_fails1 (why := 3) hB144.1) Y_X13_fails tw_1246 tw_1248 sel_23 z_45r rfl (by omega) rfl rfl (Nat.le_of_ble_eq_true rfl) (rc' := 0) (rs' := 0) (by omega) (by omega) dX13_cell_110 (fun v M' hp _ => ?_)
            have m_55 : M' o = some (oB 12 [.int (nI (vm w)), .int (nI (vdp w)), .ref ola, .ref oha, .ref ova, .ref oza]) := by rw [hp.2]; exact (mU_n (g_neoo m_39 z_45r (by decide))).trans m_39
            have m_56 : M' ola = some (aI G 3 (vlo w)) := by rw [hp.2]; exact (mU_n (Ne.symm (g_neoa z_45r m_40))).trans m_40
            have m_57 : M' oha = some (aI G 3 (vhi w)) := by rw [hp.2]; exact (mU_n (Ne.symm (g_neoa z_45r m_41))).trans m_41
            have m_58 : M' ova = some (aJ G (wsz w) ovf) := by rw [hp.2]; exact (mU_n (Ne.symm (g_neoa z_45r m_42))).trans m_42
            have m_59 : M' oza = some (aZ G (wsz w) ozf) := by rw [hp.2]; exact (mU_n (Ne.symm (g_neoa z_45r m_43))).trans m_43
            obtain ⟨rfl, eM⟩ := hp
            have hB160 : rfB G M' r 3 σ vA nA pA plA dg dla dha dva dza dvf dzf vf nf pf tk su le gr := by rw [eM]; exact hB144.ro
            clear eM
            generalize M' = M160 at *
            show qJ G F _ 8 M160 0 0 113 [(7, .int z), (6, .int 0), (5, .ref o), (0, .ref r), (1, .int (nI i)), (2, .int x), (3, .int y), (4, .int z)] [.int 1]
            obtain ⟨z_61r, z_611, z_612, z_613, ⟨z_61x, z_614⟩, z_615, z_616, z_617, z_618, z_619, z_6110⟩ := id hB160
            refine q_if_eq X 120 dX13_cell_113 (by decide) (fun c_62 => absurd c_62 (by decide)) (fun c_62 => ?_)
            refine q_lconst (v := 0) X dX13_cell_116 (by decide) ?_
            refine q_goto X 136 dX13_cell_117 (by decide) ?_
            exact q_lret X hr dX13_cell_136 (rfP_T ((gNode_y hnd).trans ((if_pos (wIx_in hw e6 e7 c67)).trans (oL_n (fr9.trans (ct_none hO.2.2.2.2.2 hjx c101))))) cOp_UO ⟨vA, nA, pA, plA, dg, dla, dha, dva, dza, dvf, dzf, vf, nf, pf, tk, su, le, gr, hB160⟩)
        · refine q_iconst (v := 1) X dX13_cell_70 (by decide) ?_
          refine q_goto X 75 dX13_cell_71 (by decide) ?_
          refine q_iconst (v := 2) X dX13_cell_75 (by decide) ?_
          refine q_callV X (c_fails1 (why := 2) hB104.1) Y_X13_fails tw_1246 tw_1248 sel_23 z_5r rfl (by omega) rfl rfl (Nat.le_of_ble_eq_true rfl) (rc' := 0) (rs' := 0) (by omega) (by omega) dX13_cell_76 (fun v M' hp _ => ?_)
          have m_63 : M' o = some (oB 12 [.int (nI (vm w)), .int (nI (vdp w)), .ref ola, .ref oha, .ref ova, .ref oza]) := by rw [hp.2]; exact (mU_n (g_neoo hO.1 z_5r (by decide))).trans hO.1
          have m_64 : M' ola = some (aI G 3 (vlo w)) := by rw [hp.2]; exact (mU_n (Ne.symm (g_neoa z_5r hO.2.1))).trans hO.2.1
          have m_65 : M' oha = some (aI G 3 (vhi w)) := by rw [hp.2]; exact (mU_n (Ne.symm (g_neoa z_5r hO.2.2.1))).trans hO.2.2.1
          have m_66 : M' ova = some (aJ G (wsz w) ovf) := by rw [hp.2]; exact (mU_n (Ne.symm (g_neoa z_5r hO.2.2.2.1))).trans hO.2.2.2.1
          have m_67 : M' oza = some (aZ G (wsz w) ozf) := by rw [hp.2]; exact (mU_n (Ne.symm (g_neoa z_5r hO.2.2.2.2.1))).trans hO.2.2.2.2.1
          obtain ⟨rfl, eM⟩ := hp
          have hB168 : rfB G M' r 2 σ vA nA pA plA dg dla dha dva dza dvf dzf vf nf pf tk su le gr := by rw [eM]; exact hB104.ro
          clear eM
          generalize M' = M168 at *
          show qJ G F _ 8 M168 0 0 79 [(7, .int z), (6, .int 0), (5, .ref o), (0, .ref r), (1, .int (nI i)), (2, .int x), (3, .int y), (4, .int z)] [.int 1]
          obtain ⟨z_69r, z_691, z_692, z_693, ⟨z_69x, z_694⟩, z_695, z_696, z_697, z_698, z_699, z_6910⟩ := id hB168
          refine q_if_eq X 84 dX13_cell_79 (by decide) (fun c_70 => absurd c_70 (by decide)) (fun c_70 => ?_)
          refine q_lconst (v := 0) X dX13_cell_82 (by decide) ?_
          exact q_lret X hr dX13_cell_83 (rfP_T ((gNode_y hnd).trans (if_neg (wIx_out hw e6 e7 c67))) cOp_IO ⟨vA, nA, pA, plA, dg, dla, dha, dva, dza, dvf, dzf, vf, nf, pf, tk, su, le, gr, hB168⟩)
    · refine q_iload_n X dX13_cell_32 4 rfl ?_
      refine q_goto X 37 dX13_cell_33 (by decide) ?_
      refine q_istore (lv' := [(6, .int y), (5, .ref o), (0, .ref r), (1, .int (nI i)), (2, .int x), (3, .int y), (4, .int z)]) X dX13_cell_37 (by decide) rfl ?_
      refine q_aload X dX13_cell_39 1 rfl ?_
      refine q_get X hO.1 rfl in_RX12 0 (by decide) tw_1156 rfl rfl dX13_cell_41 ?_
      refine q_iconst (v := 2) X dX13_cell_44 (by decide) ?_
      refine q_icmp_le X 53 dX13_cell_45 (by decide) (fun c45 => ?_) (fun c45 => ?_)
      · refine q_iconst (v := 0) X dX13_cell_53 (by decide) ?_
        refine q_istore (lv' := [(7, .int 0), (6, .int y), (5, .ref o), (0, .ref r), (1, .int (nI i)), (2, .int x), (3, .int y), (4, .int z)]) X dX13_cell_54 (by decide) rfl ?_
        have e6 : y = c1n (vm w) y := by unfold c1n; rw [if_pos (show 1 < vm w from Nat.lt_of_not_le (fun q => c29 ((m_le (k := 1) hw.1.2.1 (by decide)).mpr q)))]
        have e7 : (0 : Int32) = c2n (vm w) z := by unfold c2n; rw [if_neg (show ¬ 2 < vm w from Nat.not_lt.mpr ((m_le (k := 2) hw.1.2.1 (by decide)).mp c45))]
        refine q_aload_n X dX13_cell_56 3 rfl ?_
        refine q_aload X dX13_cell_57 2 rfl ?_
        refine q_iload_n X dX13_cell_59 5 rfl ?_
        refine q_iload X dX13_cell_60 1 rfl ?_
        refine q_iload X dX13_cell_62 0 rfl ?_
        refine q_callVp X (c_X12_in hO.1 hO.2.1 hO.2.2.1) Y_X12_in tw_1261 tw_1262 tw_1263 hO.1 rfl (by omega) rfl rfl (Nat.le_of_ble_eq_true rfl) dX13_cell_64 ?_
        refine q_if_ne X 74 dX13_cell_67 (by decide) (fun c67 => ?_) (fun c67 => ?_)
        · refine q_iconst (v := 0) X dX13_cell_74 (by decide) ?_
          refine q_iconst (v := 2) X dX13_cell_75 (by decide) ?_
          refine q_callV X (c_fails0 (why := 2) hB104.1) Y_X13_fails tw_1246 tw_1248 sel_23 z_5r rfl (by omega) rfl rfl (Nat.le_of_ble_eq_true rfl) (rc' := 0) (rs' := 0) (by omega) (by omega) dX13_cell_76 (fun v M' hp _ => ?_)
          have m_71 : M' o = some (oB 12 [.int (nI (vm w)), .int (nI (vdp w)), .ref ola, .ref oha, .ref ova, .ref oza]) := by rw [hp.2]; exact (mU_n (g_neoo hO.1 z_5r (by decide))).trans hO.1
          have m_72 : M' ola = some (aI G 3 (vlo w)) := by rw [hp.2]; exact (mU_n (Ne.symm (g_neoa z_5r hO.2.1))).trans hO.2.1
          have m_73 : M' oha = some (aI G 3 (vhi w)) := by rw [hp.2]; exact (mU_n (Ne.symm (g_neoa z_5r hO.2.2.1))).trans hO.2.2.1
          have m_74 : M' ova = some (aJ G (wsz w) ovf) := by rw [hp.2]; exact (mU_n (Ne.symm (g_neoa z_5r hO.2.2.2.1))).trans hO.2.2.2.1
          have m_75 : M' oza = some (aZ G (wsz w) ozf) := by rw [hp.2]; exact (mU_n (Ne.symm (g_neoa z_5r hO.2.2.2.2.1))).trans hO.2.2.2.2.1
          obtain ⟨rfl, eM⟩ := hp
          have hB176 : rfB G M' r 0 σ vA nA pA plA dg dla dha dva dza dvf dzf vf nf pf tk su le gr := by rw [eM]; exact hB104.ro
          clear eM
          generalize M' = M176 at *
          show qJ G F _ 8 M176 0 0 79 [(7, .int 0), (6, .int y), (5, .ref o), (0, .ref r), (1, .int (nI i)), (2, .int x), (3, .int y), (4, .int z)] [.int 0]
          obtain ⟨z_77r, z_771, z_772, z_773, ⟨z_77x, z_774⟩, z_775, z_776, z_777, z_778, z_779, z_7710⟩ := id hB176
          refine q_if_eq X 84 dX13_cell_79 (by decide) (fun c_78 => ?_) (fun c_78 => absurd (by decide) c_78)
          obtain ⟨jx, hjx, ejx⟩ := gAt_lt hw c67
          have fr9 := frV_in c67 ejx (by have := hw.2.1; omega)
          have fr8 := frV_w hw (x := x) (y := y) (z := z)
          rw [← e6, ← e7] at fr8
          replace fr9 := fr8.symm.trans fr9
          refine q_aload_n X dX13_cell_84 3 rfl ?_
          refine q_aload X dX13_cell_85 2 rfl ?_
          refine q_get X m_71 rfl in_RX12 5 (by decide) tw_1165 rfl rfl dX13_cell_87 ?_
          refine q_aload X dX13_cell_90 2 rfl ?_
          refine q_iload_n X dX13_cell_92 5 rfl ?_
          refine q_iload X dX13_cell_93 1 rfl ?_
          refine q_iload X dX13_cell_95 0 rfl ?_
          refine q_callVp X (c_X12_at m_71 m_72 m_73) Y_X12_at tw_1269 tw_1270 tw_1271 m_71 rfl (by omega) rfl rfl (Nat.le_of_ble_eq_true rfl) dX13_cell_97 ?_
          rw [ejx]
          refine q_zaldN X jx m_75 (rfl) (hjx) (by have := hw.2.1; omega) dX13_cell_100 ?_
          refine q_if_ne X 108 dX13_cell_101 (by decide) (fun c101 => ?_) (fun c101 => ?_)
          · refine q_iconst (v := 0) X dX13_cell_108 (by decide) ?_
            refine q_iconst (v := 3) X dX13_cell_109 (by decide) ?_
            refine q_callV X (c_fails0 (why := 3) hB176.1) Y_X13_fails tw_1246 tw_1248 sel_23 z_77r rfl (by omega) rfl rfl (Nat.le_of_ble_eq_true rfl) (rc' := 0) (rs' := 0) (by omega) (by omega) dX13_cell_110 (fun v M' hp _ => ?_)
            have m_79 : M' o = some (oB 12 [.int (nI (vm w)), .int (nI (vdp w)), .ref ola, .ref oha, .ref ova, .ref oza]) := by rw [hp.2]; exact (mU_n (g_neoo m_71 z_77r (by decide))).trans m_71
            have m_80 : M' ola = some (aI G 3 (vlo w)) := by rw [hp.2]; exact (mU_n (Ne.symm (g_neoa z_77r m_72))).trans m_72
            have m_81 : M' oha = some (aI G 3 (vhi w)) := by rw [hp.2]; exact (mU_n (Ne.symm (g_neoa z_77r m_73))).trans m_73
            have m_82 : M' ova = some (aJ G (wsz w) ovf) := by rw [hp.2]; exact (mU_n (Ne.symm (g_neoa z_77r m_74))).trans m_74
            have m_83 : M' oza = some (aZ G (wsz w) ozf) := by rw [hp.2]; exact (mU_n (Ne.symm (g_neoa z_77r m_75))).trans m_75
            obtain ⟨rfl, eM⟩ := hp
            have hB184 : rfB G M' r 0 σ vA nA pA plA dg dla dha dva dza dvf dzf vf nf pf tk su le gr := by rw [eM]; exact hB176.ro
            clear eM
            generalize M' = M184 at *
            show qJ G F _ 8 M184 0 0 113 [(7, .int 0), (6, .int y), (5, .ref o), (0, .ref r), (1, .int (nI i)), (2, .int x), (3, .int y), (4, .int z)] [.int 0]
            obtain ⟨z_85r, z_851, z_852, z_853, ⟨z_85x, z_854⟩, z_855, z_856, z_857, z_858, z_859, z_8510⟩ := id hB184
            refine q_if_eq X 120 dX13_cell_113 (by decide) (fun c_86 => ?_) (fun c_86 => absurd (by decide) c_86)
            refine q_aload X dX13_cell_120 2 rfl ?_
            refine q_get X m_79 rfl in_RX12 4 (by decide) tw_1163 rfl rfl dX13_cell_122 ?_
            refine q_aload X dX13_cell_125 2 rfl ?_
            refine q_iload_n X dX13_cell_127 5 rfl ?_
            refine q_iload X dX13_cell_128 1 rfl ?_
            refine q_iload X dX13_cell_130 0 rfl ?_
            refine q_callVp X (c_X12_at m_79 m_80 m_81) Y_X12_at tw_1269 tw_1270 tw_1271 m_79 rfl (by omega) rfl rfl (Nat.le_of_ble_eq_true rfl) dX13_cell_132 ?_
            rw [ejx]
            refine q_laldN X jx m_82 (rfl) (hjx) (by have := hw.2.1; omega) dX13_cell_135 ?_
            exact q_lret X hr dX13_cell_136 (rfP_K ((gNode_y hnd).trans ((if_pos (wIx_in hw e6 e7 c67)).trans (oL_y (fr9.trans (ct_some hO.2.2.2.2.2 hjx c101))))) ⟨vA, nA, pA, plA, dg, dla, dha, dva, dza, dvf, dzf, vf, nf, pf, tk, su, le, gr, hB184⟩)
          · refine q_iconst (v := 1) X dX13_cell_104 (by decide) ?_
            refine q_goto X 109 dX13_cell_105 (by decide) ?_
            refine q_iconst (v := 3) X dX13_cell_109 (by decide) ?_
            refine q_callV X (c_fails1 (why := 3) hB176.1) Y_X13_fails tw_1246 tw_1248 sel_23 z_77r rfl (by omega) rfl rfl (Nat.le_of_ble_eq_true rfl) (rc' := 0) (rs' := 0) (by omega) (by omega) dX13_cell_110 (fun v M' hp _ => ?_)
            have m_87 : M' o = some (oB 12 [.int (nI (vm w)), .int (nI (vdp w)), .ref ola, .ref oha, .ref ova, .ref oza]) := by rw [hp.2]; exact (mU_n (g_neoo m_71 z_77r (by decide))).trans m_71
            have m_88 : M' ola = some (aI G 3 (vlo w)) := by rw [hp.2]; exact (mU_n (Ne.symm (g_neoa z_77r m_72))).trans m_72
            have m_89 : M' oha = some (aI G 3 (vhi w)) := by rw [hp.2]; exact (mU_n (Ne.symm (g_neoa z_77r m_73))).trans m_73
            have m_90 : M' ova = some (aJ G (wsz w) ovf) := by rw [hp.2]; exact (mU_n (Ne.symm (g_neoa z_77r m_74))).trans m_74
            have m_91 : M' oza = some (aZ G (wsz w) ozf) := by rw [hp.2]; exact (mU_n (Ne.symm (g_neoa z_77r m_75))).trans m_75
            obtain ⟨rfl, eM⟩ := hp
            have hB192 : rfB G M' r 3 σ vA nA pA plA dg dla dha dva dza dvf dzf vf nf pf tk su le gr := by rw [eM]; exact hB176.ro
            clear eM
            generalize M' = M192 at *
            show qJ G F _ 8 M192 0 0 113 [(7, .int 0), (6, .int y), (5, .ref o), (0, .ref r), (1, .int (nI i)), (2, .int x), (3, .int y), (4, .int z)] [.int 1]
            obtain ⟨z_93r, z_931, z_932, z_933, ⟨z_93x, z_934⟩, z_935, z_936, z_937, z_938, z_939, z_9310⟩ := id hB192
            refine q_if_eq X 120 dX13_cell_113 (by decide) (fun c_94 => absurd c_94 (by decide)) (fun c_94 => ?_)
            refine q_lconst (v := 0) X dX13_cell_116 (by decide) ?_
            refine q_goto X 136 dX13_cell_117 (by decide) ?_
            exact q_lret X hr dX13_cell_136 (rfP_T ((gNode_y hnd).trans ((if_pos (wIx_in hw e6 e7 c67)).trans (oL_n (fr9.trans (ct_none hO.2.2.2.2.2 hjx c101))))) cOp_UO ⟨vA, nA, pA, plA, dg, dla, dha, dva, dza, dvf, dzf, vf, nf, pf, tk, su, le, gr, hB192⟩)
        · refine q_iconst (v := 1) X dX13_cell_70 (by decide) ?_
          refine q_goto X 75 dX13_cell_71 (by decide) ?_
          refine q_iconst (v := 2) X dX13_cell_75 (by decide) ?_
          refine q_callV X (c_fails1 (why := 2) hB104.1) Y_X13_fails tw_1246 tw_1248 sel_23 z_5r rfl (by omega) rfl rfl (Nat.le_of_ble_eq_true rfl) (rc' := 0) (rs' := 0) (by omega) (by omega) dX13_cell_76 (fun v M' hp _ => ?_)
          have m_95 : M' o = some (oB 12 [.int (nI (vm w)), .int (nI (vdp w)), .ref ola, .ref oha, .ref ova, .ref oza]) := by rw [hp.2]; exact (mU_n (g_neoo hO.1 z_5r (by decide))).trans hO.1
          have m_96 : M' ola = some (aI G 3 (vlo w)) := by rw [hp.2]; exact (mU_n (Ne.symm (g_neoa z_5r hO.2.1))).trans hO.2.1
          have m_97 : M' oha = some (aI G 3 (vhi w)) := by rw [hp.2]; exact (mU_n (Ne.symm (g_neoa z_5r hO.2.2.1))).trans hO.2.2.1
          have m_98 : M' ova = some (aJ G (wsz w) ovf) := by rw [hp.2]; exact (mU_n (Ne.symm (g_neoa z_5r hO.2.2.2.1))).trans hO.2.2.2.1
          have m_99 : M' oza = some (aZ G (wsz w) ozf) := by rw [hp.2]; exact (mU_n (Ne.symm (g_neoa z_5r hO.2.2.2.2.1))).trans hO.2.2.2.2.1
          obtain ⟨rfl, eM⟩ := hp
          have hB200 : rfB G M' r 2 σ vA nA pA plA dg dla dha dva dza dvf dzf vf nf pf tk su le gr := by rw [eM]; exact hB104.ro
          clear eM
          generalize M' = M200 at *
          show qJ G F _ 8 M200 0 0 79 [(7, .int 0), (6, .int y), (5, .ref o), (0, .ref r), (1, .int (nI i)), (2, .int x), (3, .int y), (4, .int z)] [.int 1]
          obtain ⟨z_101r, z_1011, z_1012, z_1013, ⟨z_101x, z_1014⟩, z_1015, z_1016, z_1017, z_1018, z_1019, z_10110⟩ := id hB200
          refine q_if_eq X 84 dX13_cell_79 (by decide) (fun c_102 => absurd c_102 (by decide)) (fun c_102 => ?_)
          refine q_lconst (v := 0) X dX13_cell_82 (by decide) ?_
          exact q_lret X hr dX13_cell_83 (rfP_T ((gNode_y hnd).trans (if_neg (wIx_out hw e6 e7 c67))) cOp_IO ⟨vA, nA, pA, plA, dg, dla, dha, dva, dza, dvf, dzf, vf, nf, pf, tk, su, le, gr, hB200⟩)
      · refine q_iload X dX13_cell_48 6 rfl ?_
        refine q_goto X 54 dX13_cell_50 (by decide) ?_
        refine q_istore (lv' := [(7, .int z), (6, .int y), (5, .ref o), (0, .ref r), (1, .int (nI i)), (2, .int x), (3, .int y), (4, .int z)]) X dX13_cell_54 (by decide) rfl ?_
        have e6 : y = c1n (vm w) y := by unfold c1n; rw [if_pos (show 1 < vm w from Nat.lt_of_not_le (fun q => c29 ((m_le (k := 1) hw.1.2.1 (by decide)).mpr q)))]
        have e7 : z = c2n (vm w) z := by unfold c2n; rw [if_pos (show 2 < vm w from Nat.lt_of_not_le (fun q => c45 ((m_le (k := 2) hw.1.2.1 (by decide)).mpr q)))]
        refine q_aload_n X dX13_cell_56 3 rfl ?_
        refine q_aload X dX13_cell_57 2 rfl ?_
        refine q_iload_n X dX13_cell_59 5 rfl ?_
        refine q_iload X dX13_cell_60 1 rfl ?_
        refine q_iload X dX13_cell_62 0 rfl ?_
        refine q_callVp X (c_X12_in hO.1 hO.2.1 hO.2.2.1) Y_X12_in tw_1261 tw_1262 tw_1263 hO.1 rfl (by omega) rfl rfl (Nat.le_of_ble_eq_true rfl) dX13_cell_64 ?_
        refine q_if_ne X 74 dX13_cell_67 (by decide) (fun c67 => ?_) (fun c67 => ?_)
        · refine q_iconst (v := 0) X dX13_cell_74 (by decide) ?_
          refine q_iconst (v := 2) X dX13_cell_75 (by decide) ?_
          refine q_callV X (c_fails0 (why := 2) hB104.1) Y_X13_fails tw_1246 tw_1248 sel_23 z_5r rfl (by omega) rfl rfl (Nat.le_of_ble_eq_true rfl) (rc' := 0) (rs' := 0) (by omega) (by omega) dX13_cell_76 (fun v M' hp _ => ?_)
          have m_103 : M' o = some (oB 12 [.int (nI (vm w)), .int (nI (vdp w)), .ref ola, .ref oha, .ref ova, .ref oza]) := by rw [hp.2]; exact (mU_n (g_neoo hO.1 z_5r (by decide))).trans hO.1
          have m_104 : M' ola = some (aI G 3 (vlo w)) := by rw [hp.2]; exact (mU_n (Ne.symm (g_neoa z_5r hO.2.1))).trans hO.2.1
          have m_105 : M' oha = some (aI G 3 (vhi w)) := by rw [hp.2]; exact (mU_n (Ne.symm (g_neoa z_5r hO.2.2.1))).trans hO.2.2.1
          have m_106 : M' ova = some (aJ G (wsz w) ovf) := by rw [hp.2]; exact (mU_n (Ne.symm (g_neoa z_5r hO.2.2.2.1))).trans hO.2.2.2.1
          have m_107 : M' oza = some (aZ G (wsz w) ozf) := by rw [hp.2]; exact (mU_n (Ne.symm (g_neoa z_5r hO.2.2.2.2.1))).trans hO.2.2.2.2.1
          obtain ⟨rfl, eM⟩ := hp
          have hB208 : rfB G M' r 0 σ vA nA pA plA dg dla dha dva dza dvf dzf vf nf pf tk su le gr := by rw [eM]; exact hB104.ro
          clear eM
          generalize M' = M208 at *
          show qJ G F _ 8 M208 0 0 79 [(7, .int z), (6, .int y), (5, .ref o), (0, .ref r), (1, .int (nI i)), (2, .int x), (3, .int y), (4, .int z)] [.int 0]
          obtain ⟨z_109r, z_1091, z_1092, z_1093, ⟨z_109x, z_1094⟩, z_1095, z_1096, z_1097, z_1098, z_1099, z_10910⟩ := id hB208
          refine q_if_eq X 84 dX13_cell_79 (by decide) (fun c_110 => ?_) (fun c_110 => absurd (by decide) c_110)
          obtain ⟨jx, hjx, ejx⟩ := gAt_lt hw c67
          have fr9 := frV_in c67 ejx (by have := hw.2.1; omega)
          have fr8 := frV_w hw (x := x) (y := y) (z := z)
          rw [← e6, ← e7] at fr8
          replace fr9 := fr8.symm.trans fr9
          refine q_aload_n X dX13_cell_84 3 rfl ?_
          refine q_aload X dX13_cell_85 2 rfl ?_
          refine q_get X m_103 rfl in_RX12 5 (by decide) tw_1165 rfl rfl dX13_cell_87 ?_
          refine q_aload X dX13_cell_90 2 rfl ?_
          refine q_iload_n X dX13_cell_92 5 rfl ?_
          refine q_iload X dX13_cell_93 1 rfl ?_
          refine q_iload X dX13_cell_95 0 rfl ?_
          refine q_callVp X (c_X12_at m_103 m_104 m_105) Y_X12_at tw_1269 tw_1270 tw_1271 m_103 rfl (by omega) rfl rfl (Nat.le_of_ble_eq_true rfl) dX13_cell_97 ?_
          rw [ejx]
          refine q_zaldN X jx m_107 (rfl) (hjx) (by have := hw.2.1; omega) dX13_cell_100 ?_
          refine q_if_ne X 108 dX13_cell_101 (by decide) (fun c101 => ?_) (fun c101 => ?_)
          · refine q_iconst (v := 0) X dX13_cell_108 (by decide) ?_
            refine q_iconst (v := 3) X dX13_cell_109 (by decide) ?_
            refine q_callV X (c_fails0 (why := 3) hB208.1) Y_X13_fails tw_1246 tw_1248 sel_23 z_109r rfl (by omega) rfl rfl (Nat.le_of_ble_eq_true rfl) (rc' := 0) (rs' := 0) (by omega) (by omega) dX13_cell_110 (fun v M' hp _ => ?_)
            have m_111 : M' o = some (oB 12 [.int (nI (vm w)), .int (nI (vdp w)), .ref ola, .ref oha, .ref ova, .ref oza]) := by rw [hp.2]; exact (mU_n (g_neoo m_103 z_109r (by decide))).trans m_103
            have m_112 : M' ola = some (aI G 3 (vlo w)) := by rw [hp.2]; exact (mU_n (Ne.symm (g_neoa z_109r m_104))).trans m_104
            have m_113 : M' oha = some (aI G 3 (vhi w)) := by rw [hp.2]; exact (mU_n (Ne.symm (g_neoa z_109r m_105))).trans m_105
            have m_114 : M' ova = some (aJ G (wsz w) ovf) := by rw [hp.2]; exact (mU_n (Ne.symm (g_neoa z_109r m_106))).trans m_106
            have m_115 : M' oza = some (aZ G (wsz w) ozf) := by rw [hp.2]; exact (mU_n (Ne.symm (g_neoa z_109r m_107))).trans m_107
            obtain ⟨rfl, eM⟩ := hp
            have hB216 : rfB G M' r 0 σ vA nA pA plA dg dla dha dva dza dvf dzf vf nf pf tk su le gr := by rw [eM]; exact hB208.ro
            clear eM
            generalize M' = M216 at *
            show qJ G F _ 8 M216 0 0 113 [(7, .int z), (6, .int y), (5, .ref o), (0, .ref r), (1, .int (nI i)), (2, .int x), (3, .int y), (4, .int z)] [.int 0]
            obtain ⟨z_117r, z_1171, z_1172, z_1173, ⟨z_117x, z_1174⟩, z_1175, z_1176, z_1177, z_1178, z_1179, z_11710⟩ := id hB216
            refine q_if_eq X 120 dX13_cell_113 (by decide) (fun c_118 => ?_) (fun c_118 => absurd (by decide) c_118)
            refine q_aload X dX13_cell_120 2 rfl ?_
            refine q_get X m_111 rfl in_RX12 4 (by decide) tw_1163 rfl rfl dX13_cell_122 ?_
            refine q_aload X dX13_cell_125 2 rfl ?_
            refine q_iload_n X dX13_cell_127 5 rfl ?_
            refine q_iload X dX13_cell_128 1 rfl ?_
            refine q_iload X dX13_cell_130 0 rfl ?_
            refine q_callVp X (c_X12_at m_111 m_112 m_113) Y_X12_at tw_1269 tw_1270 tw_1271 m_111 rfl (by omega) rfl rfl (Nat.le_of_ble_eq_true rfl) dX13_cell_132 ?_
            rw [ejx]
            refine q_laldN X jx m_114 (rfl) (hjx) (by have := hw.2.1; omega) dX13_cell_135 ?_
            exact q_lret X hr dX13_cell_136 (rfP_K ((gNode_y hnd).trans ((if_pos (wIx_in hw e6 e7 c67)).trans (oL_y (fr9.trans (ct_some hO.2.2.2.2.2 hjx c101))))) ⟨vA, nA, pA, plA, dg, dla, dha, dva, dza, dvf, dzf, vf, nf, pf, tk, su, le, gr, hB216⟩)
          · refine q_iconst (v := 1) X dX13_cell_104 (by decide) ?_
            refine q_goto X 109 dX13_cell_105 (by decide) ?_
            refine q_iconst (v := 3) X dX13_cell_109 (by decide) ?_
            refine q_callV X (c_fails1 (why := 3) hB208.1) Y_X13_fails tw_1246 tw_1248 sel_23 z_109r rfl (by omega) rfl rfl (Nat.le_of_ble_eq_true rfl) (rc' := 0) (rs' := 0) (by omega) (by omega) dX13_cell_110 (fun v M' hp _ => ?_)
            have m_119 : M' o = some (oB 12 [.int (nI (vm w)), .int (nI (vdp w)), .ref ola, .ref oha, .ref ova, .ref oza]) := by rw [hp.2]; exact (mU_n (g_neoo m_103 z_109r (by decide))).trans m_103
            have m_120 : M' ola = some (aI G 3 (vlo w)) := by rw [hp.2]; exact (mU_n (Ne.symm (g_neoa z_109r m_104))).trans m_104
            have m_121 : M' oha = some (aI G 3 (vhi w)) := by rw [hp.2]; exact (mU_n (Ne.symm (g_neoa z_109r m_105))).trans m_105
            have m_122 : M' ova = some (aJ G (wsz w) ovf) := by rw [hp.2]; exact (mU_n (Ne.symm (g_neoa z_109r m_106))).trans m_106
            have m_123 : M' oza = some (aZ G (wsz w) ozf) := by rw [hp.2]; exact (mU_n (Ne.symm (g_neoa z_109r m_107))).trans m_107
            obtain ⟨rfl, eM⟩ := hp
            have hB224 : rfB G M' r 3 σ vA nA pA plA dg dla dha dva dza dvf dzf vf nf pf tk su le gr := by rw [eM]; exact hB208.ro
            clear eM
            generalize M' = M224 at *
            show qJ G F _ 8 M224 0 0 113 [(7, .int z), (6, .int y), (5, .ref o), (0, .ref r), (1, .int (nI i)), (2, .int x), (3, .int y), (4, .int z)] [.int 1]
            obtain ⟨z_125r, z_1251, z_1252, z_1253, ⟨z_125x, z_1254⟩, z_1255, z_1256, z_1257, z_1258, z_1259, z_12510⟩ := id hB224
            refine q_if_eq X 120 dX13_cell_113 (by decide) (fun c_126 => absurd c_126 (by decide)) (fun c_126 => ?_)
            refine q_lconst (v := 0) X dX13_cell_116 (by decide) ?_
            refine q_goto X 136 dX13_cell_117 (by decide) ?_
            exact q_lret X hr dX13_cell_136 (rfP_T ((gNode_y hnd).trans ((if_pos (wIx_in hw e6 e7 c67)).trans (oL_n (fr9.trans (ct_none hO.2.2.2.2.2 hjx c101))))) cOp_UO ⟨vA, nA, pA, plA, dg, dla, dha, dva, dza, dvf, dzf, vf, nf, pf, tk, su, le, gr, hB224⟩)
        · refine q_iconst (v := 1) X dX13_cell_70 (by decide) ?_
          refine q_goto X 75 dX13_cell_71 (by decide) ?_
          refine q_iconst (v := 2) X dX13_cell_75 (by decide) ?_
          refine q_callV X (c_fails1 (why := 2) hB104.1) Y_X13_fails tw_1246 tw_1248 sel_23 z_5r rfl (by omega) rfl rfl (Nat.le_of_ble_eq_true rfl) (rc' := 0) (rs' := 0) (by omega) (by omega) dX13_cell_76 (fun v M' hp _ => ?_)
          have m_127 : M' o = some (oB 12 [.int (nI (vm w)), .int (nI (vdp w)), .ref ola, .ref oha, .ref ova, .ref oza]) := by rw [hp.2]; exact (mU_n (g_neoo hO.1 z_5r (by decide))).trans hO.1
          have m_128 : M' ola = some (aI G 3 (vlo w)) := by rw [hp.2]; exact (mU_n (Ne.symm (g_neoa z_5r hO.2.1))).trans hO.2.1
          have m_129 : M' oha = some (aI G 3 (vhi w)) := by rw [hp.2]; exact (mU_n (Ne.symm (g_neoa z_5r hO.2.2.1))).trans hO.2.2.1
          have m_130 : M' ova = some (aJ G (wsz w) ovf) := by rw [hp.2]; exact (mU_n (Ne.symm (g_neoa z_5r hO.2.2.2.1))).trans hO.2.2.2.1
          have m_131 : M' oza = some (aZ G (wsz w) ozf) := by rw [hp.2]; exact (mU_n (Ne.symm (g_neoa z_5r hO.2.2.2.2.1))).trans hO.2.2.2.2.1
          obtain ⟨rfl, eM⟩ := hp
          have hB232 : rfB G M' r 2 σ vA nA pA plA dg dla dha dva dza dvf dzf vf nf pf tk su le gr := by rw [eM]; exact hB104.ro
          clear eM
          generalize M' = M232 at *
          show qJ G F _ 8 M232 0 0 79 [(7, .int z), (6, .int y), (5, .ref o), (0, .ref r), (1, .int (nI i)), (2, .int x), (3, .int y), (4, .int z)] [.int 1]
          obtain ⟨z_133r, z_1331, z_1332, z_1333, ⟨z_133x, z_1334⟩, z_1335, z_1336, z_1337, z_1338, z_1339, z_13310⟩ := id hB232
          refine q_if_eq X 84 dX13_cell_79 (by decide) (fun c_134 => absurd c_134 (by decide)) (fun c_134 => ?_)
          refine q_lconst (v := 0) X dX13_cell_82 (by decide) ?_
          exact q_lret X hr dX13_cell_83 (rfP_T ((gNode_y hnd).trans (if_neg (wIx_out hw e6 e7 c67))) cOp_IO ⟨vA, nA, pA, plA, dg, dla, dha, dva, dza, dvf, dzf, vf, nf, pf, tk, su, le, gr, hB232⟩)

set_option maxRecDepth 20000 in
theorem c_nothing {l : Launch} {G : gV} {M : gMem} {r : Nat} {w0 w1 w2 w3 w4 w5 w6 w7 w8 w9 : Value} {tk : Int32} {su le gr : Int64} (hA : M r = some (oB 13 [w0, w1, w2, w3, w4, w5, w6, w7, w8, w9, .int tk, .long su, .long le, .long gr])) : qC l G yX13_nothing cX13_nothing 1 none 1 0 0 [.ref r] M (pV (mU M r (oB 13 [w0, w1, w2, w3, w4, w5, w6, w7, w8, w9, .int (nI 0), .long 0, .long le, .long gr]))) := by
  refine qC_of (by decide +kernel) (Nat.le_of_ble_eq_true rfl) (fun F hF X hr hn => ?_)
  subst hF
  have X : qX G F cX13_nothing 1 RX13 1 := X
  show qJ G F _ 1 M 0 0 0 [(0, .ref r)] []
  refine q_aload_n X dX13_nothing_0 0 rfl ?_
  refine q_iconst (v := 0) X dX13_nothing_1 (by decide) ?_
  refine q_put X hA rfl in_RX13 tyX13 tyX13_ok nmX13 10 (by decide) tw_1204 rfl rfl rfl rfl rfl (Nat.le_of_ble_eq_true rfl) (fs1 := [w0, w1, w2, w3, w4, w5, w6, w7, w8, w9, .int 0, .long su, .long le, .long gr]) rfl dX13_nothing_2 ?_
  have m_1 : (mU M r (oB 13 [w0, w1, w2, w3, w4, w5, w6, w7, w8, w9, .int 0, .long su, .long le, .long gr])) r = some (oB 13 [w0, w1, w2, w3, w4, w5, w6, w7, w8, w9, .int 0, .long su, .long le, .long gr]) := mU_s
  refine q_aload_n X dX13_nothing_5 0 rfl ?_
  refine q_lconst (v := 0) X dX13_nothing_6 (by decide) ?_
  refine q_put X m_1 rfl in_RX13 tyX13 tyX13_ok nmX13 11 (by decide) tw_1205 rfl rfl rfl rfl rfl (Nat.le_of_ble_eq_true rfl) (fs1 := [w0, w1, w2, w3, w4, w5, w6, w7, w8, w9, .int 0, .long 0, .long le, .long gr]) rfl dX13_nothing_7 ?_
  have m_2 : (mU (mU M r (oB 13 [w0, w1, w2, w3, w4, w5, w6, w7, w8, w9, .int 0, .long su, .long le, .long gr])) r (oB 13 [w0, w1, w2, w3, w4, w5, w6, w7, w8, w9, .int 0, .long 0, .long le, .long gr])) r = some (oB 13 [w0, w1, w2, w3, w4, w5, w6, w7, w8, w9, .int 0, .long 0, .long le, .long gr]) := mU_s
  exact q_vret X hr dX13_nothing_10 (⟨rfl, by rw [mU_mU]; rfl⟩)

set_option maxRecDepth 20000 in
theorem c_take {l : Launch} {G : gV} {M : gMem} {r : Nat} {w0 w1 w2 w3 w4 w5 w6 w7 w8 w9 : Value} {t : tT} (hA : M r = some (oB 13 [w0, w1, w2, w3, w4, w5, w6, w7, w8, w9, .int (nI t.1), .long t.2.1, .long t.2.2.1, .long t.2.2.2])) {o ola oha ova oza : Nat} {ovf : Nat → Int64} {ozf : Nat → Int32} {w : vN} (hw : vOk w) (hO : isGrX G M o ola oha ova oza ovf ozf w) (ht : t.1 < 2 ^ 30) {x y z : Int32} : qC l G yX13_take cX13_take 7 none 3 0 0 [.ref r, .ref o, .int x, .int y, .int z] M (pV (mU M r (oB 13 [w0, w1, w2, w3, w4, w5, w6, w7, w8, w9, .int (nI (tkU (frV w x y z) t).1), .long (tkU (frV w x y z) t).2.1, .long (tkU (frV w x y z) t).2.2.1, .long (tkU (frV w x y z) t).2.2.2]))) := by
  refine qC_of (by decide +kernel) (Nat.le_of_ble_eq_true rfl) (fun F hF X hr hn => ?_)
  subst hF
  have X : qX G F cX13_take 7 RX13 3 := X
  show qJ G F _ 7 M 0 0 0 [(0, .ref r), (1, .ref o), (2, .int x), (3, .int y), (4, .int z)] []
  refine q_aload_n X dX13_take_0 1 rfl ?_
  refine q_iload_n X dX13_take_1 2 rfl ?_
  refine q_iload_n X dX13_take_2 3 rfl ?_
  refine q_iload X dX13_take_3 4 rfl ?_
  refine q_callVp X (c_X12_in hO.1 hO.2.1 hO.2.2.1) Y_X12_in tw_1261 tw_1262 tw_1263 hO.1 rfl (by omega) rfl rfl (Nat.le_of_ble_eq_true rfl) dX13_take_5 ?_
  refine q_if_eq X 27 dX13_take_8 (by decide) (fun c8 => ?_) (fun c8 => ?_)
  · exact q_vret X hr dX13_take_27 (⟨rfl, by rw [frV_no c8]; exact (mU_id hA).symm⟩)
  · obtain ⟨jx, hjx, ejx⟩ := gAt_lt hw c8
    have hz4 := hw.2.1
    refine q_aload_n X dX13_take_11 1 rfl ?_
    refine q_get X hO.1 rfl in_RX12 5 (by decide) tw_1165 rfl rfl dX13_take_12 ?_
    refine q_aload_n X dX13_take_15 1 rfl ?_
    refine q_iload_n X dX13_take_16 2 rfl ?_
    refine q_iload_n X dX13_take_17 3 rfl ?_
    refine q_iload X dX13_take_18 4 rfl ?_
    refine q_callVp X (c_X12_at hO.1 hO.2.1 hO.2.2.1) Y_X12_at tw_1269 tw_1270 tw_1271 hO.1 rfl (by omega) rfl rfl (Nat.le_of_ble_eq_true rfl) dX13_take_20 ?_
    rw [ejx]
    refine q_zaldN X jx hO.2.2.2.2.1 (rfl) (hjx) (by omega) dX13_take_23 ?_
    refine q_if_ne X 28 dX13_take_24 (by decide) (fun c24 => ?_) (fun c24 => ?_)
    · refine q_aload_n X dX13_take_28 1 rfl ?_
      refine q_get X hO.1 rfl in_RX12 4 (by decide) tw_1163 rfl rfl dX13_take_29 ?_
      refine q_aload_n X dX13_take_32 1 rfl ?_
      refine q_iload_n X dX13_take_33 2 rfl ?_
      refine q_iload_n X dX13_take_34 3 rfl ?_
      refine q_iload X dX13_take_35 4 rfl ?_
      refine q_callVp X (c_X12_at hO.1 hO.2.1 hO.2.2.1) Y_X12_at tw_1269 tw_1270 tw_1271 hO.1 rfl (by omega) rfl rfl (Nat.le_of_ble_eq_true rfl) dX13_take_37 ?_
      rw [ejx]
      refine q_laldN X jx hO.2.2.2.1 (rfl) (hjx) (by omega) dX13_take_40 ?_
      refine q_lstore (lv' := [(5, .long (ovf jx)), (0, .ref r), (1, .ref o), (2, .int x), (3, .int y), (4, .int z)]) X dX13_take_41 (by decide) rfl ?_
      refine q_aload_n X dX13_take_43 1 rfl ?_
      refine q_dup X dX13_take_44 rfl ?_
      refine q_get X hA rfl in_RX13 11 (by decide) tw_1205 rfl rfl dX13_take_45 ?_
      refine q_lload X dX13_take_48 0 rfl ?_
      refine q_ladd X dX13_take_50 ?_
      refine q_put X hA rfl in_RX13 tyX13 tyX13_ok nmX13 11 (by decide) tw_1205 rfl rfl rfl rfl rfl (Nat.le_of_ble_eq_true rfl) (fs1 := [w0, w1, w2, w3, w4, w5, w6, w7, w8, w9, .int (nI t.1), .long (t.2.1 + (ovf jx)), .long t.2.2.1, .long t.2.2.2]) rfl dX13_take_51 ?_
      have m_1 : (mU M r (oB 13 [w0, w1, w2, w3, w4, w5, w6, w7, w8, w9, .int (nI t.1), .long (t.2.1 + (ovf jx)), .long t.2.2.1, .long t.2.2.2])) r = some (oB 13 [w0, w1, w2, w3, w4, w5, w6, w7, w8, w9, .int (nI t.1), .long (t.2.1 + (ovf jx)), .long t.2.2.1, .long t.2.2.2]) := mU_s
      refine q_aload_n X dX13_take_54 1 rfl ?_
      refine q_aload_n X dX13_take_55 1 rfl ?_
      refine q_get X m_1 rfl in_RX13 10 (by decide) tw_1204 rfl rfl dX13_take_56 ?_
      refine q_if_ne X 67 dX13_take_59 (by decide) (fun c59 => ?_) (fun c59 => ?_)
      · refine q_aload_n X dX13_take_67 1 rfl ?_
        refine q_get X m_1 rfl in_RX13 12 (by decide) tw_1206 rfl rfl dX13_take_68 ?_
        refine q_lload X dX13_take_71 0 rfl ?_
        refine q_callSp X (c_J9_min_f86c9) Y_J9_min_f86c9 tw_1395 tw_1035 (by omega) rfl rfl (Nat.le_of_ble_eq_true rfl) dX13_take_73 ?_
        refine q_put X m_1 rfl in_RX13 tyX13 tyX13_ok nmX13 12 (by decide) tw_1206 rfl rfl rfl rfl rfl (Nat.le_of_ble_eq_true rfl) (fs1 := [w0, w1, w2, w3, w4, w5, w6, w7, w8, w9, .int (nI t.1), .long (t.2.1 + (ovf jx)), .long (mnJ t.2.2.1 (ovf jx)), .long t.2.2.2]) rfl dX13_take_76 ?_
        have m_2 : (mU (mU M r (oB 13 [w0, w1, w2, w3, w4, w5, w6, w7, w8, w9, .int (nI t.1), .long (t.2.1 + (ovf jx)), .long t.2.2.1, .long t.2.2.2])) r (oB 13 [w0, w1, w2, w3, w4, w5, w6, w7, w8, w9, .int (nI t.1), .long (t.2.1 + (ovf jx)), .long (mnJ t.2.2.1 (ovf jx)), .long t.2.2.2])) r = some (oB 13 [w0, w1, w2, w3, w4, w5, w6, w7, w8, w9, .int (nI t.1), .long (t.2.1 + (ovf jx)), .long (mnJ t.2.2.1 (ovf jx)), .long t.2.2.2]) := mU_s
        refine q_aload_n X dX13_take_79 1 rfl ?_
        refine q_aload_n X dX13_take_80 1 rfl ?_
        refine q_get X m_2 rfl in_RX13 10 (by decide) tw_1204 rfl rfl dX13_take_81 ?_
        refine q_if_ne X 92 dX13_take_84 (by decide) (fun c84 => ?_) (fun c84 => absurd c84 c59)
        have z0 : ¬ t.1 = 0 := fun z => c84 (by rw [z]; rfl)
        refine q_aload_n X dX13_take_92 1 rfl ?_
        refine q_get X m_2 rfl in_RX13 13 (by decide) tw_1207 rfl rfl dX13_take_93 ?_
        refine q_lload X dX13_take_96 0 rfl ?_
        refine q_callSp X (c_J9_max_f86c9) Y_J9_max_f86c9 tw_1396 tw_1038 (by omega) rfl rfl (Nat.le_of_ble_eq_true rfl) dX13_take_98 ?_
        refine q_put X m_2 rfl in_RX13 tyX13 tyX13_ok nmX13 13 (by decide) tw_1207 rfl rfl rfl rfl rfl (Nat.le_of_ble_eq_true rfl) (fs1 := [w0, w1, w2, w3, w4, w5, w6, w7, w8, w9, .int (nI t.1), .long (t.2.1 + (ovf jx)), .long (mnJ t.2.2.1 (ovf jx)), .long (mxJ t.2.2.2 (ovf jx))]) rfl dX13_take_101 ?_
        have m_3 : (mU (mU (mU M r (oB 13 [w0, w1, w2, w3, w4, w5, w6, w7, w8, w9, .int (nI t.1), .long (t.2.1 + (ovf jx)), .long t.2.2.1, .long t.2.2.2])) r (oB 13 [w0, w1, w2, w3, w4, w5, w6, w7, w8, w9, .int (nI t.1), .long (t.2.1 + (ovf jx)), .long (mnJ t.2.2.1 (ovf jx)), .long t.2.2.2])) r (oB 13 [w0, w1, w2, w3, w4, w5, w6, w7, w8, w9, .int (nI t.1), .long (t.2.1 + (ovf jx)), .long (mnJ t.2.2.1 (ovf jx)), .long (mxJ t.2.2.2 (ovf jx))])) r = some (oB 13 [w0, w1, w2, w3, w4, w5, w6, w7, w8, w9, .int (nI t.1), .long (t.2.1 + (ovf jx)), .long (mnJ t.2.2.1 (ovf jx)), .long (mxJ t.2.2.2 (ovf jx))]) := mU_s
        refine q_aload_n X dX13_take_104 1 rfl ?_
        refine q_dup X dX13_take_105 rfl ?_
        refine q_get X m_3 rfl in_RX13 10 (by decide) tw_1204 rfl rfl dX13_take_106 ?_
        refine q_iconst (v := 1) X dX13_take_109 (by decide) ?_
        refine q_iadd X dX13_take_110 ?_
        refine q_put X m_3 rfl in_RX13 tyX13 tyX13_ok nmX13 10 (by decide) tw_1204 rfl rfl rfl rfl rfl (Nat.le_of_ble_eq_true rfl) (fs1 := [w0, w1, w2, w3, w4, w5, w6, w7, w8, w9, .int ((nI t.1) + 1), .long (t.2.1 + (ovf jx)), .long (mnJ t.2.2.1 (ovf jx)), .long (mxJ t.2.2.2 (ovf jx))]) rfl dX13_take_111 ?_
        have m_4 : (mU (mU (mU (mU M r (oB 13 [w0, w1, w2, w3, w4, w5, w6, w7, w8, w9, .int (nI t.1), .long (t.2.1 + (ovf jx)), .long t.2.2.1, .long t.2.2.2])) r (oB 13 [w0, w1, w2, w3, w4, w5, w6, w7, w8, w9, .int (nI t.1), .long (t.2.1 + (ovf jx)), .long (mnJ t.2.2.1 (ovf jx)), .long t.2.2.2])) r (oB 13 [w0, w1, w2, w3, w4, w5, w6, w7, w8, w9, .int (nI t.1), .long (t.2.1 + (ovf jx)), .long (mnJ t.2.2.1 (ovf jx)), .long (mxJ t.2.2.2 (ovf jx))])) r (oB 13 [w0, w1, w2, w3, w4, w5, w6, w7, w8, w9, .int ((nI t.1) + 1), .long (t.2.1 + (ovf jx)), .long (mnJ t.2.2.1 (ovf jx)), .long (mxJ t.2.2.2 (ovf jx))])) r = some (oB 13 [w0, w1, w2, w3, w4, w5, w6, w7, w8, w9, .int ((nI t.1) + 1), .long (t.2.1 + (ovf jx)), .long (mnJ t.2.2.1 (ovf jx)), .long (mxJ t.2.2.2 (ovf jx))]) := mU_s
        exact q_vret X hr dX13_take_114 (⟨rfl, by rw [frV_in c8 ejx (by omega), ct_some hO.2.2.2.2.2 hjx c24, mU_mU, mU_mU, mU_mU]; unfold tkU; simp only [if_neg z0, nI_1]⟩)
      · refine q_lload X dX13_take_62 0 rfl ?_
        refine q_goto X 76 dX13_take_64 (by decide) ?_
        refine q_put X m_1 rfl in_RX13 tyX13 tyX13_ok nmX13 12 (by decide) tw_1206 rfl rfl rfl rfl rfl (Nat.le_of_ble_eq_true rfl) (fs1 := [w0, w1, w2, w3, w4, w5, w6, w7, w8, w9, .int (nI t.1), .long (t.2.1 + (ovf jx)), .long (ovf jx), .long t.2.2.2]) rfl dX13_take_76 ?_
        have m_5 : (mU (mU M r (oB 13 [w0, w1, w2, w3, w4, w5, w6, w7, w8, w9, .int (nI t.1), .long (t.2.1 + (ovf jx)), .long t.2.2.1, .long t.2.2.2])) r (oB 13 [w0, w1, w2, w3, w4, w5, w6, w7, w8, w9, .int (nI t.1), .long (t.2.1 + (ovf jx)), .long (ovf jx), .long t.2.2.2])) r = some (oB 13 [w0, w1, w2, w3, w4, w5, w6, w7, w8, w9, .int (nI t.1), .long (t.2.1 + (ovf jx)), .long (ovf jx), .long t.2.2.2]) := mU_s
        refine q_aload_n X dX13_take_79 1 rfl ?_
        refine q_aload_n X dX13_take_80 1 rfl ?_
        refine q_get X m_5 rfl in_RX13 10 (by decide) tw_1204 rfl rfl dX13_take_81 ?_
        refine q_if_ne X 92 dX13_take_84 (by decide) (fun c84 => absurd c59 c84) (fun c84 => ?_)
        have z0 : t.1 = 0 := nI_inj (by omega) (by decide) (show nI t.1 = nI 0 from c84)
        refine q_lload X dX13_take_87 0 rfl ?_
        refine q_goto X 101 dX13_take_89 (by decide) ?_
        refine q_put X m_5 rfl in_RX13 tyX13 tyX13_ok nmX13 13 (by decide) tw_1207 rfl rfl rfl rfl rfl (Nat.le_of_ble_eq_true rfl) (fs1 := [w0, w1, w2, w3, w4, w5, w6, w7, w8, w9, .int (nI t.1), .long (t.2.1 + (ovf jx)), .long (ovf jx), .long (ovf jx)]) rfl dX13_take_101 ?_
        have m_6 : (mU (mU (mU M r (oB 13 [w0, w1, w2, w3, w4, w5, w6, w7, w8, w9, .int (nI t.1), .long (t.2.1 + (ovf jx)), .long t.2.2.1, .long t.2.2.2])) r (oB 13 [w0, w1, w2, w3, w4, w5, w6, w7, w8, w9, .int (nI t.1), .long (t.2.1 + (ovf jx)), .long (ovf jx), .long t.2.2.2])) r (oB 13 [w0, w1, w2, w3, w4, w5, w6, w7, w8, w9, .int (nI t.1), .long (t.2.1 + (ovf jx)), .long (ovf jx), .long (ovf jx)])) r = some (oB 13 [w0, w1, w2, w3, w4, w5, w6, w7, w8, w9, .int (nI t.1), .long (t.2.1 + (ovf jx)), .long (ovf jx), .long (ovf jx)]) := mU_s
        refine q_aload_n X dX13_take_104 1 rfl ?_
        refine q_dup X dX13_take_105 rfl ?_
        refine q_get X m_6 rfl in_RX13 10 (by decide) tw_1204 rfl rfl dX13_take_106 ?_
        refine q_iconst (v := 1) X dX13_take_109 (by decide) ?_
        refine q_iadd X dX13_take_110 ?_
        refine q_put X m_6 rfl in_RX13 tyX13 tyX13_ok nmX13 10 (by decide) tw_1204 rfl rfl rfl rfl rfl (Nat.le_of_ble_eq_true rfl) (fs1 := [w0, w1, w2, w3, w4, w5, w6, w7, w8, w9, .int ((nI t.1) + 1), .long (t.2.1 + (ovf jx)), .long (ovf jx), .long (ovf jx)]) rfl dX13_take_111 ?_
        have m_7 : (mU (mU (mU (mU M r (oB 13 [w0, w1, w2, w3, w4, w5, w6, w7, w8, w9, .int (nI t.1), .long (t.2.1 + (ovf jx)), .long t.2.2.1, .long t.2.2.2])) r (oB 13 [w0, w1, w2, w3, w4, w5, w6, w7, w8, w9, .int (nI t.1), .long (t.2.1 + (ovf jx)), .long (ovf jx), .long t.2.2.2])) r (oB 13 [w0, w1, w2, w3, w4, w5, w6, w7, w8, w9, .int (nI t.1), .long (t.2.1 + (ovf jx)), .long (ovf jx), .long (ovf jx)])) r (oB 13 [w0, w1, w2, w3, w4, w5, w6, w7, w8, w9, .int ((nI t.1) + 1), .long (t.2.1 + (ovf jx)), .long (ovf jx), .long (ovf jx)])) r = some (oB 13 [w0, w1, w2, w3, w4, w5, w6, w7, w8, w9, .int ((nI t.1) + 1), .long (t.2.1 + (ovf jx)), .long (ovf jx), .long (ovf jx)]) := mU_s
        exact q_vret X hr dX13_take_114 (⟨rfl, by rw [frV_in c8 ejx (by omega), ct_some hO.2.2.2.2.2 hjx c24, mU_mU, mU_mU, mU_mU]; unfold tkU; simp only [if_pos z0, nI_1]⟩)
    · exact q_vret X hr dX13_take_27 (⟨rfl, by rw [frV_in c8 ejx (by omega), ct_none hO.2.2.2.2.2 hjx c24]; exact (mU_id hA).symm⟩)

set_option maxRecDepth 20000 in
theorem c_together {l : Launch} {G : gV} {M : gMem} {r : Nat} {w0 w1 w2 w3 w4 w5 w6 w7 w8 w9 : Value} {t : tT} (hA : M r = some (oB 13 [w0, w1, w2, w3, w4, w5, w6, w7, w8, w9, .int (nI t.1), .long t.2.1, .long t.2.2.1, .long t.2.2.2])) {what : Int32} : qC l G yX13_together cX13_together 2 (some .long) 1 0 0 [.ref r, .int what] M (pP (.long (tgV what t)) M) := by
  refine qC_of (by decide +kernel) (Nat.le_of_ble_eq_true rfl) (fun F hF X hr hn => ?_)
  subst hF
  have X : qX G F cX13_together 2 RX13 1 := X
  show qJ G F _ 2 M 0 0 0 [(0, .ref r), (1, .int what)] []
  refine q_iload_n X dX13_together_0 1 rfl ?_
  refine q_if_ne X 11 dX13_together_1 (by decide) (fun d0 => ?_) (fun d0 => ?_)
  · refine q_iload_n X dX13_together_11 1 rfl ?_
    refine q_iconst (v := 1) X dX13_together_12 (by decide) ?_
    refine q_icmp_ne X 24 dX13_together_13 (by decide) (fun d1 => ?_) (fun d1 => ?_)
    · refine q_iload_n X dX13_together_24 1 rfl ?_
      refine q_iconst (v := 2) X dX13_together_25 (by decide) ?_
      refine q_icmp_ne X 36 dX13_together_26 (by decide) (fun d2 => ?_) (fun d2 => ?_)
      · refine q_aload_n X dX13_together_36 0 rfl ?_
        refine q_get X hA rfl in_RX13 13 (by decide) tw_1207 rfl rfl dX13_together_37 ?_
        exact q_lret X hr dX13_together_40 (⟨congrArg (fun z => some (Value.long z)) (by unfold tgV; rw [if_neg d0, if_neg d1, if_neg d2]), rfl⟩)
      · refine q_aload_n X dX13_together_29 0 rfl ?_
        refine q_get X hA rfl in_RX13 12 (by decide) tw_1206 rfl rfl dX13_together_30 ?_
        refine q_goto X 40 dX13_together_33 (by decide) ?_
        exact q_lret X hr dX13_together_40 (⟨congrArg (fun z => some (Value.long z)) (by unfold tgV; rw [if_neg d0, if_neg d1, if_pos d2]), rfl⟩)
    · refine q_aload_n X dX13_together_16 0 rfl ?_
      refine q_get X hA rfl in_RX13 10 (by decide) tw_1204 rfl rfl dX13_together_17 ?_
      refine q_i2l X dX13_together_20 ?_
      refine q_goto X 40 dX13_together_21 (by decide) ?_
      exact q_lret X hr dX13_together_40 (⟨congrArg (fun z => some (Value.long z)) (by unfold tgV; rw [if_neg d0, if_pos d1]), rfl⟩)
  · refine q_aload_n X dX13_together_4 0 rfl ?_
    refine q_get X hA rfl in_RX13 11 (by decide) tw_1205 rfl rfl dX13_together_5 ?_
    refine q_goto X 40 dX13_together_8 (by decide) ?_
    exact q_lret X hr dX13_together_40 (⟨congrArg (fun z => some (Value.long z)) (by unfold tgV; rw [if_pos d0]), rfl⟩)

theorem mU_sw {M : gMem} {a b : Nat} {x y : va_E} (h : a ≠ b) : mU (mU M b y) a x = mU (mU M a x) b y := by
  funext q; unfold mU
  by_cases h1 : q = a
  · subst h1; rw [if_pos rfl, if_neg h, if_pos rfl]
  · rw [if_neg h1, if_neg h1]

set_option maxRecDepth 20000 in
theorem c_give {l : Launch} {G : gV} {M : gMem} {r : Nat} {w0 w1 w2 w3 w4 w5 w6 w7 w8 w9 : Value} {t : tT} (hA : M r = some (oB 13 [w0, w1, w2, w3, w4, w5, w6, w7, w8, w9, .int (nI t.1), .long t.2.1, .long t.2.2.1, .long t.2.2.2])) {q va za n jx : Nat} {u0 u1 u2 u3 : Value} {vf : Nat → Int64} {zf : Nat → Int32} (h1 : M q = some (oB 12 [u0, u1, u2, u3, .ref va, .ref za])) (h2 : M va = some (aJ G n vf)) (h3 : M za = some (aZ G n zf)) (hjx : jx < n) (hn9 : n ≤ 4096) (ht : t.1 < 2 ^ 30) {what : Int32} : qC l G yX13_give cX13_give 4 none 2 0 0 [.ref r, .ref q, .int (nI jx), .int what] M (pV (mU (mU M va (aJ G n (upL vf jx (if t.1 = 0 then none else some (tgV what t))))) za (aZ G n (upZ zf jx (if t.1 = 0 then none else some (tgV what t)))))) := by
  refine qC_of (by decide +kernel) (Nat.le_of_ble_eq_true rfl) (fun F hF X hr hn => ?_)
  subst hF
  have X : qX G F cX13_give 4 RX13 2 := X
  have nvz : va ≠ za := g_neaa h2 h3 (fun z => by simp at z)
  show qJ G F _ 4 M 0 0 0 [(0, .ref r), (1, .ref q), (2, .int (nI jx)), (3, .int what)] []
  refine q_aload_n X dX13_give_0 0 rfl ?_
  refine q_get X hA rfl in_RX13 10 (by decide) tw_1204 rfl rfl dX13_give_1 ?_
  refine q_if_ne X 8 dX13_give_4 (by decide) (fun c4 => ?_) (fun c4 => ?_)
  · refine q_aload_n X dX13_give_8 1 rfl ?_
    refine q_get X h1 rfl in_RX12 5 (by decide) tw_1165 rfl rfl dX13_give_9 ?_
    refine q_iload_n X dX13_give_12 2 rfl ?_
    refine q_iconst (v := 1) X dX13_give_13 (by decide) ?_
    refine q_zastN X jx h3 (rfl) (hjx) (by omega) (Or.inr rfl) dX13_give_14 ?_
    have m_1 : (mU M za (aZ G n (upd zf jx 1))) r = some (oB 13 [w0, w1, w2, w3, w4, w5, w6, w7, w8, w9, .int (nI t.1), .long t.2.1, .long t.2.2.1, .long t.2.2.2]) := (mU_n (g_neoa hA h3)).trans hA
    have m_2 : (mU M za (aZ G n (upd zf jx 1))) q = some (oB 12 [u0, u1, u2, u3, .ref va, .ref za]) := (mU_n (g_neoa h1 h3)).trans h1
    have m_3 : (mU M za (aZ G n (upd zf jx 1))) va = some (aJ G n vf) := (mU_n (nvz)).trans h2
    have m_4 : (mU M za (aZ G n (upd zf jx 1))) za = some (aZ G n (upd zf jx 1)) := mU_s
    refine q_aload_n X dX13_give_15 1 rfl ?_
    refine q_get X m_2 rfl in_RX12 4 (by decide) tw_1163 rfl rfl dX13_give_16 ?_
    refine q_iload_n X dX13_give_19 2 rfl ?_
    refine q_aload_n X dX13_give_20 0 rfl ?_
    refine q_iload_n X dX13_give_21 3 rfl ?_
    refine q_callVp X (c_together m_1) Y_X13_together tw_1421 tw_1423 sel_37 m_1 rfl (by omega) rfl rfl (Nat.le_of_ble_eq_true rfl) dX13_give_22 ?_
    refine q_lastN X jx m_3 (rfl) (hjx) (by omega) dX13_give_25 ?_
    have m_5 : (mU (mU M za (aZ G n (upd zf jx 1))) va (aJ G n (vp_updL vf jx (tgV what t)))) r = some (oB 13 [w0, w1, w2, w3, w4, w5, w6, w7, w8, w9, .int (nI t.1), .long t.2.1, .long t.2.2.1, .long t.2.2.2]) := (mU_n (g_neoa m_1 m_3)).trans m_1
    have m_6 : (mU (mU M za (aZ G n (upd zf jx 1))) va (aJ G n (vp_updL vf jx (tgV what t)))) q = some (oB 12 [u0, u1, u2, u3, .ref va, .ref za]) := (mU_n (g_neoa m_2 m_3)).trans m_2
    have m_7 : (mU (mU M za (aZ G n (upd zf jx 1))) va (aJ G n (vp_updL vf jx (tgV what t)))) va = some (aJ G n (vp_updL vf jx (tgV what t))) := mU_s
    have m_8 : (mU (mU M za (aZ G n (upd zf jx 1))) va (aJ G n (vp_updL vf jx (tgV what t)))) za = some (aZ G n (upd zf jx 1)) := (mU_n (Ne.symm (nvz))).trans m_4
    exact q_vret X hr dX13_give_26 (⟨rfl, by rw [if_neg (fun z => c4 (by rw [z]; rfl))]; exact mU_sw nvz⟩)
  · exact q_vret X hr dX13_give_7 (⟨rfl, by rw [if_pos (nI_inj (by omega) (by decide) (show nI t.1 = nI 0 from c4))]; unfold upL upZ; rw [mU_id h2, mU_id h3]⟩)
