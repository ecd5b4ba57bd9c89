/-! GridVault$Tally -/
theorem talR_le (N : gN) (s : Nat) (what start step : Int32) (k : Nat) : (talR N s what start step k).1 ≤ k := by
  induction k with
  | zero => exact Nat.le_refl 0
  | succ k ih =>
    unfold talR
    cases nAt N s (start + nI k * step) with
    | none => show (talR N s what start step k).1 ≤ _; omega
    | some v => show (talR N s what start step k).1 + 1 ≤ _; omega
theorem talR_n {N : gN} {s : Nat} {what start step : Int32} {k : Nat} (h : nAt N s (start + nI k * step) = none) : talR N s what start step (k + 1) = talR N s what start step k := by simp only [talR, h]
theorem talR_s {N : gN} {s : Nat} {what start step : Int32} {k : Nat} {v : Int64} (h : nAt N s (start + nI k * step) = some v) : talR N s what start step (k + 1) = talS what (talR N s what start step k) v := by simp only [talR, h]
theorem nI_z {t : Nat} (ht : t ≤ 4096) : nI t = 0 ↔ t = 0 := by rw [← nI_0, nI_eq (by omega) (by decide)]

set_option maxRecDepth 20000 in
theorem c_X8_isOfNone {l : Launch} {G : gV} {M : gMem} {ta t : Nat} {what : Int32} {r : Int64} (hT : M ta = some (oB 8 [.int what, .int (nI t), .long r])) (ht : t ≤ 4096) : qC l G yX8_isOfNone cX8_isOfNone 1 (some .boolean) 1 0 0 [.ref ta] M (pP (.int (bI (decide (t = 0)))) M) := by
  refine qC_of (by decide +kernel) (Nat.le_of_ble_eq_true rfl) (fun F hF X hr hn => ?_)
  subst hF
  have X : qX G F cX8_isOfNone 1 RX8 1 := X
  show qJ G F _ 1 M 0 0 0 [(0, .ref ta)] []
  refine q_aload_n X dX8_isOfNone_0 0 rfl ?_
  refine q_get X hT rfl in_RX8 1 (by decide) tw_844 rfl rfl dX8_isOfNone_1 ?_
  refine q_if_ne X 11 dX8_isOfNone_4 (by decide) (fun k1 => ?_) (fun k1 => ?_)
  · refine q_iconst (v := 0) X dX8_isOfNone_11 (by decide) ?_
    exact q_zret X hr (by decide) dX8_isOfNone_12 (⟨congrArg (fun z => some (Value.int z)) (by rw [decide_eq_false (fun q => k1 ((nI_z ht).mpr q))]; rfl), rfl⟩)
  · refine q_iconst (v := 1) X dX8_isOfNone_7 (by decide) ?_
    refine q_goto X 12 dX8_isOfNone_8 (by decide) ?_
    exact q_zret X hr (by decide) dX8_isOfNone_12 (⟨congrArg (fun z => some (Value.int z)) (by rw [decide_eq_true ((nI_z ht).mp k1)]; rfl), rfl⟩)

set_option maxRecDepth 20000 in
theorem c_X8_result {l : Launch} {G : gV} {M : gMem} {ta t : Nat} {what : Int32} {r : Int64} (hT : M ta = some (oB 8 [.int what, .int (nI t), .long r])) (ht : t ≤ 4096) : qC l G yX8_result cX8_result 1 (some .long) 1 0 0 [.ref ta] M (pP (.long r) M) := by
  refine qC_of (by decide +kernel) (Nat.le_of_ble_eq_true rfl) (fun F hF X hr hn => ?_)
  subst hF
  have X : qX G F cX8_result 1 RX8 1 := X
  show qJ G F _ 1 M 0 0 0 [(0, .ref ta)] []
  refine q_aload_n X dX8_result_0 0 rfl ?_
  refine q_get X hT rfl in_RX8 2 (by decide) tw_845 rfl rfl dX8_result_1 ?_
  exact q_lret X hr dX8_result_4 (⟨rfl, rfl⟩)

set_option maxRecDepth 20000 in
theorem c_X8_isKnown {l : Launch} {G : gV} {M : gMem} {w : Int32} : qC l G yX8_isKnown cX8_isKnown 1 (some .boolean) 1 0 0 [.int w] M (pP (.int (if w < 0 then 0 else if 3 < w then 0 else 1)) M) := by
  refine qC_of (by decide +kernel) (Nat.le_of_ble_eq_true rfl) (fun F hF X hr hn => ?_)
  subst hF
  have X : qX G F cX8_isKnown 1 RX8 1 := X
  show qJ G F _ 1 M 0 0 0 [(0, .int w)] []
  refine q_iload_n X dX8_isKnown_0 0 rfl ?_
  refine q_if_lt X 13 dX8_isKnown_1 (by decide) (fun c_1 => ?_) (fun c_1 => ?_)
  · refine q_iconst (v := 0) X dX8_isKnown_13 (by decide) ?_
    exact q_zret X hr (by decide) dX8_isKnown_14 (⟨congrArg (fun z => some (Value.int z)) (by simp only [*, if_true, if_false, not_true, not_false_eq_true]), rfl⟩)
  · refine q_iload_n X dX8_isKnown_4 0 rfl ?_
    refine q_iconst (v := 3) X dX8_isKnown_5 (by decide) ?_
    refine q_icmp_gt X 13 dX8_isKnown_6 (by decide) (fun c_2 => ?_) (fun c_2 => ?_)
    · refine q_iconst (v := 0) X dX8_isKnown_13 (by decide) ?_
      exact q_zret X hr (by decide) dX8_isKnown_14 (⟨congrArg (fun z => some (Value.int z)) (by simp only [*, if_true, if_false, not_true, not_false_eq_true]), rfl⟩)
    · refine q_iconst (v := 1) X dX8_isKnown_9 (by decide) ?_
      refine q_goto X 14 dX8_isKnown_10 (by decide) ?_
      exact q_zret X hr (by decide) dX8_isKnown_14 (⟨congrArg (fun z => some (Value.int z)) (by simp only [*, if_true, if_false, not_true, not_false_eq_true]), rfl⟩)

set_option maxRecDepth 20000 in
theorem c_X8_take {l : Launch} {G : gV} {M : gMem} {ta t : Nat} {what : Int32} {r : Int64} (hT : M ta = some (oB 8 [.int what, .int (nI t), .long r])) (ht : t ≤ 4096) {v : Int64} : qC l G yX8_take cX8_take 3 none 2 0 0 [.ref ta, .long v] M (pV (mU M ta (oB 8 [.int what, .int (nI (t + 1)), .long (talS what (t, r) v).2]))) := by
  refine qC_of (by decide +kernel) (Nat.le_of_ble_eq_true rfl) (fun F hF X hr hn => ?_)
  subst hF
  have X : qX G F cX8_take 3 RX8 2 := X
  show qJ G F _ 3 M 0 0 0 [(0, .ref ta), (1, .long v)] []
  refine q_aload_n X dX8_take_0 0 rfl ?_
  refine q_get X hT rfl in_RX8 0 (by decide) tw_843 rfl rfl dX8_take_1 ?_
  by_cases k0 : 0 ≤ what.toInt ∧ what.toInt ≤ 2
  · have ko : what = 0 ∨ what = 1 ∨ what = 2 := by
      rcases (show what.toInt = 0 ∨ what.toInt = 1 ∨ what.toInt = 2 by omega) with q | q | q
      · exact Or.inl (Int32.toInt_inj.mp q)
      · exact Or.inr (Or.inl (Int32.toInt_inj.mp q))
      · exact Or.inr (Or.inr (Int32.toInt_inj.mp q))
    rcases ko with rfl | rfl | rfl
    · refine q_tableIn (off := 28) X 32 dX8_take_4 (by decide) (by decide) (by decide) (by decide) ?_
      refine q_aload_n X dX8_take_32 0 rfl ?_
      refine q_dup X dX8_take_33 rfl ?_
      refine q_get X hT rfl in_RX8 2 (by decide) tw_845 rfl rfl dX8_take_34 ?_
      refine q_lload_n X dX8_take_37 1 rfl ?_
      refine q_ladd X dX8_take_38 ?_
      refine q_put X hT rfl in_RX8 tyX8 tyX8_ok nmX8 2 (by decide) tw_845 rfl rfl rfl rfl rfl (Nat.le_of_ble_eq_true rfl) (fs1 := [.int 0, .int (nI t), .long (r + v)]) rfl dX8_take_39 ?_
      have m_1 : (mU M ta (oB 8 [.int 0, .int (nI t), .long (r + v)])) ta = some (oB 8 [.int 0, .int (nI t), .long (r + v)]) := mU_s
      refine q_goto X 107 dX8_take_42 (by decide) ?_
      refine q_aload_n X dX8_take_107 0 rfl ?_
      refine q_dup X dX8_take_108 rfl ?_
      refine q_get X m_1 rfl in_RX8 1 (by decide) tw_844 rfl rfl dX8_take_109 ?_
      refine q_iconst (v := 1) X dX8_take_112 (by decide) ?_
      refine q_iadd X dX8_take_113 ?_
      refine q_put X m_1 rfl in_RX8 tyX8 tyX8_ok nmX8 1 (by decide) tw_844 rfl rfl rfl rfl rfl (Nat.le_of_ble_eq_true rfl) (fs1 := [.int 0, .int ((nI t) + 1), .long (r + v)]) rfl dX8_take_114 ?_
      have m_2 : (mU (mU M ta (oB 8 [.int 0, .int (nI t), .long (r + v)])) ta (oB 8 [.int 0, .int ((nI t) + 1), .long (r + v)])) ta = some (oB 8 [.int 0, .int ((nI t) + 1), .long (r + v)]) := mU_s
      exact q_vret X hr dX8_take_117 (⟨rfl, by rw [mU_mU, nI_1, show (talS 0 (t, r) v).2 = r + v from (by simp [talS])]⟩)
    · refine q_tableIn (off := 41) X 45 dX8_take_4 (by decide) (by decide) (by decide) (by decide) ?_
      refine q_aload_n X dX8_take_45 0 rfl ?_
      refine q_dup X dX8_take_46 rfl ?_
      refine q_get X hT rfl in_RX8 2 (by decide) tw_845 rfl rfl dX8_take_47 ?_
      refine q_lconst (v := 1) X dX8_take_50 (by decide) ?_
      refine q_ladd X dX8_take_51 ?_
      refine q_put X hT rfl in_RX8 tyX8 tyX8_ok nmX8 2 (by decide) tw_845 rfl rfl rfl rfl rfl (Nat.le_of_ble_eq_true rfl) (fs1 := [.int 1, .int (nI t), .long (r + 1)]) rfl dX8_take_52 ?_
      have m_3 : (mU M ta (oB 8 [.int 1, .int (nI t), .long (r + 1)])) ta = some (oB 8 [.int 1, .int (nI t), .long (r + 1)]) := mU_s
      refine q_goto X 107 dX8_take_55 (by decide) ?_
      refine q_aload_n X dX8_take_107 0 rfl ?_
      refine q_dup X dX8_take_108 rfl ?_
      refine q_get X m_3 rfl in_RX8 1 (by decide) tw_844 rfl rfl dX8_take_109 ?_
      refine q_iconst (v := 1) X dX8_take_112 (by decide) ?_
      refine q_iadd X dX8_take_113 ?_
      refine q_put X m_3 rfl in_RX8 tyX8 tyX8_ok nmX8 1 (by decide) tw_844 rfl rfl rfl rfl rfl (Nat.le_of_ble_eq_true rfl) (fs1 := [.int 1, .int ((nI t) + 1), .long (r + 1)]) rfl dX8_take_114 ?_
      have m_4 : (mU (mU M ta (oB 8 [.int 1, .int (nI t), .long (r + 1)])) ta (oB 8 [.int 1, .int ((nI t) + 1), .long (r + 1)])) ta = some (oB 8 [.int 1, .int ((nI t) + 1), .long (r + 1)]) := mU_s
      exact q_vret X hr dX8_take_117 (⟨rfl, by rw [mU_mU, nI_1, show (talS 1 (t, r) v).2 = r + 1 from (by simp [talS])]⟩)
    · refine q_tableIn (off := 54) X 58 dX8_take_4 (by decide) (by decide) (by decide) (by decide) ?_
      refine q_aload_n X dX8_take_58 0 rfl ?_
      refine q_aload_n X dX8_take_59 0 rfl ?_
      refine q_get X hT rfl in_RX8 1 (by decide) tw_844 rfl rfl dX8_take_60 ?_
      refine q_if_ne X 70 dX8_take_63 (by decide) (fun k9 => ?_) (fun k9 => ?_)
      · have k1 : ¬ t = 0 := fun q => k9 ((nI_z ht).mpr q)
        refine q_aload_n X dX8_take_70 0 rfl ?_
        refine q_get X hT rfl in_RX8 2 (by decide) tw_845 rfl rfl dX8_take_71 ?_
        refine q_lload_n X dX8_take_74 1 rfl ?_
        refine q_callSp X (c_J9_min_f86c9) Y_J9_min_f86c9 tw_1034 tw_1035 (by decide) rfl rfl (Nat.le_of_ble_eq_true rfl) dX8_take_75 ?_
        refine q_put X hT rfl in_RX8 tyX8 tyX8_ok nmX8 2 (by decide) tw_845 rfl rfl rfl rfl rfl (Nat.le_of_ble_eq_true rfl) (fs1 := [.int 2, .int (nI t), .long (mnJ r v)]) rfl dX8_take_78 ?_
        have m_5 : (mU M ta (oB 8 [.int 2, .int (nI t), .long (mnJ r v)])) ta = some (oB 8 [.int 2, .int (nI t), .long (mnJ r v)]) := mU_s
        refine q_goto X 107 dX8_take_81 (by decide) ?_
        refine q_aload_n X dX8_take_107 0 rfl ?_
        refine q_dup X dX8_take_108 rfl ?_
        refine q_get X m_5 rfl in_RX8 1 (by decide) tw_844 rfl rfl dX8_take_109 ?_
        refine q_iconst (v := 1) X dX8_take_112 (by decide) ?_
        refine q_iadd X dX8_take_113 ?_
        refine q_put X m_5 rfl in_RX8 tyX8 tyX8_ok nmX8 1 (by decide) tw_844 rfl rfl rfl rfl rfl (Nat.le_of_ble_eq_true rfl) (fs1 := [.int 2, .int ((nI t) + 1), .long (mnJ r v)]) rfl dX8_take_114 ?_
        have m_6 : (mU (mU M ta (oB 8 [.int 2, .int (nI t), .long (mnJ r v)])) ta (oB 8 [.int 2, .int ((nI t) + 1), .long (mnJ r v)])) ta = some (oB 8 [.int 2, .int ((nI t) + 1), .long (mnJ r v)]) := mU_s
        exact q_vret X hr dX8_take_117 (⟨rfl, by rw [mU_mU, nI_1, show (talS 2 (t, r) v).2 = mnJ r v from (by simp [talS, k1])]⟩)
      · have k1 : t = 0 := (nI_z ht).mp k9
        refine q_lload_n X dX8_take_66 1 rfl ?_
        refine q_goto X 78 dX8_take_67 (by decide) ?_
        refine q_put X hT rfl in_RX8 tyX8 tyX8_ok nmX8 2 (by decide) tw_845 rfl rfl rfl rfl rfl (Nat.le_of_ble_eq_true rfl) (fs1 := [.int 2, .int (nI t), .long v]) rfl dX8_take_78 ?_
        have m_7 : (mU M ta (oB 8 [.int 2, .int (nI t), .long v])) ta = some (oB 8 [.int 2, .int (nI t), .long v]) := mU_s
        refine q_goto X 107 dX8_take_81 (by decide) ?_
        refine q_aload_n X dX8_take_107 0 rfl ?_
        refine q_dup X dX8_take_108 rfl ?_
        refine q_get X m_7 rfl in_RX8 1 (by decide) tw_844 rfl rfl dX8_take_109 ?_
        refine q_iconst (v := 1) X dX8_take_112 (by decide) ?_
        refine q_iadd X dX8_take_113 ?_
        refine q_put X m_7 rfl in_RX8 tyX8 tyX8_ok nmX8 1 (by decide) tw_844 rfl rfl rfl rfl rfl (Nat.le_of_ble_eq_true rfl) (fs1 := [.int 2, .int ((nI t) + 1), .long v]) rfl dX8_take_114 ?_
        have m_8 : (mU (mU M ta (oB 8 [.int 2, .int (nI t), .long v])) ta (oB 8 [.int 2, .int ((nI t) + 1), .long v])) ta = some (oB 8 [.int 2, .int ((nI t) + 1), .long v]) := mU_s
        exact q_vret X hr dX8_take_117 (⟨rfl, by rw [mU_mU, nI_1, show (talS 2 (t, r) v).2 = v from (by simp [talS, k1])]⟩)
  · refine q_tableOut X 84 dX8_take_4 (by omega) (by decide) ?_
    refine q_aload_n X dX8_take_84 0 rfl ?_
    refine q_aload_n X dX8_take_85 0 rfl ?_
    refine q_get X hT rfl in_RX8 1 (by decide) tw_844 rfl rfl dX8_take_86 ?_
    refine q_if_ne X 96 dX8_take_89 (by decide) (fun k9 => ?_) (fun k9 => ?_)
    · have k1 : ¬ t = 0 := fun q => k9 ((nI_z ht).mpr q)
      refine q_aload_n X dX8_take_96 0 rfl ?_
      refine q_get X hT rfl in_RX8 2 (by decide) tw_845 rfl rfl dX8_take_97 ?_
      refine q_lload_n X dX8_take_100 1 rfl ?_
      refine q_callSp X (c_J9_max_f86c9) Y_J9_max_f86c9 tw_1037 tw_1038 (by decide) rfl rfl (Nat.le_of_ble_eq_true rfl) dX8_take_101 ?_
      refine q_put X hT rfl in_RX8 tyX8 tyX8_ok nmX8 2 (by decide) tw_845 rfl rfl rfl rfl rfl (Nat.le_of_ble_eq_true rfl) (fs1 := [.int what, .int (nI t), .long (mxJ r v)]) rfl dX8_take_104 ?_
      have m_9 : (mU M ta (oB 8 [.int what, .int (nI t), .long (mxJ r v)])) ta = some (oB 8 [.int what, .int (nI t), .long (mxJ r v)]) := mU_s
      refine q_aload_n X dX8_take_107 0 rfl ?_
      refine q_dup X dX8_take_108 rfl ?_
      refine q_get X m_9 rfl in_RX8 1 (by decide) tw_844 rfl rfl dX8_take_109 ?_
      refine q_iconst (v := 1) X dX8_take_112 (by decide) ?_
      refine q_iadd X dX8_take_113 ?_
      refine q_put X m_9 rfl in_RX8 tyX8 tyX8_ok nmX8 1 (by decide) tw_844 rfl rfl rfl rfl rfl (Nat.le_of_ble_eq_true rfl) (fs1 := [.int what, .int ((nI t) + 1), .long (mxJ r v)]) rfl dX8_take_114 ?_
      have m_10 : (mU (mU M ta (oB 8 [.int what, .int (nI t), .long (mxJ r v)])) ta (oB 8 [.int what, .int ((nI t) + 1), .long (mxJ r v)])) ta = some (oB 8 [.int what, .int ((nI t) + 1), .long (mxJ r v)]) := mU_s
      exact q_vret X hr dX8_take_117 (⟨rfl, by rw [mU_mU, nI_1, show (talS what (t, r) v).2 = mxJ r v from (by have a0 : ¬ what = 0 := fun q => k0 (by rw [q]; decide); have a1 : ¬ what = 1 := fun q => k0 (by rw [q]; decide); have a2 : ¬ what = 2 := fun q => k0 (by rw [q]; decide); simp [talS, a0, a1, a2, k1])]⟩)
    · have k1 : t = 0 := (nI_z ht).mp k9
      refine q_lload_n X dX8_take_92 1 rfl ?_
      refine q_goto X 104 dX8_take_93 (by decide) ?_
      refine q_put X hT rfl in_RX8 tyX8 tyX8_ok nmX8 2 (by decide) tw_845 rfl rfl rfl rfl rfl (Nat.le_of_ble_eq_true rfl) (fs1 := [.int what, .int (nI t), .long v]) rfl dX8_take_104 ?_
      have m_11 : (mU M ta (oB 8 [.int what, .int (nI t), .long v])) ta = some (oB 8 [.int what, .int (nI t), .long v]) := mU_s
      refine q_aload_n X dX8_take_107 0 rfl ?_
      refine q_dup X dX8_take_108 rfl ?_
      refine q_get X m_11 rfl in_RX8 1 (by decide) tw_844 rfl rfl dX8_take_109 ?_
      refine q_iconst (v := 1) X dX8_take_112 (by decide) ?_
      refine q_iadd X dX8_take_113 ?_
      refine q_put X m_11 rfl in_RX8 tyX8 tyX8_ok nmX8 1 (by decide) tw_844 rfl rfl rfl rfl rfl (Nat.le_of_ble_eq_true rfl) (fs1 := [.int what, .int ((nI t) + 1), .long v]) rfl dX8_take_114 ?_
      have m_12 : (mU (mU M ta (oB 8 [.int what, .int (nI t), .long v])) ta (oB 8 [.int what, .int ((nI t) + 1), .long v])) ta = some (oB 8 [.int what, .int ((nI t) + 1), .long v]) := mU_s
      exact q_vret X hr dX8_take_117 (⟨rfl, by rw [mU_mU, nI_1, show (talS what (t, r) v).2 = v from (by have a0 : ¬ what = 0 := fun q => k0 (by rw [q]; decide); have a1 : ¬ what = 1 := fun q => k0 (by rw [q]; decide); have a2 : ¬ what = 2 := fun q => k0 (by rw [q]; decide); simp [talS, a0, a1, a2, k1])]⟩)

/-- a row of a node was taken together: the tally holds it, else only what working out cells changes has changed -/
def tP (G : gV) (N : gN) (M : gMem) (P : Nat → Nat → Prop) (s ta : Nat) (what start step : Int32) (K : Nat) : Option Value → gMem → Prop := fun v M' => v = none ∧ nInv G M' N P ∧ M' ta = some (oB 8 [.int what, .int (nI (talR N s what start step K).1), .long (talR N s what start step K).2]) ∧ (∀ q, ¬ nAdr N (ndp N s) q → q ≠ ta → M' q = M q) ∧ ∀ b, nS N b → ∀ j, nAsk G M N b j → nAsk G M' N b j
theorem nAsk_tal {G : gV} {M : gMem} {N : gN} {ta b j : Nat} {fs0 fs1 : List Value} (hT : M ta = some (oB 8 fs0)) (h : nAsk G M N b j) : nAsk G (mU M ta (oB 8 fs1)) N b j := by
  obtain ⟨n, ak, h1, h2⟩ := h
  exact ⟨n, ak, (mU_n (fun e => by rw [e, hT] at h1; cases h1)).trans h1, h2⟩

set_option maxRecDepth 20000 in
theorem c_X8_takeRow {l : Launch} {G : gV} {M : gMem} {N : gN} {P : Nat → Nat → Prop} {s ta K k : Nat} {what start step tk : Int32} {re : Int64} (H : HoldsC l G N (ndp N s + 1)) (h : nInv G M N P) (hs1 : nS N s) (hP0 : ∀ b i, P b i → ndp N s < ndp N b) (hT : M ta = some (oB 8 [.int what, .int tk, .long re])) (hta : ¬ nAdr N (ndp N s) ta) (hK : K ≤ 4096) (hk : 12 + 4 * ndp N s ≤ k) : qC l G yX8_takeRow cX8_takeRow 7 none k 0 0 [.ref ta, .ref s, .int start, .int step, .int (nI K)] M (tP G N M P s ta what start step K) := by
  refine qC_of (by decide +kernel) (Nat.le_of_ble_eq_true rfl) (fun F hF X hr hn => ?_)
  subst hF
  have X : qX G F cX8_takeRow 7 RX8 k := X
  have z1 : nsz N s ≤ 4096 := (h.1 s hs1).1.2.2.2.2.1
  have loop : ∀ (t j : Nat) (M1 : gMem), j + t = K → nInv G M1 N P → M1 ta = some (oB 8 [.int what, .int (nI (talR N s what start step j).1), .long (talR N s what start step j).2]) → (∀ q, ¬ nAdr N (ndp N s) q → q ≠ ta → M1 q = M q) → (∀ b, nS N b → ∀ i, nAsk G M N b i → nAsk G M1 N b i) → qJ G F (qQ G F (tP G N M P s ta what start step K)) 7 M1 0 0 13 [(0, .ref ta), (1, .ref s), (2, .int start), (3, .int step), (4, .int (nI K)), (5, .int (nI j))] [] := by
    intro t
    induction t with
    | zero =>
      intro j M1 hj h1 hT1 hf1 hq1
      have hjK : j = K := by omega
      refine q_iload X dX8_takeRow_13 5 rfl ?_
      refine q_iload X dX8_takeRow_15 4 rfl ?_
      refine q_icmp_ge X 53 dX8_takeRow_17 (by decide) (fun c_1 => ?_) (fun c_1 => absurd (nI_le (by omega) (by omega)) c_1)
      exact q_vret X hr dX8_takeRow_53 (⟨rfl, h1, by rw [← hjK]; exact hT1, hf1, hq1⟩)
    | succ t ih =>
      intro j M1 hj h1 hT1 hf1 hq1
      have hjK : j < K := by omega
      have hss1 := (h1.1 s hs1).1
      have hle := talR_le N s what start step j
      refine q_iload X dX8_takeRow_13 5 rfl ?_
      refine q_iload X dX8_takeRow_15 4 rfl ?_
      refine q_icmp_ge X 53 dX8_takeRow_17 (by decide) (fun c_2 => absurd c_2 (nI_ge hjK (by omega))) (fun c_2 => ?_)
      refine q_iload_n X dX8_takeRow_20 2 rfl ?_
      refine q_iload X dX8_takeRow_21 5 rfl ?_
      refine q_iload_n X dX8_takeRow_23 3 rfl ?_
      refine q_imul X dX8_takeRow_24 ?_
      refine q_iadd X dX8_takeRow_25 ?_
      refine q_topi (fun ix eix => ?_)
      refine q_istore (lv' := [(6, .int ix), (0, .ref ta), (1, .ref s), (2, .int start), (3, .int step), (4, .int (nI K)), (5, .int (nI j))]) X dX8_takeRow_26 (by decide) rfl ?_
      refine q_aload_n X dX8_takeRow_28 2 rfl ?_
      refine q_iload X dX8_takeRow_29 0 rfl ?_
      refine q_callU X (x := ⟨"GridVault$Node", "holds", "(I)Z"⟩) (owner := "GridVault$Node") (ci := nci N s) (H s M1 P ix hs1 (Nat.lt_succ_self _) h1 hP0) Y_X5_holds tw_1028 tw_955 (by decide) rfl (g_declC X tw_954 tw_962) tw_954 (se_X5_holds hss1.1) hss1.2.1 (by omega) rfl rfl (Nat.le_of_ble_eq_true rfl) (rc' := 0) (rs' := 0) (Nat.le_refl _) (Nat.le_refl _) dX8_takeRow_31 (fun v M' hp _ => ?_)
      obtain ⟨rfl, h2, hf2, hq2⟩ := hp
      generalize M' = M2 at *
      have hT2 : M2 ta = some (oB 8 [.int what, .int (nI (talR N s what start step j).1), .long (talR N s what start step j).2]) := (hf2.1 ta hta).trans hT1
      have hss2 := (h2.1 s hs1).1
      have hf3 : ∀ q, ¬ nAdr N (ndp N s) q → q ≠ ta → M2 q = M q := fun q q1 q2 => (hf2.1 q q1).trans (hf1 q q1 q2)
      have hq3 : ∀ b, nS N b → ∀ i, nAsk G M N b i → nAsk G M2 N b i := fun b hb i hi => hf2.2 b hb i (hq1 b hb i hi)
      show qJ G F _ 7 M2 0 0 34 [(6, .int ix), (0, .ref ta), (1, .ref s), (2, .int start), (3, .int step), (4, .int (nI K)), (5, .int (nI j))] [.int (bI (nAt N s ix).isSome)]
      refine q_if_eq X 47 dX8_takeRow_34 (by decide) (fun k1 => ?_) (fun k1 => ?_)
      · refine q_iinc (v := (nI (j + 1))) (lv' := [(5, .int (nI (j + 1))), (6, .int ix), (0, .ref ta), (1, .ref s), (2, .int start), (3, .int step), (4, .int (nI K))]) X dX8_takeRow_47 6 rfl (nI_1 j) (by decide) rfl ?_
        refine q_goto X 13 dX8_takeRow_50 (by decide) ?_
        refine q_sub [2, 3, 4, 5, 6, 0] rfl ?_
        exact ih (j + 1) M2 (by omega) h2 (by rw [talR_n (by rw [← eix]; exact nAt_no k1)]; exact hT2) hf3 hq3
      · obtain ⟨j2, v, hj2, e2, hv, hat⟩ := nAt_in z1 k1
        subst e2
        rw [eix] at hat
        refine q_aload_n X dX8_takeRow_37 1 rfl ?_
        refine q_aload_n X dX8_takeRow_38 2 rfl ?_
        refine q_iload X dX8_takeRow_39 0 rfl ?_
        refine q_callUp X (x := ⟨"GridVault$Node", "number", "(I)J"⟩) (owner := "GridVault$Node") (ci := nci N s) (nNum h2 hs1 hj2 (hq2 j2 hj2 rfl) (fun p => absurd (hP0 s j2 p) (Nat.lt_irrefl _))) Y_X5_number tw_1029 tw_973 (by decide) rfl (g_declC X tw_972 tw_980) tw_972 (se_X5_number hss2.1) hss2.2.1 (by omega) rfl rfl (Nat.le_of_ble_eq_true rfl) dX8_takeRow_41 ?_
        rw [show (nden N s j2).getD 0 = v by rw [hv]; rfl]
        refine q_callVv X (c_X8_take hT2 (by omega)) Y_X8_take tw_1030 tw_1032 sel_19 hT2 rfl (by omega) rfl rfl (Nat.le_of_ble_eq_true rfl) dX8_takeRow_44 ?_
        refine q_iinc (v := (nI (j + 1))) (lv' := [(5, .int (nI (j + 1))), (6, .int (nI j2)), (0, .ref ta), (1, .ref s), (2, .int start), (3, .int step), (4, .int (nI K))]) X dX8_takeRow_47 6 rfl (nI_1 j) (by decide) rfl ?_
        refine q_goto X 13 dX8_takeRow_50 (by decide) ?_
        refine q_sub [2, 3, 4, 5, 6, 0] rfl ?_
        exact ih (j + 1) _ (by omega) (nInv_tal h2 hT2) (by rw [talR_s hat]; exact mU_s) (fun q q1 q2 => (mU_n q2).trans (hf3 q q1 q2)) (fun b hb i hi => nAsk_tal hT2 (hq3 b hb i hi))
  refine q_aload_n X dX8_takeRow_0 0 rfl ?_
  refine q_iconst (v := 0) X dX8_takeRow_1 (by decide) ?_
  refine q_put X hT rfl in_RX8 tyX8 tyX8_ok nmX8 1 (by decide) tw_844 rfl rfl rfl rfl rfl (Nat.le_of_ble_eq_true rfl) (fs1 := [.int what, .int 0, .long re]) rfl dX8_takeRow_2 ?_
  have m_3 : (mU M ta (oB 8 [.int what, .int 0, .long re])) ta = some (oB 8 [.int what, .int 0, .long re]) := mU_s
  refine q_aload_n X dX8_takeRow_5 0 rfl ?_
  refine q_lconst (v := 0) X dX8_takeRow_6 (by decide) ?_
  refine q_put X m_3 rfl in_RX8 tyX8 tyX8_ok nmX8 2 (by decide) tw_845 rfl rfl rfl rfl rfl (Nat.le_of_ble_eq_true rfl) (fs1 := [.int what, .int 0, .long 0]) rfl dX8_takeRow_7 ?_
  have m_4 : (mU (mU M ta (oB 8 [.int what, .int 0, .long re])) ta (oB 8 [.int what, .int 0, .long 0])) ta = some (oB 8 [.int what, .int 0, .long 0]) := mU_s
  refine q_iconst (v := 0) X dX8_takeRow_10 (by decide) ?_
  refine q_istore (lv' := [(5, .int 0), (0, .ref ta), (1, .ref s), (2, .int start), (3, .int step), (4, .int (nI K))]) X dX8_takeRow_11 (by decide) rfl ?_
  rw [mU_mU]
  refine q_sub [1, 2, 3, 4, 5, 0] rfl ?_
  exact loop K 0 _ (by omega) (nInv_tal h hT) mU_s (fun q _ q2 => mU_n q2) (fun b hb i hi => nAsk_tal hT hi)
