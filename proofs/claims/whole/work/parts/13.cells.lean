/-! GridVault$Cells: a row of cells, empty or with a number -/
theorem g_neoa {M : gMem} {a b : Nat} {x : Nat × List Value} {y : ClassId × vp_A} (h1 : M a = some (.inr x)) (h2 : M b = some (.inl y)) : a ≠ b := fun q => by
  subst q; rw [h1] at h2; cases h2
def isCells (G : gV) (M : gMem) (a na ma N : Nat) (f : Nat → Option Int64) : Prop := ∃ (num mk : Nat → Int64), M a = some (oB 1 [.ref na, .ref ma]) ∧ M na = some (aJ G N num) ∧ M ma = some (aJ G ((N + 63) / 64) mk) ∧ na ≠ ma ∧ N ≤ 4096 ∧ (∀ i, i < N → mkAt mk i = (f i).isSome) ∧ (∀ i v, i < N → f i = some v → num i = v) ∧ (∀ i, N ≤ i → i < (N + 63) / 64 * 64 → mkAt mk i = false) ∧ ∀ i, N ≤ i → f i = none
theorem isCells.mv {G : gV} {M M' : gMem} {a na ma N : Nat} {f : Nat → Option Int64} (h : isCells G M a na ma N f) (h1 : M' a = M a) (h2 : M' na = M na) (h3 : M' ma = M ma) : isCells G M' a na ma N f := by
  obtain ⟨num, mk, g1, g2, g3, g4⟩ := h
  exact ⟨num, mk, by rw [h1]; exact g1, by rw [h2]; exact g2, by rw [h3]; exact g3, g4⟩
def cIn (N : Nat) (i : Int32) : Int32 := if i < 0 then 0 else if nI N ≤ i then 0 else 1
theorem cIn_in {N j : Nat} (h : j < N) (hN : N ≤ 4096) : cIn N (nI j) = 1 := by
  unfold cIn
  rw [if_neg (nI_pos (by omega)), if_neg (nI_ge h (by omega))]
theorem cIn_of {N : Nat} {i : Int32} (hN : N ≤ 4096) (h : ¬ cIn N i = 0) : ∃ j, j < N ∧ i = nI j := by
  unfold cIn at h
  by_cases c1 : i < 0
  · exact absurd (if_pos c1) h
  · rw [if_neg c1] at h
    by_cases c2 : nI N ≤ i
    · exact absurd (if_pos c2) h
    · rcases pk_ix i (show N < 2 ^ 31 by omega) with q | q | q
      · exact absurd q c1
      · exact absurd q c2
      · exact q
def bI (b : Bool) : Int32 := if b then 1 else 0
theorem bI_01 (b : Bool) : bI b = 0 ∨ bI b = 1 := by cases b <;> simp [bI]
theorem bI_0 {b : Bool} : bI b = 0 ↔ b = false := by cases b <;> simp [bI]
def cSet (f : Nat → Option Int64) (j : Nat) (v : Int64) : Nat → Option Int64 := fun i => if i = j then some v else f i
def cDel (f : Nat → Option Int64) (j : Nat) : Nat → Option Int64 := fun i => if i = j then none else f i

set_option maxRecDepth 20000 in
theorem c_X0_isInside {l : Launch} {G : gV} {M : gMem} {a na ma N : Nat} {f : Nat → Option Int64} (hC : isCells G M a na ma N f) {i : Int32} : qC l G yX0_isInside cX0_isInside 2 (some .boolean) 1 0 0 [.ref a, .int i] M (pP (.int (cIn N i)) M) := by
  refine qC_of (by decide +kernel) (Nat.le_of_ble_eq_true rfl) (fun F hF X hr hn => ?_)
  subst hF
  have X : qX G F cX0_isInside 2 RX0 1 := X
  obtain ⟨num, mk, h1, h2, h3, h4, h5, h6, h7, h8, h9⟩ := id hC
  show qJ G F _ 2 M 0 0 0 [(0, .ref a), (1, .int i)] []
  refine q_iload_n X dX0_isInside_0 1 rfl ?_
  refine q_if_lt X 17 dX0_isInside_1 (by decide) (fun c_1 => ?_) (fun c_1 => ?_)
  · refine q_iconst (v := 0) X dX0_isInside_17 (by decide) ?_
    exact q_zret X hr (by decide) dX0_isInside_18 (⟨congrArg (fun z => some (Value.int z)) (by unfold cIn; simp only [*, if_true, if_false, not_true, not_false_eq_true]), rfl⟩)
  · refine q_iload_n X dX0_isInside_4 1 rfl ?_
    refine q_aload_n X dX0_isInside_5 0 rfl ?_
    refine q_get X h1 rfl in_RX0 0 (by decide) tw_125 rfl rfl dX0_isInside_6 ?_
    refine q_alen X 1 h2 rfl dX0_isInside_9 ?_
    refine q_icmp_ge X 17 dX0_isInside_10 (by decide) (fun c_2 => ?_) (fun c_2 => ?_)
    · refine q_iconst (v := 0) X dX0_isInside_17 (by decide) ?_
      exact q_zret X hr (by decide) dX0_isInside_18 (⟨congrArg (fun z => some (Value.int z)) (by unfold cIn; simp only [*, if_true, if_false, not_true, not_false_eq_true]), rfl⟩)
    · refine q_iconst (v := 1) X dX0_isInside_13 (by decide) ?_
      refine q_goto X 18 dX0_isInside_14 (by decide) ?_
      exact q_zret X hr (by decide) dX0_isInside_18 (⟨congrArg (fun z => some (Value.int z)) (by unfold cIn; simp only [*, if_true, if_false, not_true, not_false_eq_true]), rfl⟩)

set_option maxRecDepth 20000 in
theorem c_X0_has {l : Launch} {G : gV} {M : gMem} {a na ma N : Nat} {f : Nat → Option Int64} (hC : isCells G M a na ma N f) {j : Nat} (hj : j < N) : qC l G yX0_has cX0_has 2 (some .boolean) 2 0 0 [.ref a, .int (nI j)] M (pP (.int (bI (f j).isSome)) M) := by
  refine qC_of (by decide +kernel) (Nat.le_of_ble_eq_true rfl) (fun F hF X hr hn => ?_)
  subst hF
  have X : qX G F cX0_has 2 RX0 2 := X
  obtain ⟨num, mk, h1, h2, h3, h4, h5, h6, h7, h8, h9⟩ := id hC
  show qJ G F _ 2 M 0 0 0 [(0, .ref a), (1, .int (nI j))] []
  refine q_aload_n X dX0_has_0 0 rfl ?_
  refine q_iload_n X dX0_has_1 1 rfl ?_
  refine q_callVp X (c_X0_isInside hC) Y_X0_isInside tw_432 tw_433 tw_434 h1 rfl (by decide) rfl rfl (Nat.le_of_ble_eq_true rfl) dX0_has_2 ?_
  refine q_if_eq X 33 dX0_has_5 (by decide) (fun c_1 => absurd c_1 (by rw [cIn_in hj h5]; decide)) (fun c_1 => ?_)
  refine q_aload_n X dX0_has_8 0 rfl ?_
  refine q_get X h1 rfl in_RX0 1 (by decide) tw_126 rfl rfl dX0_has_9 ?_
  refine q_iload_n X dX0_has_12 1 rfl ?_
  refine q_bipush (v := 6) X dX0_has_13 (by decide) ?_
  refine q_ishr X dX0_has_15 ?_
  refine q_laldN X (j / 64) h3 (cb_shr (by omega)) (by omega) (by omega) dX0_has_16 ?_
  refine q_iload_n X dX0_has_17 1 rfl ?_
  refine q_bipush (v := 63) X dX0_has_18 (by decide) ?_
  refine q_iand X dX0_has_20 ?_
  refine q_lushr X dX0_has_21 ?_
  refine q_lconst (v := 1) X dX0_has_22 (by decide) ?_
  refine q_land X dX0_has_23 ?_
  refine q_lconst (v := 0) X dX0_has_24 (by decide) ?_
  refine q_lcmp X dX0_has_25 ?_
  refine q_if_eq X 33 dX0_has_26 (by decide) (fun c2 => ?_) (fun c2 => ?_)
  · refine q_iconst (v := 0) X dX0_has_33 (by decide) ?_
    exact q_zret X hr (by decide) dX0_has_34 (⟨congrArg (fun z => some (Value.int z)) (by have e := cb_has mk (j := j) (by omega); have q := e.mp c2; rw [h6 j hj] at q; rw [q]; rfl), rfl⟩)
  · refine q_iconst (v := 1) X dX0_has_29 (by decide) ?_
    refine q_goto X 34 dX0_has_30 (by decide) ?_
    exact q_zret X hr (by decide) dX0_has_34 (⟨congrArg (fun z => some (Value.int z)) (by have e := cb_has mk (j := j) (by omega); have q : (f j).isSome = true := (by cases h : (f j).isSome with | true => rfl | false => exact absurd (e.mpr (by rw [h6 j hj]; exact h)) c2); rw [q]; rfl), rfl⟩)

set_option maxRecDepth 20000 in
theorem c_X0_number {l : Launch} {G : gV} {M : gMem} {a na ma N : Nat} {f : Nat → Option Int64} (hC : isCells G M a na ma N f) {j : Nat} (hj : j < N) : qC l G yX0_number cX0_number 2 (some .long) 3 0 0 [.ref a, .int (nI j)] M (pP (.long ((f j).getD 0)) M) := by
  refine qC_of (by decide +kernel) (Nat.le_of_ble_eq_true rfl) (fun F hF X hr hn => ?_)
  subst hF
  have X : qX G F cX0_number 2 RX0 3 := X
  obtain ⟨num, mk, h1, h2, h3, h4, h5, h6, h7, h8, h9⟩ := id hC
  show qJ G F _ 2 M 0 0 0 [(0, .ref a), (1, .int (nI j))] []
  refine q_aload_n X dX0_number_0 0 rfl ?_
  refine q_iload_n X dX0_number_1 1 rfl ?_
  refine q_callVp X (c_X0_has hC hj) Y_X0_has tw_531 tw_532 tw_533 h1 rfl (by decide) rfl rfl (Nat.le_of_ble_eq_true rfl) dX0_number_2 ?_
  refine q_if_eq X 17 dX0_number_5 (by decide) (fun c2 => ?_) (fun c2 => ?_)
  · refine q_lconst (v := 0) X dX0_number_17 (by decide) ?_
    exact q_lret X hr dX0_number_18 (⟨congrArg (fun z => some (Value.long z)) (by rw [bI_0] at c2; cases h : f j with | none => rfl | some v => rw [h] at c2; cases c2), rfl⟩)
  · refine q_aload_n X dX0_number_8 0 rfl ?_
    refine q_get X h1 rfl in_RX0 0 (by decide) tw_125 rfl rfl dX0_number_9 ?_
    refine q_iload_n X dX0_number_12 1 rfl ?_
    refine q_laldN X j h2 (rfl) (hj) (by omega) dX0_number_13 ?_
    refine q_goto X 18 dX0_number_14 (by decide) ?_
    exact q_lret X hr dX0_number_18 (⟨congrArg (fun z => some (Value.long z)) (by cases h : f j with | none => rw [h] at c2; exact absurd rfl c2 | some v => exact h7 j v hj h), rfl⟩)

theorem cells_set {G : gV} {M : gMem} {a na ma N : Nat} {f : Nat → Option Int64} {num mk : Nat → Int64} {j : Nat} {v : Int64} (hj : j < N) (h1 : M a = some (oB 1 [.ref na, .ref ma])) (h2 : M na = some (aJ G N num)) (h3 : M ma = some (aJ G ((N + 63) / 64) mk)) (h4 : na ≠ ma) (h5 : N ≤ 4096) (h6 : ∀ i, i < N → mkAt mk i = (f i).isSome) (h7 : ∀ i v, i < N → f i = some v → num i = v) (h8 : ∀ i, N ≤ i → i < (N + 63) / 64 * 64 → mkAt mk i = false) (h9 : ∀ i, N ≤ i → f i = none) :
    isCells G (mU (mU M na (aJ G N (vp_updL num j v))) ma (aJ G ((N + 63) / 64) (vp_updL mk (j / 64) (mk (j / 64) ||| ((1 : Int64) <<< ((nI j &&& 63).toInt64 &&& 63)))))) a na ma N (cSet f j v) := by
  refine ⟨vp_updL num j v, _, (mU_n (g_neoa h1 h3)).trans ((mU_n (g_neoa h1 h2)).trans h1), (mU_n h4).trans mU_s, mU_s, h4, h5, fun i hi => ?_, fun i w hi hw => ?_, fun i hi hi2 => ?_, fun i hi => ?_⟩
  · rw [cb_or mk (by omega), h6 i hi]
    unfold cSet
    by_cases e : i = j
    · simp [e]
    · simp [e]
  · unfold cSet at hw
    unfold vp_updL
    by_cases e : i = j
    · rw [if_pos e] at hw ⊢; exact Option.some.inj hw
    · rw [if_neg e] at hw ⊢; exact h7 i w hi hw
  · rw [cb_or mk (by omega), h8 i hi hi2, decide_eq_false (show ¬ i = j by omega)]; rfl
  · unfold cSet; rw [if_neg (by omega)]; exact h9 i hi
theorem cells_del {G : gV} {M : gMem} {a na ma N : Nat} {f : Nat → Option Int64} {num mk : Nat → Int64} {j : Nat} (hj : j < N) (h1 : M a = some (oB 1 [.ref na, .ref ma])) (h2 : M na = some (aJ G N num)) (h3 : M ma = some (aJ G ((N + 63) / 64) mk)) (h4 : na ≠ ma) (h5 : N ≤ 4096) (h6 : ∀ i, i < N → mkAt mk i = (f i).isSome) (h7 : ∀ i v, i < N → f i = some v → num i = v) (h8 : ∀ i, N ≤ i → i < (N + 63) / 64 * 64 → mkAt mk i = false) (h9 : ∀ i, N ≤ i → f i = none) :
    isCells G (mU M ma (aJ G ((N + 63) / 64) (vp_updL mk (j / 64) (mk (j / 64) &&& (((1 : Int64) <<< ((nI j &&& 63).toInt64 &&& 63)) ^^^ (-1)))))) a na ma N (cDel f j) := by
  refine ⟨num, _, (mU_n (g_neoa h1 h3)).trans h1, (mU_n h4).trans h2, mU_s, h4, h5, fun i hi => ?_, fun i w hi hw => ?_, fun i hi hi2 => ?_, fun i hi => ?_⟩
  · rw [cb_nor mk (by omega), h6 i hi]
    unfold cDel
    by_cases e : i = j
    · simp [e]
    · simp [e]
  · unfold cDel at hw
    by_cases e : i = j
    · rw [if_pos e] at hw; cases hw
    · rw [if_neg e] at hw; exact h7 i w hi hw
  · rw [cb_nor mk (by omega), h8 i hi hi2]; rfl
  · unfold cDel; rw [if_neg (by omega)]; exact h9 i hi
/-- what a change of a row of cells leaves alone -/
def cPost (G : gV) (M : gMem) (a na ma N : Nat) (f' : Nat → Option Int64) : Option Value → gMem → Prop := fun v M' => v = none ∧ isCells G M' a na ma N f' ∧ ∀ q, q ≠ na → q ≠ ma → M' q = M q

set_option maxRecDepth 20000 in
theorem c_X0_set {l : Launch} {G : gV} {M : gMem} {a na ma N : Nat} {f : Nat → Option Int64} (hC : isCells G M a na ma N f) {j : Nat} {v : Int64} (hj : j < N) : qC l G yX0_set cX0_set 4 none 2 0 0 [.ref a, .int (nI j), .long v] M (cPost G M a na ma N (cSet f j v)) := by
  refine qC_of (by decide +kernel) (Nat.le_of_ble_eq_true rfl) (fun F hF X hr hn => ?_)
  subst hF
  have X : qX G F cX0_set 4 RX0 2 := X
  obtain ⟨num, mk, h1, h2, h3, h4, h5, h6, h7, h8, h9⟩ := id hC
  show qJ G F _ 4 M 0 0 0 [(0, .ref a), (1, .int (nI j)), (2, .long v)] []
  refine q_aload_n X dX0_set_0 0 rfl ?_
  refine q_iload_n X dX0_set_1 1 rfl ?_
  refine q_callVp X (c_X0_isInside hC) Y_X0_isInside tw_432 tw_433 tw_434 h1 rfl (by decide) rfl rfl (Nat.le_of_ble_eq_true rfl) dX0_set_2 ?_
  refine q_if_eq X 33 dX0_set_5 (by decide) (fun c_1 => absurd c_1 (by rw [cIn_in hj h5]; decide)) (fun c_1 => ?_)
  refine q_aload_n X dX0_set_8 0 rfl ?_
  refine q_get X h1 rfl in_RX0 0 (by decide) tw_125 rfl rfl dX0_set_9 ?_
  refine q_iload_n X dX0_set_12 1 rfl ?_
  refine q_lload_n X dX0_set_13 2 rfl ?_
  refine q_lastN X j h2 (rfl) (hj) (by omega) dX0_set_14 ?_
  have m_2 : (mU M na (aJ G N (vp_updL num j v))) a = some (oB 1 [.ref na, .ref ma]) := (mU_n (g_neoa h1 h2)).trans h1
  have m_3 : (mU M na (aJ G N (vp_updL num j v))) na = some (aJ G N (vp_updL num j v)) := mU_s
  have m_4 : (mU M na (aJ G N (vp_updL num j v))) ma = some (aJ G ((N + 63) / 64) mk) := (mU_n (Ne.symm (h4))).trans h3
  refine q_aload_n X dX0_set_15 0 rfl ?_
  refine q_get X m_2 rfl in_RX0 1 (by decide) tw_126 rfl rfl dX0_set_16 ?_
  refine q_iload_n X dX0_set_19 1 rfl ?_
  refine q_bipush (v := 6) X dX0_set_20 (by decide) ?_
  refine q_ishr X dX0_set_22 ?_
  refine q_dup2 X dX0_set_23 rfl rfl ?_
  refine q_laldN X (j / 64) m_4 (cb_shr (by omega)) (by omega) (by omega) dX0_set_24 ?_
  refine q_lconst (v := 1) X dX0_set_25 (by decide) ?_
  refine q_iload_n X dX0_set_26 1 rfl ?_
  refine q_bipush (v := 63) X dX0_set_27 (by decide) ?_
  refine q_iand X dX0_set_29 ?_
  refine q_lshl X dX0_set_30 ?_
  refine q_lor X dX0_set_31 ?_
  refine q_lastN X (j / 64) m_4 (cb_shr (by omega)) (by omega) (by omega) dX0_set_32 ?_
  have m_5 : (mU (mU M na (aJ G N (vp_updL num j v))) ma (aJ G ((N + 63) / 64) (vp_updL mk (j / 64) ((mk (j / 64)) ||| (1 <<< (((nI j) &&& 63).toInt64 &&& 63)))))) a = some (oB 1 [.ref na, .ref ma]) := (mU_n (g_neoa h1 h3)).trans m_2
  have m_6 : (mU (mU M na (aJ G N (vp_updL num j v))) ma (aJ G ((N + 63) / 64) (vp_updL mk (j / 64) ((mk (j / 64)) ||| (1 <<< (((nI j) &&& 63).toInt64 &&& 63)))))) na = some (aJ G N (vp_updL num j v)) := (mU_n (h4)).trans m_3
  have m_7 : (mU (mU M na (aJ G N (vp_updL num j v))) ma (aJ G ((N + 63) / 64) (vp_updL mk (j / 64) ((mk (j / 64)) ||| (1 <<< (((nI j) &&& 63).toInt64 &&& 63)))))) ma = some (aJ G ((N + 63) / 64) (vp_updL mk (j / 64) ((mk (j / 64)) ||| (1 <<< (((nI j) &&& 63).toInt64 &&& 63))))) := mU_s
  exact q_vret X hr dX0_set_33 (⟨rfl, cells_set hj h1 h2 h3 h4 h5 h6 h7 h8 h9, fun q q1 q2 => (mU_n q2).trans (mU_n q1)⟩)

set_option maxRecDepth 20000 in
theorem c_X0_empty {l : Launch} {G : gV} {M : gMem} {a na ma N : Nat} {f : Nat → Option Int64} (hC : isCells G M a na ma N f) {j : Nat} (hj : j < N) : qC l G yX0_empty cX0_empty 2 none 2 0 0 [.ref a, .int (nI j)] M (cPost G M a na ma N (cDel f j)) := by
  refine qC_of (by decide +kernel) (Nat.le_of_ble_eq_true rfl) (fun F hF X hr hn => ?_)
  subst hF
  have X : qX G F cX0_empty 2 RX0 2 := X
  obtain ⟨num, mk, h1, h2, h3, h4, h5, h6, h7, h8, h9⟩ := id hC
  show qJ G F _ 2 M 0 0 0 [(0, .ref a), (1, .int (nI j))] []
  refine q_aload_n X dX0_empty_0 0 rfl ?_
  refine q_iload_n X dX0_empty_1 1 rfl ?_
  refine q_callVp X (c_X0_isInside hC) Y_X0_isInside tw_432 tw_433 tw_434 h1 rfl (by decide) rfl rfl (Nat.le_of_ble_eq_true rfl) dX0_empty_2 ?_
  refine q_if_eq X 30 dX0_empty_5 (by decide) (fun c_1 => absurd c_1 (by rw [cIn_in hj h5]; decide)) (fun c_1 => ?_)
  refine q_aload_n X dX0_empty_8 0 rfl ?_
  refine q_get X h1 rfl in_RX0 1 (by decide) tw_126 rfl rfl dX0_empty_9 ?_
  refine q_iload_n X dX0_empty_12 1 rfl ?_
  refine q_bipush (v := 6) X dX0_empty_13 (by decide) ?_
  refine q_ishr X dX0_empty_15 ?_
  refine q_dup2 X dX0_empty_16 rfl rfl ?_
  refine q_laldN X (j / 64) h3 (cb_shr (by omega)) (by omega) (by omega) dX0_empty_17 ?_
  refine q_lconst (v := 1) X dX0_empty_18 (by decide) ?_
  refine q_iload_n X dX0_empty_19 1 rfl ?_
  refine q_bipush (v := 63) X dX0_empty_20 (by decide) ?_
  refine q_iand X dX0_empty_22 ?_
  refine q_lshl X dX0_empty_23 ?_
  refine q_ldc2 (v := (-1)) X dX0_empty_24 tw_447 ?_
  refine q_lxor X dX0_empty_27 ?_
  refine q_land X dX0_empty_28 ?_
  refine q_lastN X (j / 64) h3 (cb_shr (by omega)) (by omega) (by omega) dX0_empty_29 ?_
  have m_2 : (mU M ma (aJ G ((N + 63) / 64) (vp_updL mk (j / 64) ((mk (j / 64)) &&& ((1 <<< (((nI j) &&& 63).toInt64 &&& 63)) ^^^ (-1)))))) a = some (oB 1 [.ref na, .ref ma]) := (mU_n (g_neoa h1 h3)).trans h1
  have m_3 : (mU M ma (aJ G ((N + 63) / 64) (vp_updL mk (j / 64) ((mk (j / 64)) &&& ((1 <<< (((nI j) &&& 63).toInt64 &&& 63)) ^^^ (-1)))))) na = some (aJ G N num) := (mU_n (h4)).trans h2
  have m_4 : (mU M ma (aJ G ((N + 63) / 64) (vp_updL mk (j / 64) ((mk (j / 64)) &&& ((1 <<< (((nI j) &&& 63).toInt64 &&& 63)) ^^^ (-1)))))) ma = some (aJ G ((N + 63) / 64) (vp_updL mk (j / 64) ((mk (j / 64)) &&& ((1 <<< (((nI j) &&& 63).toInt64 &&& 63)) ^^^ (-1))))) := mU_s
  exact q_vret X hr dX0_empty_30 (⟨rfl, cells_del hj h1 h2 h3 h4 h5 h6 h7 h8 h9, fun q q1 q2 => mU_n q2⟩)

theorem cells_same {f g : Nat → Option Int64} {j : Nat} : (bI (f j).isSome = bI (g j).isSome ∧ (f j).getD 0 = (g j).getD 0) ↔ f j = g j := by
  cases f j <;> cases g j <;> simp [bI]
def cntB (p : Nat → Bool) : Nat → Nat
  | 0 => 0
  | n + 1 => cntB p n + (if p n then 1 else 0)
theorem cntB_le (p : Nat → Bool) (n : Nat) : cntB p n ≤ n := by
  induction n with
  | zero => exact Nat.le_refl 0
  | succ n ih => unfold cntB; split <;> omega

set_option maxRecDepth 20000 in
theorem c_X0_isSame {l : Launch} {G : gV} {M : gMem} {a na ma N : Nat} {f : Nat → Option Int64} (hC : isCells G M a na ma N f) {b nb mb : Nat} {g : Nat → Option Int64} (hD : isCells G M b nb mb N g) {j : Nat} (hj : j < N) : qC l G yX0_isSame cX0_isSame 3 (some .boolean) 4 0 0 [.ref a, .ref b, .int (nI j)] M (pP (.int (bI (decide (f j = g j)))) M) := by
  refine qC_of (by decide +kernel) (Nat.le_of_ble_eq_true rfl) (fun F hF X hr hn => ?_)
  subst hF
  have X : qX G F cX0_isSame 3 RX0 4 := X
  obtain ⟨num, mk, h1, h2, h3, h4, h5, h6, h7, h8, h9⟩ := id hC
  obtain ⟨num2, mk2, i1, i2, i3, i4, i5, i6, i7, i8, i9⟩ := id hD
  show qJ G F _ 3 M 0 0 0 [(0, .ref a), (1, .ref b), (2, .int (nI j))] []
  refine q_aload_n X dX0_isSame_0 0 rfl ?_
  refine q_iload_n X dX0_isSame_1 2 rfl ?_
  refine q_callVp X (c_X0_has hC hj) Y_X0_has tw_531 tw_532 tw_533 h1 rfl (by decide) rfl rfl (Nat.le_of_ble_eq_true rfl) dX0_isSame_2 ?_
  refine q_aload_n X dX0_isSame_5 1 rfl ?_
  refine q_iload_n X dX0_isSame_6 2 rfl ?_
  refine q_callVp X (c_X0_has hD hj) Y_X0_has tw_531 tw_532 tw_533 i1 rfl (by decide) rfl rfl (Nat.le_of_ble_eq_true rfl) dX0_isSame_7 ?_
  refine q_icmp_ne X 31 dX0_isSame_10 (by decide) (fun c1 => ?_) (fun c1 => ?_)
  · refine q_iconst (v := 0) X dX0_isSame_31 (by decide) ?_
    exact q_zret X hr (by decide) dX0_isSame_32 (⟨congrArg (fun z => some (Value.int z)) (by rw [decide_eq_false (fun h => by have h := cells_same.mpr h; first | exact c1 h.1 | exact c2 ((lg_cmp_eq _ _).mpr h.2))]; rfl), rfl⟩)
  · refine q_aload_n X dX0_isSame_13 0 rfl ?_
    refine q_iload_n X dX0_isSame_14 2 rfl ?_
    refine q_callVp X (c_X0_number hC hj) Y_X0_number tw_535 tw_536 tw_537 h1 rfl (by decide) rfl rfl (Nat.le_of_ble_eq_true rfl) dX0_isSame_15 ?_
    refine q_aload_n X dX0_isSame_18 1 rfl ?_
    refine q_iload_n X dX0_isSame_19 2 rfl ?_
    refine q_callVp X (c_X0_number hD hj) Y_X0_number tw_535 tw_536 tw_537 i1 rfl (by decide) rfl rfl (Nat.le_of_ble_eq_true rfl) dX0_isSame_20 ?_
    refine q_lcmp X dX0_isSame_23 ?_
    refine q_if_ne X 31 dX0_isSame_24 (by decide) (fun c2 => ?_) (fun c2 => ?_)
    · refine q_iconst (v := 0) X dX0_isSame_31 (by decide) ?_
      exact q_zret X hr (by decide) dX0_isSame_32 (⟨congrArg (fun z => some (Value.int z)) (by rw [decide_eq_false (fun h => by have h := cells_same.mpr h; first | exact c1 h.1 | exact c2 ((lg_cmp_eq _ _).mpr h.2))]; rfl), rfl⟩)
    · refine q_iconst (v := 1) X dX0_isSame_27 (by decide) ?_
      refine q_goto X 32 dX0_isSame_28 (by decide) ?_
      exact q_zret X hr (by decide) dX0_isSame_32 (⟨congrArg (fun z => some (Value.int z)) (by rw [decide_eq_true (cells_same.mp ⟨c1, (lg_cmp_eq _ _).mp c2⟩)]; rfl), rfl⟩)

set_option maxRecDepth 20000 in
theorem c_X0_differing {l : Launch} {G : gV} {M : gMem} {a na ma N : Nat} {f : Nat → Option Int64} (hC : isCells G M a na ma N f) {b nb mb : Nat} {g : Nat → Option Int64} (hD : isCells G M b nb mb N g) : qC l G yX0_differing cX0_differing 4 (some .int) 5 0 0 [.ref a, .ref b] M (pP (.int (nI (cntB (fun i => !decide (f i = g i)) N))) M) := by
  refine qC_of (by decide +kernel) (Nat.le_of_ble_eq_true rfl) (fun F hF X hr hn => ?_)
  subst hF
  have X : qX G F cX0_differing 4 RX0 5 := X
  obtain ⟨num, mk, h1, h2, h3, h4, h5, h6, h7, h8, h9⟩ := id hC
  obtain ⟨num2, mk2, i1, i2, i3, i4, i5, i6, i7, i8, i9⟩ := id hD
  have loop : ∀ (t j : Nat), j + t = N → qJ G F (qQ G F (pP (.int (nI (cntB (fun i => !decide (f i = g i)) N))) M)) 4 M 0 0 4 [(0, .ref a), (1, .ref b), (2, .int (nI (cntB (fun i => !decide (f i = g i)) j))), (3, .int (nI j))] [] := by
    intro t
    induction t with
    | zero =>
      intro j hj
      have hj : j = N := by omega
      subst hj
      refine q_iload_n X dX0_differing_4 3 rfl ?_
      refine q_aload_n X dX0_differing_5 0 rfl ?_
      refine q_get X h1 rfl in_RX0 0 (by decide) tw_125 rfl rfl dX0_differing_6 ?_
      refine q_alen X 1 h2 rfl dX0_differing_9 ?_
      refine q_icmp_ge X 31 dX0_differing_10 (by decide) (fun c_1 => ?_) (fun c_1 => absurd (nI_le (Nat.le_refl _) (by omega)) c_1)
      refine q_iload_n X dX0_differing_31 2 rfl ?_
      exact q_iret X hr dX0_differing_32 (⟨rfl, rfl⟩)
    | succ t ih =>
      intro j hjt
      have hj : j < N := by omega
      refine q_iload_n X dX0_differing_4 3 rfl ?_
      refine q_aload_n X dX0_differing_5 0 rfl ?_
      refine q_get X h1 rfl in_RX0 0 (by decide) tw_125 rfl rfl dX0_differing_6 ?_
      refine q_alen X 1 h2 rfl dX0_differing_9 ?_
      refine q_icmp_ge X 31 dX0_differing_10 (by decide) (fun c_2 => absurd c_2 (nI_ge hj (by omega))) (fun c_2 => ?_)
      refine q_aload_n X dX0_differing_13 0 rfl ?_
      refine q_aload_n X dX0_differing_14 1 rfl ?_
      refine q_iload_n X dX0_differing_15 3 rfl ?_
      refine q_callVp X (c_X0_isSame hC hD hj) Y_X0_isSame tw_598 tw_528 tw_529 h1 rfl (by decide) rfl rfl (Nat.le_of_ble_eq_true rfl) dX0_differing_16 ?_
      refine q_if_ne X 25 dX0_differing_19 (by decide) (fun c2 => ?_) (fun c2 => ?_)
      · have ec : nI (cntB (fun i => !decide (f i = g i)) j) = nI (cntB (fun i => !decide (f i = g i)) (j + 1)) := by have h9 : f j = g j := (by cases h : decide (f j = g j) with | true => exact of_decide_eq_true h | false => exact absurd (show bI (decide (f j = g j)) = 0 by rw [h]; rfl) c2); simp [cntB, h9]
        rw [ec]
        refine q_iinc (v := (nI (j + 1))) (lv' := [(3, .int (nI (j + 1))), (0, .ref a), (1, .ref b), (2, .int (nI (cntB (fun i => !decide (f i = g i)) (j + 1))))]) X dX0_differing_25 3 rfl (nI_1 j) (by decide) rfl ?_
        refine q_goto X 4 dX0_differing_28 (by decide) ?_
        refine q_sub [1, 2, 3, 0] rfl ?_
        exact ih (j + 1) (by omega)
      · refine q_iinc (v := (nI (cntB (fun i => !decide (f i = g i)) j) + 1)) (lv' := [(2, .int (nI (cntB (fun i => !decide (f i = g i)) j) + 1)), (0, .ref a), (1, .ref b), (3, .int (nI j))]) X dX0_differing_22 2 rfl rfl (by decide) rfl ?_
        have ec : nI (cntB (fun i => !decide (f i = g i)) j) + 1 = nI (cntB (fun i => !decide (f i = g i)) (j + 1)) := by rw [nI_1]; congr 1; have h9 : ¬ f j = g j := (fun h => absurd (show bI (decide (f j = g j)) = 0 from c2) (by rw [decide_eq_true h]; decide)); simp [cntB, h9]
        rw [ec]
        refine q_iinc (v := (nI (j + 1))) (lv' := [(3, .int (nI (j + 1))), (2, .int (nI (cntB (fun i => !decide (f i = g i)) (j + 1)))), (0, .ref a), (1, .ref b)]) X dX0_differing_25 3 rfl (nI_1 j) (by decide) rfl ?_
        refine q_goto X 4 dX0_differing_28 (by decide) ?_
        refine q_sub [2, 3, 1, 0] rfl ?_
        exact ih (j + 1) (by omega)
  refine q_iconst (v := 0) X dX0_differing_0 (by decide) ?_
  refine q_istore_n (lv' := [(2, .int 0), (0, .ref a), (1, .ref b)]) X dX0_differing_1 (by decide) rfl ?_
  refine q_iconst (v := 0) X dX0_differing_2 (by decide) ?_
  refine q_istore_n (lv' := [(3, .int 0), (2, .int 0), (0, .ref a), (1, .ref b)]) X dX0_differing_3 (by decide) rfl ?_
  refine q_sub [2, 3, 1, 0] rfl ?_
  exact loop N 0 (by omega)
