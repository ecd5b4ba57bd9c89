/-! GridVault$Node: its own methods; holds, over what work does -/
set_option maxRecDepth 20000 in
theorem c_X5_form {l : Launch} {G : gV} {M : gMem} {N : gN} {a : Nat} (hs : nStat G M N a) : qC l G yX5_form cX5_form 1 (some (.object "GridVault$Shape")) 1 0 0 [.ref a] M (pP (.ref (nsh N a)) M) := by
  refine qC_of (by decide +kernel) (Nat.le_of_ble_eq_true rfl) (fun F hF X hr hn => ?_)
  subst hF
  have X : qX G F cX5_form 1 RX5 1 := X
  show qJ G F _ 1 M 0 0 0 [(0, .ref a)] []
  refine q_aload_n X dX5_form_0 0 rfl ?_
  refine q_get_shape X hs.1 hs.2.1 dX5_form_1 ?_
  exact q_aret X hr (Or.inl ⟨_, rfl⟩) dX5_form_4 (⟨rfl, rfl⟩)

set_option maxRecDepth 20000 in
theorem c_X5_depth {l : Launch} {G : gV} {M : gMem} {N : gN} {a : Nat} (hs : nStat G M N a) : qC l G yX5_depth cX5_depth 1 (some .int) 1 0 0 [.ref a] M (pP (.int (nI (ndp N a))) M) := by
  refine qC_of (by decide +kernel) (Nat.le_of_ble_eq_true rfl) (fun F hF X hr hn => ?_)
  subst hF
  have X : qX G F cX5_depth 1 RX5 1 := X
  show qJ G F _ 1 M 0 0 0 [(0, .ref a)] []
  refine q_aload_n X dX5_depth_0 0 rfl ?_
  refine q_get_depth X hs.1 hs.2.1 dX5_depth_1 ?_
  exact q_iret X hr dX5_depth_4 (⟨rfl, rfl⟩)

set_option maxRecDepth 20000 in
theorem c_X5_cells {l : Launch} {G : gV} {M : gMem} {N : gN} {a : Nat} (hs : nStat G M N a) : qC l G yX5_cells cX5_cells 1 (some (.object "GridVault$Cells")) 1 0 0 [.ref a] M (pP (.ref (nca N a)) M) := by
  refine qC_of (by decide +kernel) (Nat.le_of_ble_eq_true rfl) (fun F hF X hr hn => ?_)
  subst hF
  have X : qX G F cX5_cells 1 RX5 1 := X
  show qJ G F _ 1 M 0 0 0 [(0, .ref a)] []
  refine q_aload_n X dX5_cells_0 0 rfl ?_
  refine q_get_cells X hs.1 hs.2.1 dX5_cells_1 ?_
  exact q_aret X hr (Or.inl ⟨_, rfl⟩) dX5_cells_4 (⟨rfl, rfl⟩)

set_option maxRecDepth 20000 in
theorem c_X5_number {l : Launch} {G : gV} {M : gMem} {N : gN} {a : Nat} (hs : nStat G M N a) {cf : Nat → Option Int64} {j : Nat} (hc : isCells G M (nca N a) (nna N a) (nma N a) (nsz N a) cf) (hj : j < nsz N a) : qC l G yX5_number cX5_number 2 (some .long) 4 0 0 [.ref a, .int (nI j)] M (pP (.long ((cf j).getD 0)) M) := by
  refine qC_of (by decide +kernel) (Nat.le_of_ble_eq_true rfl) (fun F hF X hr hn => ?_)
  subst hF
  have X : qX G F cX5_number 2 RX5 4 := X
  show qJ G F _ 2 M 0 0 0 [(0, .ref a), (1, .int (nI j))] []
  refine q_aload_n X dX5_number_0 0 rfl ?_
  refine q_get_cells X hs.1 hs.2.1 dX5_number_1 ?_
  refine q_iload_n X dX5_number_4 1 rfl ?_
  refine q_callVp X (c_X0_number hc hj) Y_X0_number tw_981 tw_536 tw_537 hs.2.2.2.2.2.2.2 rfl (by decide) rfl rfl (Nat.le_of_ble_eq_true rfl) dX5_number_5 ?_
  exact q_lret X hr dX5_number_8 (⟨rfl, rfl⟩)

set_option maxRecDepth 20000 in
theorem c_X5_settle {l : Launch} {G : gV} {M : gMem} {N : gN} {a : Nat} (hs : nStat G M N a) {cf : Nat → Option Int64} {j : Nat} {v : Int64} (hc : isCells G M (nca N a) (nna N a) (nma N a) (nsz N a) cf) (hj : j < nsz N a) : qC l G yX5_settle cX5_settle 4 none 4 0 0 [.ref a, .int (nI j), .long v] M (cPost G M (nca N a) (nna N a) (nma N a) (nsz N a) (cSet cf j v)) := by
  refine qC_of (by decide +kernel) (Nat.le_of_ble_eq_true rfl) (fun F hF X hr hn => ?_)
  subst hF
  have X : qX G F cX5_settle 4 RX5 4 := X
  show qJ G F _ 4 M 0 0 0 [(0, .ref a), (1, .int (nI j)), (2, .long v)] []
  refine q_aload_n X dX5_settle_0 0 rfl ?_
  refine q_get_cells X hs.1 hs.2.1 dX5_settle_1 ?_
  refine q_iload_n X dX5_settle_4 1 rfl ?_
  refine q_lload_n X dX5_settle_5 2 rfl ?_
  refine q_callV X (c_X0_set hc hj) Y_X0_set tw_992 tw_429 tw_430 hs.2.2.2.2.2.2.2 rfl (by decide) rfl rfl (Nat.le_of_ble_eq_true rfl) (rc' := 0) (rs' := 0) (by omega) (by omega) dX5_settle_6 (fun v M' hp _ => ?_)
  obtain ⟨rfl, hC9, hm9⟩ := hp
  show qJ G F _ 4 M' 0 0 9 [(0, .ref a), (1, .int (nI j)), (2, .long v)] []
  exact q_vret X hr dX5_settle_9 (⟨rfl, hC9, hm9⟩)

/-- what a node's number is, where its cell was asked for -/
theorem nNum {l : Launch} {G : gV} {M : gMem} {N : gN} {P : Nat → Nat → Prop} {a j : Nat} (h : nInv G M N P) (ha : nS N a) (hj : j < nsz N a) (hq : nci N a ≠ 9 → nAsk G M N a j) (hP : ¬ P a j) : qC l G yX5_number cX5_number 2 (some .long) 4 0 0 [.ref a, .int (nI j)] M (pP (.long ((nden N a j).getD 0)) M) := by
  obtain ⟨hs, -, cf, ak, hc, hak, hr⟩ := h.1 a ha
  have e : cf j = nden N a j := by
    by_cases h9 : nci N a = 9
    · exact (hr j hj).1 h9
    · obtain ⟨n, ak', g1, g2⟩ := hq h9
      rw [hak] at g1
      cases g1
      exact ((hr j hj).2 h9).2.2 g2 hP
  rw [← e]
  exact c_X5_number hs hc hj
/-- setting the bit of a cell that is asked for now -/
theorem nInv_ask {G : gV} {M : gMem} {N : gN} {P : Nat → Nat → Prop} {a j : Nat} {ak : Nat → Int64} (h : nInv G M N P) (ha : nS N a) (hj : j < nsz N a) (hP : ∀ i, ¬ P a i) (hak : M (naa N a) = some (aJ G ((nsz N a + 63) / 64) ak)) (hb : mkAt ak j = false) : nInv G (mU M (naa N a) (aJ G ((nsz N a + 63) / 64) (vp_updL ak (j / 64) (ak (j / 64) ||| ((1 : Int64) <<< ((nI j &&& 63).toInt64 &&& 63)))))) N (pA P a j) ∧ (nci N a = 9 → nInv G (mU M (naa N a) (aJ G ((nsz N a + 63) / 64) (vp_updL ak (j / 64) (ak (j / 64) ||| ((1 : Int64) <<< ((nI j &&& 63).toInt64 &&& 63)))))) N P) ∧ nFr G N (ndp N a) M (mU M (naa N a) (aJ G ((nsz N a + 63) / 64) (vp_updL ak (j / 64) (ak (j / 64) ||| ((1 : Int64) <<< ((nI j &&& 63).toInt64 &&& 63)))))) ∧ nAsk G (mU M (naa N a) (aJ G ((nsz N a + 63) / 64) (vp_updL ak (j / 64) (ak (j / 64) ||| ((1 : Int64) <<< ((nI j &&& 63).toInt64 &&& 63)))))) N a j := by
  obtain ⟨hs, -, cf, ak', hc, hak', hr⟩ := h.1 a ha
  rw [hak] at hak'
  cases hak'
  have h5 : nsz N a ≤ 4096 := hs.2.2.2.2.1
  obtain ⟨d1, d2, d3, d4, d5, d6, -⟩ := h.2 a a ha ha
  have hcn : nca N a ≠ naa N a := g_neoa hs.2.2.2.2.2.2.2 hak
  have hC := hc.mv (M' := mU M (naa N a) (aJ G ((nsz N a + 63) / 64) (vp_updL ak (j / 64) (ak (j / 64) ||| ((1 : Int64) <<< ((nI j &&& 63).toInt64 &&& 63)))))) (mU_n hcn) (mU_n d3) (mU_n d5)
  have hbit : ∀ i, mkAt (vp_updL ak (j / 64) (ak (j / 64) ||| ((1 : Int64) <<< ((nI j &&& 63).toInt64 &&& 63)))) i = (mkAt ak i || decide (i = j)) := fun i => cb_or ak (by omega) i
  have off : ∀ q, q ≠ nna N a → q ≠ nma N a → q ≠ naa N a → (mU M (naa N a) (aJ G ((nsz N a + 63) / 64) (vp_updL ak (j / 64) (ak (j / 64) ||| ((1 : Int64) <<< ((nI j &&& 63).toInt64 &&& 63)))))) q = M q := fun q _ _ q3 => mU_n q3
  refine ⟨nInv_upd h ha off ⟨cf, _, hC, mU_s, fun i hi => ⟨(hr i hi).1, fun q => ⟨fun q1 => ?_, fun p => ?_, fun q1 q2 => ?_⟩⟩⟩ (fun b i e p => by rcases p with p | ⟨p, -⟩; exact p; exact absurd p e) (fun b i _ p => Or.inl p), fun h9 => nInv_upd h ha off ⟨cf, _, hC, mU_s, fun i hi => ⟨(hr i hi).1, fun q => absurd h9 q⟩⟩ (fun b i _ p => p) (fun b i _ p => p), ⟨fun q hq => mU_n (fun e => hq ⟨a, ha, Nat.le_refl _, Or.inr (Or.inr (Or.inl e))⟩), fun b hb9 i hi => ?_⟩, _, _, mU_s, by rw [hbit, decide_eq_true rfl, Bool.or_true]⟩
  · rw [hbit] at q1
    exact ((hr i hi).2 q).1 (by cases h8 : mkAt ak i with | false => rfl | true => rw [h8] at q1; cases q1)
  · rcases p with p | ⟨-, p⟩
    · exact absurd p (hP i)
    · rw [p]; exact ((hr j hj).2 q).1 hb
  · rw [hbit] at q1
    have e : i ≠ j := fun e => q2 (Or.inr ⟨rfl, e⟩)
    rw [decide_eq_false e, Bool.or_false] at q1
    exact ((hr i hi).2 q).2.2 q1 (hP i)
  · obtain ⟨n9, ak9, g9, m9⟩ := hi
    by_cases e : b = a
    · rw [e] at g9 ⊢
      rw [hak] at g9
      cases g9
      exact ⟨_, _, mU_s, by rw [hbit, m9, Bool.true_or]⟩
    · exact ⟨n9, ak9, (mU_n (fun q => e ((h.2 b a hb9 ha).2.2.2.2.2.1 q))).trans g9, m9⟩
/-- what work does: the cell is worked out -/
def wP (G : gV) (N : gN) (a : Nat) (M : gMem) (P : Nat → Nat → Prop) : Option Value → gMem → Prop := fun v M' => v = none ∧ nInv G M' N P ∧ nFr G N (ndp N a) M M'
/-- each kind's work, at a node a, for its cell j, k calls deep -/
def WorkC (l : Launch) (G : gV) (N : gN) (a k : Nat) : Prop := ∀ (M : gMem) (P : Nat → Nat → Prop) (j : Nat), nInv G M N (pA P a j) → j < nsz N a → nAsk G M N a j → (∀ b i, P b i → ndp N a < ndp N b) →
  (nci N a = 3 → qC l G yX2_work cX2_work 4 none k 0 0 [.ref a, .int (nI j)] M (wP G N a M P)) ∧
  (nci N a = 4 → qC l G yX3_work cX3_work 5 none k 0 0 [.ref a, .int (nI j)] M (wP G N a M P)) ∧
  (nci N a = 5 → qC l G yX4_work cX4_work 7 none k 0 0 [.ref a, .int (nI j)] M (wP G N a M P)) ∧
  (nci N a = 6 → qC l G yX6_work cX6_work 12 none k 0 0 [.ref a, .int (nI j)] M (wP G N a M P)) ∧
  (nci N a = 10 → qC l G yX10_work cX10_work 3 none k 0 0 [.ref a, .int (nI j)] M (wP G N a M P))
/-- what holds answers and does -/
def hP (G : gV) (N : gN) (M : gMem) (P : Nat → Nat → Prop) (a : Nat) (i : Int32) : Option Value → gMem → Prop := fun v M' => v = some (.int (bI (nAt N a i).isSome)) ∧ nInv G M' N P ∧ nFr G N (ndp N a) M M' ∧ ∀ j, j < nsz N a → i = nI j → nci N a ≠ 9 → nAsk G M' N a j
theorem nAt_N {N : gN} {a j : Nat} (hj : j < nsz N a) (h5 : nsz N a ≤ 4096) : nAt N a (nI j) = nden N a j := by
  unfold nAt
  rw [cIn_in hj h5, if_neg (by decide), nI_clamp (by omega)]

set_option maxRecDepth 20000 in
theorem c_X9_work {l : Launch} {G : gV} {M : gMem} {a : Nat} {i : Int32} : qC l G yX9_work cX9_work 2 none 0 0 0 [.ref a, .int i] M (pV M) := by
  refine qC_of (by decide +kernel) (Nat.le_of_ble_eq_true rfl) (fun F hF X hr hn => ?_)
  subst hF
  have X : qX G F cX9_work 2 RX9 0 := X
  show qJ G F _ 2 M 0 0 0 [(0, .ref a), (1, .int i)] []
  exact q_vret X hr dX9_work_0 (⟨rfl, rfl⟩)


set_option maxRecDepth 20000 in
theorem c_holds_out {l : Launch} {G : gV} {M : gMem} {N : gN} {P : Nat → Nat → Prop} {a : Nat} (h : nInv G M N P) (ha : nS N a) {i : Int32} {k : Nat} (hi : cIn (nsz N a) i = 0) : qC l G yX5_holds cX5_holds 5 (some .boolean) (k + 3) 0 0 [.ref a, .int i] M (hP G N M P a i) := by
  refine qC_of (by decide +kernel) (Nat.le_of_ble_eq_true rfl) (fun F hF X hr hn => ?_)
  subst hF
  have X : qX G F cX5_holds 5 RX5 (k + 3) := X
  obtain ⟨hs, -, cf, ak, hc, hak, hr9⟩ := h.1 a ha
  have h5 : nsz N a ≤ 4096 := hs.2.2.2.2.1
  show qJ G F _ 5 M 0 0 0 [(0, .ref a), (1, .int i)] []
  refine q_iload_n X dX5_holds_0 1 rfl ?_
  refine q_bipush (v := 6) X dX5_holds_1 (by decide) ?_
  refine q_ishr X dX5_holds_3 ?_
  refine q_istore_n (lv' := [(2, .int (i >>> (6 &&& 31))), (0, .ref a), (1, .int i)]) X dX5_holds_4 (by decide) rfl ?_
  refine q_aload_n X dX5_holds_5 1 rfl ?_
  refine q_get_cells X hs.1 hs.2.1 dX5_holds_6 ?_
  refine q_iload_n X dX5_holds_9 2 rfl ?_
  refine q_callVp X (c_X0_isInside hc) Y_X0_isInside tw_963 tw_433 tw_434 hs.2.2.2.2.2.2.2 rfl (by omega) rfl rfl (Nat.le_of_ble_eq_true rfl) dX5_holds_10 ?_
  refine q_if_eq X 25 dX5_holds_13 (by decide) (fun c_1 => ?_) (fun c_1 => absurd hi c_1)
  refine q_iconst (v := 0) X dX5_holds_25 (by decide) ?_
  exact q_zret X hr (by decide) dX5_holds_26 (⟨by unfold nAt; rw [if_pos hi]; rfl, h, nFr.rf G N _ M, fun j hj e _ => absurd hi (by rw [e, cIn_in hj h5]; decide)⟩)

set_option maxRecDepth 20000 in
theorem c_holds_in {l : Launch} {G : gV} {M : gMem} {N : gN} {P : Nat → Nat → Prop} {a : Nat} (h : nInv G M N P) (ha : nS N a) {j k : Nat} (hj : j < nsz N a) (hP0 : ∀ b i, P b i → ndp N a < ndp N b) (HW : WorkC l G N a (k + 3)) : qC l G yX5_holds cX5_holds 5 (some .boolean) (k + 4) 0 0 [.ref a, .int (nI j)] M (hP G N M P a (nI j)) := by
  refine qC_of (by decide +kernel) (Nat.le_of_ble_eq_true rfl) (fun F hF X hr hn => ?_)
  subst hF
  have X : qX G F cX5_holds 5 RX5 (k + 4) := X
  obtain ⟨hs, -, cf, ak, hc, hak, hr9⟩ := h.1 a ha
  have h5 : nsz N a ≤ 4096 := hs.2.2.2.2.1
  have hPa : ∀ i, ¬ P a i := fun i p => absurd (hP0 a i p) (Nat.lt_irrefl _)
  have tail : ∀ M2 : gMem, nInv G M2 N P → (nci N a ≠ 9 → nAsk G M2 N a j) → nFr G N (ndp N a) M M2 → qJ G F (qQ G F (hP G N M P a (nI j))) 5 M2 0 0 62 [(0, .ref a), (1, .int (nI j))] [] := by
    intro M2 h2 hq hfr
    obtain ⟨hs, -, cf2, ak2, hc2, hak2, hr2⟩ := h2.1 a ha
    have e : cf2 j = nden N a j := by
      by_cases h9 : nci N a = 9
      · exact (hr2 j hj).1 h9
      · obtain ⟨n, ak3, g1, g2⟩ := hq h9
        rw [hak2] at g1
        cases g1
        exact ((hr2 j hj).2 h9).2.2 g2 (hPa j)
    refine q_aload_n X dX5_holds_62 0 rfl ?_
    refine q_get_cells X hs.1 hs.2.1 dX5_holds_63 ?_
    refine q_iload_n X dX5_holds_66 1 rfl ?_
    refine q_callVp X (c_X0_has hc2 hj) Y_X0_has tw_1110 tw_532 tw_533 hs.2.2.2.2.2.2.2 rfl (by omega) rfl rfl (Nat.le_of_ble_eq_true rfl) dX5_holds_67 ?_
    exact q_zret X hr (bI_01 _) dX5_holds_70 (⟨by rw [e, nAt_N hj h5], h2, hfr, fun j2 hj2 e2 h9 => by have e3 : j = j2 := (nI_eq (by omega) (by omega)).mp e2; rw [← e3]; exact hq h9⟩)
  show qJ G F _ 5 M 0 0 0 [(0, .ref a), (1, .int (nI j))] []
  refine q_iload_n X dX5_holds_0 1 rfl ?_
  refine q_bipush (v := 6) X dX5_holds_1 (by decide) ?_
  refine q_ishr X dX5_holds_3 ?_
  rw [cb_shr (by omega)]
  refine q_istore_n (lv' := [(2, .int (nI (j / 64))), (0, .ref a), (1, .int (nI j))]) X dX5_holds_4 (by decide) rfl ?_
  refine q_aload_n X dX5_holds_5 1 rfl ?_
  refine q_get_cells X hs.1 hs.2.1 dX5_holds_6 ?_
  refine q_iload_n X dX5_holds_9 2 rfl ?_
  refine q_callVp X (c_X0_isInside hc) Y_X0_isInside tw_963 tw_433 tw_434 hs.2.2.2.2.2.2.2 rfl (by omega) rfl rfl (Nat.le_of_ble_eq_true rfl) dX5_holds_10 ?_
  refine q_if_eq X 25 dX5_holds_13 (by decide) (fun c_1 => absurd c_1 (by rw [cIn_in hj h5]; decide)) (fun c_1 => ?_)
  refine q_iload_n X dX5_holds_16 0 rfl ?_
  refine q_aload_n X dX5_holds_17 1 rfl ?_
  refine q_get_asked X hs.1 hs.2.1 dX5_holds_18 ?_
  refine q_alen X 1 hak rfl dX5_holds_21 ?_
  refine q_icmp_lt X 27 dX5_holds_22 (by decide) (fun c_2 => ?_) (fun c_2 => absurd (nI_lt (show j / 64 < (nsz N a + 63) / 64 by omega) (by omega)) c_2)
  refine q_lconst (v := 1) X dX5_holds_27 (by decide) ?_
  refine q_iload_n X dX5_holds_28 2 rfl ?_
  refine q_bipush (v := 63) X dX5_holds_29 (by decide) ?_
  refine q_iand X dX5_holds_31 ?_
  refine q_lshl X dX5_holds_32 ?_
  refine q_lstore_n (lv' := [(3, .long (1 <<< (((nI j) &&& 63).toInt64 &&& 63))), (2, .int (nI (j / 64))), (0, .ref a), (1, .int (nI j))]) X dX5_holds_33 (by decide) rfl ?_
  refine q_aload_n X dX5_holds_34 2 rfl ?_
  refine q_get_asked X hs.1 hs.2.1 dX5_holds_35 ?_
  refine q_iload_n X dX5_holds_38 1 rfl ?_
  refine q_laldN X (j / 64) hak (rfl) (by omega) (by omega) dX5_holds_39 ?_
  refine q_lload_n X dX5_holds_40 0 rfl ?_
  refine q_land X dX5_holds_41 ?_
  refine q_lconst (v := 0) X dX5_holds_42 (by decide) ?_
  refine q_lcmp X dX5_holds_43 ?_
  refine q_if_ne X 62 dX5_holds_44 (by decide) (fun k2 => ?_) (fun k2 => ?_)
  · refine q_sub [2, 3] rfl (tail M h (fun _ => ⟨_, ak, hak, by cases h8 : mkAt ak j with | true => rfl | false => exact absurd ((lg_cmp_eq _ _).mpr ((cb_bitE ak (by omega)).mpr h8)) k2⟩) (nFr.rf G N _ M))
  · refine q_aload_n X dX5_holds_47 2 rfl ?_
    refine q_get_asked X hs.1 hs.2.1 dX5_holds_48 ?_
    refine q_iload_n X dX5_holds_51 1 rfl ?_
    refine q_dup2 X dX5_holds_52 rfl rfl ?_
    refine q_laldN X (j / 64) hak (rfl) (by omega) (by omega) dX5_holds_53 ?_
    refine q_lload_n X dX5_holds_54 0 rfl ?_
    refine q_lor X dX5_holds_55 ?_
    refine q_lastN X (j / 64) hak (rfl) (by omega) (by omega) dX5_holds_56 ?_
    have m_3 : (mU M (naa N a) (aJ G ((nsz N a + 63) / 64) (vp_updL ak (j / 64) ((ak (j / 64)) ||| (1 <<< (((nI j) &&& 63).toInt64 &&& 63)))))) a = some (oB (nci N a) (.ref (nsh N a) :: .int (nI (ndp N a)) :: .ref (nca N a) :: .ref (naa N a) :: nex N a)) := (mU_n (g_neoa hs.2.1 hak)).trans hs.2.1
    have m_4 : (mU M (naa N a) (aJ G ((nsz N a + 63) / 64) (vp_updL ak (j / 64) ((ak (j / 64)) ||| (1 <<< (((nI j) &&& 63).toInt64 &&& 63)))))) (nca N a) = some (oB 1 [.ref (nna N a), .ref (nma N a)]) := (mU_n (g_neoa hs.2.2.2.2.2.2.2 hak)).trans hs.2.2.2.2.2.2.2
    have m_5 : (mU M (naa N a) (aJ G ((nsz N a + 63) / 64) (vp_updL ak (j / 64) ((ak (j / 64)) ||| (1 <<< (((nI j) &&& 63).toInt64 &&& 63)))))) (naa N a) = some (aJ G ((nsz N a + 63) / 64) (vp_updL ak (j / 64) ((ak (j / 64)) ||| (1 <<< (((nI j) &&& 63).toInt64 &&& 63))))) := mU_s
    have hb : mkAt ak j = false := (cb_bitE ak (by omega)).mp ((lg_cmp_eq _ _).mp k2)
    obtain ⟨q1, q2, q3, q4⟩ := nInv_ask h ha hj hPa hak hb
    refine q_aload_n X dX5_holds_57 2 rfl ?_
    refine q_iload_n X dX5_holds_58 3 rfl ?_
    have ha1 : (mU M (naa N a) (aJ G ((nsz N a + 63) / 64) (vp_updL ak (j / 64) ((ak (j / 64)) ||| (1 <<< (((nI j) &&& 63).toInt64 &&& 63)))))) a = some (oB (nci N a) (.ref (nsh N a) :: .int (nI (ndp N a)) :: .ref (nca N a) :: .ref (naa N a) :: nex N a)) := (mU_n (g_neoa hs.2.1 hak)).trans hs.2.1
    obtain ⟨w1, w2, w3, w4, w5⟩ := HW (mU M (naa N a) (aJ G ((nsz N a + 63) / 64) (vp_updL ak (j / 64) ((ak (j / 64)) ||| (1 <<< (((nI j) &&& 63).toInt64 &&& 63)))))) P j q1 hj q4 hP0
    rcases id hs.1 with e0 | e0 | e0 | e0 | e0 | e0
    · refine q_callU X (x := ⟨"GridVault$Node", "work", "(I)V"⟩) (owner := "GridVault$Node") (ci := 3) (w1 e0) Y_X2_work tw_964 tw_966 (by decide) rfl (g_decl X tn_965) tw_968 ⟨_, rfl, tw_967⟩ (by rw [← e0]; exact ha1) (by omega) rfl rfl (Nat.le_of_ble_eq_true rfl) (rc' := 0) (rs' := 0) (Nat.le_refl _) (Nat.le_refl _) dX5_holds_59 (fun v M' hp _ => ?_)
      obtain ⟨rfl, g1, g2⟩ := hp
      refine q_sub [2, 3] rfl (tail _ g1 (fun _ => g2.2 a ha j q4) (q3.trans g2))
    · refine q_callU X (x := ⟨"GridVault$Node", "work", "(I)V"⟩) (owner := "GridVault$Node") (ci := 4) (w2 e0) Y_X3_work tw_964 tw_966 (by decide) rfl (g_decl X tn_965) tw_998 ⟨_, rfl, tw_997⟩ (by rw [← e0]; exact ha1) (by omega) rfl rfl (Nat.le_of_ble_eq_true rfl) (rc' := 0) (rs' := 0) (Nat.le_refl _) (Nat.le_refl _) dX5_holds_59 (fun v M' hp _ => ?_)
      obtain ⟨rfl, g1, g2⟩ := hp
      refine q_sub [2, 3] rfl (tail _ g1 (fun _ => g2.2 a ha j q4) (q3.trans g2))
    · refine q_callU X (x := ⟨"GridVault$Node", "work", "(I)V"⟩) (owner := "GridVault$Node") (ci := 5) (w3 e0) Y_X4_work tw_964 tw_966 (by decide) rfl (g_decl X tn_965) tw_1052 ⟨_, rfl, tw_1051⟩ (by rw [← e0]; exact ha1) (by omega) rfl rfl (Nat.le_of_ble_eq_true rfl) (rc' := 0) (rs' := 0) (Nat.le_refl _) (Nat.le_refl _) dX5_holds_59 (fun v M' hp _ => ?_)
      obtain ⟨rfl, g1, g2⟩ := hp
      refine q_sub [2, 3] rfl (tail _ g1 (fun _ => g2.2 a ha j q4) (q3.trans g2))
    · refine q_callU X (x := ⟨"GridVault$Node", "work", "(I)V"⟩) (owner := "GridVault$Node") (ci := 6) (w4 e0) Y_X6_work tw_964 tw_966 (by decide) rfl (g_decl X tn_965) tw_1072 ⟨_, rfl, tw_1071⟩ (by rw [← e0]; exact ha1) (by omega) rfl rfl (Nat.le_of_ble_eq_true rfl) (rc' := 0) (rs' := 0) (Nat.le_refl _) (Nat.le_refl _) dX5_holds_59 (fun v M' hp _ => ?_)
      obtain ⟨rfl, g1, g2⟩ := hp
      refine q_sub [2, 3] rfl (tail _ g1 (fun _ => g2.2 a ha j q4) (q3.trans g2))
    · refine q_callU X (x := ⟨"GridVault$Node", "work", "(I)V"⟩) (owner := "GridVault$Node") (ci := 9) (c_X9_work (i := nI j)) Y_X9_work tw_964 tw_966 (by decide) rfl (g_decl X tn_965) tw_1090 ⟨_, rfl, tw_1089⟩ (by rw [← e0]; exact ha1) (by omega) rfl rfl (Nat.le_of_ble_eq_true rfl) (rc' := 0) (rs' := 0) (Nat.le_refl _) (Nat.le_refl _) dX5_holds_59 (fun v M' hp _ => ?_)
      obtain ⟨rfl, rfl⟩ := hp
      refine q_sub [2, 3] rfl (tail _ (q2 e0) (fun h9 => absurd e0 h9) q3)
    · refine q_callU X (x := ⟨"GridVault$Node", "work", "(I)V"⟩) (owner := "GridVault$Node") (ci := 10) (w5 e0) Y_X10_work tw_964 tw_966 (by decide) rfl (g_decl X tn_965) tw_1093 ⟨_, rfl, tw_1092⟩ (by rw [← e0]; exact ha1) (by omega) rfl rfl (Nat.le_of_ble_eq_true rfl) (rc' := 0) (rs' := 0) (Nat.le_refl _) (Nat.le_refl _) dX5_holds_59 (fun v M' hp _ => ?_)
      obtain ⟨rfl, g1, g2⟩ := hp
      refine q_sub [2, 3] rfl (tail _ g1 (fun _ => g2.2 a ha j q4) (q3.trans g2))
