/-! the reference's small helpers -/
section
variable {G : gV} {M M' : gMem} {r : Nat} {e : Int32} {σ : sA} {vA nA pA plA dg dla dha dva dza : Nat} {dvf : Nat → Int64} {dzf : Nat → Int32} {vf nf : Nat → Option Nat} {pf : Nat → Int32} {tk : Int32} {su le gr : Int64}
/-- cells are made; the object's numbers and the place may have changed -/
theorem rfB.ev2 (h : rfB G M r e σ vA nA pA plA dg dla dha dva dza dvf dzf vf nf pf tk su le gr) (x : mEv (fun q => q = r ∨ q = plA) M M') {e' tk' : Int32} {su' le' gr' : Int64} (hr : M' r = some (rfO e' vA nA pA plA dg σ tk' su' le' gr')) (hp : ∃ xx, M' plA = some (aI G 3 xx)) : rfB G M' r e' σ vA nA pA plA dg dla dha dva dza dvf dzf vf nf pf tk' su' le' gr' :=
  ⟨hr, h.2.mv (fun q y hq hy hpl => x.keep hq (fun z => by
    rcases z with z | z
    · rw [z, h.1] at hq; cases hq; exact hy _ rfl
    · exact hpl z)) hp⟩
end

set_option maxRecDepth 20000 in
theorem c_fails0 {l : Launch} {G : gV} {M : gMem} {r : Nat} {e why : Int32} {w1 w2 w3 w4 w5 w6 w7 w8 w9 w10 w11 w12 w13 : Value} (hA : M r = some (oB 13 [.int e, w1, w2, w3, w4, w5, w6, w7, w8, w9, w10, w11, w12, w13])) : qC l G yX13_fails cX13_fails 3 (some .boolean) 1 0 0 [.ref r, .int 0, .int why] M (fun v M' => v = some (.int 0) ∧ M' = mU M r (oB 13 [.int 0, w1, w2, w3, w4, w5, w6, w7, w8, w9, w10, w11, w12, w13])) := by
  refine qC_of (by decide +kernel) (Nat.le_of_ble_eq_true rfl) (fun F hF X hr hn => ?_)
  subst hF
  have X : qX G F cX13_fails 3 RX13 1 := X
  show qJ G F _ 3 M 0 0 0 [(0, .ref r), (1, .int 0), (2, .int why)] []
  refine q_aload_n X dX13_fails_0 0 rfl ?_
  refine q_iload_n X dX13_fails_1 1 rfl ?_
  refine q_if_eq X 9 dX13_fails_2 (by decide) (fun c_1 => ?_) (fun c_1 => absurd rfl c_1)
  refine q_iconst (v := 0) X dX13_fails_9 (by decide) ?_
  refine q_put X hA rfl in_RX13 tyX13 tyX13_ok nmX13 0 (by decide) tw_1194 rfl rfl rfl rfl rfl (Nat.le_of_ble_eq_true rfl) (fs1 := [.int 0, w1, w2, w3, w4, w5, w6, w7, w8, w9, w10, w11, w12, w13]) rfl dX13_fails_10 ?_
  have m_2 : (mU M r (oB 13 [.int 0, w1, w2, w3, w4, w5, w6, w7, w8, w9, w10, w11, w12, w13])) r = some (oB 13 [.int 0, w1, w2, w3, w4, w5, w6, w7, w8, w9, w10, w11, w12, w13]) := mU_s
  refine q_iload_n X dX13_fails_13 1 rfl ?_
  exact q_zret X hr (by decide) dX13_fails_14 (⟨rfl, rfl⟩)

set_option maxRecDepth 20000 in
theorem c_fails1 {l : Launch} {G : gV} {M : gMem} {r : Nat} {e why : Int32} {w1 w2 w3 w4 w5 w6 w7 w8 w9 w10 w11 w12 w13 : Value} (hA : M r = some (oB 13 [.int e, w1, w2, w3, w4, w5, w6, w7, w8, w9, w10, w11, w12, w13])) : qC l G yX13_fails cX13_fails 3 (some .boolean) 1 0 0 [.ref r, .int 1, .int why] M (fun v M' => v = some (.int 1) ∧ M' = mU M r (oB 13 [.int why, w1, w2, w3, w4, w5, w6, w7, w8, w9, w10, w11, w12, w13])) := by
  refine qC_of (by decide +kernel) (Nat.le_of_ble_eq_true rfl) (fun F hF X hr hn => ?_)
  subst hF
  have X : qX G F cX13_fails 3 RX13 1 := X
  show qJ G F _ 3 M 0 0 0 [(0, .ref r), (1, .int 1), (2, .int why)] []
  refine q_aload_n X dX13_fails_0 0 rfl ?_
  refine q_iload_n X dX13_fails_1 1 rfl ?_
  refine q_if_eq X 9 dX13_fails_2 (by decide) (fun c_1 => absurd c_1 (by decide)) (fun c_1 => ?_)
  refine q_iload_n X dX13_fails_5 2 rfl ?_
  refine q_goto X 10 dX13_fails_6 (by decide) ?_
  refine q_put X hA rfl in_RX13 tyX13 tyX13_ok nmX13 0 (by decide) tw_1194 rfl rfl rfl rfl rfl (Nat.le_of_ble_eq_true rfl) (fs1 := [.int why, w1, w2, w3, w4, w5, w6, w7, w8, w9, w10, w11, w12, w13]) rfl dX13_fails_10 ?_
  have m_2 : (mU M r (oB 13 [.int why, w1, w2, w3, w4, w5, w6, w7, w8, w9, w10, w11, w12, w13])) r = some (oB 13 [.int why, w1, w2, w3, w4, w5, w6, w7, w8, w9, w10, w11, w12, w13]) := mU_s
  refine q_iload_n X dX13_fails_13 1 rfl ?_
  exact q_zret X hr (by decide) dX13_fails_14 (⟨rfl, rfl⟩)

set_option maxRecDepth 20000 in
theorem c_thrown {l : Launch} {G : gV} {M : gMem} {r : Nat} {e : Int32} {w1 w2 w3 w4 w5 w6 w7 w8 w9 w10 w11 w12 w13 : Value} (hA : M r = some (oB 13 [.int e, w1, w2, w3, w4, w5, w6, w7, w8, w9, w10, w11, w12, w13])) : qC l G yX13_thrown cX13_thrown 1 (some .int) 1 0 0 [.ref r] M (pP (.int e) M) := by
  refine qC_of (by decide +kernel) (Nat.le_of_ble_eq_true rfl) (fun F hF X hr hn => ?_)
  subst hF
  have X : qX G F cX13_thrown 1 RX13 1 := X
  show qJ G F _ 1 M 0 0 0 [(0, .ref r)] []
  refine q_aload_n X dX13_thrown_0 0 rfl ?_
  refine q_get X hA rfl in_RX13 0 (by decide) tw_1194 rfl rfl dX13_thrown_1 ?_
  exact q_iret X hr dX13_thrown_4 (⟨rfl, rfl⟩)

theorem nI_eq150 {n : Nat} (h : n ≤ 4096) : nI n = 150 ↔ n = 150 := ⟨fun q => nI_inj (by omega) (by decide) (show nI n = nI 150 from q), fun q => by rw [q]; rfl⟩
theorem nI_eq41 {n : Nat} (h : n ≤ 4096) : nI n = 41 ↔ n = 41 := ⟨fun q => nI_inj (by omega) (by decide) (show nI n = nI 41 from q), fun q => by rw [q]; rfl⟩

set_option maxRecDepth 20000 in
theorem c_full_y {l : Launch} {G : gV} {M : gMem} {r : Nat} {e : Int32} {σ : sA} {vA nA pA plA dg dla dha dva dza : Nat} {dvf : Nat → Int64} {dzf : Nat → Int32} {vf nf : Nat → Option Nat} {pf : Nat → Int32} {tk : Int32} {su le gr : Int64} (hB : rfB G M r e σ vA nA pA plA dg dla dha dva dza dvf dzf vf nf pf tk su le gr) (hq : (aN σ).length < 150) : qC l G yX13_full cX13_full 1 (some .boolean) 2 0 0 [.ref r] M (fun v M' => v = some (.int 0) ∧ M' = mU M r (rfO 0 vA nA pA plA dg σ tk su le gr)) := by
  refine qC_of (by decide +kernel) (Nat.le_of_ble_eq_true rfl) (fun F hF X hr hn => ?_)
  subst hF
  have X : qX G F cX13_full 1 RX13 2 := X
  show qJ G F _ 1 M 0 0 0 [(0, .ref r)] []
  refine q_aload_n X dX13_full_0 0 rfl ?_
  refine q_aload_n X dX13_full_1 0 rfl ?_
  refine q_get X hB.1 rfl in_RX13 7 (by decide) tw_1201 rfl rfl dX13_full_2 ?_
  refine q_sipush (v := 150) X dX13_full_5 (by decide) ?_
  refine q_icmp_ne X 15 dX13_full_8 (by decide) (fun c_1 => ?_) (fun c_1 => absurd ((nI_eq150 (by omega)).mp c_1) (by omega))
  refine q_iconst (v := 0) X dX13_full_15 (by decide) ?_
  refine q_iconst (v := 2) X dX13_full_16 (by decide) ?_
  refine q_callV X (c_fails0 (why := 2) hB.1) Y_X13_fails tw_1246 tw_1248 sel_23 hB.1 rfl (by omega) rfl rfl (Nat.le_of_ble_eq_true rfl) (rc' := 0) (rs' := 0) (by omega) (by omega) dX13_full_17 (fun v M' hp _ => ?_)
  obtain ⟨rfl, eM⟩ := hp
  rw [eM]
  clear eM
  show qJ G F _ 1 (mU M r (rfO 0 vA nA pA plA dg σ tk su le gr)) 0 0 20 [(0, .ref r)] [.int 0]
  exact q_zret X hr (by decide) dX13_full_20 (⟨rfl, rfl⟩)

set_option maxRecDepth 20000 in
theorem c_full_n {l : Launch} {G : gV} {M : gMem} {r : Nat} {e : Int32} {σ : sA} {vA nA pA plA dg dla dha dva dza : Nat} {dvf : Nat → Int64} {dzf : Nat → Int32} {vf nf : Nat → Option Nat} {pf : Nat → Int32} {tk : Int32} {su le gr : Int64} (hB : rfB G M r e σ vA nA pA plA dg dla dha dva dza dvf dzf vf nf pf tk su le gr) (hq : (aN σ).length ≥ 150) (h150 : (aN σ).length ≤ 150) : qC l G yX13_full cX13_full 1 (some .boolean) 2 0 0 [.ref r] M (fun v M' => v = some (.int 1) ∧ M' = mU M r (rfO 2 vA nA pA plA dg σ tk su le gr)) := by
  refine qC_of (by decide +kernel) (Nat.le_of_ble_eq_true rfl) (fun F hF X hr hn => ?_)
  subst hF
  have X : qX G F cX13_full 1 RX13 2 := X
  show qJ G F _ 1 M 0 0 0 [(0, .ref r)] []
  refine q_aload_n X dX13_full_0 0 rfl ?_
  refine q_aload_n X dX13_full_1 0 rfl ?_
  refine q_get X hB.1 rfl in_RX13 7 (by decide) tw_1201 rfl rfl dX13_full_2 ?_
  refine q_sipush (v := 150) X dX13_full_5 (by decide) ?_
  refine q_icmp_ne X 15 dX13_full_8 (by decide) (fun c_1 => absurd ((nI_eq150 (by omega)).mpr (by omega)) c_1) (fun c_1 => ?_)
  refine q_iconst (v := 1) X dX13_full_11 (by decide) ?_
  refine q_goto X 16 dX13_full_12 (by decide) ?_
  refine q_iconst (v := 2) X dX13_full_16 (by decide) ?_
  refine q_callV X (c_fails1 (why := 2) hB.1) Y_X13_fails tw_1246 tw_1248 sel_23 hB.1 rfl (by omega) rfl rfl (Nat.le_of_ble_eq_true rfl) (rc' := 0) (rs' := 0) (by omega) (by omega) dX13_full_17 (fun v M' hp _ => ?_)
  obtain ⟨rfl, eM⟩ := hp
  rw [eM]
  clear eM
  show qJ G F _ 1 (mU M r (rfO 2 vA nA pA plA dg σ tk su le gr)) 0 0 20 [(0, .ref r)] [.int 1]
  exact q_zret X hr (by decide) dX13_full_20 (⟨rfl, rfl⟩)

theorem at_some {A : Type} {xs : List A} {i : Int32} {w : A} (hw : (if i < 0 then none else xs[i.toNatClampNeg]?) = some w) : ∃ j, j < xs.length ∧ i = nI j ∧ xs[j]? = some w := by
  by_cases c : i < 0
  · rw [if_pos c] at hw; cases hw
  · rw [if_neg c] at hw
    refine ⟨i.toNatClampNeg, (List.getElem?_eq_some_iff.mp hw).1, i_nI ?_, hw⟩
    have e : i.toNatClampNeg = i.toInt.toNat := rfl
    rw [Int32.lt_iff_toInt_lt] at c
    have : (0 : Int32).toInt = 0 := by decide
    omega
theorem at_none {A : Type} {xs : List A} {i : Int32} (hl : xs.length ≤ 4096) (hw : (if i < 0 then none else xs[i.toNatClampNeg]?) = none) (c : ¬ i < 0) : nI xs.length ≤ i := by
  rw [if_neg c] at hw
  have h := List.getElem?_eq_none_iff.mp hw
  have e : i.toNatClampNeg = i.toInt.toNat := rfl
  rw [Int32.le_iff_toInt_le, nI_toInt (by omega)]
  rw [Int32.lt_iff_toInt_lt] at c
  have : (0 : Int32).toInt = 0 := by decide
  omega
theorem ndAt_some {σ : sA} {i : Int32} {w : vN} (hw : ndAt σ i = some w) : ∃ j, j < (aN σ).length ∧ i = nI j ∧ (aN σ)[j]? = some w := at_some hw
theorem vAt_some {σ : sA} {i : Int32} {w : (Nat → Option Int64) × Nat} (hw : vAt σ i = some w) : ∃ j, j < (aV σ).length ∧ i = nI j ∧ (aV σ)[j]? = some w := at_some hw
theorem ndAt_none {σ : sA} {i : Int32} (hl : (aN σ).length ≤ 4096) (hw : ndAt σ i = none) (c : ¬ i < 0) : nI (aN σ).length ≤ i := at_none hl hw c
theorem vAt_none {σ : sA} {i : Int32} (hl : (aV σ).length ≤ 4096) (hw : vAt σ i = none) (c : ¬ i < 0) : nI (aV σ).length ≤ i := at_none hl hw c

set_option maxRecDepth 20000 in
theorem c_none_y {l : Launch} {G : gV} {M : gMem} {r : Nat} {e : Int32} {σ : sA} {vA nA pA plA dg dla dha dva dza : Nat} {dvf : Nat → Int64} {dzf : Nat → Int32} {vf nf : Nat → Option Nat} {pf : Nat → Int32} {tk : Int32} {su le gr : Int64} (hB : rfB G M r e σ vA nA pA plA dg dla dha dva dza dvf dzf vf nf pf tk su le gr) {i : Int32} {w : vN} (hl : (aN σ).length ≤ 4096) (hw : ndAt σ i = some w) : qC l G yX13_none cX13_none 2 (some .boolean) 1 0 0 [.ref r, .int i] M (pP (.int 0) M) := by
  refine qC_of (by decide +kernel) (Nat.le_of_ble_eq_true rfl) (fun F hF X hr hn => ?_)
  subst hF
  have X : qX G F cX13_none 2 RX13 1 := X
  obtain ⟨j, hj, rfl, hjw⟩ := ndAt_some hw
  have c1 : ¬ nI j < 0 := nI_pos (by omega)
  have c2 : nI j < nI (aN σ).length := (nI_ltk (by omega) hl).mpr hj
  show qJ G F _ 2 M 0 0 0 [(0, .ref r), (1, .int (nI j))] []
  refine q_iload_n X dX13_none_0 1 rfl ?_
  refine q_if_lt X 12 dX13_none_1 (by decide) (fun c_1 => absurd c_1 c1) (fun c_1 => ?_)
  refine q_iload_n X dX13_none_4 1 rfl ?_
  refine q_aload_n X dX13_none_5 0 rfl ?_
  refine q_get X hB.1 rfl in_RX13 7 (by decide) tw_1201 rfl rfl dX13_none_6 ?_
  refine q_icmp_lt X 16 dX13_none_9 (by decide) (fun c_2 => ?_) (fun c_2 => absurd c2 c_2)
  refine q_iconst (v := 0) X dX13_none_16 (by decide) ?_
  exact q_zret X hr (by decide) dX13_none_17 (⟨rfl, rfl⟩)

set_option maxRecDepth 20000 in
theorem c_none_n {l : Launch} {G : gV} {M : gMem} {r : Nat} {e : Int32} {σ : sA} {vA nA pA plA dg dla dha dva dza : Nat} {dvf : Nat → Int64} {dzf : Nat → Int32} {vf nf : Nat → Option Nat} {pf : Nat → Int32} {tk : Int32} {su le gr : Int64} (hB : rfB G M r e σ vA nA pA plA dg dla dha dva dza dvf dzf vf nf pf tk su le gr) {i : Int32} (hl : (aN σ).length ≤ 4096) (hw : ndAt σ i = none) : qC l G yX13_none cX13_none 2 (some .boolean) 1 0 0 [.ref r, .int i] M (pP (.int 1) M) := by
  refine qC_of (by decide +kernel) (Nat.le_of_ble_eq_true rfl) (fun F hF X hr hn => ?_)
  subst hF
  have X : qX G F cX13_none 2 RX13 1 := X
  show qJ G F _ 2 M 0 0 0 [(0, .ref r), (1, .int i)] []
  refine q_iload_n X dX13_none_0 1 rfl ?_
  refine q_if_lt X 12 dX13_none_1 (by decide) (fun c1 => ?_) (fun c1 => ?_)
  · refine q_iconst (v := 1) X dX13_none_12 (by decide) ?_
    refine q_goto X 17 dX13_none_13 (by decide) ?_
    exact q_zret X hr (by decide) dX13_none_17 (⟨rfl, rfl⟩)
  · refine q_iload_n X dX13_none_4 1 rfl ?_
    refine q_aload_n X dX13_none_5 0 rfl ?_
    refine q_get X hB.1 rfl in_RX13 7 (by decide) tw_1201 rfl rfl dX13_none_6 ?_
    refine q_icmp_lt X 16 dX13_none_9 (by decide) (fun c_1 => absurd (ndAt_none hl hw c1) (Int32.not_le.mpr c_1)) (fun c_1 => ?_)
    refine q_iconst (v := 1) X dX13_none_12 (by decide) ?_
    refine q_goto X 17 dX13_none_13 (by decide) ?_
    exact q_zret X hr (by decide) dX13_none_17 (⟨rfl, rfl⟩)

set_option maxRecDepth 20000 in
theorem c_noVersion_y {l : Launch} {G : gV} {M : gMem} {r : Nat} {e : Int32} {σ : sA} {vA nA pA plA dg dla dha dva dza : Nat} {dvf : Nat → Int64} {dzf : Nat → Int32} {vf nf : Nat → Option Nat} {pf : Nat → Int32} {tk : Int32} {su le gr : Int64} (hB : rfB G M r e σ vA nA pA plA dg dla dha dva dza dvf dzf vf nf pf tk su le gr) {i : Int32} {w : ((Nat → Option Int64) × Nat)} (hl : (aV σ).length ≤ 4096) (hw : vAt σ i = some w) : qC l G yX13_noVersion cX13_noVersion 2 (some .boolean) 1 0 0 [.ref r, .int i] M (pP (.int 0) M) := by
  refine qC_of (by decide +kernel) (Nat.le_of_ble_eq_true rfl) (fun F hF X hr hn => ?_)
  subst hF
  have X : qX G F cX13_noVersion 2 RX13 1 := X
  obtain ⟨j, hj, rfl, hjw⟩ := vAt_some hw
  have c1 : ¬ nI j < 0 := nI_pos (by omega)
  have c2 : nI j < nI (aV σ).length := (nI_ltk (by omega) hl).mpr hj
  show qJ G F _ 2 M 0 0 0 [(0, .ref r), (1, .int (nI j))] []
  refine q_iload_n X dX13_noVersion_0 1 rfl ?_
  refine q_if_lt X 12 dX13_noVersion_1 (by decide) (fun c_1 => absurd c_1 c1) (fun c_1 => ?_)
  refine q_iload_n X dX13_noVersion_4 1 rfl ?_
  refine q_aload_n X dX13_noVersion_5 0 rfl ?_
  refine q_get X hB.1 rfl in_RX13 6 (by decide) tw_1200 rfl rfl dX13_noVersion_6 ?_
  refine q_icmp_lt X 16 dX13_noVersion_9 (by decide) (fun c_2 => ?_) (fun c_2 => absurd c2 c_2)
  refine q_iconst (v := 0) X dX13_noVersion_16 (by decide) ?_
  exact q_zret X hr (by decide) dX13_noVersion_17 (⟨rfl, rfl⟩)

set_option maxRecDepth 20000 in
theorem c_noVersion_n {l : Launch} {G : gV} {M : gMem} {r : Nat} {e : Int32} {σ : sA} {vA nA pA plA dg dla dha dva dza : Nat} {dvf : Nat → Int64} {dzf : Nat → Int32} {vf nf : Nat → Option Nat} {pf : Nat → Int32} {tk : Int32} {su le gr : Int64} (hB : rfB G M r e σ vA nA pA plA dg dla dha dva dza dvf dzf vf nf pf tk su le gr) {i : Int32} (hl : (aV σ).length ≤ 4096) (hw : vAt σ i = none) : qC l G yX13_noVersion cX13_noVersion 2 (some .boolean) 1 0 0 [.ref r, .int i] M (pP (.int 1) M) := by
  refine qC_of (by decide +kernel) (Nat.le_of_ble_eq_true rfl) (fun F hF X hr hn => ?_)
  subst hF
  have X : qX G F cX13_noVersion 2 RX13 1 := X
  show qJ G F _ 2 M 0 0 0 [(0, .ref r), (1, .int i)] []
  refine q_iload_n X dX13_noVersion_0 1 rfl ?_
  refine q_if_lt X 12 dX13_noVersion_1 (by decide) (fun c1 => ?_) (fun c1 => ?_)
  · refine q_iconst (v := 1) X dX13_noVersion_12 (by decide) ?_
    refine q_goto X 17 dX13_noVersion_13 (by decide) ?_
    exact q_zret X hr (by decide) dX13_noVersion_17 (⟨rfl, rfl⟩)
  · refine q_iload_n X dX13_noVersion_4 1 rfl ?_
    refine q_aload_n X dX13_noVersion_5 0 rfl ?_
    refine q_get X hB.1 rfl in_RX13 6 (by decide) tw_1200 rfl rfl dX13_noVersion_6 ?_
    refine q_icmp_lt X 16 dX13_noVersion_9 (by decide) (fun c_1 => absurd (vAt_none hl hw c1) (Int32.not_le.mpr c_1)) (fun c_1 => ?_)
    refine q_iconst (v := 1) X dX13_noVersion_12 (by decide) ?_
    refine q_goto X 17 dX13_noVersion_13 (by decide) ?_
    exact q_zret X hr (by decide) dX13_noVersion_17 (⟨rfl, rfl⟩)

def pck (d x y z : Int32) : Int32 := if d = 0 then x else if d = 1 then y else z

set_option maxRecDepth 20000 in
theorem c_pick {l : Launch} {G : gV} {M : gMem} {d x y z : Int32} : qC l G yX13_pick cX13_pick 4 (some .int) 1 0 0 [.int d, .int x, .int y, .int z] M (pP (.int (pck d x y z)) M) := by
  refine qC_of (by decide +kernel) (Nat.le_of_ble_eq_true rfl) (fun F hF X hr hn => ?_)
  subst hF
  have X : qX G F cX13_pick 4 RX13 1 := X
  show qJ G F _ 4 M 0 0 0 [(0, .int d), (1, .int x), (2, .int y), (3, .int z)] []
  refine q_iload_n X dX13_pick_0 0 rfl ?_
  refine q_if_ne X 8 dX13_pick_1 (by decide) (fun c1 => ?_) (fun c1 => ?_)
  · refine q_iload_n X dX13_pick_8 0 rfl ?_
    refine q_iconst (v := 1) X dX13_pick_9 (by decide) ?_
    refine q_icmp_ne X 17 dX13_pick_10 (by decide) (fun c2 => ?_) (fun c2 => ?_)
    · refine q_iload_n X dX13_pick_17 3 rfl ?_
      exact q_iret X hr dX13_pick_18 (⟨congrArg (fun z => some (Value.int z)) (by unfold pck; rw [if_neg c1, if_neg c2]), rfl⟩)
    · refine q_iload_n X dX13_pick_13 2 rfl ?_
      refine q_goto X 18 dX13_pick_14 (by decide) ?_
      exact q_iret X hr dX13_pick_18 (⟨congrArg (fun z => some (Value.int z)) (by unfold pck; rw [if_neg c1, if_pos c2]), rfl⟩)
  · refine q_iload_n X dX13_pick_4 1 rfl ?_
    refine q_goto X 18 dX13_pick_5 (by decide) ?_
    exact q_iret X hr dX13_pick_18 (⟨congrArg (fun z => some (Value.int z)) (by unfold pck; rw [if_pos c1]), rfl⟩)

set_option maxRecDepth 20000 in
theorem c_good {l : Launch} {G : gV} {M : gMem} {x y : Int32} : qC l G yX13_good cX13_good 2 (some .boolean) 1 0 0 [.int x, .int y] M (pP (.int (aRange x y)) M) := by
  refine qC_of (by decide +kernel) (Nat.le_of_ble_eq_true rfl) (fun F hF X hr hn => ?_)
  subst hF
  have X : qX G F cX13_good 2 RX13 1 := X
  show qJ G F _ 2 M 0 0 0 [(0, .int x), (1, .int y)] []
  refine q_iload_n X dX13_good_0 0 rfl ?_
  refine q_bipush (v := (-100)) X dX13_good_1 (by decide) ?_
  refine q_icmp_lt X 29 dX13_good_3 (by decide) (fun c_1 => ?_) (fun c_1 => ?_)
  · refine q_iconst (v := 0) X dX13_good_29 (by decide) ?_
    exact q_zret X hr (by decide) dX13_good_30 (⟨congrArg (fun z => some (Value.int z)) (by unfold aRange; simp only [*, if_true, if_false, not_true, not_false_eq_true]), rfl⟩)
  · refine q_iload_n X dX13_good_6 1 rfl ?_
    refine q_bipush (v := 100) X dX13_good_7 (by decide) ?_
    refine q_icmp_gt X 29 dX13_good_9 (by decide) (fun c_2 => ?_) (fun c_2 => ?_)
    · refine q_iconst (v := 0) X dX13_good_29 (by decide) ?_
      exact q_zret X hr (by decide) dX13_good_30 (⟨congrArg (fun z => some (Value.int z)) (by unfold aRange; simp only [*, if_true, if_false, not_true, not_false_eq_true]), rfl⟩)
    · refine q_iload_n X dX13_good_12 0 rfl ?_
      refine q_iload_n X dX13_good_13 1 rfl ?_
      refine q_icmp_gt X 29 dX13_good_14 (by decide) (fun c_3 => ?_) (fun c_3 => ?_)
      · refine q_iconst (v := 0) X dX13_good_29 (by decide) ?_
        exact q_zret X hr (by decide) dX13_good_30 (⟨congrArg (fun z => some (Value.int z)) (by unfold aRange; simp only [*, if_true, if_false, not_true, not_false_eq_true]), rfl⟩)
      · refine q_iload_n X dX13_good_17 1 rfl ?_
        refine q_iload_n X dX13_good_18 0 rfl ?_
        refine q_isub X dX13_good_19 ?_
        refine q_bipush (v := 16) X dX13_good_20 (by decide) ?_
        refine q_icmp_ge X 29 dX13_good_22 (by decide) (fun c_4 => ?_) (fun c_4 => ?_)
        · refine q_iconst (v := 0) X dX13_good_29 (by decide) ?_
          exact q_zret X hr (by decide) dX13_good_30 (⟨congrArg (fun z => some (Value.int z)) (by unfold aRange; simp only [*, if_true, if_false, not_true, not_false_eq_true]), rfl⟩)
        · refine q_iconst (v := 1) X dX13_good_25 (by decide) ?_
          refine q_goto X 30 dX13_good_26 (by decide) ?_
          exact q_zret X hr (by decide) dX13_good_30 (⟨congrArg (fun z => some (Value.int z)) (by unfold aRange; simp only [*, if_true, if_false, not_true, not_false_eq_true]), rfl⟩)

theorem m_le {m k : Nat} (hm : m ≤ 3) (hk : k ≤ 3) : nI m ≤ nI k ↔ m ≤ k := by
  rw [Int32.le_iff_toInt_le, nI_toInt (by omega), nI_toInt (by omega)]; omega

set_option maxRecDepth 20000 in
theorem c_here {l : Launch} {G : gV} {M : gMem} {r : Nat} {e : Int32} {σ : sA} {vA nA pA plA dg dla dha dva dza : Nat} {dvf : Nat → Int64} {dzf : Nat → Int32} {vf nf : Nat → Option Nat} {pf : Nat → Int32} {tk : Int32} {su le gr : Int64} (hB : rfB G M r e σ vA nA pA plA dg dla dha dva dza dvf dzf vf nf pf tk su le gr) {x y z : Int32} (hm3 : aM σ ≤ 3) : qC l G yX13_here cX13_here 4 (some .boolean) 3 0 0 [.ref r, .int x, .int y, .int z] M (pP (.int (gIn (aLo σ) (aHi σ) x (c1n (aM σ) y) (c2n (aM σ) z))) M) := by
  refine qC_of (by decide +kernel) (Nat.le_of_ble_eq_true rfl) (fun F hF X hr hn => ?_)
  subst hF
  have X : qX G F cX13_here 4 RX13 3 := X
  show qJ G F _ 4 M 0 0 0 [(0, .ref r), (1, .int x), (2, .int y), (3, .int z)] []
  refine q_aload_n X dX13_here_0 0 rfl ?_
  refine q_get X hB.1 rfl in_RX13 5 (by decide) tw_1199 rfl rfl dX13_here_1 ?_
  refine q_iload_n X dX13_here_4 1 rfl ?_
  refine q_aload_n X dX13_here_5 0 rfl ?_
  refine q_get X hB.1 rfl in_RX13 5 (by decide) tw_1199 rfl rfl dX13_here_6 ?_
  refine q_get X hB.2.2.2.2.2.1.1 rfl in_RX12 0 (by decide) tw_1156 rfl rfl dX13_here_9 ?_
  refine q_iconst (v := 1) X dX13_here_12 (by decide) ?_
  refine q_icmp_le X 20 dX13_here_13 (by decide) (fun c1 => ?_) (fun c1 => ?_)
  · refine q_iconst (v := 0) X dX13_here_20 (by decide) ?_
    refine q_aload_n X dX13_here_21 0 rfl ?_
    refine q_get X hB.1 rfl in_RX13 5 (by decide) tw_1199 rfl rfl dX13_here_22 ?_
    refine q_get X hB.2.2.2.2.2.1.1 rfl in_RX12 0 (by decide) tw_1156 rfl rfl dX13_here_25 ?_
    refine q_iconst (v := 2) X dX13_here_28 (by decide) ?_
    refine q_icmp_le X 36 dX13_here_29 (by decide) (fun c2 => ?_) (fun c2 => ?_)
    · refine q_iconst (v := 0) X dX13_here_36 (by decide) ?_
      refine q_callVp X (c_X12_in hB.2.2.2.2.2.1.1 hB.2.2.2.2.2.1.2.1 hB.2.2.2.2.2.1.2.2.1) Y_X12_in tw_1261 tw_1262 tw_1263 hB.2.2.2.2.2.1.1 rfl (by omega) rfl rfl (Nat.le_of_ble_eq_true rfl) dX13_here_37 ?_
      exact q_zret X hr (gIn_01 _ _ _ _ _) dX13_here_40 (⟨congrArg (fun z => some (Value.int z)) (by unfold c1n c2n; rw [if_neg (show ¬ 1 < aM σ from Nat.not_lt.mpr ((m_le (k := 1) hm3 (by decide)).mp c1)), if_neg (show ¬ 2 < aM σ from Nat.not_lt.mpr ((m_le (k := 2) hm3 (by decide)).mp c2))]; rfl), rfl⟩)
    · refine q_iload_n X dX13_here_32 3 rfl ?_
      refine q_goto X 37 dX13_here_33 (by decide) ?_
      refine q_callVp X (c_X12_in hB.2.2.2.2.2.1.1 hB.2.2.2.2.2.1.2.1 hB.2.2.2.2.2.1.2.2.1) Y_X12_in tw_1261 tw_1262 tw_1263 hB.2.2.2.2.2.1.1 rfl (by omega) rfl rfl (Nat.le_of_ble_eq_true rfl) dX13_here_37 ?_
      exact q_zret X hr (gIn_01 _ _ _ _ _) dX13_here_40 (⟨congrArg (fun z => some (Value.int z)) (by unfold c1n c2n; rw [if_neg (show ¬ 1 < aM σ from Nat.not_lt.mpr ((m_le (k := 1) hm3 (by decide)).mp c1)), if_pos (show 2 < aM σ from Nat.lt_of_not_le (fun q => c2 ((m_le (k := 2) hm3 (by decide)).mpr q)))]; rfl), rfl⟩)
  · refine q_iload_n X dX13_here_16 2 rfl ?_
    refine q_goto X 21 dX13_here_17 (by decide) ?_
    refine q_aload_n X dX13_here_21 0 rfl ?_
    refine q_get X hB.1 rfl in_RX13 5 (by decide) tw_1199 rfl rfl dX13_here_22 ?_
    refine q_get X hB.2.2.2.2.2.1.1 rfl in_RX12 0 (by decide) tw_1156 rfl rfl dX13_here_25 ?_
    refine q_iconst (v := 2) X dX13_here_28 (by decide) ?_
    refine q_icmp_le X 36 dX13_here_29 (by decide) (fun c2 => ?_) (fun c2 => ?_)
    · refine q_iconst (v := 0) X dX13_here_36 (by decide) ?_
      refine q_callVp X (c_X12_in hB.2.2.2.2.2.1.1 hB.2.2.2.2.2.1.2.1 hB.2.2.2.2.2.1.2.2.1) Y_X12_in tw_1261 tw_1262 tw_1263 hB.2.2.2.2.2.1.1 rfl (by omega) rfl rfl (Nat.le_of_ble_eq_true rfl) dX13_here_37 ?_
      exact q_zret X hr (gIn_01 _ _ _ _ _) dX13_here_40 (⟨congrArg (fun z => some (Value.int z)) (by unfold c1n c2n; rw [if_pos (show 1 < aM σ from Nat.lt_of_not_le (fun q => c1 ((m_le (k := 1) hm3 (by decide)).mpr q))), if_neg (show ¬ 2 < aM σ from Nat.not_lt.mpr ((m_le (k := 2) hm3 (by decide)).mp c2))]; rfl), rfl⟩)
    · refine q_iload_n X dX13_here_32 3 rfl ?_
      refine q_goto X 37 dX13_here_33 (by decide) ?_
      refine q_callVp X (c_X12_in hB.2.2.2.2.2.1.1 hB.2.2.2.2.2.1.2.1 hB.2.2.2.2.2.1.2.2.1) Y_X12_in tw_1261 tw_1262 tw_1263 hB.2.2.2.2.2.1.1 rfl (by omega) rfl rfl (Nat.le_of_ble_eq_true rfl) dX13_here_37 ?_
      exact q_zret X hr (gIn_01 _ _ _ _ _) dX13_here_40 (⟨congrArg (fun z => some (Value.int z)) (by unfold c1n c2n; rw [if_pos (show 1 < aM σ from Nat.lt_of_not_le (fun q => c1 ((m_le (k := 1) hm3 (by decide)).mpr q))), if_pos (show 2 < aM σ from Nat.lt_of_not_le (fun q => c2 ((m_le (k := 2) hm3 (by decide)).mpr q)))]; rfl), rfl⟩)

set_option maxRecDepth 20000 in
theorem c_atDesk {l : Launch} {G : gV} {M : gMem} {r : Nat} {e : Int32} {σ : sA} {vA nA pA plA dg dla dha dva dza : Nat} {dvf : Nat → Int64} {dzf : Nat → Int32} {vf nf : Nat → Option Nat} {pf : Nat → Int32} {tk : Int32} {su le gr : Int64} (hB : rfB G M r e σ vA nA pA plA dg dla dha dva dza dvf dzf vf nf pf tk su le gr) {x y z : Int32} (hm3 : aM σ ≤ 3) : qC l G yX13_atDesk cX13_atDesk 4 (some .int) 3 0 0 [.ref r, .int x, .int y, .int z] M (pP (.int (gAt (aLo σ) (aHi σ) x (c1n (aM σ) y) (c2n (aM σ) z))) M) := by
  refine qC_of (by decide +kernel) (Nat.le_of_ble_eq_true rfl) (fun F hF X hr hn => ?_)
  subst hF
  have X : qX G F cX13_atDesk 4 RX13 3 := X
  show qJ G F _ 4 M 0 0 0 [(0, .ref r), (1, .int x), (2, .int y), (3, .int z)] []
  refine q_aload_n X dX13_atDesk_0 0 rfl ?_
  refine q_get X hB.1 rfl in_RX13 5 (by decide) tw_1199 rfl rfl dX13_atDesk_1 ?_
  refine q_iload_n X dX13_atDesk_4 1 rfl ?_
  refine q_aload_n X dX13_atDesk_5 0 rfl ?_
  refine q_get X hB.1 rfl in_RX13 5 (by decide) tw_1199 rfl rfl dX13_atDesk_6 ?_
  refine q_get X hB.2.2.2.2.2.1.1 rfl in_RX12 0 (by decide) tw_1156 rfl rfl dX13_atDesk_9 ?_
  refine q_iconst (v := 1) X dX13_atDesk_12 (by decide) ?_
  refine q_icmp_le X 20 dX13_atDesk_13 (by decide) (fun c1 => ?_) (fun c1 => ?_)
  · refine q_iconst (v := 0) X dX13_atDesk_20 (by decide) ?_
    refine q_aload_n X dX13_atDesk_21 0 rfl ?_
    refine q_get X hB.1 rfl in_RX13 5 (by decide) tw_1199 rfl rfl dX13_atDesk_22 ?_
    refine q_get X hB.2.2.2.2.2.1.1 rfl in_RX12 0 (by decide) tw_1156 rfl rfl dX13_atDesk_25 ?_
    refine q_iconst (v := 2) X dX13_atDesk_28 (by decide) ?_
    refine q_icmp_le X 36 dX13_atDesk_29 (by decide) (fun c2 => ?_) (fun c2 => ?_)
    · refine q_iconst (v := 0) X dX13_atDesk_36 (by decide) ?_
      refine q_callVp X (c_X12_at hB.2.2.2.2.2.1.1 hB.2.2.2.2.2.1.2.1 hB.2.2.2.2.2.1.2.2.1) Y_X12_at tw_1269 tw_1270 tw_1271 hB.2.2.2.2.2.1.1 rfl (by omega) rfl rfl (Nat.le_of_ble_eq_true rfl) dX13_atDesk_37 ?_
      exact q_iret X hr dX13_atDesk_40 (⟨congrArg (fun z => some (Value.int z)) (by unfold c1n c2n; rw [if_neg (show ¬ 1 < aM σ from Nat.not_lt.mpr ((m_le (k := 1) hm3 (by decide)).mp c1)), if_neg (show ¬ 2 < aM σ from Nat.not_lt.mpr ((m_le (k := 2) hm3 (by decide)).mp c2))]; rfl), rfl⟩)
    · refine q_iload_n X dX13_atDesk_32 3 rfl ?_
      refine q_goto X 37 dX13_atDesk_33 (by decide) ?_
      refine q_callVp X (c_X12_at hB.2.2.2.2.2.1.1 hB.2.2.2.2.2.1.2.1 hB.2.2.2.2.2.1.2.2.1) Y_X12_at tw_1269 tw_1270 tw_1271 hB.2.2.2.2.2.1.1 rfl (by omega) rfl rfl (Nat.le_of_ble_eq_true rfl) dX13_atDesk_37 ?_
      exact q_iret X hr dX13_atDesk_40 (⟨congrArg (fun z => some (Value.int z)) (by unfold c1n c2n; rw [if_neg (show ¬ 1 < aM σ from Nat.not_lt.mpr ((m_le (k := 1) hm3 (by decide)).mp c1)), if_pos (show 2 < aM σ from Nat.lt_of_not_le (fun q => c2 ((m_le (k := 2) hm3 (by decide)).mpr q)))]; rfl), rfl⟩)
  · refine q_iload_n X dX13_atDesk_16 2 rfl ?_
    refine q_goto X 21 dX13_atDesk_17 (by decide) ?_
    refine q_aload_n X dX13_atDesk_21 0 rfl ?_
    refine q_get X hB.1 rfl in_RX13 5 (by decide) tw_1199 rfl rfl dX13_atDesk_22 ?_
    refine q_get X hB.2.2.2.2.2.1.1 rfl in_RX12 0 (by decide) tw_1156 rfl rfl dX13_atDesk_25 ?_
    refine q_iconst (v := 2) X dX13_atDesk_28 (by decide) ?_
    refine q_icmp_le X 36 dX13_atDesk_29 (by decide) (fun c2 => ?_) (fun c2 => ?_)
    · refine q_iconst (v := 0) X dX13_atDesk_36 (by decide) ?_
      refine q_callVp X (c_X12_at hB.2.2.2.2.2.1.1 hB.2.2.2.2.2.1.2.1 hB.2.2.2.2.2.1.2.2.1) Y_X12_at tw_1269 tw_1270 tw_1271 hB.2.2.2.2.2.1.1 rfl (by omega) rfl rfl (Nat.le_of_ble_eq_true rfl) dX13_atDesk_37 ?_
      exact q_iret X hr dX13_atDesk_40 (⟨congrArg (fun z => some (Value.int z)) (by unfold c1n c2n; rw [if_pos (show 1 < aM σ from Nat.lt_of_not_le (fun q => c1 ((m_le (k := 1) hm3 (by decide)).mpr q))), if_neg (show ¬ 2 < aM σ from Nat.not_lt.mpr ((m_le (k := 2) hm3 (by decide)).mp c2))]; rfl), rfl⟩)
    · refine q_iload_n X dX13_atDesk_32 3 rfl ?_
      refine q_goto X 37 dX13_atDesk_33 (by decide) ?_
      refine q_callVp X (c_X12_at hB.2.2.2.2.2.1.1 hB.2.2.2.2.2.1.2.1 hB.2.2.2.2.2.1.2.2.1) Y_X12_at tw_1269 tw_1270 tw_1271 hB.2.2.2.2.2.1.1 rfl (by omega) rfl rfl (Nat.le_of_ble_eq_true rfl) dX13_atDesk_37 ?_
      exact q_iret X hr dX13_atDesk_40 (⟨congrArg (fun z => some (Value.int z)) (by unfold c1n c2n; rw [if_pos (show 1 < aM σ from Nat.lt_of_not_le (fun q => c1 ((m_le (k := 1) hm3 (by decide)).mpr q))), if_pos (show 2 < aM σ from Nat.lt_of_not_le (fun q => c2 ((m_le (k := 2) hm3 (by decide)).mpr q)))]; rfl), rfl⟩)
