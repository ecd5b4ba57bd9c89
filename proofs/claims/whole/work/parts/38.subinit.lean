/-! making nodes of each kind; tallies -/
theorem ndP_fin {G : gV} {M M1 Mf : gMem} {a ci sh N cl nb mb aa : Nat} {dv : Int32} {fs0 ex : List Value} (hci : ci ≠ 1) (z1 : M1 a = some (oB ci fs0)) (z2 : isCells G M1 cl nb mb N (fun _ => none)) (z3 : M1 aa = some (aJ G ((N + 63) / 64) (fun _ => 0))) (z4 : M cl = none) (z5 : M nb = none) (z6 : M mb = none) (z7 : M aa = none) (z8 : nb ≠ aa) (z9 : mb ≠ aa) (z10 : ∀ q, q ≠ a → M q ≠ none → M1 q = M q) (hf : ∀ q, q ≠ a → Mf q = M1 q) (ha : Mf a = some (oB ci (.ref sh :: .int dv :: .ref cl :: .ref aa :: ex))) : ndP G M a ci sh dv N ex none Mf := by
  obtain ⟨num, mk, c1, c2, c3, c4⟩ := id z2
  have n1 : cl ≠ a := fun e => by rw [e, z1] at c1; cases c1; exact hci rfl
  have n2 : nb ≠ a := fun e => by rw [e, z1] at c2; cases c2
  have n3 : mb ≠ a := fun e => by rw [e, z1] at c3; cases c3
  have n4 : aa ≠ a := fun e => by rw [e, z1] at z3; cases z3
  exact ⟨rfl, cl, nb, mb, aa, ha, z2.mv (hf _ n1) (hf _ n2) (hf _ n3), (hf _ n4).trans z3, z4, z5, z6, z7, z8, z9, fun q q1 q2 => (hf q q1).trans (z10 q q1 q2)⟩
theorem mxI_max {a b : Nat} (ha : a ≤ 4096) (hb : b ≤ 4096) : mxI (nI a) (nI b) = nI (max a b) := by
  unfold mxI
  by_cases h : a < b
  · rw [if_pos (nI_lt h (by omega)), Nat.max_eq_right (by omega)]
  · rw [if_neg (nI_nlt (by omega) (by omega)), Nat.max_eq_left (by omega)]

set_option maxRecDepth 20000 in
theorem c_X9_init {l : Launch} {G : gV} {M : gMem} {a : Nat} {sh m : Nat} {lo hi : Nat → Int32} (hS : isShape G M sh (nI m) lo hi) (hO : okS m lo hi) (hN : sz3 lo hi ≤ 4096) {p : Int32} (hA : M a = some (oB 9 [.null, .int 0, .null, .null, .int 0, .int 0, .int 0])) : qC l G yX9_init cX9_init 3 none 4 4 (2 + (sz3 lo hi + (sz3 lo hi + 63) / 64) + (sz3 lo hi + 63) / 64) [.ref a, .ref sh, .int p] M (ndP G M a 9 sh 1 (sz3 lo hi) [.int p, .int 0, .int 0]) := by
  refine qC_of (by decide +kernel) (Nat.le_of_ble_eq_true rfl) (fun F hF X hr hn => ?_)
  subst hF
  have X : qX G F cX9_init 3 RX9 4 := X
  show qJ G F _ 3 M 4 (2 + (sz3 lo hi + (sz3 lo hi + 63) / 64) + (sz3 lo hi + 63) / 64) 0 [(0, .ref a), (1, .ref sh), (2, .int p)] []
  refine q_aload_n X dX9_init_0 0 rfl ?_
  refine q_aload_n X dX9_init_1 1 rfl ?_
  refine q_iconst (v := 1) X dX9_init_2 (by decide) ?_
  refine q_callI X (c_X5_init_9 hA hS hO hN) Y_X5_init tw_148 tw_149 rfl (by omega) rfl rfl (Nat.le_of_ble_eq_true rfl) (rc' := 0) (rs' := 0) (by omega) (by omega) dX9_init_3 (fun v M' hp _ => ?_)
  obtain ⟨rfl, cl, nb, mb, aa, z1, z2, z3, z4, z5, z6, z7, z8, z9, z10⟩ := hp
  generalize M' = M1 at *
  show qJ G F _ 3 M1 0 0 6 [(0, .ref a), (1, .ref sh), (2, .int p)] []
  refine q_aload_n X dX9_init_6 0 rfl ?_
  refine q_iload_n X dX9_init_7 2 rfl ?_
  refine q_putF X hn z1 rfl in_RX9 tyX9 tyX9_ok nmX9 4 (by decide) tw_156 rfl rfl rfl rfl rfl rfl (Nat.le_of_ble_eq_true rfl) (fs1 := [.ref sh, .int 1, .ref cl, .ref aa, .int p, .int 0, .int 0]) rfl dX9_init_8 ?_
  have m_1 : (mU M1 a (oB 9 [.ref sh, .int 1, .ref cl, .ref aa, .int p, .int 0, .int 0])) a = some (oB 9 [.ref sh, .int 1, .ref cl, .ref aa, .int p, .int 0, .int 0]) := mU_s
  exact q_vret X hr dX9_init_11 (ndP_fin (by decide) z1 z2 z3 z4 z5 z6 z7 z8 z9 z10 (fun q q1 => by rw [mU_n q1]) m_1)

set_option maxRecDepth 20000 in
theorem c_X10_init {l : Launch} {G : gV} {M : gMem} {a : Nat} {sh m : Nat} {lo hi : Nat → Int32} (hS : isShape G M sh (nI m) lo hi) (hO : okS m lo hi) (hN : sz3 lo hi ≤ 4096) {N : gN} {s tl : Nat} {at0 : Int32} (hs : nStat G M N s) (hA : M a = some (oB 10 [.null, .int 0, .null, .null, .null, .null, .int 0])) : qC l G yX10_init cX10_init 5 none 4 4 (2 + (sz3 lo hi + (sz3 lo hi + 63) / 64) + (sz3 lo hi + 63) / 64) [.ref a, .ref sh, .ref s, .ref tl, .int at0] M (ndP G M a 10 sh (nI (ndp N s + 1)) (sz3 lo hi) [.ref s, .ref tl, .int at0]) := by
  refine qC_of (by decide +kernel) (Nat.le_of_ble_eq_true rfl) (fun F hF X hr hn => ?_)
  subst hF
  have X : qX G F cX10_init 5 RX10 4 := X
  show qJ G F _ 5 M 4 (2 + (sz3 lo hi + (sz3 lo hi + 63) / 64) + (sz3 lo hi + 63) / 64) 0 [(0, .ref a), (1, .ref sh), (2, .ref s), (3, .ref tl), (4, .int at0)] []
  refine q_aload_n X dX10_init_0 0 rfl ?_
  refine q_aload_n X dX10_init_1 1 rfl ?_
  refine q_aload_n X dX10_init_2 2 rfl ?_
  refine q_callUp X (x := ⟨"GridVault$Node", "depth", "()I"⟩) (owner := "GridVault$Node") (ci := nci N s) (c_X5_depth hs) Y_X5_depth tw_699 tw_660 (by decide) rfl (g_declC X tw_659 tw_667) tw_659 (se_X5_depth hs.1) hs.2.1 (by omega) rfl rfl (Nat.le_of_ble_eq_true rfl) dX10_init_3 ?_
  refine q_iconst (v := 1) X dX10_init_6 (by decide) ?_
  refine q_iadd X dX10_init_7 ?_
  rw [nI_1]
  refine q_callI X (c_X5_init_10 hA hS hO hN) Y_X5_init tw_700 tw_149 rfl (by omega) rfl rfl (Nat.le_of_ble_eq_true rfl) (rc' := 0) (rs' := 0) (by omega) (by omega) dX10_init_8 (fun v M' hp _ => ?_)
  obtain ⟨rfl, cl, nb, mb, aa, z1, z2, z3, z4, z5, z6, z7, z8, z9, z10⟩ := hp
  generalize M' = M1 at *
  show qJ G F _ 5 M1 0 0 11 [(0, .ref a), (1, .ref sh), (2, .ref s), (3, .ref tl), (4, .int at0)] []
  refine q_aload_n X dX10_init_11 0 rfl ?_
  refine q_aload_n X dX10_init_12 2 rfl ?_
  refine q_putF X hn z1 rfl in_RX10 tyX10 tyX10_ok nmX10 4 (by decide) tw_701 rfl rfl rfl rfl rfl rfl (Nat.le_of_ble_eq_true rfl) (fs1 := [.ref sh, .int (nI (ndp N s + 1)), .ref cl, .ref aa, .ref s, .null, .int 0]) rfl dX10_init_13 ?_
  have m_1 : (mU M1 a (oB 10 [.ref sh, .int (nI (ndp N s + 1)), .ref cl, .ref aa, .ref s, .null, .int 0])) a = some (oB 10 [.ref sh, .int (nI (ndp N s + 1)), .ref cl, .ref aa, .ref s, .null, .int 0]) := mU_s
  refine q_aload_n X dX10_init_16 0 rfl ?_
  refine q_aload_n X dX10_init_17 3 rfl ?_
  refine q_putF X hn m_1 rfl in_RX10 tyX10 tyX10_ok nmX10 5 (by decide) tw_702 rfl rfl rfl rfl rfl rfl (Nat.le_of_ble_eq_true rfl) (fs1 := [.ref sh, .int (nI (ndp N s + 1)), .ref cl, .ref aa, .ref s, .ref tl, .int 0]) rfl dX10_init_18 ?_
  have m_2 : (mU (mU M1 a (oB 10 [.ref sh, .int (nI (ndp N s + 1)), .ref cl, .ref aa, .ref s, .null, .int 0])) a (oB 10 [.ref sh, .int (nI (ndp N s + 1)), .ref cl, .ref aa, .ref s, .ref tl, .int 0])) a = some (oB 10 [.ref sh, .int (nI (ndp N s + 1)), .ref cl, .ref aa, .ref s, .ref tl, .int 0]) := mU_s
  refine q_aload_n X dX10_init_21 0 rfl ?_
  refine q_iload X dX10_init_22 4 rfl ?_
  refine q_putF X hn m_2 rfl in_RX10 tyX10 tyX10_ok nmX10 6 (by decide) tw_703 rfl rfl rfl rfl rfl rfl (Nat.le_of_ble_eq_true rfl) (fs1 := [.ref sh, .int (nI (ndp N s + 1)), .ref cl, .ref aa, .ref s, .ref tl, .int at0]) rfl dX10_init_24 ?_
  have m_3 : (mU (mU (mU M1 a (oB 10 [.ref sh, .int (nI (ndp N s + 1)), .ref cl, .ref aa, .ref s, .null, .int 0])) a (oB 10 [.ref sh, .int (nI (ndp N s + 1)), .ref cl, .ref aa, .ref s, .ref tl, .int 0])) a (oB 10 [.ref sh, .int (nI (ndp N s + 1)), .ref cl, .ref aa, .ref s, .ref tl, .int at0])) a = some (oB 10 [.ref sh, .int (nI (ndp N s + 1)), .ref cl, .ref aa, .ref s, .ref tl, .int at0]) := mU_s
  exact q_vret X hr dX10_init_27 (ndP_fin (by decide) z1 z2 z3 z4 z5 z6 z7 z8 z9 z10 (fun q q1 => by rw [mU_n q1, mU_n q1, mU_n q1]) m_3)

set_option maxRecDepth 20000 in
theorem c_X3_init {l : Launch} {G : gV} {M : gMem} {a : Nat} {sh m : Nat} {lo hi : Nat → Int32} (hS : isShape G M sh (nI m) lo hi) (hO : okS m lo hi) (hN : sz3 lo hi ≤ 4096) {N : gN} {s ta : Nat} {d kind reach : Int32} (hs : nStat G M N s) (hA : M a = some (oB 4 [.null, .int 0, .null, .null, .null, .int 0, .int 0, .int 0, .null])) : qC l G yX3_init cX3_init 7 none 4 4 (2 + (sz3 lo hi + (sz3 lo hi + 63) / 64) + (sz3 lo hi + 63) / 64) [.ref a, .ref sh, .ref s, .int d, .int kind, .int reach, .ref ta] M (ndP G M a 4 sh (nI (ndp N s + 1)) (sz3 lo hi) [.ref s, .int d, .int kind, .int reach, .ref ta]) := by
  refine qC_of (by decide +kernel) (Nat.le_of_ble_eq_true rfl) (fun F hF X hr hn => ?_)
  subst hF
  have X : qX G F cX3_init 7 RX3 4 := X
  show qJ G F _ 7 M 4 (2 + (sz3 lo hi + (sz3 lo hi + 63) / 64) + (sz3 lo hi + 63) / 64) 0 [(0, .ref a), (1, .ref sh), (2, .ref s), (3, .int d), (4, .int kind), (5, .int reach), (6, .ref ta)] []
  refine q_aload_n X dX3_init_0 0 rfl ?_
  refine q_aload_n X dX3_init_1 1 rfl ?_
  refine q_aload_n X dX3_init_2 2 rfl ?_
  refine q_callUp X (x := ⟨"GridVault$Node", "depth", "()I"⟩) (owner := "GridVault$Node") (ci := nci N s) (c_X5_depth hs) Y_X5_depth tw_856 tw_660 (by decide) rfl (g_declC X tw_659 tw_667) tw_659 (se_X5_depth hs.1) hs.2.1 (by omega) rfl rfl (Nat.le_of_ble_eq_true rfl) dX3_init_3 ?_
  refine q_iconst (v := 1) X dX3_init_6 (by decide) ?_
  refine q_iadd X dX3_init_7 ?_
  rw [nI_1]
  refine q_callI X (c_X5_init_4 hA hS hO hN) Y_X5_init tw_857 tw_149 rfl (by omega) rfl rfl (Nat.le_of_ble_eq_true rfl) (rc' := 0) (rs' := 0) (by omega) (by omega) dX3_init_8 (fun v M' hp _ => ?_)
  obtain ⟨rfl, cl, nb, mb, aa, z1, z2, z3, z4, z5, z6, z7, z8, z9, z10⟩ := hp
  generalize M' = M1 at *
  show qJ G F _ 7 M1 0 0 11 [(0, .ref a), (1, .ref sh), (2, .ref s), (3, .int d), (4, .int kind), (5, .int reach), (6, .ref ta)] []
  refine q_aload_n X dX3_init_11 0 rfl ?_
  refine q_aload_n X dX3_init_12 2 rfl ?_
  refine q_putF X hn z1 rfl in_RX3 tyX3 tyX3_ok nmX3 4 (by decide) tw_858 rfl rfl rfl rfl rfl rfl (Nat.le_of_ble_eq_true rfl) (fs1 := [.ref sh, .int (nI (ndp N s + 1)), .ref cl, .ref aa, .ref s, .int 0, .int 0, .int 0, .null]) rfl dX3_init_13 ?_
  have m_1 : (mU M1 a (oB 4 [.ref sh, .int (nI (ndp N s + 1)), .ref cl, .ref aa, .ref s, .int 0, .int 0, .int 0, .null])) a = some (oB 4 [.ref sh, .int (nI (ndp N s + 1)), .ref cl, .ref aa, .ref s, .int 0, .int 0, .int 0, .null]) := mU_s
  refine q_aload_n X dX3_init_16 0 rfl ?_
  refine q_iload_n X dX3_init_17 3 rfl ?_
  refine q_putF X hn m_1 rfl in_RX3 tyX3 tyX3_ok nmX3 5 (by decide) tw_859 rfl rfl rfl rfl rfl rfl (Nat.le_of_ble_eq_true rfl) (fs1 := [.ref sh, .int (nI (ndp N s + 1)), .ref cl, .ref aa, .ref s, .int d, .int 0, .int 0, .null]) rfl dX3_init_18 ?_
  have m_2 : (mU (mU M1 a (oB 4 [.ref sh, .int (nI (ndp N s + 1)), .ref cl, .ref aa, .ref s, .int 0, .int 0, .int 0, .null])) a (oB 4 [.ref sh, .int (nI (ndp N s + 1)), .ref cl, .ref aa, .ref s, .int d, .int 0, .int 0, .null])) a = some (oB 4 [.ref sh, .int (nI (ndp N s + 1)), .ref cl, .ref aa, .ref s, .int d, .int 0, .int 0, .null]) := mU_s
  refine q_aload_n X dX3_init_21 0 rfl ?_
  refine q_iload X dX3_init_22 4 rfl ?_
  refine q_putF X hn m_2 rfl in_RX3 tyX3 tyX3_ok nmX3 6 (by decide) tw_860 rfl rfl rfl rfl rfl rfl (Nat.le_of_ble_eq_true rfl) (fs1 := [.ref sh, .int (nI (ndp N s + 1)), .ref cl, .ref aa, .ref s, .int d, .int kind, .int 0, .null]) rfl dX3_init_24 ?_
  have m_3 : (mU (mU (mU M1 a (oB 4 [.ref sh, .int (nI (ndp N s + 1)), .ref cl, .ref aa, .ref s, .int 0, .int 0, .int 0, .null])) a (oB 4 [.ref sh, .int (nI (ndp N s + 1)), .ref cl, .ref aa, .ref s, .int d, .int 0, .int 0, .null])) a (oB 4 [.ref sh, .int (nI (ndp N s + 1)), .ref cl, .ref aa, .ref s, .int d, .int kind, .int 0, .null])) a = some (oB 4 [.ref sh, .int (nI (ndp N s + 1)), .ref cl, .ref aa, .ref s, .int d, .int kind, .int 0, .null]) := mU_s
  refine q_aload_n X dX3_init_27 0 rfl ?_
  refine q_iload X dX3_init_28 5 rfl ?_
  refine q_putF X hn m_3 rfl in_RX3 tyX3 tyX3_ok nmX3 7 (by decide) tw_861 rfl rfl rfl rfl rfl rfl (Nat.le_of_ble_eq_true rfl) (fs1 := [.ref sh, .int (nI (ndp N s + 1)), .ref cl, .ref aa, .ref s, .int d, .int kind, .int reach, .null]) rfl dX3_init_30 ?_
  have m_4 : (mU (mU (mU (mU M1 a (oB 4 [.ref sh, .int (nI (ndp N s + 1)), .ref cl, .ref aa, .ref s, .int 0, .int 0, .int 0, .null])) a (oB 4 [.ref sh, .int (nI (ndp N s + 1)), .ref cl, .ref aa, .ref s, .int d, .int 0, .int 0, .null])) a (oB 4 [.ref sh, .int (nI (ndp N s + 1)), .ref cl, .ref aa, .ref s, .int d, .int kind, .int 0, .null])) a (oB 4 [.ref sh, .int (nI (ndp N s + 1)), .ref cl, .ref aa, .ref s, .int d, .int kind, .int reach, .null])) a = some (oB 4 [.ref sh, .int (nI (ndp N s + 1)), .ref cl, .ref aa, .ref s, .int d, .int kind, .int reach, .null]) := mU_s
  refine q_aload_n X dX3_init_33 0 rfl ?_
  refine q_aload X dX3_init_34 6 rfl ?_
  refine q_putF X hn m_4 rfl in_RX3 tyX3 tyX3_ok nmX3 8 (by decide) tw_862 rfl rfl rfl rfl rfl rfl (Nat.le_of_ble_eq_true rfl) (fs1 := [.ref sh, .int (nI (ndp N s + 1)), .ref cl, .ref aa, .ref s, .int d, .int kind, .int reach, .ref ta]) rfl dX3_init_36 ?_
  have m_5 : (mU (mU (mU (mU (mU M1 a (oB 4 [.ref sh, .int (nI (ndp N s + 1)), .ref cl, .ref aa, .ref s, .int 0, .int 0, .int 0, .null])) a (oB 4 [.ref sh, .int (nI (ndp N s + 1)), .ref cl, .ref aa, .ref s, .int d, .int 0, .int 0, .null])) a (oB 4 [.ref sh, .int (nI (ndp N s + 1)), .ref cl, .ref aa, .ref s, .int d, .int kind, .int 0, .null])) a (oB 4 [.ref sh, .int (nI (ndp N s + 1)), .ref cl, .ref aa, .ref s, .int d, .int kind, .int reach, .null])) a (oB 4 [.ref sh, .int (nI (ndp N s + 1)), .ref cl, .ref aa, .ref s, .int d, .int kind, .int reach, .ref ta])) a = some (oB 4 [.ref sh, .int (nI (ndp N s + 1)), .ref cl, .ref aa, .ref s, .int d, .int kind, .int reach, .ref ta]) := mU_s
  exact q_vret X hr dX3_init_39 (ndP_fin (by decide) z1 z2 z3 z4 z5 z6 z7 z8 z9 z10 (fun q q1 => by rw [mU_n q1, mU_n q1, mU_n q1, mU_n q1, mU_n q1]) m_5)

set_option maxRecDepth 20000 in
theorem c_X2_init {l : Launch} {G : gV} {M : gMem} {a : Nat} {N : gN} {s : Nat} {rule : Int32} {c : Int64} (hs : nStat G M N s) (hA : M a = some (oB 3 [.null, .int 0, .null, .null, .null, .int 0, .long 0])) : qC l G yX2_init cX2_init 5 none 4 4 (2 + (sz3 (nlo N s) (nhi N s) + (sz3 (nlo N s) (nhi N s) + 63) / 64) + (sz3 (nlo N s) (nhi N s) + 63) / 64) [.ref a, .ref s, .int rule, .long c] M (ndP G M a 3 (nsh N s) (nI (ndp N s + 1)) (sz3 (nlo N s) (nhi N s)) [.ref s, .int rule, .long c]) := by
  refine qC_of (by decide +kernel) (Nat.le_of_ble_eq_true rfl) (fun F hF X hr hn => ?_)
  subst hF
  have X : qX G F cX2_init 5 RX2 4 := X
  show qJ G F _ 5 M 4 (2 + (sz3 (nlo N s) (nhi N s) + (sz3 (nlo N s) (nhi N s) + 63) / 64) + (sz3 (nlo N s) (nhi N s) + 63) / 64) 0 [(0, .ref a), (1, .ref s), (2, .int rule), (3, .long c)] []
  refine q_aload_n X dX2_init_0 0 rfl ?_
  refine q_aload_n X dX2_init_1 1 rfl ?_
  refine q_callUp X (x := ⟨"GridVault$Node", "form", "()LGridVault$Shape;"⟩) (owner := "GridVault$Node") (ci := nci N s) (c_X5_form hs) Y_X5_form tw_758 tw_630 (by decide) rfl (g_decl X tn_1008) tw_629 (se_X5_form hs.1) hs.2.1 (by omega) rfl rfl (Nat.le_of_ble_eq_true rfl) dX2_init_2 ?_
  refine q_aload_n X dX2_init_5 1 rfl ?_
  refine q_callUp X (x := ⟨"GridVault$Node", "depth", "()I"⟩) (owner := "GridVault$Node") (ci := nci N s) (c_X5_depth hs) Y_X5_depth tw_759 tw_660 (by decide) rfl (g_declC X tw_659 tw_667) tw_659 (se_X5_depth hs.1) hs.2.1 (by omega) rfl rfl (Nat.le_of_ble_eq_true rfl) dX2_init_6 ?_
  refine q_iconst (v := 1) X dX2_init_9 (by decide) ?_
  refine q_iadd X dX2_init_10 ?_
  rw [nI_1]
  refine q_callI X (c_X5_init_3 hA hs.2.2.1 hs.2.2.2.1 hs.2.2.2.2.1) Y_X5_init tw_760 tw_149 rfl (by omega) rfl rfl (Nat.le_of_ble_eq_true rfl) (rc' := 0) (rs' := 0) (by omega) (by omega) dX2_init_11 (fun v M' hp _ => ?_)
  obtain ⟨rfl, cl, nb, mb, aa, z1, z2, z3, z4, z5, z6, z7, z8, z9, z10⟩ := hp
  generalize M' = M1 at *
  show qJ G F _ 5 M1 0 0 14 [(0, .ref a), (1, .ref s), (2, .int rule), (3, .long c)] []
  refine q_aload_n X dX2_init_14 0 rfl ?_
  refine q_aload_n X dX2_init_15 1 rfl ?_
  refine q_putF X hn z1 rfl in_RX2 tyX2 tyX2_ok nmX2 4 (by decide) tw_761 rfl rfl rfl rfl rfl rfl (Nat.le_of_ble_eq_true rfl) (fs1 := [.ref (nsh N s), .int (nI (ndp N s + 1)), .ref cl, .ref aa, .ref s, .int 0, .long 0]) rfl dX2_init_16 ?_
  have m_1 : (mU M1 a (oB 3 [.ref (nsh N s), .int (nI (ndp N s + 1)), .ref cl, .ref aa, .ref s, .int 0, .long 0])) a = some (oB 3 [.ref (nsh N s), .int (nI (ndp N s + 1)), .ref cl, .ref aa, .ref s, .int 0, .long 0]) := mU_s
  refine q_aload_n X dX2_init_19 0 rfl ?_
  refine q_iload_n X dX2_init_20 2 rfl ?_
  refine q_putF X hn m_1 rfl in_RX2 tyX2 tyX2_ok nmX2 5 (by decide) tw_762 rfl rfl rfl rfl rfl rfl (Nat.le_of_ble_eq_true rfl) (fs1 := [.ref (nsh N s), .int (nI (ndp N s + 1)), .ref cl, .ref aa, .ref s, .int rule, .long 0]) rfl dX2_init_21 ?_
  have m_2 : (mU (mU M1 a (oB 3 [.ref (nsh N s), .int (nI (ndp N s + 1)), .ref cl, .ref aa, .ref s, .int 0, .long 0])) a (oB 3 [.ref (nsh N s), .int (nI (ndp N s + 1)), .ref cl, .ref aa, .ref s, .int rule, .long 0])) a = some (oB 3 [.ref (nsh N s), .int (nI (ndp N s + 1)), .ref cl, .ref aa, .ref s, .int rule, .long 0]) := mU_s
  refine q_aload_n X dX2_init_24 0 rfl ?_
  refine q_lload_n X dX2_init_25 3 rfl ?_
  refine q_putF X hn m_2 rfl in_RX2 tyX2 tyX2_ok nmX2 6 (by decide) tw_763 rfl rfl rfl rfl rfl rfl (Nat.le_of_ble_eq_true rfl) (fs1 := [.ref (nsh N s), .int (nI (ndp N s + 1)), .ref cl, .ref aa, .ref s, .int rule, .long c]) rfl dX2_init_26 ?_
  have m_3 : (mU (mU (mU M1 a (oB 3 [.ref (nsh N s), .int (nI (ndp N s + 1)), .ref cl, .ref aa, .ref s, .int 0, .long 0])) a (oB 3 [.ref (nsh N s), .int (nI (ndp N s + 1)), .ref cl, .ref aa, .ref s, .int rule, .long 0])) a (oB 3 [.ref (nsh N s), .int (nI (ndp N s + 1)), .ref cl, .ref aa, .ref s, .int rule, .long c])) a = some (oB 3 [.ref (nsh N s), .int (nI (ndp N s + 1)), .ref cl, .ref aa, .ref s, .int rule, .long c]) := mU_s
  exact q_vret X hr dX2_init_29 (ndP_fin (by decide) z1 z2 z3 z4 z5 z6 z7 z8 z9 z10 (fun q q1 => by rw [mU_n q1, mU_n q1, mU_n q1]) m_3)

set_option maxRecDepth 20000 in
theorem c_X4_init {l : Launch} {G : gV} {M : gMem} {a : Nat} {sh m : Nat} {lo hi : Nat → Int32} (hS : isShape G M sh (nI m) lo hi) (hO : okS m lo hi) (hN : sz3 lo hi ≤ 4096) {N : gN} {s t : Nat} (hs : nStat G M N s) (ht : nStat G M N t) {op : Int32} (hA : M a = some (oB 5 [.null, .int 0, .null, .null, .null, .null, .int 0])) : qC l G yX4_init cX4_init 5 none 4 4 (2 + (sz3 lo hi + (sz3 lo hi + 63) / 64) + (sz3 lo hi + 63) / 64) [.ref a, .ref sh, .ref s, .ref t, .int op] M (ndP G M a 5 sh (nI (max (ndp N s) (ndp N t) + 1)) (sz3 lo hi) [.ref s, .ref t, .int op]) := by
  refine qC_of (by decide +kernel) (Nat.le_of_ble_eq_true rfl) (fun F hF X hr hn => ?_)
  subst hF
  have X : qX G F cX4_init 5 RX4 4 := X
  show qJ G F _ 5 M 4 (2 + (sz3 lo hi + (sz3 lo hi + 63) / 64) + (sz3 lo hi + 63) / 64) 0 [(0, .ref a), (1, .ref sh), (2, .ref s), (3, .ref t), (4, .int op)] []
  refine q_aload_n X dX4_init_0 0 rfl ?_
  refine q_aload_n X dX4_init_1 1 rfl ?_
  refine q_aload_n X dX4_init_2 2 rfl ?_
  refine q_callUp X (x := ⟨"GridVault$Node", "depth", "()I"⟩) (owner := "GridVault$Node") (ci := nci N s) (c_X5_depth hs) Y_X5_depth tw_804 tw_660 (by decide) rfl (g_declC X tw_659 tw_667) tw_659 (se_X5_depth hs.1) hs.2.1 (by omega) rfl rfl (Nat.le_of_ble_eq_true rfl) dX4_init_3 ?_
  refine q_aload_n X dX4_init_6 3 rfl ?_
  refine q_callUp X (x := ⟨"GridVault$Node", "depth", "()I"⟩) (owner := "GridVault$Node") (ci := nci N t) (c_X5_depth ht) Y_X5_depth tw_804 tw_660 (by decide) rfl (g_declC X tw_659 tw_667) tw_659 (se_X5_depth ht.1) ht.2.1 (by omega) rfl rfl (Nat.le_of_ble_eq_true rfl) dX4_init_7 ?_
  refine q_callSp X (c_J9_max_7cf53) Y_J9_max_7cf53 tw_805 tw_123 (by omega) rfl rfl (Nat.le_of_ble_eq_true rfl) dX4_init_10 ?_
  rw [mxI_max (by have := hs.2.2.2.2.2.2.1; omega) (by have := ht.2.2.2.2.2.2.1; omega)]
  refine q_iconst (v := 1) X dX4_init_13 (by decide) ?_
  refine q_iadd X dX4_init_14 ?_
  rw [nI_1]
  refine q_callI X (c_X5_init_5 hA hS hO hN) Y_X5_init tw_806 tw_149 rfl (by omega) rfl rfl (Nat.le_of_ble_eq_true rfl) (rc' := 0) (rs' := 0) (by omega) (by omega) dX4_init_15 (fun v M' hp _ => ?_)
  obtain ⟨rfl, cl, nb, mb, aa, z1, z2, z3, z4, z5, z6, z7, z8, z9, z10⟩ := hp
  generalize M' = M1 at *
  show qJ G F _ 5 M1 0 0 18 [(0, .ref a), (1, .ref sh), (2, .ref s), (3, .ref t), (4, .int op)] []
  refine q_aload_n X dX4_init_18 0 rfl ?_
  refine q_aload_n X dX4_init_19 2 rfl ?_
  refine q_putF X hn z1 rfl in_RX4 tyX4 tyX4_ok nmX4 4 (by decide) tw_807 rfl rfl rfl rfl rfl rfl (Nat.le_of_ble_eq_true rfl) (fs1 := [.ref sh, .int (nI (max (ndp N s) (ndp N t) + 1)), .ref cl, .ref aa, .ref s, .null, .int 0]) rfl dX4_init_20 ?_
  have m_1 : (mU M1 a (oB 5 [.ref sh, .int (nI (max (ndp N s) (ndp N t) + 1)), .ref cl, .ref aa, .ref s, .null, .int 0])) a = some (oB 5 [.ref sh, .int (nI (max (ndp N s) (ndp N t) + 1)), .ref cl, .ref aa, .ref s, .null, .int 0]) := mU_s
  refine q_aload_n X dX4_init_23 0 rfl ?_
  refine q_aload_n X dX4_init_24 3 rfl ?_
  refine q_putF X hn m_1 rfl in_RX4 tyX4 tyX4_ok nmX4 5 (by decide) tw_808 rfl rfl rfl rfl rfl rfl (Nat.le_of_ble_eq_true rfl) (fs1 := [.ref sh, .int (nI (max (ndp N s) (ndp N t) + 1)), .ref cl, .ref aa, .ref s, .ref t, .int 0]) rfl dX4_init_25 ?_
  have m_2 : (mU (mU M1 a (oB 5 [.ref sh, .int (nI (max (ndp N s) (ndp N t) + 1)), .ref cl, .ref aa, .ref s, .null, .int 0])) a (oB 5 [.ref sh, .int (nI (max (ndp N s) (ndp N t) + 1)), .ref cl, .ref aa, .ref s, .ref t, .int 0])) a = some (oB 5 [.ref sh, .int (nI (max (ndp N s) (ndp N t) + 1)), .ref cl, .ref aa, .ref s, .ref t, .int 0]) := mU_s
  refine q_aload_n X dX4_init_28 0 rfl ?_
  refine q_iload X dX4_init_29 4 rfl ?_
  refine q_putF X hn m_2 rfl in_RX4 tyX4 tyX4_ok nmX4 6 (by decide) tw_809 rfl rfl rfl rfl rfl rfl (Nat.le_of_ble_eq_true rfl) (fs1 := [.ref sh, .int (nI (max (ndp N s) (ndp N t) + 1)), .ref cl, .ref aa, .ref s, .ref t, .int op]) rfl dX4_init_31 ?_
  have m_3 : (mU (mU (mU M1 a (oB 5 [.ref sh, .int (nI (max (ndp N s) (ndp N t) + 1)), .ref cl, .ref aa, .ref s, .null, .int 0])) a (oB 5 [.ref sh, .int (nI (max (ndp N s) (ndp N t) + 1)), .ref cl, .ref aa, .ref s, .ref t, .int 0])) a (oB 5 [.ref sh, .int (nI (max (ndp N s) (ndp N t) + 1)), .ref cl, .ref aa, .ref s, .ref t, .int op])) a = some (oB 5 [.ref sh, .int (nI (max (ndp N s) (ndp N t) + 1)), .ref cl, .ref aa, .ref s, .ref t, .int op]) := mU_s
  exact q_vret X hr dX4_init_34 (ndP_fin (by decide) z1 z2 z3 z4 z5 z6 z7 z8 z9 z10 (fun q q1 => by rw [mU_n q1, mU_n q1, mU_n q1]) m_3)

set_option maxRecDepth 20000 in
theorem c_X6_init {l : Launch} {G : gV} {M : gMem} {a : Nat} {sh m : Nat} {lo hi : Nat → Int32} (hS : isShape G M sh (nI m) lo hi) (hO : okS m lo hi) (hN : sz3 lo hi ≤ 4096) {N : gN} {s t : Nat} (hs : nStat G M N s) (ht : nStat G M N t) (hA : M a = some (oB 6 [.null, .int 0, .null, .null, .null, .null])) : qC l G yX6_init cX6_init 4 none 4 4 (2 + (sz3 lo hi + (sz3 lo hi + 63) / 64) + (sz3 lo hi + 63) / 64) [.ref a, .ref sh, .ref s, .ref t] M (ndP G M a 6 sh (nI (max (ndp N s) (ndp N t) + 1)) (sz3 lo hi) [.ref s, .ref t]) := by
  refine qC_of (by decide +kernel) (Nat.le_of_ble_eq_true rfl) (fun F hF X hr hn => ?_)
  subst hF
  have X : qX G F cX6_init 4 RX6 4 := X
  show qJ G F _ 4 M 4 (2 + (sz3 lo hi + (sz3 lo hi + 63) / 64) + (sz3 lo hi + 63) / 64) 0 [(0, .ref a), (1, .ref sh), (2, .ref s), (3, .ref t)] []
  refine q_aload_n X dX6_init_0 0 rfl ?_
  refine q_aload_n X dX6_init_1 1 rfl ?_
  refine q_aload_n X dX6_init_2 2 rfl ?_
  refine q_callUp X (x := ⟨"GridVault$Node", "depth", "()I"⟩) (owner := "GridVault$Node") (ci := nci N s) (c_X5_depth hs) Y_X5_depth tw_922 tw_660 (by decide) rfl (g_declC X tw_659 tw_667) tw_659 (se_X5_depth hs.1) hs.2.1 (by omega) rfl rfl (Nat.le_of_ble_eq_true rfl) dX6_init_3 ?_
  refine q_aload_n X dX6_init_6 3 rfl ?_
  refine q_callUp X (x := ⟨"GridVault$Node", "depth", "()I"⟩) (owner := "GridVault$Node") (ci := nci N t) (c_X5_depth ht) Y_X5_depth tw_922 tw_660 (by decide) rfl (g_declC X tw_659 tw_667) tw_659 (se_X5_depth ht.1) ht.2.1 (by omega) rfl rfl (Nat.le_of_ble_eq_true rfl) dX6_init_7 ?_
  refine q_callSp X (c_J9_max_7cf53) Y_J9_max_7cf53 tw_923 tw_123 (by omega) rfl rfl (Nat.le_of_ble_eq_true rfl) dX6_init_10 ?_
  rw [mxI_max (by have := hs.2.2.2.2.2.2.1; omega) (by have := ht.2.2.2.2.2.2.1; omega)]
  refine q_iconst (v := 1) X dX6_init_13 (by decide) ?_
  refine q_iadd X dX6_init_14 ?_
  rw [nI_1]
  refine q_callI X (c_X5_init_6 hA hS hO hN) Y_X5_init tw_924 tw_149 rfl (by omega) rfl rfl (Nat.le_of_ble_eq_true rfl) (rc' := 0) (rs' := 0) (by omega) (by omega) dX6_init_15 (fun v M' hp _ => ?_)
  obtain ⟨rfl, cl, nb, mb, aa, z1, z2, z3, z4, z5, z6, z7, z8, z9, z10⟩ := hp
  generalize M' = M1 at *
  show qJ G F _ 4 M1 0 0 18 [(0, .ref a), (1, .ref sh), (2, .ref s), (3, .ref t)] []
  refine q_aload_n X dX6_init_18 0 rfl ?_
  refine q_aload_n X dX6_init_19 2 rfl ?_
  refine q_putF X hn z1 rfl in_RX6 tyX6 tyX6_ok nmX6 4 (by decide) tw_925 rfl rfl rfl rfl rfl rfl (Nat.le_of_ble_eq_true rfl) (fs1 := [.ref sh, .int (nI (max (ndp N s) (ndp N t) + 1)), .ref cl, .ref aa, .ref s, .null]) rfl dX6_init_20 ?_
  have m_1 : (mU M1 a (oB 6 [.ref sh, .int (nI (max (ndp N s) (ndp N t) + 1)), .ref cl, .ref aa, .ref s, .null])) a = some (oB 6 [.ref sh, .int (nI (max (ndp N s) (ndp N t) + 1)), .ref cl, .ref aa, .ref s, .null]) := mU_s
  refine q_aload_n X dX6_init_23 0 rfl ?_
  refine q_aload_n X dX6_init_24 3 rfl ?_
  refine q_putF X hn m_1 rfl in_RX6 tyX6 tyX6_ok nmX6 5 (by decide) tw_926 rfl rfl rfl rfl rfl rfl (Nat.le_of_ble_eq_true rfl) (fs1 := [.ref sh, .int (nI (max (ndp N s) (ndp N t) + 1)), .ref cl, .ref aa, .ref s, .ref t]) rfl dX6_init_25 ?_
  have m_2 : (mU (mU M1 a (oB 6 [.ref sh, .int (nI (max (ndp N s) (ndp N t) + 1)), .ref cl, .ref aa, .ref s, .null])) a (oB 6 [.ref sh, .int (nI (max (ndp N s) (ndp N t) + 1)), .ref cl, .ref aa, .ref s, .ref t])) a = some (oB 6 [.ref sh, .int (nI (max (ndp N s) (ndp N t) + 1)), .ref cl, .ref aa, .ref s, .ref t]) := mU_s
  exact q_vret X hr dX6_init_28 (ndP_fin (by decide) z1 z2 z3 z4 z5 z6 z7 z8 z9 z10 (fun q q1 => by rw [mU_n q1, mU_n q1]) m_2)

set_option maxRecDepth 20000 in
theorem c_X8_init {l : Launch} {G : gV} {M : gMem} {a : Nat} {what w0 t0 : Int32} {r0 : Int64} (hA : M a = some (oB 8 [.int w0, .int t0, .long r0])) : qC l G yX8_init cX8_init 2 none 2 0 0 [.ref a, .int what] M (pV (mU M a (oB 8 [.int what, .int t0, .long r0]))) := by
  refine qC_of (by decide +kernel) (Nat.le_of_ble_eq_true rfl) (fun F hF X hr hn => ?_)
  subst hF
  have X : qX G F cX8_init 2 RX8 2 := X
  show qJ G F _ 2 M 0 0 0 [(0, .ref a), (1, .int what)] []
  refine q_aload_n X dX8_init_0 0 rfl ?_
  refine q_obj X tw_842 tw_38 tw_39 (by decide) (Nat.le_of_ble_eq_true rfl) dX8_init_1 ?_
  refine q_aload_n X dX8_init_4 0 rfl ?_
  refine q_iload_n X dX8_init_5 1 rfl ?_
  refine q_putF X hn hA rfl in_RX8 tyX8 tyX8_ok nmX8 0 (by decide) tw_843 rfl rfl rfl rfl rfl rfl (Nat.le_of_ble_eq_true rfl) (fs1 := [.int what, .int t0, .long r0]) rfl dX8_init_6 ?_
  have m_1 : (mU M a (oB 8 [.int what, .int t0, .long r0])) a = some (oB 8 [.int what, .int t0, .long r0]) := mU_s
  exact q_vret X hr dX8_init_9 (⟨rfl, rfl⟩)
