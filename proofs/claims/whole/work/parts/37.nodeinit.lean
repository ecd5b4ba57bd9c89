/-! making nodes -/
/-- a node's common part was made -/
def ndP (G : gV) (M : gMem) (a ci sh : Nat) (dv : Int32) (N : Nat) (ex : List Value) : Option Value → gMem → Prop := fun v M' => v = none ∧ ∃ cl nb mb aa : Nat, M' a = some (oB ci (.ref sh :: .int dv :: .ref cl :: .ref aa :: ex)) ∧ isCells G M' cl nb mb N (fun _ => none) ∧ M' aa = some (aJ G ((N + 63) / 64) (fun _ => 0)) ∧ M cl = none ∧ M nb = none ∧ M mb = none ∧ M aa = none ∧ nb ≠ aa ∧ mb ≠ aa ∧ ∀ q, q ≠ a → M q ≠ none → M' q = M q
theorem mU_no {M : gMem} {a q : Nat} {e : va_E} (h : mU M a e q = none) : M q = none ∧ q ≠ a := by
  unfold mU at h
  by_cases e1 : q = a
  · rw [if_pos e1] at h; cases h
  · rw [if_neg e1] at h; exact ⟨h, e1⟩

set_option maxRecDepth 20000 in
theorem c_X5_init_3 {l : Launch} {G : gV} {M : gMem} {a sh m : Nat} {dv : Int32} {lo hi : Nat → Int32} {w0 w1 w2 w3 v0 v1 v2 : Value} (hA : M a = some (oB 3 [w0, w1, w2, w3, v0, v1, v2])) (hS : isShape G M sh (nI m) lo hi) (hO : okS m lo hi) (hN : sz3 lo hi ≤ 4096) : qC l G yX5_init cX5_init 3 none 3 4 (2 + (sz3 lo hi + (sz3 lo hi + 63) / 64) + (sz3 lo hi + 63) / 64) [.ref a, .ref sh, .int dv] M (ndP G M a 3 sh dv (sz3 lo hi) [v0, v1, v2]) := by
  refine qC_of (by decide +kernel) (Nat.le_of_ble_eq_true rfl) (fun F hF X hr hn => ?_)
  subst hF
  have X : qX G F cX5_init 3 RX5 3 := X
  obtain ⟨b, c, d, sp, s1, s2, s3, s4, s5, s6, s7, s8, s9⟩ := id hS
  have n1 : sh ≠ a := fun e => by rw [e, hA] at s1; cases s1
  have n2 : b ≠ a := fun e => by rw [e, hA] at s2; cases s2
  have n3 : c ≠ a := fun e => by rw [e, hA] at s3; cases s3
  have n4 : d ≠ a := fun e => by rw [e, hA] at s4; cases s4
  have n8 : sp.2.1 ≠ a := fun e => by rw [e, hA] at s8; cases s8
  generalize eN : sz3 lo hi = N at hN ⊢
  have eSz := hO.size
  rw [eN] at eSz
  show qJ G F _ 3 M 4 (2 + (N + (N + 63) / 64) + (N + 63) / 64) 0 [(0, .ref a), (1, .ref sh), (2, .int dv)] []
  refine q_aload_n X dX5_init_0 0 rfl ?_
  refine q_obj X tw_151 tw_38 tw_39 (by decide) (Nat.le_of_ble_eq_true rfl) dX5_init_1 ?_
  refine q_aload_n X dX5_init_4 0 rfl ?_
  refine q_aload_n X dX5_init_5 1 rfl ?_
  refine q_putF X hn hA rfl in_RX2 tyX2 tyX2_ok nmX2 0 (by decide) tw_159 rfl rfl rfl rfl rfl rfl (Nat.le_of_ble_eq_true rfl) (fs1 := [.ref sh, w1, w2, w3, v0, v1, v2]) rfl dX5_init_6 ?_
  have m_1 : (mU M a (oB 3 [.ref sh, w1, w2, w3, v0, v1, v2])) a = some (oB 3 [.ref sh, w1, w2, w3, v0, v1, v2]) := mU_s
  have m_2 : (mU M a (oB 3 [.ref sh, w1, w2, w3, v0, v1, v2])) sh = some (oB 7 [.int (nI m), .ref b, .ref c, .ref sp.2.1, .ref d, .int (sL lo hi 0 * sL lo hi 1 * sL lo hi 2)]) := (mU_n (n1)).trans s1
  have m_3 : (mU M a (oB 3 [.ref sh, w1, w2, w3, v0, v1, v2])) b = some (aI G 3 lo) := (mU_n (n2)).trans s2
  have m_4 : (mU M a (oB 3 [.ref sh, w1, w2, w3, v0, v1, v2])) c = some (aI G 3 hi) := (mU_n (n3)).trans s3
  have m_5 : (mU M a (oB 3 [.ref sh, w1, w2, w3, v0, v1, v2])) d = some (aI G 3 sp.1) := (mU_n (n4)).trans s4
  have m_6 : (mU M a (oB 3 [.ref sh, w1, w2, w3, v0, v1, v2])) sp.2.1 = some (aI G 3 sp.2.2) := (mU_n (n8)).trans s8
  refine q_aload_n X dX5_init_9 0 rfl ?_
  refine q_iload_n X dX5_init_10 2 rfl ?_
  refine q_putF X hn m_1 rfl in_RX2 tyX2 tyX2_ok nmX2 1 (by decide) tw_160 rfl rfl rfl rfl rfl rfl (Nat.le_of_ble_eq_true rfl) (fs1 := [.ref sh, .int dv, w2, w3, v0, v1, v2]) rfl dX5_init_11 ?_
  have m_7 : (mU (mU M a (oB 3 [.ref sh, w1, w2, w3, v0, v1, v2])) a (oB 3 [.ref sh, .int dv, w2, w3, v0, v1, v2])) a = some (oB 3 [.ref sh, .int dv, w2, w3, v0, v1, v2]) := mU_s
  have m_8 : (mU (mU M a (oB 3 [.ref sh, w1, w2, w3, v0, v1, v2])) a (oB 3 [.ref sh, .int dv, w2, w3, v0, v1, v2])) sh = some (oB 7 [.int (nI m), .ref b, .ref c, .ref sp.2.1, .ref d, .int (sL lo hi 0 * sL lo hi 1 * sL lo hi 2)]) := (mU_n (n1)).trans m_2
  have m_9 : (mU (mU M a (oB 3 [.ref sh, w1, w2, w3, v0, v1, v2])) a (oB 3 [.ref sh, .int dv, w2, w3, v0, v1, v2])) b = some (aI G 3 lo) := (mU_n (n2)).trans m_3
  have m_10 : (mU (mU M a (oB 3 [.ref sh, w1, w2, w3, v0, v1, v2])) a (oB 3 [.ref sh, .int dv, w2, w3, v0, v1, v2])) c = some (aI G 3 hi) := (mU_n (n3)).trans m_4
  have m_11 : (mU (mU M a (oB 3 [.ref sh, w1, w2, w3, v0, v1, v2])) a (oB 3 [.ref sh, .int dv, w2, w3, v0, v1, v2])) d = some (aI G 3 sp.1) := (mU_n (n4)).trans m_5
  have m_12 : (mU (mU M a (oB 3 [.ref sh, w1, w2, w3, v0, v1, v2])) a (oB 3 [.ref sh, .int dv, w2, w3, v0, v1, v2])) sp.2.1 = some (aI G 3 sp.2.2) := (mU_n (n8)).trans m_6
  refine q_aload_n X dX5_init_14 0 rfl ?_
  refine q_new X (ci := 1) rfl in_RX0 tyX0 tyX0_ok tw_152 tw_113 tw_6 (fs0 := [.null, .null]) (fun j hj => by rcases (show j = 0 ∨ j = 1 by omega) with rfl | rfl <;> rfl) (rc' := 3) (rs' := N + (N + 63) / 64 + (N + 63) / 64) (by omega) (by omega) dX5_init_15 (fun cl fcl => ?_)
  have n_13 : a ≠ cl := g_nef m_7 fcl
  have m_14 : (mU (mU (mU M a (oB 3 [.ref sh, w1, w2, w3, v0, v1, v2])) a (oB 3 [.ref sh, .int dv, w2, w3, v0, v1, v2])) cl (oB 1 [.null, .null])) a = some (oB 3 [.ref sh, .int dv, w2, w3, v0, v1, v2]) := (mU_n n_13).trans m_7
  have n_15 : sh ≠ cl := g_nef m_8 fcl
  have m_16 : (mU (mU (mU M a (oB 3 [.ref sh, w1, w2, w3, v0, v1, v2])) a (oB 3 [.ref sh, .int dv, w2, w3, v0, v1, v2])) cl (oB 1 [.null, .null])) sh = some (oB 7 [.int (nI m), .ref b, .ref c, .ref sp.2.1, .ref d, .int (sL lo hi 0 * sL lo hi 1 * sL lo hi 2)]) := (mU_n n_15).trans m_8
  have n_17 : b ≠ cl := g_nef m_9 fcl
  have m_18 : (mU (mU (mU M a (oB 3 [.ref sh, w1, w2, w3, v0, v1, v2])) a (oB 3 [.ref sh, .int dv, w2, w3, v0, v1, v2])) cl (oB 1 [.null, .null])) b = some (aI G 3 lo) := (mU_n n_17).trans m_9
  have n_19 : c ≠ cl := g_nef m_10 fcl
  have m_20 : (mU (mU (mU M a (oB 3 [.ref sh, w1, w2, w3, v0, v1, v2])) a (oB 3 [.ref sh, .int dv, w2, w3, v0, v1, v2])) cl (oB 1 [.null, .null])) c = some (aI G 3 hi) := (mU_n n_19).trans m_10
  have n_21 : d ≠ cl := g_nef m_11 fcl
  have m_22 : (mU (mU (mU M a (oB 3 [.ref sh, w1, w2, w3, v0, v1, v2])) a (oB 3 [.ref sh, .int dv, w2, w3, v0, v1, v2])) cl (oB 1 [.null, .null])) d = some (aI G 3 sp.1) := (mU_n n_21).trans m_11
  have n_23 : sp.2.1 ≠ cl := g_nef m_12 fcl
  have m_24 : (mU (mU (mU M a (oB 3 [.ref sh, w1, w2, w3, v0, v1, v2])) a (oB 3 [.ref sh, .int dv, w2, w3, v0, v1, v2])) cl (oB 1 [.null, .null])) sp.2.1 = some (aI G 3 sp.2.2) := (mU_n n_23).trans m_12
  have m_25 : (mU (mU (mU M a (oB 3 [.ref sh, w1, w2, w3, v0, v1, v2])) a (oB 3 [.ref sh, .int dv, w2, w3, v0, v1, v2])) cl (oB 1 [.null, .null])) cl = some (oB 1 [.null, .null]) := mU_s
  refine q_dup X dX5_init_18 rfl ?_
  refine q_aload_n X dX5_init_19 1 rfl ?_
  refine q_callVp X (c_X7_size (n := nI m) (lo := lo) (hi := hi) ⟨b, c, d, sp, m_16, m_18, m_20, m_22, s5, s6, s7, m_24, s9⟩) Y_X7_size tw_153 tw_115 tw_116 m_16 rfl (by decide) rfl rfl (Nat.le_of_ble_eq_true rfl) dX5_init_20 ?_
  rw [eSz]
  refine q_callI X (c_X0_init m_25 hN) Y_X0_init tw_154 tw_119 rfl (by decide) rfl rfl (Nat.le_of_ble_eq_true rfl) (rc' := 1) (rs' := (N + 63) / 64) (by omega) (by omega) dX5_init_23 (fun v M' hp _ => ?_)
  obtain ⟨rfl, nb, mb, hC, fnb0, fmb0, hfr⟩ := hp
  generalize M' = M2 at *
  have m_26 : M2 a = some (oB 3 [.ref sh, .int dv, w2, w3, v0, v1, v2]) := (hfr a (n_13) (g_nef m_14 fnb0) (g_nef m_14 fmb0)).trans m_14
  have m_27 : M2 sh = some (oB 7 [.int (nI m), .ref b, .ref c, .ref sp.2.1, .ref d, .int (sL lo hi 0 * sL lo hi 1 * sL lo hi 2)]) := (hfr sh (n_15) (g_nef m_16 fnb0) (g_nef m_16 fmb0)).trans m_16
  have m_28 : M2 b = some (aI G 3 lo) := (hfr b (n_17) (g_nef m_18 fnb0) (g_nef m_18 fmb0)).trans m_18
  have m_29 : M2 c = some (aI G 3 hi) := (hfr c (n_19) (g_nef m_20 fnb0) (g_nef m_20 fmb0)).trans m_20
  have m_30 : M2 d = some (aI G 3 sp.1) := (hfr d (n_21) (g_nef m_22 fnb0) (g_nef m_22 fmb0)).trans m_22
  have m_31 : M2 sp.2.1 = some (aI G 3 sp.2.2) := (hfr sp.2.1 (n_23) (g_nef m_24 fnb0) (g_nef m_24 fmb0)).trans m_24
  obtain ⟨num, mk, c1, c2, c3, c4, c5, c6⟩ := hC
  show qJ G F _ 3 M2 1 ((N + 63) / 64) 26 [(0, .ref a), (1, .ref sh), (2, .int dv)] [.ref cl, .ref a]
  refine q_putF X hn m_26 rfl in_RX2 tyX2 tyX2_ok nmX2 2 (by decide) tw_161 rfl rfl rfl rfl rfl rfl (Nat.le_of_ble_eq_true rfl) (fs1 := [.ref sh, .int dv, .ref cl, w3, v0, v1, v2]) rfl dX5_init_26 ?_
  have m_32 : (mU M2 a (oB 3 [.ref sh, .int dv, .ref cl, w3, v0, v1, v2])) a = some (oB 3 [.ref sh, .int dv, .ref cl, w3, v0, v1, v2]) := mU_s
  have m_33 : (mU M2 a (oB 3 [.ref sh, .int dv, .ref cl, w3, v0, v1, v2])) sh = some (oB 7 [.int (nI m), .ref b, .ref c, .ref sp.2.1, .ref d, .int (sL lo hi 0 * sL lo hi 1 * sL lo hi 2)]) := (mU_n (n1)).trans m_27
  have m_34 : (mU M2 a (oB 3 [.ref sh, .int dv, .ref cl, w3, v0, v1, v2])) b = some (aI G 3 lo) := (mU_n (n2)).trans m_28
  have m_35 : (mU M2 a (oB 3 [.ref sh, .int dv, .ref cl, w3, v0, v1, v2])) c = some (aI G 3 hi) := (mU_n (n3)).trans m_29
  have m_36 : (mU M2 a (oB 3 [.ref sh, .int dv, .ref cl, w3, v0, v1, v2])) d = some (aI G 3 sp.1) := (mU_n (n4)).trans m_30
  have m_37 : (mU M2 a (oB 3 [.ref sh, .int dv, .ref cl, w3, v0, v1, v2])) sp.2.1 = some (aI G 3 sp.2.2) := (mU_n (n8)).trans m_31
  have m_38 : (mU M2 a (oB 3 [.ref sh, .int dv, .ref cl, w3, v0, v1, v2])) cl = some (oB 1 [.ref nb, .ref mb]) := (mU_n (Ne.symm n_13)).trans c1
  have m_39 : (mU M2 a (oB 3 [.ref sh, .int dv, .ref cl, w3, v0, v1, v2])) nb = some (aJ G N num) := (mU_n ((g_nef m_14 fnb0).symm)).trans c2
  have m_40 : (mU M2 a (oB 3 [.ref sh, .int dv, .ref cl, w3, v0, v1, v2])) mb = some (aJ G ((N + 63) / 64) mk) := (mU_n ((g_nef m_14 fmb0).symm)).trans c3
  refine q_aload_n X dX5_init_29 0 rfl ?_
  refine q_aload_n X dX5_init_30 1 rfl ?_
  refine q_callVp X (c_X7_size (n := nI m) (lo := lo) (hi := hi) ⟨b, c, d, sp, m_33, m_34, m_35, m_36, s5, s6, s7, m_37, s9⟩) Y_X7_size tw_153 tw_115 tw_116 m_33 rfl (by decide) rfl rfl (Nat.le_of_ble_eq_true rfl) dX5_init_31 ?_
  rw [eSz]
  refine q_bipush (v := 63) X dX5_init_34 (by decide) ?_
  refine q_iadd X dX5_init_36 ?_
  refine q_bipush (v := 64) X dX5_init_37 (by decide) ?_
  refine q_idiv X dX5_init_39 (by decide) ?_
  rw [cw_div hN]
  refine q_iconst (v := 0) X dX5_init_40 (by decide) ?_
  refine q_callSp X (c_J9_max_7cf53) Y_J9_max_7cf53 tw_155 tw_123 (by decide) rfl rfl (Nat.le_of_ble_eq_true rfl) dX5_init_41 ?_
  rw [mxI_0 (by omega)]
  refine q_newJ X tw_132 ((N + 63) / 64) (rfl) (by omega) (rc' := 0) (rs' := 0) (by omega) (by omega) dX5_init_44 (fun aa faa => ?_)
  have n_41 : a ≠ aa := g_nef m_32 faa
  have m_42 : (mU (mU M2 a (oB 3 [.ref sh, .int dv, .ref cl, w3, v0, v1, v2])) aa (aJ G ((N + 63) / 64) (fun _ => 0))) a = some (oB 3 [.ref sh, .int dv, .ref cl, w3, v0, v1, v2]) := (mU_n n_41).trans m_32
  have n_43 : sh ≠ aa := g_nef m_33 faa
  have m_44 : (mU (mU M2 a (oB 3 [.ref sh, .int dv, .ref cl, w3, v0, v1, v2])) aa (aJ G ((N + 63) / 64) (fun _ => 0))) sh = some (oB 7 [.int (nI m), .ref b, .ref c, .ref sp.2.1, .ref d, .int (sL lo hi 0 * sL lo hi 1 * sL lo hi 2)]) := (mU_n n_43).trans m_33
  have n_45 : b ≠ aa := g_nef m_34 faa
  have m_46 : (mU (mU M2 a (oB 3 [.ref sh, .int dv, .ref cl, w3, v0, v1, v2])) aa (aJ G ((N + 63) / 64) (fun _ => 0))) b = some (aI G 3 lo) := (mU_n n_45).trans m_34
  have n_47 : c ≠ aa := g_nef m_35 faa
  have m_48 : (mU (mU M2 a (oB 3 [.ref sh, .int dv, .ref cl, w3, v0, v1, v2])) aa (aJ G ((N + 63) / 64) (fun _ => 0))) c = some (aI G 3 hi) := (mU_n n_47).trans m_35
  have n_49 : d ≠ aa := g_nef m_36 faa
  have m_50 : (mU (mU M2 a (oB 3 [.ref sh, .int dv, .ref cl, w3, v0, v1, v2])) aa (aJ G ((N + 63) / 64) (fun _ => 0))) d = some (aI G 3 sp.1) := (mU_n n_49).trans m_36
  have n_51 : sp.2.1 ≠ aa := g_nef m_37 faa
  have m_52 : (mU (mU M2 a (oB 3 [.ref sh, .int dv, .ref cl, w3, v0, v1, v2])) aa (aJ G ((N + 63) / 64) (fun _ => 0))) sp.2.1 = some (aI G 3 sp.2.2) := (mU_n n_51).trans m_37
  have n_53 : cl ≠ aa := g_nef m_38 faa
  have m_54 : (mU (mU M2 a (oB 3 [.ref sh, .int dv, .ref cl, w3, v0, v1, v2])) aa (aJ G ((N + 63) / 64) (fun _ => 0))) cl = some (oB 1 [.ref nb, .ref mb]) := (mU_n n_53).trans m_38
  have n_55 : nb ≠ aa := g_nef m_39 faa
  have m_56 : (mU (mU M2 a (oB 3 [.ref sh, .int dv, .ref cl, w3, v0, v1, v2])) aa (aJ G ((N + 63) / 64) (fun _ => 0))) nb = some (aJ G N num) := (mU_n n_55).trans m_39
  have n_57 : mb ≠ aa := g_nef m_40 faa
  have m_58 : (mU (mU M2 a (oB 3 [.ref sh, .int dv, .ref cl, w3, v0, v1, v2])) aa (aJ G ((N + 63) / 64) (fun _ => 0))) mb = some (aJ G ((N + 63) / 64) mk) := (mU_n n_57).trans m_40
  have m_59 : (mU (mU M2 a (oB 3 [.ref sh, .int dv, .ref cl, w3, v0, v1, v2])) aa (aJ G ((N + 63) / 64) (fun _ => 0))) aa = some (aJ G ((N + 63) / 64) (fun _ => 0)) := mU_s
  refine q_putF X hn m_42 rfl in_RX2 tyX2 tyX2_ok nmX2 3 (by decide) tw_162 rfl rfl rfl rfl rfl rfl (Nat.le_of_ble_eq_true rfl) (fs1 := [.ref sh, .int dv, .ref cl, .ref aa, v0, v1, v2]) rfl dX5_init_46 ?_
  have m_60 : (mU (mU (mU M2 a (oB 3 [.ref sh, .int dv, .ref cl, w3, v0, v1, v2])) aa (aJ G ((N + 63) / 64) (fun _ => 0))) a (oB 3 [.ref sh, .int dv, .ref cl, .ref aa, v0, v1, v2])) a = some (oB 3 [.ref sh, .int dv, .ref cl, .ref aa, v0, v1, v2]) := mU_s
  have m_61 : (mU (mU (mU M2 a (oB 3 [.ref sh, .int dv, .ref cl, w3, v0, v1, v2])) aa (aJ G ((N + 63) / 64) (fun _ => 0))) a (oB 3 [.ref sh, .int dv, .ref cl, .ref aa, v0, v1, v2])) sh = some (oB 7 [.int (nI m), .ref b, .ref c, .ref sp.2.1, .ref d, .int (sL lo hi 0 * sL lo hi 1 * sL lo hi 2)]) := (mU_n (n1)).trans m_44
  have m_62 : (mU (mU (mU M2 a (oB 3 [.ref sh, .int dv, .ref cl, w3, v0, v1, v2])) aa (aJ G ((N + 63) / 64) (fun _ => 0))) a (oB 3 [.ref sh, .int dv, .ref cl, .ref aa, v0, v1, v2])) b = some (aI G 3 lo) := (mU_n (n2)).trans m_46
  have m_63 : (mU (mU (mU M2 a (oB 3 [.ref sh, .int dv, .ref cl, w3, v0, v1, v2])) aa (aJ G ((N + 63) / 64) (fun _ => 0))) a (oB 3 [.ref sh, .int dv, .ref cl, .ref aa, v0, v1, v2])) c = some (aI G 3 hi) := (mU_n (n3)).trans m_48
  have m_64 : (mU (mU (mU M2 a (oB 3 [.ref sh, .int dv, .ref cl, w3, v0, v1, v2])) aa (aJ G ((N + 63) / 64) (fun _ => 0))) a (oB 3 [.ref sh, .int dv, .ref cl, .ref aa, v0, v1, v2])) d = some (aI G 3 sp.1) := (mU_n (n4)).trans m_50
  have m_65 : (mU (mU (mU M2 a (oB 3 [.ref sh, .int dv, .ref cl, w3, v0, v1, v2])) aa (aJ G ((N + 63) / 64) (fun _ => 0))) a (oB 3 [.ref sh, .int dv, .ref cl, .ref aa, v0, v1, v2])) sp.2.1 = some (aI G 3 sp.2.2) := (mU_n (n8)).trans m_52
  have m_66 : (mU (mU (mU M2 a (oB 3 [.ref sh, .int dv, .ref cl, w3, v0, v1, v2])) aa (aJ G ((N + 63) / 64) (fun _ => 0))) a (oB 3 [.ref sh, .int dv, .ref cl, .ref aa, v0, v1, v2])) cl = some (oB 1 [.ref nb, .ref mb]) := (mU_n (Ne.symm n_13)).trans m_54
  have m_67 : (mU (mU (mU M2 a (oB 3 [.ref sh, .int dv, .ref cl, w3, v0, v1, v2])) aa (aJ G ((N + 63) / 64) (fun _ => 0))) a (oB 3 [.ref sh, .int dv, .ref cl, .ref aa, v0, v1, v2])) nb = some (aJ G N num) := (mU_n ((g_nef m_14 fnb0).symm)).trans m_56
  have m_68 : (mU (mU (mU M2 a (oB 3 [.ref sh, .int dv, .ref cl, w3, v0, v1, v2])) aa (aJ G ((N + 63) / 64) (fun _ => 0))) a (oB 3 [.ref sh, .int dv, .ref cl, .ref aa, v0, v1, v2])) mb = some (aJ G ((N + 63) / 64) mk) := (mU_n ((g_nef m_14 fmb0).symm)).trans m_58
  have m_69 : (mU (mU (mU M2 a (oB 3 [.ref sh, .int dv, .ref cl, w3, v0, v1, v2])) aa (aJ G ((N + 63) / 64) (fun _ => 0))) a (oB 3 [.ref sh, .int dv, .ref cl, .ref aa, v0, v1, v2])) aa = some (aJ G ((N + 63) / 64) (fun _ => 0)) := (mU_n (Ne.symm n_41)).trans m_59
  have Lcl : M cl = none := (mU_no (mU_no fcl).1).1
  have Lnb : M nb = none := (mU_no (mU_no (mU_no fnb0).1).1).1
  have Lmb : M mb = none := (mU_no (mU_no (mU_no fmb0).1).1).1
  have old : ∀ q, q ≠ a → M q ≠ none → M2 q = M q := fun q q1 q2 => by
    rw [hfr q (fun e => q2 (by rw [e]; exact Lcl)) (fun e => q2 (by rw [e]; exact Lnb)) (fun e => q2 (by rw [e]; exact Lmb)), mU_n (fun e => q2 (by rw [e]; exact Lcl)), mU_n q1, mU_n q1]
  have naa := mU_no faa
  have Laa : M aa = none := by
    cases h9 : M aa with
    | none => rfl
    | some e9 => have h8 := old aa naa.2 (by rw [h9]; exact fun h => by cases h); rw [naa.1, h9] at h8; cases h8
  have fin : ∀ q, q ≠ a → M q ≠ none → (mU (mU (mU M2 a (oB 3 [.ref sh, .int dv, .ref cl, w3, v0, v1, v2])) aa (aJ G ((N + 63) / 64) (fun _ => 0))) a (oB 3 [.ref sh, .int dv, .ref cl, .ref aa, v0, v1, v2])) q = M q := fun q q1 q2 => by
    rw [mU_n q1, mU_n (fun e => q2 (by rw [e]; exact Laa)), mU_n q1]; exact old q q1 q2
  exact q_vret X hr dX5_init_49 (⟨rfl, cl, nb, mb, aa, m_60, ⟨num, mk, m_66, m_67, m_68, c4, c5, c6⟩, m_69, Lcl, Lnb, Lmb, Laa, n_55, n_57, fin⟩)

set_option maxRecDepth 20000 in
theorem c_X5_init_4 {l : Launch} {G : gV} {M : gMem} {a sh m : Nat} {dv : Int32} {lo hi : Nat → Int32} {w0 w1 w2 w3 v0 v1 v2 v3 v4 : Value} (hA : M a = some (oB 4 [w0, w1, w2, w3, v0, v1, v2, v3, v4])) (hS : isShape G M sh (nI m) lo hi) (hO : okS m lo hi) (hN : sz3 lo hi ≤ 4096) : qC l G yX5_init cX5_init 3 none 3 4 (2 + (sz3 lo hi + (sz3 lo hi + 63) / 64) + (sz3 lo hi + 63) / 64) [.ref a, .ref sh, .int dv] M (ndP G M a 4 sh dv (sz3 lo hi) [v0, v1, v2, v3, v4]) := by
  refine qC_of (by decide +kernel) (Nat.le_of_ble_eq_true rfl) (fun F hF X hr hn => ?_)
  subst hF
  have X : qX G F cX5_init 3 RX5 3 := X
  obtain ⟨b, c, d, sp, s1, s2, s3, s4, s5, s6, s7, s8, s9⟩ := id hS
  have n1 : sh ≠ a := fun e => by rw [e, hA] at s1; cases s1
  have n2 : b ≠ a := fun e => by rw [e, hA] at s2; cases s2
  have n3 : c ≠ a := fun e => by rw [e, hA] at s3; cases s3
  have n4 : d ≠ a := fun e => by rw [e, hA] at s4; cases s4
  have n8 : sp.2.1 ≠ a := fun e => by rw [e, hA] at s8; cases s8
  generalize eN : sz3 lo hi = N at hN ⊢
  have eSz := hO.size
  rw [eN] at eSz
  show qJ G F _ 3 M 4 (2 + (N + (N + 63) / 64) + (N + 63) / 64) 0 [(0, .ref a), (1, .ref sh), (2, .int dv)] []
  refine q_aload_n X dX5_init_0 0 rfl ?_
  refine q_obj X tw_151 tw_38 tw_39 (by decide) (Nat.le_of_ble_eq_true rfl) dX5_init_1 ?_
  refine q_aload_n X dX5_init_4 0 rfl ?_
  refine q_aload_n X dX5_init_5 1 rfl ?_
  refine q_putF X hn hA rfl in_RX3 tyX3 tyX3_ok nmX3 0 (by decide) tw_159 rfl rfl rfl rfl rfl rfl (Nat.le_of_ble_eq_true rfl) (fs1 := [.ref sh, w1, w2, w3, v0, v1, v2, v3, v4]) rfl dX5_init_6 ?_
  have m_1 : (mU M a (oB 4 [.ref sh, w1, w2, w3, v0, v1, v2, v3, v4])) a = some (oB 4 [.ref sh, w1, w2, w3, v0, v1, v2, v3, v4]) := mU_s
  have m_2 : (mU M a (oB 4 [.ref sh, w1, w2, w3, v0, v1, v2, v3, v4])) sh = some (oB 7 [.int (nI m), .ref b, .ref c, .ref sp.2.1, .ref d, .int (sL lo hi 0 * sL lo hi 1 * sL lo hi 2)]) := (mU_n (n1)).trans s1
  have m_3 : (mU M a (oB 4 [.ref sh, w1, w2, w3, v0, v1, v2, v3, v4])) b = some (aI G 3 lo) := (mU_n (n2)).trans s2
  have m_4 : (mU M a (oB 4 [.ref sh, w1, w2, w3, v0, v1, v2, v3, v4])) c = some (aI G 3 hi) := (mU_n (n3)).trans s3
  have m_5 : (mU M a (oB 4 [.ref sh, w1, w2, w3, v0, v1, v2, v3, v4])) d = some (aI G 3 sp.1) := (mU_n (n4)).trans s4
  have m_6 : (mU M a (oB 4 [.ref sh, w1, w2, w3, v0, v1, v2, v3, v4])) sp.2.1 = some (aI G 3 sp.2.2) := (mU_n (n8)).trans s8
  refine q_aload_n X dX5_init_9 0 rfl ?_
  refine q_iload_n X dX5_init_10 2 rfl ?_
  refine q_putF X hn m_1 rfl in_RX3 tyX3 tyX3_ok nmX3 1 (by decide) tw_160 rfl rfl rfl rfl rfl rfl (Nat.le_of_ble_eq_true rfl) (fs1 := [.ref sh, .int dv, w2, w3, v0, v1, v2, v3, v4]) rfl dX5_init_11 ?_
  have m_7 : (mU (mU M a (oB 4 [.ref sh, w1, w2, w3, v0, v1, v2, v3, v4])) a (oB 4 [.ref sh, .int dv, w2, w3, v0, v1, v2, v3, v4])) a = some (oB 4 [.ref sh, .int dv, w2, w3, v0, v1, v2, v3, v4]) := mU_s
  have m_8 : (mU (mU M a (oB 4 [.ref sh, w1, w2, w3, v0, v1, v2, v3, v4])) a (oB 4 [.ref sh, .int dv, w2, w3, v0, v1, v2, v3, v4])) sh = some (oB 7 [.int (nI m), .ref b, .ref c, .ref sp.2.1, .ref d, .int (sL lo hi 0 * sL lo hi 1 * sL lo hi 2)]) := (mU_n (n1)).trans m_2
  have m_9 : (mU (mU M a (oB 4 [.ref sh, w1, w2, w3, v0, v1, v2, v3, v4])) a (oB 4 [.ref sh, .int dv, w2, w3, v0, v1, v2, v3, v4])) b = some (aI G 3 lo) := (mU_n (n2)).trans m_3
  have m_10 : (mU (mU M a (oB 4 [.ref sh, w1, w2, w3, v0, v1, v2, v3, v4])) a (oB 4 [.ref sh, .int dv, w2, w3, v0, v1, v2, v3, v4])) c = some (aI G 3 hi) := (mU_n (n3)).trans m_4
  have m_11 : (mU (mU M a (oB 4 [.ref sh, w1, w2, w3, v0, v1, v2, v3, v4])) a (oB 4 [.ref sh, .int dv, w2, w3, v0, v1, v2, v3, v4])) d = some (aI G 3 sp.1) := (mU_n (n4)).trans m_5
  have m_12 : (mU (mU M a (oB 4 [.ref sh, w1, w2, w3, v0, v1, v2, v3, v4])) a (oB 4 [.ref sh, .int dv, w2, w3, v0, v1, v2, v3, v4])) sp.2.1 = some (aI G 3 sp.2.2) := (mU_n (n8)).trans m_6
  refine q_aload_n X dX5_init_14 0 rfl ?_
  refine q_new X (ci := 1) rfl in_RX0 tyX0 tyX0_ok tw_152 tw_113 tw_6 (fs0 := [.null, .null]) (fun j hj => by rcases (show j = 0 ∨ j = 1 by omega) with rfl | rfl <;> rfl) (rc' := 3) (rs' := N + (N + 63) / 64 + (N + 63) / 64) (by omega) (by omega) dX5_init_15 (fun cl fcl => ?_)
  have n_13 : a ≠ cl := g_nef m_7 fcl
  have m_14 : (mU (mU (mU M a (oB 4 [.ref sh, w1, w2, w3, v0, v1, v2, v3, v4])) a (oB 4 [.ref sh, .int dv, w2, w3, v0, v1, v2, v3, v4])) cl (oB 1 [.null, .null])) a = some (oB 4 [.ref sh, .int dv, w2, w3, v0, v1, v2, v3, v4]) := (mU_n n_13).trans m_7
  have n_15 : sh ≠ cl := g_nef m_8 fcl
  have m_16 : (mU (mU (mU M a (oB 4 [.ref sh, w1, w2, w3, v0, v1, v2, v3, v4])) a (oB 4 [.ref sh, .int dv, w2, w3, v0, v1, v2, v3, v4])) cl (oB 1 [.null, .null])) sh = some (oB 7 [.int (nI m), .ref b, .ref c, .ref sp.2.1, .ref d, .int (sL lo hi 0 * sL lo hi 1 * sL lo hi 2)]) := (mU_n n_15).trans m_8
  have n_17 : b ≠ cl := g_nef m_9 fcl
  have m_18 : (mU (mU (mU M a (oB 4 [.ref sh, w1, w2, w3, v0, v1, v2, v3, v4])) a (oB 4 [.ref sh, .int dv, w2, w3, v0, v1, v2, v3, v4])) cl (oB 1 [.null, .null])) b = some (aI G 3 lo) := (mU_n n_17).trans m_9
  have n_19 : c ≠ cl := g_nef m_10 fcl
  have m_20 : (mU (mU (mU M a (oB 4 [.ref sh, w1, w2, w3, v0, v1, v2, v3, v4])) a (oB 4 [.ref sh, .int dv, w2, w3, v0, v1, v2, v3, v4])) cl (oB 1 [.null, .null])) c = some (aI G 3 hi) := (mU_n n_19).trans m_10
  have n_21 : d ≠ cl := g_nef m_11 fcl
  have m_22 : (mU (mU (mU M a (oB 4 [.ref sh, w1, w2, w3, v0, v1, v2, v3, v4])) a (oB 4 [.ref sh, .int dv, w2, w3, v0, v1, v2, v3, v4])) cl (oB 1 [.null, .null])) d = some (aI G 3 sp.1) := (mU_n n_21).trans m_11
  have n_23 : sp.2.1 ≠ cl := g_nef m_12 fcl
  have m_24 : (mU (mU (mU M a (oB 4 [.ref sh, w1, w2, w3, v0, v1, v2, v3, v4])) a (oB 4 [.ref sh, .int dv, w2, w3, v0, v1, v2, v3, v4])) cl (oB 1 [.null, .null])) sp.2.1 = some (aI G 3 sp.2.2) := (mU_n n_23).trans m_12
  have m_25 : (mU (mU (mU M a (oB 4 [.ref sh, w1, w2, w3, v0, v1, v2, v3, v4])) a (oB 4 [.ref sh, .int dv, w2, w3, v0, v1, v2, v3, v4])) cl (oB 1 [.null, .null])) cl = some (oB 1 [.null, .null]) := mU_s
  refine q_dup X dX5_init_18 rfl ?_
  refine q_aload_n X dX5_init_19 1 rfl ?_
  refine q_callVp X (c_X7_size (n := nI m) (lo := lo) (hi := hi) ⟨b, c, d, sp, m_16, m_18, m_20, m_22, s5, s6, s7, m_24, s9⟩) Y_X7_size tw_153 tw_115 tw_116 m_16 rfl (by decide) rfl rfl (Nat.le_of_ble_eq_true rfl) dX5_init_20 ?_
  rw [eSz]
  refine q_callI X (c_X0_init m_25 hN) Y_X0_init tw_154 tw_119 rfl (by decide) rfl rfl (Nat.le_of_ble_eq_true rfl) (rc' := 1) (rs' := (N + 63) / 64) (by omega) (by omega) dX5_init_23 (fun v M' hp _ => ?_)
  obtain ⟨rfl, nb, mb, hC, fnb0, fmb0, hfr⟩ := hp
  generalize M' = M2 at *
  have m_26 : M2 a = some (oB 4 [.ref sh, .int dv, w2, w3, v0, v1, v2, v3, v4]) := (hfr a (n_13) (g_nef m_14 fnb0) (g_nef m_14 fmb0)).trans m_14
  have m_27 : M2 sh = some (oB 7 [.int (nI m), .ref b, .ref c, .ref sp.2.1, .ref d, .int (sL lo hi 0 * sL lo hi 1 * sL lo hi 2)]) := (hfr sh (n_15) (g_nef m_16 fnb0) (g_nef m_16 fmb0)).trans m_16
  have m_28 : M2 b = some (aI G 3 lo) := (hfr b (n_17) (g_nef m_18 fnb0) (g_nef m_18 fmb0)).trans m_18
  have m_29 : M2 c = some (aI G 3 hi) := (hfr c (n_19) (g_nef m_20 fnb0) (g_nef m_20 fmb0)).trans m_20
  have m_30 : M2 d = some (aI G 3 sp.1) := (hfr d (n_21) (g_nef m_22 fnb0) (g_nef m_22 fmb0)).trans m_22
  have m_31 : M2 sp.2.1 = some (aI G 3 sp.2.2) := (hfr sp.2.1 (n_23) (g_nef m_24 fnb0) (g_nef m_24 fmb0)).trans m_24
  obtain ⟨num, mk, c1, c2, c3, c4, c5, c6⟩ := hC
  show qJ G F _ 3 M2 1 ((N + 63) / 64) 26 [(0, .ref a), (1, .ref sh), (2, .int dv)] [.ref cl, .ref a]
  refine q_putF X hn m_26 rfl in_RX3 tyX3 tyX3_ok nmX3 2 (by decide) tw_161 rfl rfl rfl rfl rfl rfl (Nat.le_of_ble_eq_true rfl) (fs1 := [.ref sh, .int dv, .ref cl, w3, v0, v1, v2, v3, v4]) rfl dX5_init_26 ?_
  have m_32 : (mU M2 a (oB 4 [.ref sh, .int dv, .ref cl, w3, v0, v1, v2, v3, v4])) a = some (oB 4 [.ref sh, .int dv, .ref cl, w3, v0, v1, v2, v3, v4]) := mU_s
  have m_33 : (mU M2 a (oB 4 [.ref sh, .int dv, .ref cl, w3, v0, v1, v2, v3, v4])) sh = some (oB 7 [.int (nI m), .ref b, .ref c, .ref sp.2.1, .ref d, .int (sL lo hi 0 * sL lo hi 1 * sL lo hi 2)]) := (mU_n (n1)).trans m_27
  have m_34 : (mU M2 a (oB 4 [.ref sh, .int dv, .ref cl, w3, v0, v1, v2, v3, v4])) b = some (aI G 3 lo) := (mU_n (n2)).trans m_28
  have m_35 : (mU M2 a (oB 4 [.ref sh, .int dv, .ref cl, w3, v0, v1, v2, v3, v4])) c = some (aI G 3 hi) := (mU_n (n3)).trans m_29
  have m_36 : (mU M2 a (oB 4 [.ref sh, .int dv, .ref cl, w3, v0, v1, v2, v3, v4])) d = some (aI G 3 sp.1) := (mU_n (n4)).trans m_30
  have m_37 : (mU M2 a (oB 4 [.ref sh, .int dv, .ref cl, w3, v0, v1, v2, v3, v4])) sp.2.1 = some (aI G 3 sp.2.2) := (mU_n (n8)).trans m_31
  have m_38 : (mU M2 a (oB 4 [.ref sh, .int dv, .ref cl, w3, v0, v1, v2, v3, v4])) cl = some (oB 1 [.ref nb, .ref mb]) := (mU_n (Ne.symm n_13)).trans c1
  have m_39 : (mU M2 a (oB 4 [.ref sh, .int dv, .ref cl, w3, v0, v1, v2, v3, v4])) nb = some (aJ G N num) := (mU_n ((g_nef m_14 fnb0).symm)).trans c2
  have m_40 : (mU M2 a (oB 4 [.ref sh, .int dv, .ref cl, w3, v0, v1, v2, v3, v4])) mb = some (aJ G ((N + 63) / 64) mk) := (mU_n ((g_nef m_14 fmb0).symm)).trans c3
  refine q_aload_n X dX5_init_29 0 rfl ?_
  refine q_aload_n X dX5_init_30 1 rfl ?_
  refine q_callVp X (c_X7_size (n := nI m) (lo := lo) (hi := hi) ⟨b, c, d, sp, m_33, m_34, m_35, m_36, s5, s6, s7, m_37, s9⟩) Y_X7_size tw_153 tw_115 tw_116 m_33 rfl (by decide) rfl rfl (Nat.le_of_ble_eq_true rfl) dX5_init_31 ?_
  rw [eSz]
  refine q_bipush (v := 63) X dX5_init_34 (by decide) ?_
  refine q_iadd X dX5_init_36 ?_
  refine q_bipush (v := 64) X dX5_init_37 (by decide) ?_
  refine q_idiv X dX5_init_39 (by decide) ?_
  rw [cw_div hN]
  refine q_iconst (v := 0) X dX5_init_40 (by decide) ?_
  refine q_callSp X (c_J9_max_7cf53) Y_J9_max_7cf53 tw_155 tw_123 (by decide) rfl rfl (Nat.le_of_ble_eq_true rfl) dX5_init_41 ?_
  rw [mxI_0 (by omega)]
  refine q_newJ X tw_132 ((N + 63) / 64) (rfl) (by omega) (rc' := 0) (rs' := 0) (by omega) (by omega) dX5_init_44 (fun aa faa => ?_)
  have n_41 : a ≠ aa := g_nef m_32 faa
  have m_42 : (mU (mU M2 a (oB 4 [.ref sh, .int dv, .ref cl, w3, v0, v1, v2, v3, v4])) aa (aJ G ((N + 63) / 64) (fun _ => 0))) a = some (oB 4 [.ref sh, .int dv, .ref cl, w3, v0, v1, v2, v3, v4]) := (mU_n n_41).trans m_32
  have n_43 : sh ≠ aa := g_nef m_33 faa
  have m_44 : (mU (mU M2 a (oB 4 [.ref sh, .int dv, .ref cl, w3, v0, v1, v2, v3, v4])) aa (aJ G ((N + 63) / 64) (fun _ => 0))) sh = some (oB 7 [.int (nI m), .ref b, .ref c, .ref sp.2.1, .ref d, .int (sL lo hi 0 * sL lo hi 1 * sL lo hi 2)]) := (mU_n n_43).trans m_33
  have n_45 : b ≠ aa := g_nef m_34 faa
  have m_46 : (mU (mU M2 a (oB 4 [.ref sh, .int dv, .ref cl, w3, v0, v1, v2, v3, v4])) aa (aJ G ((N + 63) / 64) (fun _ => 0))) b = some (aI G 3 lo) := (mU_n n_45).trans m_34
  have n_47 : c ≠ aa := g_nef m_35 faa
  have m_48 : (mU (mU M2 a (oB 4 [.ref sh, .int dv, .ref cl, w3, v0, v1, v2, v3, v4])) aa (aJ G ((N + 63) / 64) (fun _ => 0))) c = some (aI G 3 hi) := (mU_n n_47).trans m_35
  have n_49 : d ≠ aa := g_nef m_36 faa
  have m_50 : (mU (mU M2 a (oB 4 [.ref sh, .int dv, .ref cl, w3, v0, v1, v2, v3, v4])) aa (aJ G ((N + 63) / 64) (fun _ => 0))) d = some (aI G 3 sp.1) := (mU_n n_49).trans m_36
  have n_51 : sp.2.1 ≠ aa := g_nef m_37 faa
  have m_52 : (mU (mU M2 a (oB 4 [.ref sh, .int dv, .ref cl, w3, v0, v1, v2, v3, v4])) aa (aJ G ((N + 63) / 64) (fun _ => 0))) sp.2.1 = some (aI G 3 sp.2.2) := (mU_n n_51).trans m_37
  have n_53 : cl ≠ aa := g_nef m_38 faa
  have m_54 : (mU (mU M2 a (oB 4 [.ref sh, .int dv, .ref cl, w3, v0, v1, v2, v3, v4])) aa (aJ G ((N + 63) / 64) (fun _ => 0))) cl = some (oB 1 [.ref nb, .ref mb]) := (mU_n n_53).trans m_38
  have n_55 : nb ≠ aa := g_nef m_39 faa
  have m_56 : (mU (mU M2 a (oB 4 [.ref sh, .int dv, .ref cl, w3, v0, v1, v2, v3, v4])) aa (aJ G ((N + 63) / 64) (fun _ => 0))) nb = some (aJ G N num) := (mU_n n_55).trans m_39
  have n_57 : mb ≠ aa := g_nef m_40 faa
  have m_58 : (mU (mU M2 a (oB 4 [.ref sh, .int dv, .ref cl, w3, v0, v1, v2, v3, v4])) aa (aJ G ((N + 63) / 64) (fun _ => 0))) mb = some (aJ G ((N + 63) / 64) mk) := (mU_n n_57).trans m_40
  have m_59 : (mU (mU M2 a (oB 4 [.ref sh, .int dv, .ref cl, w3, v0, v1, v2, v3, v4])) aa (aJ G ((N + 63) / 64) (fun _ => 0))) aa = some (aJ G ((N + 63) / 64) (fun _ => 0)) := mU_s
  refine q_putF X hn m_42 rfl in_RX3 tyX3 tyX3_ok nmX3 3 (by decide) tw_162 rfl rfl rfl rfl rfl rfl (Nat.le_of_ble_eq_true rfl) (fs1 := [.ref sh, .int dv, .ref cl, .ref aa, v0, v1, v2, v3, v4]) rfl dX5_init_46 ?_
  have m_60 : (mU (mU (mU M2 a (oB 4 [.ref sh, .int dv, .ref cl, w3, v0, v1, v2, v3, v4])) aa (aJ G ((N + 63) / 64) (fun _ => 0))) a (oB 4 [.ref sh, .int dv, .ref cl, .ref aa, v0, v1, v2, v3, v4])) a = some (oB 4 [.ref sh, .int dv, .ref cl, .ref aa, v0, v1, v2, v3, v4]) := mU_s
  have m_61 : (mU (mU (mU M2 a (oB 4 [.ref sh, .int dv, .ref cl, w3, v0, v1, v2, v3, v4])) aa (aJ G ((N + 63) / 64) (fun _ => 0))) a (oB 4 [.ref sh, .int dv, .ref cl, .ref aa, v0, v1, v2, v3, v4])) sh = some (oB 7 [.int (nI m), .ref b, .ref c, .ref sp.2.1, .ref d, .int (sL lo hi 0 * sL lo hi 1 * sL lo hi 2)]) := (mU_n (n1)).trans m_44
  have m_62 : (mU (mU (mU M2 a (oB 4 [.ref sh, .int dv, .ref cl, w3, v0, v1, v2, v3, v4])) aa (aJ G ((N + 63) / 64) (fun _ => 0))) a (oB 4 [.ref sh, .int dv, .ref cl, .ref aa, v0, v1, v2, v3, v4])) b = some (aI G 3 lo) := (mU_n (n2)).trans m_46
  have m_63 : (mU (mU (mU M2 a (oB 4 [.ref sh, .int dv, .ref cl, w3, v0, v1, v2, v3, v4])) aa (aJ G ((N + 63) / 64) (fun _ => 0))) a (oB 4 [.ref sh, .int dv, .ref cl, .ref aa, v0, v1, v2, v3, v4])) c = some (aI G 3 hi) := (mU_n (n3)).trans m_48
  have m_64 : (mU (mU (mU M2 a (oB 4 [.ref sh, .int dv, .ref cl, w3, v0, v1, v2, v3, v4])) aa (aJ G ((N + 63) / 64) (fun _ => 0))) a (oB 4 [.ref sh, .int dv, .ref cl, .ref aa, v0, v1, v2, v3, v4])) d = some (aI G 3 sp.1) := (mU_n (n4)).trans m_50
  have m_65 : (mU (mU (mU M2 a (oB 4 [.ref sh, .int dv, .ref cl, w3, v0, v1, v2, v3, v4])) aa (aJ G ((N + 63) / 64) (fun _ => 0))) a (oB 4 [.ref sh, .int dv, .ref cl, .ref aa, v0, v1, v2, v3, v4])) sp.2.1 = some (aI G 3 sp.2.2) := (mU_n (n8)).trans m_52
  have m_66 : (mU (mU (mU M2 a (oB 4 [.ref sh, .int dv, .ref cl, w3, v0, v1, v2, v3, v4])) aa (aJ G ((N + 63) / 64) (fun _ => 0))) a (oB 4 [.ref sh, .int dv, .ref cl, .ref aa, v0, v1, v2, v3, v4])) cl = some (oB 1 [.ref nb, .ref mb]) := (mU_n (Ne.symm n_13)).trans m_54
  have m_67 : (mU (mU (mU M2 a (oB 4 [.ref sh, .int dv, .ref cl, w3, v0, v1, v2, v3, v4])) aa (aJ G ((N + 63) / 64) (fun _ => 0))) a (oB 4 [.ref sh, .int dv, .ref cl, .ref aa, v0, v1, v2, v3, v4])) nb = some (aJ G N num) := (mU_n ((g_nef m_14 fnb0).symm)).trans m_56
  have m_68 : (mU (mU (mU M2 a (oB 4 [.ref sh, .int dv, .ref cl, w3, v0, v1, v2, v3, v4])) aa (aJ G ((N + 63) / 64) (fun _ => 0))) a (oB 4 [.ref sh, .int dv, .ref cl, .ref aa, v0, v1, v2, v3, v4])) mb = some (aJ G ((N + 63) / 64) mk) := (mU_n ((g_nef m_14 fmb0).symm)).trans m_58
  have m_69 : (mU (mU (mU M2 a (oB 4 [.ref sh, .int dv, .ref cl, w3, v0, v1, v2, v3, v4])) aa (aJ G ((N + 63) / 64) (fun _ => 0))) a (oB 4 [.ref sh, .int dv, .ref cl, .ref aa, v0, v1, v2, v3, v4])) aa = some (aJ G ((N + 63) / 64) (fun _ => 0)) := (mU_n (Ne.symm n_41)).trans m_59
  have Lcl : M cl = none := (mU_no (mU_no fcl).1).1
  have Lnb : M nb = none := (mU_no (mU_no (mU_no fnb0).1).1).1
  have Lmb : M mb = none := (mU_no (mU_no (mU_no fmb0).1).1).1
  have old : ∀ q, q ≠ a → M q ≠ none → M2 q = M q := fun q q1 q2 => by
    rw [hfr q (fun e => q2 (by rw [e]; exact Lcl)) (fun e => q2 (by rw [e]; exact Lnb)) (fun e => q2 (by rw [e]; exact Lmb)), mU_n (fun e => q2 (by rw [e]; exact Lcl)), mU_n q1, mU_n q1]
  have naa := mU_no faa
  have Laa : M aa = none := by
    cases h9 : M aa with
    | none => rfl
    | some e9 => have h8 := old aa naa.2 (by rw [h9]; exact fun h => by cases h); rw [naa.1, h9] at h8; cases h8
  have fin : ∀ q, q ≠ a → M q ≠ none → (mU (mU (mU M2 a (oB 4 [.ref sh, .int dv, .ref cl, w3, v0, v1, v2, v3, v4])) aa (aJ G ((N + 63) / 64) (fun _ => 0))) a (oB 4 [.ref sh, .int dv, .ref cl, .ref aa, v0, v1, v2, v3, v4])) q = M q := fun q q1 q2 => by
    rw [mU_n q1, mU_n (fun e => q2 (by rw [e]; exact Laa)), mU_n q1]; exact old q q1 q2
  exact q_vret X hr dX5_init_49 (⟨rfl, cl, nb, mb, aa, m_60, ⟨num, mk, m_66, m_67, m_68, c4, c5, c6⟩, m_69, Lcl, Lnb, Lmb, Laa, n_55, n_57, fin⟩)

set_option maxRecDepth 20000 in
theorem c_X5_init_5 {l : Launch} {G : gV} {M : gMem} {a sh m : Nat} {dv : Int32} {lo hi : Nat → Int32} {w0 w1 w2 w3 v0 v1 v2 : Value} (hA : M a = some (oB 5 [w0, w1, w2, w3, v0, v1, v2])) (hS : isShape G M sh (nI m) lo hi) (hO : okS m lo hi) (hN : sz3 lo hi ≤ 4096) : qC l G yX5_init cX5_init 3 none 3 4 (2 + (sz3 lo hi + (sz3 lo hi + 63) / 64) + (sz3 lo hi + 63) / 64) [.ref a, .ref sh, .int dv] M (ndP G M a 5 sh dv (sz3 lo hi) [v0, v1, v2]) := by
  refine qC_of (by decide +kernel) (Nat.le_of_ble_eq_true rfl) (fun F hF X hr hn => ?_)
  subst hF
  have X : qX G F cX5_init 3 RX5 3 := X
  obtain ⟨b, c, d, sp, s1, s2, s3, s4, s5, s6, s7, s8, s9⟩ := id hS
  have n1 : sh ≠ a := fun e => by rw [e, hA] at s1; cases s1
  have n2 : b ≠ a := fun e => by rw [e, hA] at s2; cases s2
  have n3 : c ≠ a := fun e => by rw [e, hA] at s3; cases s3
  have n4 : d ≠ a := fun e => by rw [e, hA] at s4; cases s4
  have n8 : sp.2.1 ≠ a := fun e => by rw [e, hA] at s8; cases s8
  generalize eN : sz3 lo hi = N at hN ⊢
  have eSz := hO.size
  rw [eN] at eSz
  show qJ G F _ 3 M 4 (2 + (N + (N + 63) / 64) + (N + 63) / 64) 0 [(0, .ref a), (1, .ref sh), (2, .int dv)] []
  refine q_aload_n X dX5_init_0 0 rfl ?_
  refine q_obj X tw_151 tw_38 tw_39 (by decide) (Nat.le_of_ble_eq_true rfl) dX5_init_1 ?_
  refine q_aload_n X dX5_init_4 0 rfl ?_
  refine q_aload_n X dX5_init_5 1 rfl ?_
  refine q_putF X hn hA rfl in_RX4 tyX4 tyX4_ok nmX4 0 (by decide) tw_159 rfl rfl rfl rfl rfl rfl (Nat.le_of_ble_eq_true rfl) (fs1 := [.ref sh, w1, w2, w3, v0, v1, v2]) rfl dX5_init_6 ?_
  have m_1 : (mU M a (oB 5 [.ref sh, w1, w2, w3, v0, v1, v2])) a = some (oB 5 [.ref sh, w1, w2, w3, v0, v1, v2]) := mU_s
  have m_2 : (mU M a (oB 5 [.ref sh, w1, w2, w3, v0, v1, v2])) sh = some (oB 7 [.int (nI m), .ref b, .ref c, .ref sp.2.1, .ref d, .int (sL lo hi 0 * sL lo hi 1 * sL lo hi 2)]) := (mU_n (n1)).trans s1
  have m_3 : (mU M a (oB 5 [.ref sh, w1, w2, w3, v0, v1, v2])) b = some (aI G 3 lo) := (mU_n (n2)).trans s2
  have m_4 : (mU M a (oB 5 [.ref sh, w1, w2, w3, v0, v1, v2])) c = some (aI G 3 hi) := (mU_n (n3)).trans s3
  have m_5 : (mU M a (oB 5 [.ref sh, w1, w2, w3, v0, v1, v2])) d = some (aI G 3 sp.1) := (mU_n (n4)).trans s4
  have m_6 : (mU M a (oB 5 [.ref sh, w1, w2, w3, v0, v1, v2])) sp.2.1 = some (aI G 3 sp.2.2) := (mU_n (n8)).trans s8
  refine q_aload_n X dX5_init_9 0 rfl ?_
  refine q_iload_n X dX5_init_10 2 rfl ?_
  refine q_putF X hn m_1 rfl in_RX4 tyX4 tyX4_ok nmX4 1 (by decide) tw_160 rfl rfl rfl rfl rfl rfl (Nat.le_of_ble_eq_true rfl) (fs1 := [.ref sh, .int dv, w2, w3, v0, v1, v2]) rfl dX5_init_11 ?_
  have m_7 : (mU (mU M a (oB 5 [.ref sh, w1, w2, w3, v0, v1, v2])) a (oB 5 [.ref sh, .int dv, w2, w3, v0, v1, v2])) a = some (oB 5 [.ref sh, .int dv, w2, w3, v0, v1, v2]) := mU_s
  have m_8 : (mU (mU M a (oB 5 [.ref sh, w1, w2, w3, v0, v1, v2])) a (oB 5 [.ref sh, .int dv, w2, w3, v0, v1, v2])) sh = some (oB 7 [.int (nI m), .ref b, .ref c, .ref sp.2.1, .ref d, .int (sL lo hi 0 * sL lo hi 1 * sL lo hi 2)]) := (mU_n (n1)).trans m_2
  have m_9 : (mU (mU M a (oB 5 [.ref sh, w1, w2, w3, v0, v1, v2])) a (oB 5 [.ref sh, .int dv, w2, w3, v0, v1, v2])) b = some (aI G 3 lo) := (mU_n (n2)).trans m_3
  have m_10 : (mU (mU M a (oB 5 [.ref sh, w1, w2, w3, v0, v1, v2])) a (oB 5 [.ref sh, .int dv, w2, w3, v0, v1, v2])) c = some (aI G 3 hi) := (mU_n (n3)).trans m_4
  have m_11 : (mU (mU M a (oB 5 [.ref sh, w1, w2, w3, v0, v1, v2])) a (oB 5 [.ref sh, .int dv, w2, w3, v0, v1, v2])) d = some (aI G 3 sp.1) := (mU_n (n4)).trans m_5
  have m_12 : (mU (mU M a (oB 5 [.ref sh, w1, w2, w3, v0, v1, v2])) a (oB 5 [.ref sh, .int dv, w2, w3, v0, v1, v2])) sp.2.1 = some (aI G 3 sp.2.2) := (mU_n (n8)).trans m_6
  refine q_aload_n X dX5_init_14 0 rfl ?_
  refine q_new X (ci := 1) rfl in_RX0 tyX0 tyX0_ok tw_152 tw_113 tw_6 (fs0 := [.null, .null]) (fun j hj => by rcases (show j = 0 ∨ j = 1 by omega) with rfl | rfl <;> rfl) (rc' := 3) (rs' := N + (N + 63) / 64 + (N + 63) / 64) (by omega) (by omega) dX5_init_15 (fun cl fcl => ?_)
  have n_13 : a ≠ cl := g_nef m_7 fcl
  have m_14 : (mU (mU (mU M a (oB 5 [.ref sh, w1, w2, w3, v0, v1, v2])) a (oB 5 [.ref sh, .int dv, w2, w3, v0, v1, v2])) cl (oB 1 [.null, .null])) a = some (oB 5 [.ref sh, .int dv, w2, w3, v0, v1, v2]) := (mU_n n_13).trans m_7
  have n_15 : sh ≠ cl := g_nef m_8 fcl
  have m_16 : (mU (mU (mU M a (oB 5 [.ref sh, w1, w2, w3, v0, v1, v2])) a (oB 5 [.ref sh, .int dv, w2, w3, v0, v1, v2])) cl (oB 1 [.null, .null])) sh = some (oB 7 [.int (nI m), .ref b, .ref c, .ref sp.2.1, .ref d, .int (sL lo hi 0 * sL lo hi 1 * sL lo hi 2)]) := (mU_n n_15).trans m_8
  have n_17 : b ≠ cl := g_nef m_9 fcl
  have m_18 : (mU (mU (mU M a (oB 5 [.ref sh, w1, w2, w3, v0, v1, v2])) a (oB 5 [.ref sh, .int dv, w2, w3, v0, v1, v2])) cl (oB 1 [.null, .null])) b = some (aI G 3 lo) := (mU_n n_17).trans m_9
  have n_19 : c ≠ cl := g_nef m_10 fcl
  have m_20 : (mU (mU (mU M a (oB 5 [.ref sh, w1, w2, w3, v0, v1, v2])) a (oB 5 [.ref sh, .int dv, w2, w3, v0, v1, v2])) cl (oB 1 [.null, .null])) c = some (aI G 3 hi) := (mU_n n_19).trans m_10
  have n_21 : d ≠ cl := g_nef m_11 fcl
  have m_22 : (mU (mU (mU M a (oB 5 [.ref sh, w1, w2, w3, v0, v1, v2])) a (oB 5 [.ref sh, .int dv, w2, w3, v0, v1, v2])) cl (oB 1 [.null, .null])) d = some (aI G 3 sp.1) := (mU_n n_21).trans m_11
  have n_23 : sp.2.1 ≠ cl := g_nef m_12 fcl
  have m_24 : (mU (mU (mU M a (oB 5 [.ref sh, w1, w2, w3, v0, v1, v2])) a (oB 5 [.ref sh, .int dv, w2, w3, v0, v1, v2])) cl (oB 1 [.null, .null])) sp.2.1 = some (aI G 3 sp.2.2) := (mU_n n_23).trans m_12
  have m_25 : (mU (mU (mU M a (oB 5 [.ref sh, w1, w2, w3, v0, v1, v2])) a (oB 5 [.ref sh, .int dv, w2, w3, v0, v1, v2])) cl (oB 1 [.null, .null])) cl = some (oB 1 [.null, .null]) := mU_s
  refine q_dup X dX5_init_18 rfl ?_
  refine q_aload_n X dX5_init_19 1 rfl ?_
  refine q_callVp X (c_X7_size (n := nI m) (lo := lo) (hi := hi) ⟨b, c, d, sp, m_16, m_18, m_20, m_22, s5, s6, s7, m_24, s9⟩) Y_X7_size tw_153 tw_115 tw_116 m_16 rfl (by decide) rfl rfl (Nat.le_of_ble_eq_true rfl) dX5_init_20 ?_
  rw [eSz]
  refine q_callI X (c_X0_init m_25 hN) Y_X0_init tw_154 tw_119 rfl (by decide) rfl rfl (Nat.le_of_ble_eq_true rfl) (rc' := 1) (rs' := (N + 63) / 64) (by omega) (by omega) dX5_init_23 (fun v M' hp _ => ?_)
  obtain ⟨rfl, nb, mb, hC, fnb0, fmb0, hfr⟩ := hp
  generalize M' = M2 at *
  have m_26 : M2 a = some (oB 5 [.ref sh, .int dv, w2, w3, v0, v1, v2]) := (hfr a (n_13) (g_nef m_14 fnb0) (g_nef m_14 fmb0)).trans m_14
  have m_27 : M2 sh = some (oB 7 [.int (nI m), .ref b, .ref c, .ref sp.2.1, .ref d, .int (sL lo hi 0 * sL lo hi 1 * sL lo hi 2)]) := (hfr sh (n_15) (g_nef m_16 fnb0) (g_nef m_16 fmb0)).trans m_16
  have m_28 : M2 b = some (aI G 3 lo) := (hfr b (n_17) (g_nef m_18 fnb0) (g_nef m_18 fmb0)).trans m_18
  have m_29 : M2 c = some (aI G 3 hi) := (hfr c (n_19) (g_nef m_20 fnb0) (g_nef m_20 fmb0)).trans m_20
  have m_30 : M2 d = some (aI G 3 sp.1) := (hfr d (n_21) (g_nef m_22 fnb0) (g_nef m_22 fmb0)).trans m_22
  have m_31 : M2 sp.2.1 = some (aI G 3 sp.2.2) := (hfr sp.2.1 (n_23) (g_nef m_24 fnb0) (g_nef m_24 fmb0)).trans m_24
  obtain ⟨num, mk, c1, c2, c3, c4, c5, c6⟩ := hC
  show qJ G F _ 3 M2 1 ((N + 63) / 64) 26 [(0, .ref a), (1, .ref sh), (2, .int dv)] [.ref cl, .ref a]
  refine q_putF X hn m_26 rfl in_RX4 tyX4 tyX4_ok nmX4 2 (by decide) tw_161 rfl rfl rfl rfl rfl rfl (Nat.le_of_ble_eq_true rfl) (fs1 := [.ref sh, .int dv, .ref cl, w3, v0, v1, v2]) rfl dX5_init_26 ?_
  have m_32 : (mU M2 a (oB 5 [.ref sh, .int dv, .ref cl, w3, v0, v1, v2])) a = some (oB 5 [.ref sh, .int dv, .ref cl, w3, v0, v1, v2]) := mU_s
  have m_33 : (mU M2 a (oB 5 [.ref sh, .int dv, .ref cl, w3, v0, v1, v2])) sh = some (oB 7 [.int (nI m), .ref b, .ref c, .ref sp.2.1, .ref d, .int (sL lo hi 0 * sL lo hi 1 * sL lo hi 2)]) := (mU_n (n1)).trans m_27
  have m_34 : (mU M2 a (oB 5 [.ref sh, .int dv, .ref cl, w3, v0, v1, v2])) b = some (aI G 3 lo) := (mU_n (n2)).trans m_28
  have m_35 : (mU M2 a (oB 5 [.ref sh, .int dv, .ref cl, w3, v0, v1, v2])) c = some (aI G 3 hi) := (mU_n (n3)).trans m_29
  have m_36 : (mU M2 a (oB 5 [.ref sh, .int dv, .ref cl, w3, v0, v1, v2])) d = some (aI G 3 sp.1) := (mU_n (n4)).trans m_30
  have m_37 : (mU M2 a (oB 5 [.ref sh, .int dv, .ref cl, w3, v0, v1, v2])) sp.2.1 = some (aI G 3 sp.2.2) := (mU_n (n8)).trans m_31
  have m_38 : (mU M2 a (oB 5 [.ref sh, .int dv, .ref cl, w3, v0, v1, v2])) cl = some (oB 1 [.ref nb, .ref mb]) := (mU_n (Ne.symm n_13)).trans c1
  have m_39 : (mU M2 a (oB 5 [.ref sh, .int dv, .ref cl, w3, v0, v1, v2])) nb = some (aJ G N num) := (mU_n ((g_nef m_14 fnb0).symm)).trans c2
  have m_40 : (mU M2 a (oB 5 [.ref sh, .int dv, .ref cl, w3, v0, v1, v2])) mb = some (aJ G ((N + 63) / 64) mk) := (mU_n ((g_nef m_14 fmb0).symm)).trans c3
  refine q_aload_n X dX5_init_29 0 rfl ?_
  refine q_aload_n X dX5_init_30 1 rfl ?_
  refine q_callVp X (c_X7_size (n := nI m) (lo := lo) (hi := hi) ⟨b, c, d, sp, m_33, m_34, m_35, m_36, s5, s6, s7, m_37, s9⟩) Y_X7_size tw_153 tw_115 tw_116 m_33 rfl (by decide) rfl rfl (Nat.le_of_ble_eq_true rfl) dX5_init_31 ?_
  rw [eSz]
  refine q_bipush (v := 63) X dX5_init_34 (by decide) ?_
  refine q_iadd X dX5_init_36 ?_
  refine q_bipush (v := 64) X dX5_init_37 (by decide) ?_
  refine q_idiv X dX5_init_39 (by decide) ?_
  rw [cw_div hN]
  refine q_iconst (v := 0) X dX5_init_40 (by decide) ?_
  refine q_callSp X (c_J9_max_7cf53) Y_J9_max_7cf53 tw_155 tw_123 (by decide) rfl rfl (Nat.le_of_ble_eq_true rfl) dX5_init_41 ?_
  rw [mxI_0 (by omega)]
  refine q_newJ X tw_132 ((N + 63) / 64) (rfl) (by omega) (rc' := 0) (rs' := 0) (by omega) (by omega) dX5_init_44 (fun aa faa => ?_)
  have n_41 : a ≠ aa := g_nef m_32 faa
  have m_42 : (mU (mU M2 a (oB 5 [.ref sh, .int dv, .ref cl, w3, v0, v1, v2])) aa (aJ G ((N + 63) / 64) (fun _ => 0))) a = some (oB 5 [.ref sh, .int dv, .ref cl, w3, v0, v1, v2]) := (mU_n n_41).trans m_32
  have n_43 : sh ≠ aa := g_nef m_33 faa
  have m_44 : (mU (mU M2 a (oB 5 [.ref sh, .int dv, .ref cl, w3, v0, v1, v2])) aa (aJ G ((N + 63) / 64) (fun _ => 0))) sh = some (oB 7 [.int (nI m), .ref b, .ref c, .ref sp.2.1, .ref d, .int (sL lo hi 0 * sL lo hi 1 * sL lo hi 2)]) := (mU_n n_43).trans m_33
  have n_45 : b ≠ aa := g_nef m_34 faa
  have m_46 : (mU (mU M2 a (oB 5 [.ref sh, .int dv, .ref cl, w3, v0, v1, v2])) aa (aJ G ((N + 63) / 64) (fun _ => 0))) b = some (aI G 3 lo) := (mU_n n_45).trans m_34
  have n_47 : c ≠ aa := g_nef m_35 faa
  have m_48 : (mU (mU M2 a (oB 5 [.ref sh, .int dv, .ref cl, w3, v0, v1, v2])) aa (aJ G ((N + 63) / 64) (fun _ => 0))) c = some (aI G 3 hi) := (mU_n n_47).trans m_35
  have n_49 : d ≠ aa := g_nef m_36 faa
  have m_50 : (mU (mU M2 a (oB 5 [.ref sh, .int dv, .ref cl, w3, v0, v1, v2])) aa (aJ G ((N + 63) / 64) (fun _ => 0))) d = some (aI G 3 sp.1) := (mU_n n_49).trans m_36
  have n_51 : sp.2.1 ≠ aa := g_nef m_37 faa
  have m_52 : (mU (mU M2 a (oB 5 [.ref sh, .int dv, .ref cl, w3, v0, v1, v2])) aa (aJ G ((N + 63) / 64) (fun _ => 0))) sp.2.1 = some (aI G 3 sp.2.2) := (mU_n n_51).trans m_37
  have n_53 : cl ≠ aa := g_nef m_38 faa
  have m_54 : (mU (mU M2 a (oB 5 [.ref sh, .int dv, .ref cl, w3, v0, v1, v2])) aa (aJ G ((N + 63) / 64) (fun _ => 0))) cl = some (oB 1 [.ref nb, .ref mb]) := (mU_n n_53).trans m_38
  have n_55 : nb ≠ aa := g_nef m_39 faa
  have m_56 : (mU (mU M2 a (oB 5 [.ref sh, .int dv, .ref cl, w3, v0, v1, v2])) aa (aJ G ((N + 63) / 64) (fun _ => 0))) nb = some (aJ G N num) := (mU_n n_55).trans m_39
  have n_57 : mb ≠ aa := g_nef m_40 faa
  have m_58 : (mU (mU M2 a (oB 5 [.ref sh, .int dv, .ref cl, w3, v0, v1, v2])) aa (aJ G ((N + 63) / 64) (fun _ => 0))) mb = some (aJ G ((N + 63) / 64) mk) := (mU_n n_57).trans m_40
  have m_59 : (mU (mU M2 a (oB 5 [.ref sh, .int dv, .ref cl, w3, v0, v1, v2])) aa (aJ G ((N + 63) / 64) (fun _ => 0))) aa = some (aJ G ((N + 63) / 64) (fun _ => 0)) := mU_s
  refine q_putF X hn m_42 rfl in_RX4 tyX4 tyX4_ok nmX4 3 (by decide) tw_162 rfl rfl rfl rfl rfl rfl (Nat.le_of_ble_eq_true rfl) (fs1 := [.ref sh, .int dv, .ref cl, .ref aa, v0, v1, v2]) rfl dX5_init_46 ?_
  have m_60 : (mU (mU (mU M2 a (oB 5 [.ref sh, .int dv, .ref cl, w3, v0, v1, v2])) aa (aJ G ((N + 63) / 64) (fun _ => 0))) a (oB 5 [.ref sh, .int dv, .ref cl, .ref aa, v0, v1, v2])) a = some (oB 5 [.ref sh, .int dv, .ref cl, .ref aa, v0, v1, v2]) := mU_s
  have m_61 : (mU (mU (mU M2 a (oB 5 [.ref sh, .int dv, .ref cl, w3, v0, v1, v2])) aa (aJ G ((N + 63) / 64) (fun _ => 0))) a (oB 5 [.ref sh, .int dv, .ref cl, .ref aa, v0, v1, v2])) sh = some (oB 7 [.int (nI m), .ref b, .ref c, .ref sp.2.1, .ref d, .int (sL lo hi 0 * sL lo hi 1 * sL lo hi 2)]) := (mU_n (n1)).trans m_44
  have m_62 : (mU (mU (mU M2 a (oB 5 [.ref sh, .int dv, .ref cl, w3, v0, v1, v2])) aa (aJ G ((N + 63) / 64) (fun _ => 0))) a (oB 5 [.ref sh, .int dv, .ref cl, .ref aa, v0, v1, v2])) b = some (aI G 3 lo) := (mU_n (n2)).trans m_46
  have m_63 : (mU (mU (mU M2 a (oB 5 [.ref sh, .int dv, .ref cl, w3, v0, v1, v2])) aa (aJ G ((N + 63) / 64) (fun _ => 0))) a (oB 5 [.ref sh, .int dv, .ref cl, .ref aa, v0, v1, v2])) c = some (aI G 3 hi) := (mU_n (n3)).trans m_48
  have m_64 : (mU (mU (mU M2 a (oB 5 [.ref sh, .int dv, .ref cl, w3, v0, v1, v2])) aa (aJ G ((N + 63) / 64) (fun _ => 0))) a (oB 5 [.ref sh, .int dv, .ref cl, .ref aa, v0, v1, v2])) d = some (aI G 3 sp.1) := (mU_n (n4)).trans m_50
  have m_65 : (mU (mU (mU M2 a (oB 5 [.ref sh, .int dv, .ref cl, w3, v0, v1, v2])) aa (aJ G ((N + 63) / 64) (fun _ => 0))) a (oB 5 [.ref sh, .int dv, .ref cl, .ref aa, v0, v1, v2])) sp.2.1 = some (aI G 3 sp.2.2) := (mU_n (n8)).trans m_52
  have m_66 : (mU (mU (mU M2 a (oB 5 [.ref sh, .int dv, .ref cl, w3, v0, v1, v2])) aa (aJ G ((N + 63) / 64) (fun _ => 0))) a (oB 5 [.ref sh, .int dv, .ref cl, .ref aa, v0, v1, v2])) cl = some (oB 1 [.ref nb, .ref mb]) := (mU_n (Ne.symm n_13)).trans m_54
  have m_67 : (mU (mU (mU M2 a (oB 5 [.ref sh, .int dv, .ref cl, w3, v0, v1, v2])) aa (aJ G ((N + 63) / 64) (fun _ => 0))) a (oB 5 [.ref sh, .int dv, .ref cl, .ref aa, v0, v1, v2])) nb = some (aJ G N num) := (mU_n ((g_nef m_14 fnb0).symm)).trans m_56
  have m_68 : (mU (mU (mU M2 a (oB 5 [.ref sh, .int dv, .ref cl, w3, v0, v1, v2])) aa (aJ G ((N + 63) / 64) (fun _ => 0))) a (oB 5 [.ref sh, .int dv, .ref cl, .ref aa, v0, v1, v2])) mb = some (aJ G ((N + 63) / 64) mk) := (mU_n ((g_nef m_14 fmb0).symm)).trans m_58
  have m_69 : (mU (mU (mU M2 a (oB 5 [.ref sh, .int dv, .ref cl, w3, v0, v1, v2])) aa (aJ G ((N + 63) / 64) (fun _ => 0))) a (oB 5 [.ref sh, .int dv, .ref cl, .ref aa, v0, v1, v2])) aa = some (aJ G ((N + 63) / 64) (fun _ => 0)) := (mU_n (Ne.symm n_41)).trans m_59
  have Lcl : M cl = none := (mU_no (mU_no fcl).1).1
  have Lnb : M nb = none := (mU_no (mU_no (mU_no fnb0).1).1).1
  have Lmb : M mb = none := (mU_no (mU_no (mU_no fmb0).1).1).1
  have old : ∀ q, q ≠ a → M q ≠ none → M2 q = M q := fun q q1 q2 => by
    rw [hfr q (fun e => q2 (by rw [e]; exact Lcl)) (fun e => q2 (by rw [e]; exact Lnb)) (fun e => q2 (by rw [e]; exact Lmb)), mU_n (fun e => q2 (by rw [e]; exact Lcl)), mU_n q1, mU_n q1]
  have naa := mU_no faa
  have Laa : M aa = none := by
    cases h9 : M aa with
    | none => rfl
    | some e9 => have h8 := old aa naa.2 (by rw [h9]; exact fun h => by cases h); rw [naa.1, h9] at h8; cases h8
  have fin : ∀ q, q ≠ a → M q ≠ none → (mU (mU (mU M2 a (oB 5 [.ref sh, .int dv, .ref cl, w3, v0, v1, v2])) aa (aJ G ((N + 63) / 64) (fun _ => 0))) a (oB 5 [.ref sh, .int dv, .ref cl, .ref aa, v0, v1, v2])) q = M q := fun q q1 q2 => by
    rw [mU_n q1, mU_n (fun e => q2 (by rw [e]; exact Laa)), mU_n q1]; exact old q q1 q2
  exact q_vret X hr dX5_init_49 (⟨rfl, cl, nb, mb, aa, m_60, ⟨num, mk, m_66, m_67, m_68, c4, c5, c6⟩, m_69, Lcl, Lnb, Lmb, Laa, n_55, n_57, fin⟩)

set_option maxRecDepth 20000 in
theorem c_X5_init_6 {l : Launch} {G : gV} {M : gMem} {a sh m : Nat} {dv : Int32} {lo hi : Nat → Int32} {w0 w1 w2 w3 v0 v1 : Value} (hA : M a = some (oB 6 [w0, w1, w2, w3, v0, v1])) (hS : isShape G M sh (nI m) lo hi) (hO : okS m lo hi) (hN : sz3 lo hi ≤ 4096) : qC l G yX5_init cX5_init 3 none 3 4 (2 + (sz3 lo hi + (sz3 lo hi + 63) / 64) + (sz3 lo hi + 63) / 64) [.ref a, .ref sh, .int dv] M (ndP G M a 6 sh dv (sz3 lo hi) [v0, v1]) := by
  refine qC_of (by decide +kernel) (Nat.le_of_ble_eq_true rfl) (fun F hF X hr hn => ?_)
  subst hF
  have X : qX G F cX5_init 3 RX5 3 := X
  obtain ⟨b, c, d, sp, s1, s2, s3, s4, s5, s6, s7, s8, s9⟩ := id hS
  have n1 : sh ≠ a := fun e => by rw [e, hA] at s1; cases s1
  have n2 : b ≠ a := fun e => by rw [e, hA] at s2; cases s2
  have n3 : c ≠ a := fun e => by rw [e, hA] at s3; cases s3
  have n4 : d ≠ a := fun e => by rw [e, hA] at s4; cases s4
  have n8 : sp.2.1 ≠ a := fun e => by rw [e, hA] at s8; cases s8
  generalize eN : sz3 lo hi = N at hN ⊢
  have eSz := hO.size
  rw [eN] at eSz
  show qJ G F _ 3 M 4 (2 + (N + (N + 63) / 64) + (N + 63) / 64) 0 [(0, .ref a), (1, .ref sh), (2, .int dv)] []
  refine q_aload_n X dX5_init_0 0 rfl ?_
  refine q_obj X tw_151 tw_38 tw_39 (by decide) (Nat.le_of_ble_eq_true rfl) dX5_init_1 ?_
  refine q_aload_n X dX5_init_4 0 rfl ?_
  refine q_aload_n X dX5_init_5 1 rfl ?_
  refine q_putF X hn hA rfl in_RX6 tyX6 tyX6_ok nmX6 0 (by decide) tw_159 rfl rfl rfl rfl rfl rfl (Nat.le_of_ble_eq_true rfl) (fs1 := [.ref sh, w1, w2, w3, v0, v1]) rfl dX5_init_6 ?_
  have m_1 : (mU M a (oB 6 [.ref sh, w1, w2, w3, v0, v1])) a = some (oB 6 [.ref sh, w1, w2, w3, v0, v1]) := mU_s
  have m_2 : (mU M a (oB 6 [.ref sh, w1, w2, w3, v0, v1])) sh = some (oB 7 [.int (nI m), .ref b, .ref c, .ref sp.2.1, .ref d, .int (sL lo hi 0 * sL lo hi 1 * sL lo hi 2)]) := (mU_n (n1)).trans s1
  have m_3 : (mU M a (oB 6 [.ref sh, w1, w2, w3, v0, v1])) b = some (aI G 3 lo) := (mU_n (n2)).trans s2
  have m_4 : (mU M a (oB 6 [.ref sh, w1, w2, w3, v0, v1])) c = some (aI G 3 hi) := (mU_n (n3)).trans s3
  have m_5 : (mU M a (oB 6 [.ref sh, w1, w2, w3, v0, v1])) d = some (aI G 3 sp.1) := (mU_n (n4)).trans s4
  have m_6 : (mU M a (oB 6 [.ref sh, w1, w2, w3, v0, v1])) sp.2.1 = some (aI G 3 sp.2.2) := (mU_n (n8)).trans s8
  refine q_aload_n X dX5_init_9 0 rfl ?_
  refine q_iload_n X dX5_init_10 2 rfl ?_
  refine q_putF X hn m_1 rfl in_RX6 tyX6 tyX6_ok nmX6 1 (by decide) tw_160 rfl rfl rfl rfl rfl rfl (Nat.le_of_ble_eq_true rfl) (fs1 := [.ref sh, .int dv, w2, w3, v0, v1]) rfl dX5_init_11 ?_
  have m_7 : (mU (mU M a (oB 6 [.ref sh, w1, w2, w3, v0, v1])) a (oB 6 [.ref sh, .int dv, w2, w3, v0, v1])) a = some (oB 6 [.ref sh, .int dv, w2, w3, v0, v1]) := mU_s
  have m_8 : (mU (mU M a (oB 6 [.ref sh, w1, w2, w3, v0, v1])) a (oB 6 [.ref sh, .int dv, w2, w3, v0, v1])) sh = some (oB 7 [.int (nI m), .ref b, .ref c, .ref sp.2.1, .ref d, .int (sL lo hi 0 * sL lo hi 1 * sL lo hi 2)]) := (mU_n (n1)).trans m_2
  have m_9 : (mU (mU M a (oB 6 [.ref sh, w1, w2, w3, v0, v1])) a (oB 6 [.ref sh, .int dv, w2, w3, v0, v1])) b = some (aI G 3 lo) := (mU_n (n2)).trans m_3
  have m_10 : (mU (mU M a (oB 6 [.ref sh, w1, w2, w3, v0, v1])) a (oB 6 [.ref sh, .int dv, w2, w3, v0, v1])) c = some (aI G 3 hi) := (mU_n (n3)).trans m_4
  have m_11 : (mU (mU M a (oB 6 [.ref sh, w1, w2, w3, v0, v1])) a (oB 6 [.ref sh, .int dv, w2, w3, v0, v1])) d = some (aI G 3 sp.1) := (mU_n (n4)).trans m_5
  have m_12 : (mU (mU M a (oB 6 [.ref sh, w1, w2, w3, v0, v1])) a (oB 6 [.ref sh, .int dv, w2, w3, v0, v1])) sp.2.1 = some (aI G 3 sp.2.2) := (mU_n (n8)).trans m_6
  refine q_aload_n X dX5_init_14 0 rfl ?_
  refine q_new X (ci := 1) rfl in_RX0 tyX0 tyX0_ok tw_152 tw_113 tw_6 (fs0 := [.null, .null]) (fun j hj => by rcases (show j = 0 ∨ j = 1 by omega) with rfl | rfl <;> rfl) (rc' := 3) (rs' := N + (N + 63) / 64 + (N + 63) / 64) (by omega) (by omega) dX5_init_15 (fun cl fcl => ?_)
  have n_13 : a ≠ cl := g_nef m_7 fcl
  have m_14 : (mU (mU (mU M a (oB 6 [.ref sh, w1, w2, w3, v0, v1])) a (oB 6 [.ref sh, .int dv, w2, w3, v0, v1])) cl (oB 1 [.null, .null])) a = some (oB 6 [.ref sh, .int dv, w2, w3, v0, v1]) := (mU_n n_13).trans m_7
  have n_15 : sh ≠ cl := g_nef m_8 fcl
  have m_16 : (mU (mU (mU M a (oB 6 [.ref sh, w1, w2, w3, v0, v1])) a (oB 6 [.ref sh, .int dv, w2, w3, v0, v1])) cl (oB 1 [.null, .null])) sh = some (oB 7 [.int (nI m), .ref b, .ref c, .ref sp.2.1, .ref d, .int (sL lo hi 0 * sL lo hi 1 * sL lo hi 2)]) := (mU_n n_15).trans m_8
  have n_17 : b ≠ cl := g_nef m_9 fcl
  have m_18 : (mU (mU (mU M a (oB 6 [.ref sh, w1, w2, w3, v0, v1])) a (oB 6 [.ref sh, .int dv, w2, w3, v0, v1])) cl (oB 1 [.null, .null])) b = some (aI G 3 lo) := (mU_n n_17).trans m_9
  have n_19 : c ≠ cl := g_nef m_10 fcl
  have m_20 : (mU (mU (mU M a (oB 6 [.ref sh, w1, w2, w3, v0, v1])) a (oB 6 [.ref sh, .int dv, w2, w3, v0, v1])) cl (oB 1 [.null, .null])) c = some (aI G 3 hi) := (mU_n n_19).trans m_10
  have n_21 : d ≠ cl := g_nef m_11 fcl
  have m_22 : (mU (mU (mU M a (oB 6 [.ref sh, w1, w2, w3, v0, v1])) a (oB 6 [.ref sh, .int dv, w2, w3, v0, v1])) cl (oB 1 [.null, .null])) d = some (aI G 3 sp.1) := (mU_n n_21).trans m_11
  have n_23 : sp.2.1 ≠ cl := g_nef m_12 fcl
  have m_24 : (mU (mU (mU M a (oB 6 [.ref sh, w1, w2, w3, v0, v1])) a (oB 6 [.ref sh, .int dv, w2, w3, v0, v1])) cl (oB 1 [.null, .null])) sp.2.1 = some (aI G 3 sp.2.2) := (mU_n n_23).trans m_12
  have m_25 : (mU (mU (mU M a (oB 6 [.ref sh, w1, w2, w3, v0, v1])) a (oB 6 [.ref sh, .int dv, w2, w3, v0, v1])) cl (oB 1 [.null, .null])) cl = some (oB 1 [.null, .null]) := mU_s
  refine q_dup X dX5_init_18 rfl ?_
  refine q_aload_n X dX5_init_19 1 rfl ?_
  refine q_callVp X (c_X7_size (n := nI m) (lo := lo) (hi := hi) ⟨b, c, d, sp, m_16, m_18, m_20, m_22, s5, s6, s7, m_24, s9⟩) Y_X7_size tw_153 tw_115 tw_116 m_16 rfl (by decide) rfl rfl (Nat.le_of_ble_eq_true rfl) dX5_init_20 ?_
  rw [eSz]
  refine q_callI X (c_X0_init m_25 hN) Y_X0_init tw_154 tw_119 rfl (by decide) rfl rfl (Nat.le_of_ble_eq_true rfl) (rc' := 1) (rs' := (N + 63) / 64) (by omega) (by omega) dX5_init_23 (fun v M' hp _ => ?_)
  obtain ⟨rfl, nb, mb, hC, fnb0, fmb0, hfr⟩ := hp
  generalize M' = M2 at *
  have m_26 : M2 a = some (oB 6 [.ref sh, .int dv, w2, w3, v0, v1]) := (hfr a (n_13) (g_nef m_14 fnb0) (g_nef m_14 fmb0)).trans m_14
  have m_27 : M2 sh = some (oB 7 [.int (nI m), .ref b, .ref c, .ref sp.2.1, .ref d, .int (sL lo hi 0 * sL lo hi 1 * sL lo hi 2)]) := (hfr sh (n_15) (g_nef m_16 fnb0) (g_nef m_16 fmb0)).trans m_16
  have m_28 : M2 b = some (aI G 3 lo) := (hfr b (n_17) (g_nef m_18 fnb0) (g_nef m_18 fmb0)).trans m_18
  have m_29 : M2 c = some (aI G 3 hi) := (hfr c (n_19) (g_nef m_20 fnb0) (g_nef m_20 fmb0)).trans m_20
  have m_30 : M2 d = some (aI G 3 sp.1) := (hfr d (n_21) (g_nef m_22 fnb0) (g_nef m_22 fmb0)).trans m_22
  have m_31 : M2 sp.2.1 = some (aI G 3 sp.2.2) := (hfr sp.2.1 (n_23) (g_nef m_24 fnb0) (g_nef m_24 fmb0)).trans m_24
  obtain ⟨num, mk, c1, c2, c3, c4, c5, c6⟩ := hC
  show qJ G F _ 3 M2 1 ((N + 63) / 64) 26 [(0, .ref a), (1, .ref sh), (2, .int dv)] [.ref cl, .ref a]
  refine q_putF X hn m_26 rfl in_RX6 tyX6 tyX6_ok nmX6 2 (by decide) tw_161 rfl rfl rfl rfl rfl rfl (Nat.le_of_ble_eq_true rfl) (fs1 := [.ref sh, .int dv, .ref cl, w3, v0, v1]) rfl dX5_init_26 ?_
  have m_32 : (mU M2 a (oB 6 [.ref sh, .int dv, .ref cl, w3, v0, v1])) a = some (oB 6 [.ref sh, .int dv, .ref cl, w3, v0, v1]) := mU_s
  have m_33 : (mU M2 a (oB 6 [.ref sh, .int dv, .ref cl, w3, v0, v1])) sh = some (oB 7 [.int (nI m), .ref b, .ref c, .ref sp.2.1, .ref d, .int (sL lo hi 0 * sL lo hi 1 * sL lo hi 2)]) := (mU_n (n1)).trans m_27
  have m_34 : (mU M2 a (oB 6 [.ref sh, .int dv, .ref cl, w3, v0, v1])) b = some (aI G 3 lo) := (mU_n (n2)).trans m_28
  have m_35 : (mU M2 a (oB 6 [.ref sh, .int dv, .ref cl, w3, v0, v1])) c = some (aI G 3 hi) := (mU_n (n3)).trans m_29
  have m_36 : (mU M2 a (oB 6 [.ref sh, .int dv, .ref cl, w3, v0, v1])) d = some (aI G 3 sp.1) := (mU_n (n4)).trans m_30
  have m_37 : (mU M2 a (oB 6 [.ref sh, .int dv, .ref cl, w3, v0, v1])) sp.2.1 = some (aI G 3 sp.2.2) := (mU_n (n8)).trans m_31
  have m_38 : (mU M2 a (oB 6 [.ref sh, .int dv, .ref cl, w3, v0, v1])) cl = some (oB 1 [.ref nb, .ref mb]) := (mU_n (Ne.symm n_13)).trans c1
  have m_39 : (mU M2 a (oB 6 [.ref sh, .int dv, .ref cl, w3, v0, v1])) nb = some (aJ G N num) := (mU_n ((g_nef m_14 fnb0).symm)).trans c2
  have m_40 : (mU M2 a (oB 6 [.ref sh, .int dv, .ref cl, w3, v0, v1])) mb = some (aJ G ((N + 63) / 64) mk) := (mU_n ((g_nef m_14 fmb0).symm)).trans c3
  refine q_aload_n X dX5_init_29 0 rfl ?_
  refine q_aload_n X dX5_init_30 1 rfl ?_
  refine q_callVp X (c_X7_size (n := nI m) (lo := lo) (hi := hi) ⟨b, c, d, sp, m_33, m_34, m_35, m_36, s5, s6, s7, m_37, s9⟩) Y_X7_size tw_153 tw_115 tw_116 m_33 rfl (by decide) rfl rfl (Nat.le_of_ble_eq_true rfl) dX5_init_31 ?_
  rw [eSz]
  refine q_bipush (v := 63) X dX5_init_34 (by decide) ?_
  refine q_iadd X dX5_init_36 ?_
  refine q_bipush (v := 64) X dX5_init_37 (by decide) ?_
  refine q_idiv X dX5_init_39 (by decide) ?_
  rw [cw_div hN]
  refine q_iconst (v := 0) X dX5_init_40 (by decide) ?_
  refine q_callSp X (c_J9_max_7cf53) Y_J9_max_7cf53 tw_155 tw_123 (by decide) rfl rfl (Nat.le_of_ble_eq_true rfl) dX5_init_41 ?_
  rw [mxI_0 (by omega)]
  refine q_newJ X tw_132 ((N + 63) / 64) (rfl) (by omega) (rc' := 0) (rs' := 0) (by omega) (by omega) dX5_init_44 (fun aa faa => ?_)
  have n_41 : a ≠ aa := g_nef m_32 faa
  have m_42 : (mU (mU M2 a (oB 6 [.ref sh, .int dv, .ref cl, w3, v0, v1])) aa (aJ G ((N + 63) / 64) (fun _ => 0))) a = some (oB 6 [.ref sh, .int dv, .ref cl, w3, v0, v1]) := (mU_n n_41).trans m_32
  have n_43 : sh ≠ aa := g_nef m_33 faa
  have m_44 : (mU (mU M2 a (oB 6 [.ref sh, .int dv, .ref cl, w3, v0, v1])) aa (aJ G ((N + 63) / 64) (fun _ => 0))) sh = some (oB 7 [.int (nI m), .ref b, .ref c, .ref sp.2.1, .ref d, .int (sL lo hi 0 * sL lo hi 1 * sL lo hi 2)]) := (mU_n n_43).trans m_33
  have n_45 : b ≠ aa := g_nef m_34 faa
  have m_46 : (mU (mU M2 a (oB 6 [.ref sh, .int dv, .ref cl, w3, v0, v1])) aa (aJ G ((N + 63) / 64) (fun _ => 0))) b = some (aI G 3 lo) := (mU_n n_45).trans m_34
  have n_47 : c ≠ aa := g_nef m_35 faa
  have m_48 : (mU (mU M2 a (oB 6 [.ref sh, .int dv, .ref cl, w3, v0, v1])) aa (aJ G ((N + 63) / 64) (fun _ => 0))) c = some (aI G 3 hi) := (mU_n n_47).trans m_35
  have n_49 : d ≠ aa := g_nef m_36 faa
  have m_50 : (mU (mU M2 a (oB 6 [.ref sh, .int dv, .ref cl, w3, v0, v1])) aa (aJ G ((N + 63) / 64) (fun _ => 0))) d = some (aI G 3 sp.1) := (mU_n n_49).trans m_36
  have n_51 : sp.2.1 ≠ aa := g_nef m_37 faa
  have m_52 : (mU (mU M2 a (oB 6 [.ref sh, .int dv, .ref cl, w3, v0, v1])) aa (aJ G ((N + 63) / 64) (fun _ => 0))) sp.2.1 = some (aI G 3 sp.2.2) := (mU_n n_51).trans m_37
  have n_53 : cl ≠ aa := g_nef m_38 faa
  have m_54 : (mU (mU M2 a (oB 6 [.ref sh, .int dv, .ref cl, w3, v0, v1])) aa (aJ G ((N + 63) / 64) (fun _ => 0))) cl = some (oB 1 [.ref nb, .ref mb]) := (mU_n n_53).trans m_38
  have n_55 : nb ≠ aa := g_nef m_39 faa
  have m_56 : (mU (mU M2 a (oB 6 [.ref sh, .int dv, .ref cl, w3, v0, v1])) aa (aJ G ((N + 63) / 64) (fun _ => 0))) nb = some (aJ G N num) := (mU_n n_55).trans m_39
  have n_57 : mb ≠ aa := g_nef m_40 faa
  have m_58 : (mU (mU M2 a (oB 6 [.ref sh, .int dv, .ref cl, w3, v0, v1])) aa (aJ G ((N + 63) / 64) (fun _ => 0))) mb = some (aJ G ((N + 63) / 64) mk) := (mU_n n_57).trans m_40
  have m_59 : (mU (mU M2 a (oB 6 [.ref sh, .int dv, .ref cl, w3, v0, v1])) aa (aJ G ((N + 63) / 64) (fun _ => 0))) aa = some (aJ G ((N + 63) / 64) (fun _ => 0)) := mU_s
  refine q_putF X hn m_42 rfl in_RX6 tyX6 tyX6_ok nmX6 3 (by decide) tw_162 rfl rfl rfl rfl rfl rfl (Nat.le_of_ble_eq_true rfl) (fs1 := [.ref sh, .int dv, .ref cl, .ref aa, v0, v1]) rfl dX5_init_46 ?_
  have m_60 : (mU (mU (mU M2 a (oB 6 [.ref sh, .int dv, .ref cl, w3, v0, v1])) aa (aJ G ((N + 63) / 64) (fun _ => 0))) a (oB 6 [.ref sh, .int dv, .ref cl, .ref aa, v0, v1])) a = some (oB 6 [.ref sh, .int dv, .ref cl, .ref aa, v0, v1]) := mU_s
  have m_61 : (mU (mU (mU M2 a (oB 6 [.ref sh, .int dv, .ref cl, w3, v0, v1])) aa (aJ G ((N + 63) / 64) (fun _ => 0))) a (oB 6 [.ref sh, .int dv, .ref cl, .ref aa, v0, v1])) sh = some (oB 7 [.int (nI m), .ref b, .ref c, .ref sp.2.1, .ref d, .int (sL lo hi 0 * sL lo hi 1 * sL lo hi 2)]) := (mU_n (n1)).trans m_44
  have m_62 : (mU (mU (mU M2 a (oB 6 [.ref sh, .int dv, .ref cl, w3, v0, v1])) aa (aJ G ((N + 63) / 64) (fun _ => 0))) a (oB 6 [.ref sh, .int dv, .ref cl, .ref aa, v0, v1])) b = some (aI G 3 lo) := (mU_n (n2)).trans m_46
  have m_63 : (mU (mU (mU M2 a (oB 6 [.ref sh, .int dv, .ref cl, w3, v0, v1])) aa (aJ G ((N + 63) / 64) (fun _ => 0))) a (oB 6 [.ref sh, .int dv, .ref cl, .ref aa, v0, v1])) c = some (aI G 3 hi) := (mU_n (n3)).trans m_48
  have m_64 : (mU (mU (mU M2 a (oB 6 [.ref sh, .int dv, .ref cl, w3, v0, v1])) aa (aJ G ((N + 63) / 64) (fun _ => 0))) a (oB 6 [.ref sh, .int dv, .ref cl, .ref aa, v0, v1])) d = some (aI G 3 sp.1) := (mU_n (n4)).trans m_50
  have m_65 : (mU (mU (mU M2 a (oB 6 [.ref sh, .int dv, .ref cl, w3, v0, v1])) aa (aJ G ((N + 63) / 64) (fun _ => 0))) a (oB 6 [.ref sh, .int dv, .ref cl, .ref aa, v0, v1])) sp.2.1 = some (aI G 3 sp.2.2) := (mU_n (n8)).trans m_52
  have m_66 : (mU (mU (mU M2 a (oB 6 [.ref sh, .int dv, .ref cl, w3, v0, v1])) aa (aJ G ((N + 63) / 64) (fun _ => 0))) a (oB 6 [.ref sh, .int dv, .ref cl, .ref aa, v0, v1])) cl = some (oB 1 [.ref nb, .ref mb]) := (mU_n (Ne.symm n_13)).trans m_54
  have m_67 : (mU (mU (mU M2 a (oB 6 [.ref sh, .int dv, .ref cl, w3, v0, v1])) aa (aJ G ((N + 63) / 64) (fun _ => 0))) a (oB 6 [.ref sh, .int dv, .ref cl, .ref aa, v0, v1])) nb = some (aJ G N num) := (mU_n ((g_nef m_14 fnb0).symm)).trans m_56
  have m_68 : (mU (mU (mU M2 a (oB 6 [.ref sh, .int dv, .ref cl, w3, v0, v1])) aa (aJ G ((N + 63) / 64) (fun _ => 0))) a (oB 6 [.ref sh, .int dv, .ref cl, .ref aa, v0, v1])) mb = some (aJ G ((N + 63) / 64) mk) := (mU_n ((g_nef m_14 fmb0).symm)).trans m_58
  have m_69 : (mU (mU (mU M2 a (oB 6 [.ref sh, .int dv, .ref cl, w3, v0, v1])) aa (aJ G ((N + 63) / 64) (fun _ => 0))) a (oB 6 [.ref sh, .int dv, .ref cl, .ref aa, v0, v1])) aa = some (aJ G ((N + 63) / 64) (fun _ => 0)) := (mU_n (Ne.symm n_41)).trans m_59
  have Lcl : M cl = none := (mU_no (mU_no fcl).1).1
  have Lnb : M nb = none := (mU_no (mU_no (mU_no fnb0).1).1).1
  have Lmb : M mb = none := (mU_no (mU_no (mU_no fmb0).1).1).1
  have old : ∀ q, q ≠ a → M q ≠ none → M2 q = M q := fun q q1 q2 => by
    rw [hfr q (fun e => q2 (by rw [e]; exact Lcl)) (fun e => q2 (by rw [e]; exact Lnb)) (fun e => q2 (by rw [e]; exact Lmb)), mU_n (fun e => q2 (by rw [e]; exact Lcl)), mU_n q1, mU_n q1]
  have naa := mU_no faa
  have Laa : M aa = none := by
    cases h9 : M aa with
    | none => rfl
    | some e9 => have h8 := old aa naa.2 (by rw [h9]; exact fun h => by cases h); rw [naa.1, h9] at h8; cases h8
  have fin : ∀ q, q ≠ a → M q ≠ none → (mU (mU (mU M2 a (oB 6 [.ref sh, .int dv, .ref cl, w3, v0, v1])) aa (aJ G ((N + 63) / 64) (fun _ => 0))) a (oB 6 [.ref sh, .int dv, .ref cl, .ref aa, v0, v1])) q = M q := fun q q1 q2 => by
    rw [mU_n q1, mU_n (fun e => q2 (by rw [e]; exact Laa)), mU_n q1]; exact old q q1 q2
  exact q_vret X hr dX5_init_49 (⟨rfl, cl, nb, mb, aa, m_60, ⟨num, mk, m_66, m_67, m_68, c4, c5, c6⟩, m_69, Lcl, Lnb, Lmb, Laa, n_55, n_57, fin⟩)

set_option maxRecDepth 20000 in
theorem c_X5_init_9 {l : Launch} {G : gV} {M : gMem} {a sh m : Nat} {dv : Int32} {lo hi : Nat → Int32} {w0 w1 w2 w3 v0 v1 v2 : Value} (hA : M a = some (oB 9 [w0, w1, w2, w3, v0, v1, v2])) (hS : isShape G M sh (nI m) lo hi) (hO : okS m lo hi) (hN : sz3 lo hi ≤ 4096) : qC l G yX5_init cX5_init 3 none 3 4 (2 + (sz3 lo hi + (sz3 lo hi + 63) / 64) + (sz3 lo hi + 63) / 64) [.ref a, .ref sh, .int dv] M (ndP G M a 9 sh dv (sz3 lo hi) [v0, v1, v2]) := by
  refine qC_of (by decide +kernel) (Nat.le_of_ble_eq_true rfl) (fun F hF X hr hn => ?_)
  subst hF
  have X : qX G F cX5_init 3 RX5 3 := X
  obtain ⟨b, c, d, sp, s1, s2, s3, s4, s5, s6, s7, s8, s9⟩ := id hS
  have n1 : sh ≠ a := fun e => by rw [e, hA] at s1; cases s1
  have n2 : b ≠ a := fun e => by rw [e, hA] at s2; cases s2
  have n3 : c ≠ a := fun e => by rw [e, hA] at s3; cases s3
  have n4 : d ≠ a := fun e => by rw [e, hA] at s4; cases s4
  have n8 : sp.2.1 ≠ a := fun e => by rw [e, hA] at s8; cases s8
  generalize eN : sz3 lo hi = N at hN ⊢
  have eSz := hO.size
  rw [eN] at eSz
  show qJ G F _ 3 M 4 (2 + (N + (N + 63) / 64) + (N + 63) / 64) 0 [(0, .ref a), (1, .ref sh), (2, .int dv)] []
  refine q_aload_n X dX5_init_0 0 rfl ?_
  refine q_obj X tw_151 tw_38 tw_39 (by decide) (Nat.le_of_ble_eq_true rfl) dX5_init_1 ?_
  refine q_aload_n X dX5_init_4 0 rfl ?_
  refine q_aload_n X dX5_init_5 1 rfl ?_
  refine q_putF X hn hA rfl in_RX9 tyX9 tyX9_ok nmX9 0 (by decide) tw_159 rfl rfl rfl rfl rfl rfl (Nat.le_of_ble_eq_true rfl) (fs1 := [.ref sh, w1, w2, w3, v0, v1, v2]) rfl dX5_init_6 ?_
  have m_1 : (mU M a (oB 9 [.ref sh, w1, w2, w3, v0, v1, v2])) a = some (oB 9 [.ref sh, w1, w2, w3, v0, v1, v2]) := mU_s
  have m_2 : (mU M a (oB 9 [.ref sh, w1, w2, w3, v0, v1, v2])) sh = some (oB 7 [.int (nI m), .ref b, .ref c, .ref sp.2.1, .ref d, .int (sL lo hi 0 * sL lo hi 1 * sL lo hi 2)]) := (mU_n (n1)).trans s1
  have m_3 : (mU M a (oB 9 [.ref sh, w1, w2, w3, v0, v1, v2])) b = some (aI G 3 lo) := (mU_n (n2)).trans s2
  have m_4 : (mU M a (oB 9 [.ref sh, w1, w2, w3, v0, v1, v2])) c = some (aI G 3 hi) := (mU_n (n3)).trans s3
  have m_5 : (mU M a (oB 9 [.ref sh, w1, w2, w3, v0, v1, v2])) d = some (aI G 3 sp.1) := (mU_n (n4)).trans s4
  have m_6 : (mU M a (oB 9 [.ref sh, w1, w2, w3, v0, v1, v2])) sp.2.1 = some (aI G 3 sp.2.2) := (mU_n (n8)).trans s8
  refine q_aload_n X dX5_init_9 0 rfl ?_
  refine q_iload_n X dX5_init_10 2 rfl ?_
  refine q_putF X hn m_1 rfl in_RX9 tyX9 tyX9_ok nmX9 1 (by decide) tw_160 rfl rfl rfl rfl rfl rfl (Nat.le_of_ble_eq_true rfl) (fs1 := [.ref sh, .int dv, w2, w3, v0, v1, v2]) rfl dX5_init_11 ?_
  have m_7 : (mU (mU M a (oB 9 [.ref sh, w1, w2, w3, v0, v1, v2])) a (oB 9 [.ref sh, .int dv, w2, w3, v0, v1, v2])) a = some (oB 9 [.ref sh, .int dv, w2, w3, v0, v1, v2]) := mU_s
  have m_8 : (mU (mU M a (oB 9 [.ref sh, w1, w2, w3, v0, v1, v2])) a (oB 9 [.ref sh, .int dv, w2, w3, v0, v1, v2])) sh = some (oB 7 [.int (nI m), .ref b, .ref c, .ref sp.2.1, .ref d, .int (sL lo hi 0 * sL lo hi 1 * sL lo hi 2)]) := (mU_n (n1)).trans m_2
  have m_9 : (mU (mU M a (oB 9 [.ref sh, w1, w2, w3, v0, v1, v2])) a (oB 9 [.ref sh, .int dv, w2, w3, v0, v1, v2])) b = some (aI G 3 lo) := (mU_n (n2)).trans m_3
  have m_10 : (mU (mU M a (oB 9 [.ref sh, w1, w2, w3, v0, v1, v2])) a (oB 9 [.ref sh, .int dv, w2, w3, v0, v1, v2])) c = some (aI G 3 hi) := (mU_n (n3)).trans m_4
  have m_11 : (mU (mU M a (oB 9 [.ref sh, w1, w2, w3, v0, v1, v2])) a (oB 9 [.ref sh, .int dv, w2, w3, v0, v1, v2])) d = some (aI G 3 sp.1) := (mU_n (n4)).trans m_5
  have m_12 : (mU (mU M a (oB 9 [.ref sh, w1, w2, w3, v0, v1, v2])) a (oB 9 [.ref sh, .int dv, w2, w3, v0, v1, v2])) sp.2.1 = some (aI G 3 sp.2.2) := (mU_n (n8)).trans m_6
  refine q_aload_n X dX5_init_14 0 rfl ?_
  refine q_new X (ci := 1) rfl in_RX0 tyX0 tyX0_ok tw_152 tw_113 tw_6 (fs0 := [.null, .null]) (fun j hj => by rcases (show j = 0 ∨ j = 1 by omega) with rfl | rfl <;> rfl) (rc' := 3) (rs' := N + (N + 63) / 64 + (N + 63) / 64) (by omega) (by omega) dX5_init_15 (fun cl fcl => ?_)
  have n_13 : a ≠ cl := g_nef m_7 fcl
  have m_14 : (mU (mU (mU M a (oB 9 [.ref sh, w1, w2, w3, v0, v1, v2])) a (oB 9 [.ref sh, .int dv, w2, w3, v0, v1, v2])) cl (oB 1 [.null, .null])) a = some (oB 9 [.ref sh, .int dv, w2, w3, v0, v1, v2]) := (mU_n n_13).trans m_7
  have n_15 : sh ≠ cl := g_nef m_8 fcl
  have m_16 : (mU (mU (mU M a (oB 9 [.ref sh, w1, w2, w3, v0, v1, v2])) a (oB 9 [.ref sh, .int dv, w2, w3, v0, v1, v2])) cl (oB 1 [.null, .null])) sh = some (oB 7 [.int (nI m), .ref b, .ref c, .ref sp.2.1, .ref d, .int (sL lo hi 0 * sL lo hi 1 * sL lo hi 2)]) := (mU_n n_15).trans m_8
  have n_17 : b ≠ cl := g_nef m_9 fcl
  have m_18 : (mU (mU (mU M a (oB 9 [.ref sh, w1, w2, w3, v0, v1, v2])) a (oB 9 [.ref sh, .int dv, w2, w3, v0, v1, v2])) cl (oB 1 [.null, .null])) b = some (aI G 3 lo) := (mU_n n_17).trans m_9
  have n_19 : c ≠ cl := g_nef m_10 fcl
  have m_20 : (mU (mU (mU M a (oB 9 [.ref sh, w1, w2, w3, v0, v1, v2])) a (oB 9 [.ref sh, .int dv, w2, w3, v0, v1, v2])) cl (oB 1 [.null, .null])) c = some (aI G 3 hi) := (mU_n n_19).trans m_10
  have n_21 : d ≠ cl := g_nef m_11 fcl
  have m_22 : (mU (mU (mU M a (oB 9 [.ref sh, w1, w2, w3, v0, v1, v2])) a (oB 9 [.ref sh, .int dv, w2, w3, v0, v1, v2])) cl (oB 1 [.null, .null])) d = some (aI G 3 sp.1) := (mU_n n_21).trans m_11
  have n_23 : sp.2.1 ≠ cl := g_nef m_12 fcl
  have m_24 : (mU (mU (mU M a (oB 9 [.ref sh, w1, w2, w3, v0, v1, v2])) a (oB 9 [.ref sh, .int dv, w2, w3, v0, v1, v2])) cl (oB 1 [.null, .null])) sp.2.1 = some (aI G 3 sp.2.2) := (mU_n n_23).trans m_12
  have m_25 : (mU (mU (mU M a (oB 9 [.ref sh, w1, w2, w3, v0, v1, v2])) a (oB 9 [.ref sh, .int dv, w2, w3, v0, v1, v2])) cl (oB 1 [.null, .null])) cl = some (oB 1 [.null, .null]) := mU_s
  refine q_dup X dX5_init_18 rfl ?_
  refine q_aload_n X dX5_init_19 1 rfl ?_
  refine q_callVp X (c_X7_size (n := nI m) (lo := lo) (hi := hi) ⟨b, c, d, sp, m_16, m_18, m_20, m_22, s5, s6, s7, m_24, s9⟩) Y_X7_size tw_153 tw_115 tw_116 m_16 rfl (by decide) rfl rfl (Nat.le_of_ble_eq_true rfl) dX5_init_20 ?_
  rw [eSz]
  refine q_callI X (c_X0_init m_25 hN) Y_X0_init tw_154 tw_119 rfl (by decide) rfl rfl (Nat.le_of_ble_eq_true rfl) (rc' := 1) (rs' := (N + 63) / 64) (by omega) (by omega) dX5_init_23 (fun v M' hp _ => ?_)
  obtain ⟨rfl, nb, mb, hC, fnb0, fmb0, hfr⟩ := hp
  generalize M' = M2 at *
  have m_26 : M2 a = some (oB 9 [.ref sh, .int dv, w2, w3, v0, v1, v2]) := (hfr a (n_13) (g_nef m_14 fnb0) (g_nef m_14 fmb0)).trans m_14
  have m_27 : M2 sh = some (oB 7 [.int (nI m), .ref b, .ref c, .ref sp.2.1, .ref d, .int (sL lo hi 0 * sL lo hi 1 * sL lo hi 2)]) := (hfr sh (n_15) (g_nef m_16 fnb0) (g_nef m_16 fmb0)).trans m_16
  have m_28 : M2 b = some (aI G 3 lo) := (hfr b (n_17) (g_nef m_18 fnb0) (g_nef m_18 fmb0)).trans m_18
  have m_29 : M2 c = some (aI G 3 hi) := (hfr c (n_19) (g_nef m_20 fnb0) (g_nef m_20 fmb0)).trans m_20
  have m_30 : M2 d = some (aI G 3 sp.1) := (hfr d (n_21) (g_nef m_22 fnb0) (g_nef m_22 fmb0)).trans m_22
  have m_31 : M2 sp.2.1 = some (aI G 3 sp.2.2) := (hfr sp.2.1 (n_23) (g_nef m_24 fnb0) (g_nef m_24 fmb0)).trans m_24
  obtain ⟨num, mk, c1, c2, c3, c4, c5, c6⟩ := hC
  show qJ G F _ 3 M2 1 ((N + 63) / 64) 26 [(0, .ref a), (1, .ref sh), (2, .int dv)] [.ref cl, .ref a]
  refine q_putF X hn m_26 rfl in_RX9 tyX9 tyX9_ok nmX9 2 (by decide) tw_161 rfl rfl rfl rfl rfl rfl (Nat.le_of_ble_eq_true rfl) (fs1 := [.ref sh, .int dv, .ref cl, w3, v0, v1, v2]) rfl dX5_init_26 ?_
  have m_32 : (mU M2 a (oB 9 [.ref sh, .int dv, .ref cl, w3, v0, v1, v2])) a = some (oB 9 [.ref sh, .int dv, .ref cl, w3, v0, v1, v2]) := mU_s
  have m_33 : (mU M2 a (oB 9 [.ref sh, .int dv, .ref cl, w3, v0, v1, v2])) sh = some (oB 7 [.int (nI m), .ref b, .ref c, .ref sp.2.1, .ref d, .int (sL lo hi 0 * sL lo hi 1 * sL lo hi 2)]) := (mU_n (n1)).trans m_27
  have m_34 : (mU M2 a (oB 9 [.ref sh, .int dv, .ref cl, w3, v0, v1, v2])) b = some (aI G 3 lo) := (mU_n (n2)).trans m_28
  have m_35 : (mU M2 a (oB 9 [.ref sh, .int dv, .ref cl, w3, v0, v1, v2])) c = some (aI G 3 hi) := (mU_n (n3)).trans m_29
  have m_36 : (mU M2 a (oB 9 [.ref sh, .int dv, .ref cl, w3, v0, v1, v2])) d = some (aI G 3 sp.1) := (mU_n (n4)).trans m_30
  have m_37 : (mU M2 a (oB 9 [.ref sh, .int dv, .ref cl, w3, v0, v1, v2])) sp.2.1 = some (aI G 3 sp.2.2) := (mU_n (n8)).trans m_31
  have m_38 : (mU M2 a (oB 9 [.ref sh, .int dv, .ref cl, w3, v0, v1, v2])) cl = some (oB 1 [.ref nb, .ref mb]) := (mU_n (Ne.symm n_13)).trans c1
  have m_39 : (mU M2 a (oB 9 [.ref sh, .int dv, .ref cl, w3, v0, v1, v2])) nb = some (aJ G N num) := (mU_n ((g_nef m_14 fnb0).symm)).trans c2
  have m_40 : (mU M2 a (oB 9 [.ref sh, .int dv, .ref cl, w3, v0, v1, v2])) mb = some (aJ G ((N + 63) / 64) mk) := (mU_n ((g_nef m_14 fmb0).symm)).trans c3
  refine q_aload_n X dX5_init_29 0 rfl ?_
  refine q_aload_n X dX5_init_30 1 rfl ?_
  refine q_callVp X (c_X7_size (n := nI m) (lo := lo) (hi := hi) ⟨b, c, d, sp, m_33, m_34, m_35, m_36, s5, s6, s7, m_37, s9⟩) Y_X7_size tw_153 tw_115 tw_116 m_33 rfl (by decide) rfl rfl (Nat.le_of_ble_eq_true rfl) dX5_init_31 ?_
  rw [eSz]
  refine q_bipush (v := 63) X dX5_init_34 (by decide) ?_
  refine q_iadd X dX5_init_36 ?_
  refine q_bipush (v := 64) X dX5_init_37 (by decide) ?_
  refine q_idiv X dX5_init_39 (by decide) ?_
  rw [cw_div hN]
  refine q_iconst (v := 0) X dX5_init_40 (by decide) ?_
  refine q_callSp X (c_J9_max_7cf53) Y_J9_max_7cf53 tw_155 tw_123 (by decide) rfl rfl (Nat.le_of_ble_eq_true rfl) dX5_init_41 ?_
  rw [mxI_0 (by omega)]
  refine q_newJ X tw_132 ((N + 63) / 64) (rfl) (by omega) (rc' := 0) (rs' := 0) (by omega) (by omega) dX5_init_44 (fun aa faa => ?_)
  have n_41 : a ≠ aa := g_nef m_32 faa
  have m_42 : (mU (mU M2 a (oB 9 [.ref sh, .int dv, .ref cl, w3, v0, v1, v2])) aa (aJ G ((N + 63) / 64) (fun _ => 0))) a = some (oB 9 [.ref sh, .int dv, .ref cl, w3, v0, v1, v2]) := (mU_n n_41).trans m_32
  have n_43 : sh ≠ aa := g_nef m_33 faa
  have m_44 : (mU (mU M2 a (oB 9 [.ref sh, .int dv, .ref cl, w3, v0, v1, v2])) aa (aJ G ((N + 63) / 64) (fun _ => 0))) sh = some (oB 7 [.int (nI m), .ref b, .ref c, .ref sp.2.1, .ref d, .int (sL lo hi 0 * sL lo hi 1 * sL lo hi 2)]) := (mU_n n_43).trans m_33
  have n_45 : b ≠ aa := g_nef m_34 faa
  have m_46 : (mU (mU M2 a (oB 9 [.ref sh, .int dv, .ref cl, w3, v0, v1, v2])) aa (aJ G ((N + 63) / 64) (fun _ => 0))) b = some (aI G 3 lo) := (mU_n n_45).trans m_34
  have n_47 : c ≠ aa := g_nef m_35 faa
  have m_48 : (mU (mU M2 a (oB 9 [.ref sh, .int dv, .ref cl, w3, v0, v1, v2])) aa (aJ G ((N + 63) / 64) (fun _ => 0))) c = some (aI G 3 hi) := (mU_n n_47).trans m_35
  have n_49 : d ≠ aa := g_nef m_36 faa
  have m_50 : (mU (mU M2 a (oB 9 [.ref sh, .int dv, .ref cl, w3, v0, v1, v2])) aa (aJ G ((N + 63) / 64) (fun _ => 0))) d = some (aI G 3 sp.1) := (mU_n n_49).trans m_36
  have n_51 : sp.2.1 ≠ aa := g_nef m_37 faa
  have m_52 : (mU (mU M2 a (oB 9 [.ref sh, .int dv, .ref cl, w3, v0, v1, v2])) aa (aJ G ((N + 63) / 64) (fun _ => 0))) sp.2.1 = some (aI G 3 sp.2.2) := (mU_n n_51).trans m_37
  have n_53 : cl ≠ aa := g_nef m_38 faa
  have m_54 : (mU (mU M2 a (oB 9 [.ref sh, .int dv, .ref cl, w3, v0, v1, v2])) aa (aJ G ((N + 63) / 64) (fun _ => 0))) cl = some (oB 1 [.ref nb, .ref mb]) := (mU_n n_53).trans m_38
  have n_55 : nb ≠ aa := g_nef m_39 faa
  have m_56 : (mU (mU M2 a (oB 9 [.ref sh, .int dv, .ref cl, w3, v0, v1, v2])) aa (aJ G ((N + 63) / 64) (fun _ => 0))) nb = some (aJ G N num) := (mU_n n_55).trans m_39
  have n_57 : mb ≠ aa := g_nef m_40 faa
  have m_58 : (mU (mU M2 a (oB 9 [.ref sh, .int dv, .ref cl, w3, v0, v1, v2])) aa (aJ G ((N + 63) / 64) (fun _ => 0))) mb = some (aJ G ((N + 63) / 64) mk) := (mU_n n_57).trans m_40
  have m_59 : (mU (mU M2 a (oB 9 [.ref sh, .int dv, .ref cl, w3, v0, v1, v2])) aa (aJ G ((N + 63) / 64) (fun _ => 0))) aa = some (aJ G ((N + 63) / 64) (fun _ => 0)) := mU_s
  refine q_putF X hn m_42 rfl in_RX9 tyX9 tyX9_ok nmX9 3 (by decide) tw_162 rfl rfl rfl rfl rfl rfl (Nat.le_of_ble_eq_true rfl) (fs1 := [.ref sh, .int dv, .ref cl, .ref aa, v0, v1, v2]) rfl dX5_init_46 ?_
  have m_60 : (mU (mU (mU M2 a (oB 9 [.ref sh, .int dv, .ref cl, w3, v0, v1, v2])) aa (aJ G ((N + 63) / 64) (fun _ => 0))) a (oB 9 [.ref sh, .int dv, .ref cl, .ref aa, v0, v1, v2])) a = some (oB 9 [.ref sh, .int dv, .ref cl, .ref aa, v0, v1, v2]) := mU_s
  have m_61 : (mU (mU (mU M2 a (oB 9 [.ref sh, .int dv, .ref cl, w3, v0, v1, v2])) aa (aJ G ((N + 63) / 64) (fun _ => 0))) a (oB 9 [.ref sh, .int dv, .ref cl, .ref aa, v0, v1, v2])) sh = some (oB 7 [.int (nI m), .ref b, .ref c, .ref sp.2.1, .ref d, .int (sL lo hi 0 * sL lo hi 1 * sL lo hi 2)]) := (mU_n (n1)).trans m_44
  have m_62 : (mU (mU (mU M2 a (oB 9 [.ref sh, .int dv, .ref cl, w3, v0, v1, v2])) aa (aJ G ((N + 63) / 64) (fun _ => 0))) a (oB 9 [.ref sh, .int dv, .ref cl, .ref aa, v0, v1, v2])) b = some (aI G 3 lo) := (mU_n (n2)).trans m_46
  have m_63 : (mU (mU (mU M2 a (oB 9 [.ref sh, .int dv, .ref cl, w3, v0, v1, v2])) aa (aJ G ((N + 63) / 64) (fun _ => 0))) a (oB 9 [.ref sh, .int dv, .ref cl, .ref aa, v0, v1, v2])) c = some (aI G 3 hi) := (mU_n (n3)).trans m_48
  have m_64 : (mU (mU (mU M2 a (oB 9 [.ref sh, .int dv, .ref cl, w3, v0, v1, v2])) aa (aJ G ((N + 63) / 64) (fun _ => 0))) a (oB 9 [.ref sh, .int dv, .ref cl, .ref aa, v0, v1, v2])) d = some (aI G 3 sp.1) := (mU_n (n4)).trans m_50
  have m_65 : (mU (mU (mU M2 a (oB 9 [.ref sh, .int dv, .ref cl, w3, v0, v1, v2])) aa (aJ G ((N + 63) / 64) (fun _ => 0))) a (oB 9 [.ref sh, .int dv, .ref cl, .ref aa, v0, v1, v2])) sp.2.1 = some (aI G 3 sp.2.2) := (mU_n (n8)).trans m_52
  have m_66 : (mU (mU (mU M2 a (oB 9 [.ref sh, .int dv, .ref cl, w3, v0, v1, v2])) aa (aJ G ((N + 63) / 64) (fun _ => 0))) a (oB 9 [.ref sh, .int dv, .ref cl, .ref aa, v0, v1, v2])) cl = some (oB 1 [.ref nb, .ref mb]) := (mU_n (Ne.symm n_13)).trans m_54
  have m_67 : (mU (mU (mU M2 a (oB 9 [.ref sh, .int dv, .ref cl, w3, v0, v1, v2])) aa (aJ G ((N + 63) / 64) (fun _ => 0))) a (oB 9 [.ref sh, .int dv, .ref cl, .ref aa, v0, v1, v2])) nb = some (aJ G N num) := (mU_n ((g_nef m_14 fnb0).symm)).trans m_56
  have m_68 : (mU (mU (mU M2 a (oB 9 [.ref sh, .int dv, .ref cl, w3, v0, v1, v2])) aa (aJ G ((N + 63) / 64) (fun _ => 0))) a (oB 9 [.ref sh, .int dv, .ref cl, .ref aa, v0, v1, v2])) mb = some (aJ G ((N + 63) / 64) mk) := (mU_n ((g_nef m_14 fmb0).symm)).trans m_58
  have m_69 : (mU (mU (mU M2 a (oB 9 [.ref sh, .int dv, .ref cl, w3, v0, v1, v2])) aa (aJ G ((N + 63) / 64) (fun _ => 0))) a (oB 9 [.ref sh, .int dv, .ref cl, .ref aa, v0, v1, v2])) aa = some (aJ G ((N + 63) / 64) (fun _ => 0)) := (mU_n (Ne.symm n_41)).trans m_59
  have Lcl : M cl = none := (mU_no (mU_no fcl).1).1
  have Lnb : M nb = none := (mU_no (mU_no (mU_no fnb0).1).1).1
  have Lmb : M mb = none := (mU_no (mU_no (mU_no fmb0).1).1).1
  have old : ∀ q, q ≠ a → M q ≠ none → M2 q = M q := fun q q1 q2 => by
    rw [hfr q (fun e => q2 (by rw [e]; exact Lcl)) (fun e => q2 (by rw [e]; exact Lnb)) (fun e => q2 (by rw [e]; exact Lmb)), mU_n (fun e => q2 (by rw [e]; exact Lcl)), mU_n q1, mU_n q1]
  have naa := mU_no faa
  have Laa : M aa = none := by
    cases h9 : M aa with
    | none => rfl
    | some e9 => have h8 := old aa naa.2 (by rw [h9]; exact fun h => by cases h); rw [naa.1, h9] at h8; cases h8
  have fin : ∀ q, q ≠ a → M q ≠ none → (mU (mU (mU M2 a (oB 9 [.ref sh, .int dv, .ref cl, w3, v0, v1, v2])) aa (aJ G ((N + 63) / 64) (fun _ => 0))) a (oB 9 [.ref sh, .int dv, .ref cl, .ref aa, v0, v1, v2])) q = M q := fun q q1 q2 => by
    rw [mU_n q1, mU_n (fun e => q2 (by rw [e]; exact Laa)), mU_n q1]; exact old q q1 q2
  exact q_vret X hr dX5_init_49 (⟨rfl, cl, nb, mb, aa, m_60, ⟨num, mk, m_66, m_67, m_68, c4, c5, c6⟩, m_69, Lcl, Lnb, Lmb, Laa, n_55, n_57, fin⟩)

set_option maxRecDepth 20000 in
theorem c_X5_init_10 {l : Launch} {G : gV} {M : gMem} {a sh m : Nat} {dv : Int32} {lo hi : Nat → Int32} {w0 w1 w2 w3 v0 v1 v2 : Value} (hA : M a = some (oB 10 [w0, w1, w2, w3, v0, v1, v2])) (hS : isShape G M sh (nI m) lo hi) (hO : okS m lo hi) (hN : sz3 lo hi ≤ 4096) : qC l G yX5_init cX5_init 3 none 3 4 (2 + (sz3 lo hi + (sz3 lo hi + 63) / 64) + (sz3 lo hi + 63) / 64) [.ref a, .ref sh, .int dv] M (ndP G M a 10 sh dv (sz3 lo hi) [v0, v1, v2]) := by
  refine qC_of (by decide +kernel) (Nat.le_of_ble_eq_true rfl) (fun F hF X hr hn => ?_)
  subst hF
  have X : qX G F cX5_init 3 RX5 3 := X
  obtain ⟨b, c, d, sp, s1, s2, s3, s4, s5, s6, s7, s8, s9⟩ := id hS
  have n1 : sh ≠ a := fun e => by rw [e, hA] at s1; cases s1
  have n2 : b ≠ a := fun e => by rw [e, hA] at s2; cases s2
  have n3 : c ≠ a := fun e => by rw [e, hA] at s3; cases s3
  have n4 : d ≠ a := fun e => by rw [e, hA] at s4; cases s4
  have n8 : sp.2.1 ≠ a := fun e => by rw [e, hA] at s8; cases s8
  generalize eN : sz3 lo hi = N at hN ⊢
  have eSz := hO.size
  rw [eN] at eSz
  show qJ G F _ 3 M 4 (2 + (N + (N + 63) / 64) + (N + 63) / 64) 0 [(0, .ref a), (1, .ref sh), (2, .int dv)] []
  refine q_aload_n X dX5_init_0 0 rfl ?_
  refine q_obj X tw_151 tw_38 tw_39 (by decide) (Nat.le_of_ble_eq_true rfl) dX5_init_1 ?_
  refine q_aload_n X dX5_init_4 0 rfl ?_
  refine q_aload_n X dX5_init_5 1 rfl ?_
  refine q_putF X hn hA rfl in_RX10 tyX10 tyX10_ok nmX10 0 (by decide) tw_159 rfl rfl rfl rfl rfl rfl (Nat.le_of_ble_eq_true rfl) (fs1 := [.ref sh, w1, w2, w3, v0, v1, v2]) rfl dX5_init_6 ?_
  have m_1 : (mU M a (oB 10 [.ref sh, w1, w2, w3, v0, v1, v2])) a = some (oB 10 [.ref sh, w1, w2, w3, v0, v1, v2]) := mU_s
  have m_2 : (mU M a (oB 10 [.ref sh, w1, w2, w3, v0, v1, v2])) sh = some (oB 7 [.int (nI m), .ref b, .ref c, .ref sp.2.1, .ref d, .int (sL lo hi 0 * sL lo hi 1 * sL lo hi 2)]) := (mU_n (n1)).trans s1
  have m_3 : (mU M a (oB 10 [.ref sh, w1, w2, w3, v0, v1, v2])) b = some (aI G 3 lo) := (mU_n (n2)).trans s2
  have m_4 : (mU M a (oB 10 [.ref sh, w1, w2, w3, v0, v1, v2])) c = some (aI G 3 hi) := (mU_n (n3)).trans s3
  have m_5 : (mU M a (oB 10 [.ref sh, w1, w2, w3, v0, v1, v2])) d = some (aI G 3 sp.1) := (mU_n (n4)).trans s4
  have m_6 : (mU M a (oB 10 [.ref sh, w1, w2, w3, v0, v1, v2])) sp.2.1 = some (aI G 3 sp.2.2) := (mU_n (n8)).trans s8
  refine q_aload_n X dX5_init_9 0 rfl ?_
  refine q_iload_n X dX5_init_10 2 rfl ?_
  refine q_putF X hn m_1 rfl in_RX10 tyX10 tyX10_ok nmX10 1 (by decide) tw_160 rfl rfl rfl rfl rfl rfl (Nat.le_of_ble_eq_true rfl) (fs1 := [.ref sh, .int dv, w2, w3, v0, v1, v2]) rfl dX5_init_11 ?_
  have m_7 : (mU (mU M a (oB 10 [.ref sh, w1, w2, w3, v0, v1, v2])) a (oB 10 [.ref sh, .int dv, w2, w3, v0, v1, v2])) a = some (oB 10 [.ref sh, .int dv, w2, w3, v0, v1, v2]) := mU_s
  have m_8 : (mU (mU M a (oB 10 [.ref sh, w1, w2, w3, v0, v1, v2])) a (oB 10 [.ref sh, .int dv, w2, w3, v0, v1, v2])) sh = some (oB 7 [.int (nI m), .ref b, .ref c, .ref sp.2.1, .ref d, .int (sL lo hi 0 * sL lo hi 1 * sL lo hi 2)]) := (mU_n (n1)).trans m_2
  have m_9 : (mU (mU M a (oB 10 [.ref sh, w1, w2, w3, v0, v1, v2])) a (oB 10 [.ref sh, .int dv, w2, w3, v0, v1, v2])) b = some (aI G 3 lo) := (mU_n (n2)).trans m_3
  have m_10 : (mU (mU M a (oB 10 [.ref sh, w1, w2, w3, v0, v1, v2])) a (oB 10 [.ref sh, .int dv, w2, w3, v0, v1, v2])) c = some (aI G 3 hi) := (mU_n (n3)).trans m_4
  have m_11 : (mU (mU M a (oB 10 [.ref sh, w1, w2, w3, v0, v1, v2])) a (oB 10 [.ref sh, .int dv, w2, w3, v0, v1, v2])) d = some (aI G 3 sp.1) := (mU_n (n4)).trans m_5
  have m_12 : (mU (mU M a (oB 10 [.ref sh, w1, w2, w3, v0, v1, v2])) a (oB 10 [.ref sh, .int dv, w2, w3, v0, v1, v2])) sp.2.1 = some (aI G 3 sp.2.2) := (mU_n (n8)).trans m_6
  refine q_aload_n X dX5_init_14 0 rfl ?_
  refine q_new X (ci := 1) rfl in_RX0 tyX0 tyX0_ok tw_152 tw_113 tw_6 (fs0 := [.null, .null]) (fun j hj => by rcases (show j = 0 ∨ j = 1 by omega) with rfl | rfl <;> rfl) (rc' := 3) (rs' := N + (N + 63) / 64 + (N + 63) / 64) (by omega) (by omega) dX5_init_15 (fun cl fcl => ?_)
  have n_13 : a ≠ cl := g_nef m_7 fcl
  have m_14 : (mU (mU (mU M a (oB 10 [.ref sh, w1, w2, w3, v0, v1, v2])) a (oB 10 [.ref sh, .int dv, w2, w3, v0, v1, v2])) cl (oB 1 [.null, .null])) a = some (oB 10 [.ref sh, .int dv, w2, w3, v0, v1, v2]) := (mU_n n_13).trans m_7
  have n_15 : sh ≠ cl := g_nef m_8 fcl
  have m_16 : (mU (mU (mU M a (oB 10 [.ref sh, w1, w2, w3, v0, v1, v2])) a (oB 10 [.ref sh, .int dv, w2, w3, v0, v1, v2])) cl (oB 1 [.null, .null])) sh = some (oB 7 [.int (nI m), .ref b, .ref c, .ref sp.2.1, .ref d, .int (sL lo hi 0 * sL lo hi 1 * sL lo hi 2)]) := (mU_n n_15).trans m_8
  have n_17 : b ≠ cl := g_nef m_9 fcl
  have m_18 : (mU (mU (mU M a (oB 10 [.ref sh, w1, w2, w3, v0, v1, v2])) a (oB 10 [.ref sh, .int dv, w2, w3, v0, v1, v2])) cl (oB 1 [.null, .null])) b = some (aI G 3 lo) := (mU_n n_17).trans m_9
  have n_19 : c ≠ cl := g_nef m_10 fcl
  have m_20 : (mU (mU (mU M a (oB 10 [.ref sh, w1, w2, w3, v0, v1, v2])) a (oB 10 [.ref sh, .int dv, w2, w3, v0, v1, v2])) cl (oB 1 [.null, .null])) c = some (aI G 3 hi) := (mU_n n_19).trans m_10
  have n_21 : d ≠ cl := g_nef m_11 fcl
  have m_22 : (mU (mU (mU M a (oB 10 [.ref sh, w1, w2, w3, v0, v1, v2])) a (oB 10 [.ref sh, .int dv, w2, w3, v0, v1, v2])) cl (oB 1 [.null, .null])) d = some (aI G 3 sp.1) := (mU_n n_21).trans m_11
  have n_23 : sp.2.1 ≠ cl := g_nef m_12 fcl
  have m_24 : (mU (mU (mU M a (oB 10 [.ref sh, w1, w2, w3, v0, v1, v2])) a (oB 10 [.ref sh, .int dv, w2, w3, v0, v1, v2])) cl (oB 1 [.null, .null])) sp.2.1 = some (aI G 3 sp.2.2) := (mU_n n_23).trans m_12
  have m_25 : (mU (mU (mU M a (oB 10 [.ref sh, w1, w2, w3, v0, v1, v2])) a (oB 10 [.ref sh, .int dv, w2, w3, v0, v1, v2])) cl (oB 1 [.null, .null])) cl = some (oB 1 [.null, .null]) := mU_s
  refine q_dup X dX5_init_18 rfl ?_
  refine q_aload_n X dX5_init_19 1 rfl ?_
  refine q_callVp X (c_X7_size (n := nI m) (lo := lo) (hi := hi) ⟨b, c, d, sp, m_16, m_18, m_20, m_22, s5, s6, s7, m_24, s9⟩) Y_X7_size tw_153 tw_115 tw_116 m_16 rfl (by decide) rfl rfl (Nat.le_of_ble_eq_true rfl) dX5_init_20 ?_
  rw [eSz]
  refine q_callI X (c_X0_init m_25 hN) Y_X0_init tw_154 tw_119 rfl (by decide) rfl rfl (Nat.le_of_ble_eq_true rfl) (rc' := 1) (rs' := (N + 63) / 64) (by omega) (by omega) dX5_init_23 (fun v M' hp _ => ?_)
  obtain ⟨rfl, nb, mb, hC, fnb0, fmb0, hfr⟩ := hp
  generalize M' = M2 at *
  have m_26 : M2 a = some (oB 10 [.ref sh, .int dv, w2, w3, v0, v1, v2]) := (hfr a (n_13) (g_nef m_14 fnb0) (g_nef m_14 fmb0)).trans m_14
  have m_27 : M2 sh = some (oB 7 [.int (nI m), .ref b, .ref c, .ref sp.2.1, .ref d, .int (sL lo hi 0 * sL lo hi 1 * sL lo hi 2)]) := (hfr sh (n_15) (g_nef m_16 fnb0) (g_nef m_16 fmb0)).trans m_16
  have m_28 : M2 b = some (aI G 3 lo) := (hfr b (n_17) (g_nef m_18 fnb0) (g_nef m_18 fmb0)).trans m_18
  have m_29 : M2 c = some (aI G 3 hi) := (hfr c (n_19) (g_nef m_20 fnb0) (g_nef m_20 fmb0)).trans m_20
  have m_30 : M2 d = some (aI G 3 sp.1) := (hfr d (n_21) (g_nef m_22 fnb0) (g_nef m_22 fmb0)).trans m_22
  have m_31 : M2 sp.2.1 = some (aI G 3 sp.2.2) := (hfr sp.2.1 (n_23) (g_nef m_24 fnb0) (g_nef m_24 fmb0)).trans m_24
  obtain ⟨num, mk, c1, c2, c3, c4, c5, c6⟩ := hC
  show qJ G F _ 3 M2 1 ((N + 63) / 64) 26 [(0, .ref a), (1, .ref sh), (2, .int dv)] [.ref cl, .ref a]
  refine q_putF X hn m_26 rfl in_RX10 tyX10 tyX10_ok nmX10 2 (by decide) tw_161 rfl rfl rfl rfl rfl rfl (Nat.le_of_ble_eq_true rfl) (fs1 := [.ref sh, .int dv, .ref cl, w3, v0, v1, v2]) rfl dX5_init_26 ?_
  have m_32 : (mU M2 a (oB 10 [.ref sh, .int dv, .ref cl, w3, v0, v1, v2])) a = some (oB 10 [.ref sh, .int dv, .ref cl, w3, v0, v1, v2]) := mU_s
  have m_33 : (mU M2 a (oB 10 [.ref sh, .int dv, .ref cl, w3, v0, v1, v2])) sh = some (oB 7 [.int (nI m), .ref b, .ref c, .ref sp.2.1, .ref d, .int (sL lo hi 0 * sL lo hi 1 * sL lo hi 2)]) := (mU_n (n1)).trans m_27
  have m_34 : (mU M2 a (oB 10 [.ref sh, .int dv, .ref cl, w3, v0, v1, v2])) b = some (aI G 3 lo) := (mU_n (n2)).trans m_28
  have m_35 : (mU M2 a (oB 10 [.ref sh, .int dv, .ref cl, w3, v0, v1, v2])) c = some (aI G 3 hi) := (mU_n (n3)).trans m_29
  have m_36 : (mU M2 a (oB 10 [.ref sh, .int dv, .ref cl, w3, v0, v1, v2])) d = some (aI G 3 sp.1) := (mU_n (n4)).trans m_30
  have m_37 : (mU M2 a (oB 10 [.ref sh, .int dv, .ref cl, w3, v0, v1, v2])) sp.2.1 = some (aI G 3 sp.2.2) := (mU_n (n8)).trans m_31
  have m_38 : (mU M2 a (oB 10 [.ref sh, .int dv, .ref cl, w3, v0, v1, v2])) cl = some (oB 1 [.ref nb, .ref mb]) := (mU_n (Ne.symm n_13)).trans c1
  have m_39 : (mU M2 a (oB 10 [.ref sh, .int dv, .ref cl, w3, v0, v1, v2])) nb = some (aJ G N num) := (mU_n ((g_nef m_14 fnb0).symm)).trans c2
  have m_40 : (mU M2 a (oB 10 [.ref sh, .int dv, .ref cl, w3, v0, v1, v2])) mb = some (aJ G ((N + 63) / 64) mk) := (mU_n ((g_nef m_14 fmb0).symm)).trans c3
  refine q_aload_n X dX5_init_29 0 rfl ?_
  refine q_aload_n X dX5_init_30 1 rfl ?_
  refine q_callVp X (c_X7_size (n := nI m) (lo := lo) (hi := hi) ⟨b, c, d, sp, m_33, m_34, m_35, m_36, s5, s6, s7, m_37, s9⟩) Y_X7_size tw_153 tw_115 tw_116 m_33 rfl (by decide) rfl rfl (Nat.le_of_ble_eq_true rfl) dX5_init_31 ?_
  rw [eSz]
  refine q_bipush (v := 63) X dX5_init_34 (by decide) ?_
  refine q_iadd X dX5_init_36 ?_
  refine q_bipush (v := 64) X dX5_init_37 (by decide) ?_
  refine q_idiv X dX5_init_39 (by decide) ?_
  rw [cw_div hN]
  refine q_iconst (v := 0) X dX5_init_40 (by decide) ?_
  refine q_callSp X (c_J9_max_7cf53) Y_J9_max_7cf53 tw_155 tw_123 (by decide) rfl rfl (Nat.le_of_ble_eq_true rfl) dX5_init_41 ?_
  rw [mxI_0 (by omega)]
  refine q_newJ X tw_132 ((N + 63) / 64) (rfl) (by omega) (rc' := 0) (rs' := 0) (by omega) (by omega) dX5_init_44 (fun aa faa => ?_)
  have n_41 : a ≠ aa := g_nef m_32 faa
  have m_42 : (mU (mU M2 a (oB 10 [.ref sh, .int dv, .ref cl, w3, v0, v1, v2])) aa (aJ G ((N + 63) / 64) (fun _ => 0))) a = some (oB 10 [.ref sh, .int dv, .ref cl, w3, v0, v1, v2]) := (mU_n n_41).trans m_32
  have n_43 : sh ≠ aa := g_nef m_33 faa
  have m_44 : (mU (mU M2 a (oB 10 [.ref sh, .int dv, .ref cl, w3, v0, v1, v2])) aa (aJ G ((N + 63) / 64) (fun _ => 0))) sh = some (oB 7 [.int (nI m), .ref b, .ref c, .ref sp.2.1, .ref d, .int (sL lo hi 0 * sL lo hi 1 * sL lo hi 2)]) := (mU_n n_43).trans m_33
  have n_45 : b ≠ aa := g_nef m_34 faa
  have m_46 : (mU (mU M2 a (oB 10 [.ref sh, .int dv, .ref cl, w3, v0, v1, v2])) aa (aJ G ((N + 63) / 64) (fun _ => 0))) b = some (aI G 3 lo) := (mU_n n_45).trans m_34
  have n_47 : c ≠ aa := g_nef m_35 faa
  have m_48 : (mU (mU M2 a (oB 10 [.ref sh, .int dv, .ref cl, w3, v0, v1, v2])) aa (aJ G ((N + 63) / 64) (fun _ => 0))) c = some (aI G 3 hi) := (mU_n n_47).trans m_35
  have n_49 : d ≠ aa := g_nef m_36 faa
  have m_50 : (mU (mU M2 a (oB 10 [.ref sh, .int dv, .ref cl, w3, v0, v1, v2])) aa (aJ G ((N + 63) / 64) (fun _ => 0))) d = some (aI G 3 sp.1) := (mU_n n_49).trans m_36
  have n_51 : sp.2.1 ≠ aa := g_nef m_37 faa
  have m_52 : (mU (mU M2 a (oB 10 [.ref sh, .int dv, .ref cl, w3, v0, v1, v2])) aa (aJ G ((N + 63) / 64) (fun _ => 0))) sp.2.1 = some (aI G 3 sp.2.2) := (mU_n n_51).trans m_37
  have n_53 : cl ≠ aa := g_nef m_38 faa
  have m_54 : (mU (mU M2 a (oB 10 [.ref sh, .int dv, .ref cl, w3, v0, v1, v2])) aa (aJ G ((N + 63) / 64) (fun _ => 0))) cl = some (oB 1 [.ref nb, .ref mb]) := (mU_n n_53).trans m_38
  have n_55 : nb ≠ aa := g_nef m_39 faa
  have m_56 : (mU (mU M2 a (oB 10 [.ref sh, .int dv, .ref cl, w3, v0, v1, v2])) aa (aJ G ((N + 63) / 64) (fun _ => 0))) nb = some (aJ G N num) := (mU_n n_55).trans m_39
  have n_57 : mb ≠ aa := g_nef m_40 faa
  have m_58 : (mU (mU M2 a (oB 10 [.ref sh, .int dv, .ref cl, w3, v0, v1, v2])) aa (aJ G ((N + 63) / 64) (fun _ => 0))) mb = some (aJ G ((N + 63) / 64) mk) := (mU_n n_57).trans m_40
  have m_59 : (mU (mU M2 a (oB 10 [.ref sh, .int dv, .ref cl, w3, v0, v1, v2])) aa (aJ G ((N + 63) / 64) (fun _ => 0))) aa = some (aJ G ((N + 63) / 64) (fun _ => 0)) := mU_s
  refine q_putF X hn m_42 rfl in_RX10 tyX10 tyX10_ok nmX10 3 (by decide) tw_162 rfl rfl rfl rfl rfl rfl (Nat.le_of_ble_eq_true rfl) (fs1 := [.ref sh, .int dv, .ref cl, .ref aa, v0, v1, v2]) rfl dX5_init_46 ?_
  have m_60 : (mU (mU (mU M2 a (oB 10 [.ref sh, .int dv, .ref cl, w3, v0, v1, v2])) aa (aJ G ((N + 63) / 64) (fun _ => 0))) a (oB 10 [.ref sh, .int dv, .ref cl, .ref aa, v0, v1, v2])) a = some (oB 10 [.ref sh, .int dv, .ref cl, .ref aa, v0, v1, v2]) := mU_s
  have m_61 : (mU (mU (mU M2 a (oB 10 [.ref sh, .int dv, .ref cl, w3, v0, v1, v2])) aa (aJ G ((N + 63) / 64) (fun _ => 0))) a (oB 10 [.ref sh, .int dv, .ref cl, .ref aa, v0, v1, v2])) sh = some (oB 7 [.int (nI m), .ref b, .ref c, .ref sp.2.1, .ref d, .int (sL lo hi 0 * sL lo hi 1 * sL lo hi 2)]) := (mU_n (n1)).trans m_44
  have m_62 : (mU (mU (mU M2 a (oB 10 [.ref sh, .int dv, .ref cl, w3, v0, v1, v2])) aa (aJ G ((N + 63) / 64) (fun _ => 0))) a (oB 10 [.ref sh, .int dv, .ref cl, .ref aa, v0, v1, v2])) b = some (aI G 3 lo) := (mU_n (n2)).trans m_46
  have m_63 : (mU (mU (mU M2 a (oB 10 [.ref sh, .int dv, .ref cl, w3, v0, v1, v2])) aa (aJ G ((N + 63) / 64) (fun _ => 0))) a (oB 10 [.ref sh, .int dv, .ref cl, .ref aa, v0, v1, v2])) c = some (aI G 3 hi) := (mU_n (n3)).trans m_48
  have m_64 : (mU (mU (mU M2 a (oB 10 [.ref sh, .int dv, .ref cl, w3, v0, v1, v2])) aa (aJ G ((N + 63) / 64) (fun _ => 0))) a (oB 10 [.ref sh, .int dv, .ref cl, .ref aa, v0, v1, v2])) d = some (aI G 3 sp.1) := (mU_n (n4)).trans m_50
  have m_65 : (mU (mU (mU M2 a (oB 10 [.ref sh, .int dv, .ref cl, w3, v0, v1, v2])) aa (aJ G ((N + 63) / 64) (fun _ => 0))) a (oB 10 [.ref sh, .int dv, .ref cl, .ref aa, v0, v1, v2])) sp.2.1 = some (aI G 3 sp.2.2) := (mU_n (n8)).trans m_52
  have m_66 : (mU (mU (mU M2 a (oB 10 [.ref sh, .int dv, .ref cl, w3, v0, v1, v2])) aa (aJ G ((N + 63) / 64) (fun _ => 0))) a (oB 10 [.ref sh, .int dv, .ref cl, .ref aa, v0, v1, v2])) cl = some (oB 1 [.ref nb, .ref mb]) := (mU_n (Ne.symm n_13)).trans m_54
  have m_67 : (mU (mU (mU M2 a (oB 10 [.ref sh, .int dv, .ref cl, w3, v0, v1, v2])) aa (aJ G ((N + 63) / 64) (fun _ => 0))) a (oB 10 [.ref sh, .int dv, .ref cl, .ref aa, v0, v1, v2])) nb = some (aJ G N num) := (mU_n ((g_nef m_14 fnb0).symm)).trans m_56
  have m_68 : (mU (mU (mU M2 a (oB 10 [.ref sh, .int dv, .ref cl, w3, v0, v1, v2])) aa (aJ G ((N + 63) / 64) (fun _ => 0))) a (oB 10 [.ref sh, .int dv, .ref cl, .ref aa, v0, v1, v2])) mb = some (aJ G ((N + 63) / 64) mk) := (mU_n ((g_nef m_14 fmb0).symm)).trans m_58
  have m_69 : (mU (mU (mU M2 a (oB 10 [.ref sh, .int dv, .ref cl, w3, v0, v1, v2])) aa (aJ G ((N + 63) / 64) (fun _ => 0))) a (oB 10 [.ref sh, .int dv, .ref cl, .ref aa, v0, v1, v2])) aa = some (aJ G ((N + 63) / 64) (fun _ => 0)) := (mU_n (Ne.symm n_41)).trans m_59
  have Lcl : M cl = none := (mU_no (mU_no fcl).1).1
  have Lnb : M nb = none := (mU_no (mU_no (mU_no fnb0).1).1).1
  have Lmb : M mb = none := (mU_no (mU_no (mU_no fmb0).1).1).1
  have old : ∀ q, q ≠ a → M q ≠ none → M2 q = M q := fun q q1 q2 => by
    rw [hfr q (fun e => q2 (by rw [e]; exact Lcl)) (fun e => q2 (by rw [e]; exact Lnb)) (fun e => q2 (by rw [e]; exact Lmb)), mU_n (fun e => q2 (by rw [e]; exact Lcl)), mU_n q1, mU_n q1]
  have naa := mU_no faa
  have Laa : M aa = none := by
    cases h9 : M aa with
    | none => rfl
    | some e9 => have h8 := old aa naa.2 (by rw [h9]; exact fun h => by cases h); rw [naa.1, h9] at h8; cases h8
  have fin : ∀ q, q ≠ a → M q ≠ none → (mU (mU (mU M2 a (oB 10 [.ref sh, .int dv, .ref cl, w3, v0, v1, v2])) aa (aJ G ((N + 63) / 64) (fun _ => 0))) a (oB 10 [.ref sh, .int dv, .ref cl, .ref aa, v0, v1, v2])) q = M q := fun q q1 q2 => by
    rw [mU_n q1, mU_n (fun e => q2 (by rw [e]; exact Laa)), mU_n q1]; exact old q q1 q2
  exact q_vret X hr dX5_init_49 (⟨rfl, cl, nb, mb, aa, m_60, ⟨num, mk, m_66, m_67, m_68, c4, c5, c6⟩, m_69, Lcl, Lnb, Lmb, Laa, n_55, n_57, fin⟩)
