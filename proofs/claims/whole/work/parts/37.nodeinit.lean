/-! making nodes -/
/-- a node's common part was made -/
def ndP (G : gV) (M : gMem) (a ci sh : Nat) (dv : Int32) (N : Nat) (ex : List Value) : Option Value → gMem → Prop := fun v M' => v = none ∧ ∃ cl nb mb aa : Nat, M' a = some (oB ci (.ref sh :: .int dv :: .ref cl :: .ref aa :: ex)) ∧ isCells G M' cl nb mb N (fun _ => none) ∧ M' aa = some (aJ G ((N + 63) / 64) (fun _ => 0)) ∧ M cl = none ∧ M nb = none ∧ M mb = none ∧ M aa = none ∧ nb ≠ aa ∧ mb ≠ aa ∧ ∀ q, q ≠ a → M q ≠ none → M' q = M q
theorem mU_no {M : gMem} {a q : Nat} {e : va_E} (h : mU M a e q = none) : M q = none ∧ q ≠ a := by
  unfold mU at h
  by_cases e1 : q = a
  · rw [if_pos e1] at h; cases h
  · rw [if_neg e1] at h; exact ⟨h, e1⟩

set_option maxRecDepth 20000 in
theorem c_X5_init_3 {l : Launch} {G : gV} {M : gMem} {a sh m : Nat} {dv : Int32} {lo hi : Nat → Int32} {w0 w1 w2 w3 v0 v1 v2 : Value} (hA : M a = some (oB 3 [w0, w1, w2, w3, v0, v1, v2])) (hS : isShape G M sh (nI m) lo hi) (hO : okS m lo hi) (hN : sz3 lo hi ≤ 4096) : qC l G yX5_init cX5_init 3 none 3 4 (2 + (sz3 lo hi + (sz3 lo hi + 63) / 64) + (sz3 lo hi + 63) / 64) [.ref a, .ref sh, .int dv] M (ndP G M a 3 sh dv (sz3 lo hi) [v0, v1, v2]) := by
  refine qC_of (by decide +kernel) (Nat.le_of_ble_eq_true rfl) (fun F hF X hr hn => ?_)
  subst hF
  have X : qX G F cX5_init 3 RX5 3 := X
  obtain ⟨b, c, d, sp, s1, s2, s3, s4, s5, s6, s7⟩ := id hS
  have n1 : sh ≠ a := fun e => by rw [e, hA] at s1; cases s1
  have n2 : b ≠ a := fun e => by rw [e, hA] at s2; cases s2
  have n3 : c ≠ a := fun e => by rw [e, hA] at s3; cases s3
  have n4 : d ≠ a := fun e => by rw [e, hA] at s4; cases s4
  generalize eN : sz3 lo hi = N at hN ⊢
  have eSz := hO.size
  rw [eN] at eSz
  show qJ G F _ 3 M 4 (2 + (N + (N + 63) / 64) + (N + 63) / 64) 0 [(0, .ref a), (1, .ref sh), (2, .int dv)] []
  refine q_aload_n X dX5_init_0 0 rfl ?_
  refine q_obj X tw_144 tw_38 tw_39 (by decide) (Nat.le_of_ble_eq_true rfl) dX5_init_1 ?_
  refine q_aload_n X dX5_init_4 0 rfl ?_
  refine q_aload_n X dX5_init_5 1 rfl ?_
  refine q_putF X hn hA rfl in_RX2 tyX2 tyX2_ok nmX2 0 (by decide) tw_152 rfl rfl rfl rfl rfl rfl (Nat.le_of_ble_eq_true rfl) (fs1 := [.ref sh, w1, w2, w3, v0, v1, v2]) rfl dX5_init_6 ?_
  have m_1 : (mU M a (oB 3 [.ref sh, w1, w2, w3, v0, v1, v2])) a = some (oB 3 [.ref sh, w1, w2, w3, v0, v1, v2]) := mU_s
  have m_2 : (mU M a (oB 3 [.ref sh, w1, w2, w3, v0, v1, v2])) sh = some (oB 7 [.int (nI m), .ref b, .ref c, .ref d, .int (sL lo hi 0 * sL lo hi 1 * sL lo hi 2)]) := (mU_n (n1)).trans s1
  have m_3 : (mU M a (oB 3 [.ref sh, w1, w2, w3, v0, v1, v2])) b = some (aI G 3 lo) := (mU_n (n2)).trans s2
  have m_4 : (mU M a (oB 3 [.ref sh, w1, w2, w3, v0, v1, v2])) c = some (aI G 3 hi) := (mU_n (n3)).trans s3
  have m_5 : (mU M a (oB 3 [.ref sh, w1, w2, w3, v0, v1, v2])) d = some (aI G 3 sp) := (mU_n (n4)).trans s4
  refine q_aload_n X dX5_init_9 0 rfl ?_
  refine q_iload_n X dX5_init_10 2 rfl ?_
  refine q_putF X hn m_1 rfl in_RX2 tyX2 tyX2_ok nmX2 1 (by decide) tw_153 rfl rfl rfl rfl rfl rfl (Nat.le_of_ble_eq_true rfl) (fs1 := [.ref sh, .int dv, w2, w3, v0, v1, v2]) rfl dX5_init_11 ?_
  have m_6 : (mU (mU M a (oB 3 [.ref sh, w1, w2, w3, v0, v1, v2])) a (oB 3 [.ref sh, .int dv, w2, w3, v0, v1, v2])) a = some (oB 3 [.ref sh, .int dv, w2, w3, v0, v1, v2]) := mU_s
  have m_7 : (mU (mU M a (oB 3 [.ref sh, w1, w2, w3, v0, v1, v2])) a (oB 3 [.ref sh, .int dv, w2, w3, v0, v1, v2])) sh = some (oB 7 [.int (nI m), .ref b, .ref c, .ref d, .int (sL lo hi 0 * sL lo hi 1 * sL lo hi 2)]) := (mU_n (n1)).trans m_2
  have m_8 : (mU (mU M a (oB 3 [.ref sh, w1, w2, w3, v0, v1, v2])) a (oB 3 [.ref sh, .int dv, w2, w3, v0, v1, v2])) b = some (aI G 3 lo) := (mU_n (n2)).trans m_3
  have m_9 : (mU (mU M a (oB 3 [.ref sh, w1, w2, w3, v0, v1, v2])) a (oB 3 [.ref sh, .int dv, w2, w3, v0, v1, v2])) c = some (aI G 3 hi) := (mU_n (n3)).trans m_4
  have m_10 : (mU (mU M a (oB 3 [.ref sh, w1, w2, w3, v0, v1, v2])) a (oB 3 [.ref sh, .int dv, w2, w3, v0, v1, v2])) d = some (aI G 3 sp) := (mU_n (n4)).trans m_5
  refine q_aload_n X dX5_init_14 0 rfl ?_
  refine q_new X (ci := 1) rfl in_RX0 tyX0 tyX0_ok tw_145 tw_106 tw_6 (fs0 := [.null, .null]) (fun j hj => by rcases (show j = 0 ∨ j = 1 by omega) with rfl | rfl <;> rfl) (rc' := 3) (rs' := N + (N + 63) / 64 + (N + 63) / 64) (by omega) (by omega) dX5_init_15 (fun cl fcl => ?_)
  have n_11 : a ≠ cl := g_nef m_6 fcl
  have m_12 : (mU (mU (mU M a (oB 3 [.ref sh, w1, w2, w3, v0, v1, v2])) a (oB 3 [.ref sh, .int dv, w2, w3, v0, v1, v2])) cl (oB 1 [.null, .null])) a = some (oB 3 [.ref sh, .int dv, w2, w3, v0, v1, v2]) := (mU_n n_11).trans m_6
  have n_13 : sh ≠ cl := g_nef m_7 fcl
  have m_14 : (mU (mU (mU M a (oB 3 [.ref sh, w1, w2, w3, v0, v1, v2])) a (oB 3 [.ref sh, .int dv, w2, w3, v0, v1, v2])) cl (oB 1 [.null, .null])) sh = some (oB 7 [.int (nI m), .ref b, .ref c, .ref d, .int (sL lo hi 0 * sL lo hi 1 * sL lo hi 2)]) := (mU_n n_13).trans m_7
  have n_15 : b ≠ cl := g_nef m_8 fcl
  have m_16 : (mU (mU (mU M a (oB 3 [.ref sh, w1, w2, w3, v0, v1, v2])) a (oB 3 [.ref sh, .int dv, w2, w3, v0, v1, v2])) cl (oB 1 [.null, .null])) b = some (aI G 3 lo) := (mU_n n_15).trans m_8
  have n_17 : c ≠ cl := g_nef m_9 fcl
  have m_18 : (mU (mU (mU M a (oB 3 [.ref sh, w1, w2, w3, v0, v1, v2])) a (oB 3 [.ref sh, .int dv, w2, w3, v0, v1, v2])) cl (oB 1 [.null, .null])) c = some (aI G 3 hi) := (mU_n n_17).trans m_9
  have n_19 : d ≠ cl := g_nef m_10 fcl
  have m_20 : (mU (mU (mU M a (oB 3 [.ref sh, w1, w2, w3, v0, v1, v2])) a (oB 3 [.ref sh, .int dv, w2, w3, v0, v1, v2])) cl (oB 1 [.null, .null])) d = some (aI G 3 sp) := (mU_n n_19).trans m_10
  have m_21 : (mU (mU (mU M a (oB 3 [.ref sh, w1, w2, w3, v0, v1, v2])) a (oB 3 [.ref sh, .int dv, w2, w3, v0, v1, v2])) cl (oB 1 [.null, .null])) cl = some (oB 1 [.null, .null]) := mU_s
  refine q_dup X dX5_init_18 rfl ?_
  refine q_aload_n X dX5_init_19 1 rfl ?_
  refine q_callVp X (c_X7_size (n := nI m) (lo := lo) (hi := hi) ⟨b, c, d, sp, m_14, m_16, m_18, m_20, s5, s6, s7⟩) Y_X7_size tw_146 tw_108 tw_109 m_14 rfl (by decide) rfl rfl (Nat.le_of_ble_eq_true rfl) dX5_init_20 ?_
  rw [eSz]
  refine q_callI X (c_X0_init m_21 hN) Y_X0_init tw_147 tw_112 rfl (by decide) rfl rfl (Nat.le_of_ble_eq_true rfl) (rc' := 1) (rs' := (N + 63) / 64) (by omega) (by omega) dX5_init_23 (fun v M' hp _ => ?_)
  obtain ⟨rfl, nb, mb, hC, fnb0, fmb0, hfr⟩ := hp
  generalize M' = M2 at *
  have m_22 : M2 a = some (oB 3 [.ref sh, .int dv, w2, w3, v0, v1, v2]) := (hfr a (n_11) (g_nef m_12 fnb0) (g_nef m_12 fmb0)).trans m_12
  have m_23 : M2 sh = some (oB 7 [.int (nI m), .ref b, .ref c, .ref d, .int (sL lo hi 0 * sL lo hi 1 * sL lo hi 2)]) := (hfr sh (n_13) (g_nef m_14 fnb0) (g_nef m_14 fmb0)).trans m_14
  have m_24 : M2 b = some (aI G 3 lo) := (hfr b (n_15) (g_nef m_16 fnb0) (g_nef m_16 fmb0)).trans m_16
  have m_25 : M2 c = some (aI G 3 hi) := (hfr c (n_17) (g_nef m_18 fnb0) (g_nef m_18 fmb0)).trans m_18
  have m_26 : M2 d = some (aI G 3 sp) := (hfr d (n_19) (g_nef m_20 fnb0) (g_nef m_20 fmb0)).trans m_20
  obtain ⟨num, mk, c1, c2, c3, c4, c5, c6⟩ := hC
  show qJ G F _ 3 M2 1 ((N + 63) / 64) 26 [(0, .ref a), (1, .ref sh), (2, .int dv)] [.ref cl, .ref a]
  refine q_putF X hn m_22 rfl in_RX2 tyX2 tyX2_ok nmX2 2 (by decide) tw_154 rfl rfl rfl rfl rfl rfl (Nat.le_of_ble_eq_true rfl) (fs1 := [.ref sh, .int dv, .ref cl, w3, v0, v1, v2]) rfl dX5_init_26 ?_
  have m_27 : (mU M2 a (oB 3 [.ref sh, .int dv, .ref cl, w3, v0, v1, v2])) a = some (oB 3 [.ref sh, .int dv, .ref cl, w3, v0, v1, v2]) := mU_s
  have m_28 : (mU M2 a (oB 3 [.ref sh, .int dv, .ref cl, w3, v0, v1, v2])) sh = some (oB 7 [.int (nI m), .ref b, .ref c, .ref d, .int (sL lo hi 0 * sL lo hi 1 * sL lo hi 2)]) := (mU_n (n1)).trans m_23
  have m_29 : (mU M2 a (oB 3 [.ref sh, .int dv, .ref cl, w3, v0, v1, v2])) b = some (aI G 3 lo) := (mU_n (n2)).trans m_24
  have m_30 : (mU M2 a (oB 3 [.ref sh, .int dv, .ref cl, w3, v0, v1, v2])) c = some (aI G 3 hi) := (mU_n (n3)).trans m_25
  have m_31 : (mU M2 a (oB 3 [.ref sh, .int dv, .ref cl, w3, v0, v1, v2])) d = some (aI G 3 sp) := (mU_n (n4)).trans m_26
  have m_32 : (mU M2 a (oB 3 [.ref sh, .int dv, .ref cl, w3, v0, v1, v2])) cl = some (oB 1 [.ref nb, .ref mb]) := (mU_n (Ne.symm n_11)).trans c1
  have m_33 : (mU M2 a (oB 3 [.ref sh, .int dv, .ref cl, w3, v0, v1, v2])) nb = some (aJ G N num) := (mU_n ((g_nef m_12 fnb0).symm)).trans c2
  have m_34 : (mU M2 a (oB 3 [.ref sh, .int dv, .ref cl, w3, v0, v1, v2])) mb = some (aJ G ((N + 63) / 64) mk) := (mU_n ((g_nef m_12 fmb0).symm)).trans c3
  refine q_aload_n X dX5_init_29 0 rfl ?_
  refine q_aload_n X dX5_init_30 1 rfl ?_
  refine q_callVp X (c_X7_size (n := nI m) (lo := lo) (hi := hi) ⟨b, c, d, sp, m_28, m_29, m_30, m_31, s5, s6, s7⟩) Y_X7_size tw_146 tw_108 tw_109 m_28 rfl (by decide) rfl rfl (Nat.le_of_ble_eq_true rfl) dX5_init_31 ?_
  rw [eSz]
  refine q_bipush (v := 63) X dX5_init_34 (by decide) ?_
  refine q_iadd X dX5_init_36 ?_
  refine q_bipush (v := 64) X dX5_init_37 (by decide) ?_
  refine q_idiv X dX5_init_39 (by decide) ?_
  rw [cw_div hN]
  refine q_iconst (v := 0) X dX5_init_40 (by decide) ?_
  refine q_callSp X (c_J9_max_7cf53) Y_J9_max_7cf53 tw_148 tw_116 (by decide) rfl rfl (Nat.le_of_ble_eq_true rfl) dX5_init_41 ?_
  rw [mxI_0 (by omega)]
  refine q_newJ X tw_125 ((N + 63) / 64) (rfl) (by omega) (rc' := 0) (rs' := 0) (by omega) (by omega) dX5_init_44 (fun aa faa => ?_)
  have n_35 : a ≠ aa := g_nef m_27 faa
  have m_36 : (mU (mU M2 a (oB 3 [.ref sh, .int dv, .ref cl, w3, v0, v1, v2])) aa (aJ G ((N + 63) / 64) (fun _ => 0))) a = some (oB 3 [.ref sh, .int dv, .ref cl, w3, v0, v1, v2]) := (mU_n n_35).trans m_27
  have n_37 : sh ≠ aa := g_nef m_28 faa
  have m_38 : (mU (mU M2 a (oB 3 [.ref sh, .int dv, .ref cl, w3, v0, v1, v2])) aa (aJ G ((N + 63) / 64) (fun _ => 0))) sh = some (oB 7 [.int (nI m), .ref b, .ref c, .ref d, .int (sL lo hi 0 * sL lo hi 1 * sL lo hi 2)]) := (mU_n n_37).trans m_28
  have n_39 : b ≠ aa := g_nef m_29 faa
  have m_40 : (mU (mU M2 a (oB 3 [.ref sh, .int dv, .ref cl, w3, v0, v1, v2])) aa (aJ G ((N + 63) / 64) (fun _ => 0))) b = some (aI G 3 lo) := (mU_n n_39).trans m_29
  have n_41 : c ≠ aa := g_nef m_30 faa
  have m_42 : (mU (mU M2 a (oB 3 [.ref sh, .int dv, .ref cl, w3, v0, v1, v2])) aa (aJ G ((N + 63) / 64) (fun _ => 0))) c = some (aI G 3 hi) := (mU_n n_41).trans m_30
  have n_43 : d ≠ aa := g_nef m_31 faa
  have m_44 : (mU (mU M2 a (oB 3 [.ref sh, .int dv, .ref cl, w3, v0, v1, v2])) aa (aJ G ((N + 63) / 64) (fun _ => 0))) d = some (aI G 3 sp) := (mU_n n_43).trans m_31
  have n_45 : cl ≠ aa := g_nef m_32 faa
  have m_46 : (mU (mU M2 a (oB 3 [.ref sh, .int dv, .ref cl, w3, v0, v1, v2])) aa (aJ G ((N + 63) / 64) (fun _ => 0))) cl = some (oB 1 [.ref nb, .ref mb]) := (mU_n n_45).trans m_32
  have n_47 : nb ≠ aa := g_nef m_33 faa
  have m_48 : (mU (mU M2 a (oB 3 [.ref sh, .int dv, .ref cl, w3, v0, v1, v2])) aa (aJ G ((N + 63) / 64) (fun _ => 0))) nb = some (aJ G N num) := (mU_n n_47).trans m_33
  have n_49 : mb ≠ aa := g_nef m_34 faa
  have m_50 : (mU (mU M2 a (oB 3 [.ref sh, .int dv, .ref cl, w3, v0, v1, v2])) aa (aJ G ((N + 63) / 64) (fun _ => 0))) mb = some (aJ G ((N + 63) / 64) mk) := (mU_n n_49).trans m_34
  have m_51 : (mU (mU M2 a (oB 3 [.ref sh, .int dv, .ref cl, w3, v0, v1, v2])) aa (aJ G ((N + 63) / 64) (fun _ => 0))) aa = some (aJ G ((N + 63) / 64) (fun _ => 0)) := mU_s
  refine q_putF X hn m_36 rfl in_RX2 tyX2 tyX2_ok nmX2 3 (by decide) tw_155 rfl rfl rfl rfl rfl rfl (Nat.le_of_ble_eq_true rfl) (fs1 := [.ref sh, .int dv, .ref cl, .ref aa, v0, v1, v2]) rfl dX5_init_46 ?_
  have m_52 : (mU (mU (mU M2 a (oB 3 [.ref sh, .int dv, .ref cl, w3, v0, v1, v2])) aa (aJ G ((N + 63) / 64) (fun _ => 0))) a (oB 3 [.ref sh, .int dv, .ref cl, .ref aa, v0, v1, v2])) a = some (oB 3 [.ref sh, .int dv, .ref cl, .ref aa, v0, v1, v2]) := mU_s
  have m_53 : (mU (mU (mU M2 a (oB 3 [.ref sh, .int dv, .ref cl, w3, v0, v1, v2])) aa (aJ G ((N + 63) / 64) (fun _ => 0))) a (oB 3 [.ref sh, .int dv, .ref cl, .ref aa, v0, v1, v2])) sh = some (oB 7 [.int (nI m), .ref b, .ref c, .ref d, .int (sL lo hi 0 * sL lo hi 1 * sL lo hi 2)]) := (mU_n (n1)).trans m_38
  have m_54 : (mU (mU (mU M2 a (oB 3 [.ref sh, .int dv, .ref cl, w3, v0, v1, v2])) aa (aJ G ((N + 63) / 64) (fun _ => 0))) a (oB 3 [.ref sh, .int dv, .ref cl, .ref aa, v0, v1, v2])) b = some (aI G 3 lo) := (mU_n (n2)).trans m_40
  have m_55 : (mU (mU (mU M2 a (oB 3 [.ref sh, .int dv, .ref cl, w3, v0, v1, v2])) aa (aJ G ((N + 63) / 64) (fun _ => 0))) a (oB 3 [.ref sh, .int dv, .ref cl, .ref aa, v0, v1, v2])) c = some (aI G 3 hi) := (mU_n (n3)).trans m_42
  have m_56 : (mU (mU (mU M2 a (oB 3 [.ref sh, .int dv, .ref cl, w3, v0, v1, v2])) aa (aJ G ((N + 63) / 64) (fun _ => 0))) a (oB 3 [.ref sh, .int dv, .ref cl, .ref aa, v0, v1, v2])) d = some (aI G 3 sp) := (mU_n (n4)).trans m_44
  have m_57 : (mU (mU (mU M2 a (oB 3 [.ref sh, .int dv, .ref cl, w3, v0, v1, v2])) aa (aJ G ((N + 63) / 64) (fun _ => 0))) a (oB 3 [.ref sh, .int dv, .ref cl, .ref aa, v0, v1, v2])) cl = some (oB 1 [.ref nb, .ref mb]) := (mU_n (Ne.symm n_11)).trans m_46
  have m_58 : (mU (mU (mU M2 a (oB 3 [.ref sh, .int dv, .ref cl, w3, v0, v1, v2])) aa (aJ G ((N + 63) / 64) (fun _ => 0))) a (oB 3 [.ref sh, .int dv, .ref cl, .ref aa, v0, v1, v2])) nb = some (aJ G N num) := (mU_n ((g_nef m_12 fnb0).symm)).trans m_48
  have m_59 : (mU (mU (mU M2 a (oB 3 [.ref sh, .int dv, .ref cl, w3, v0, v1, v2])) aa (aJ G ((N + 63) / 64) (fun _ => 0))) a (oB 3 [.ref sh, .int dv, .ref cl, .ref aa, v0, v1, v2])) mb = some (aJ G ((N + 63) / 64) mk) := (mU_n ((g_nef m_12 fmb0).symm)).trans m_50
  have m_60 : (mU (mU (mU M2 a (oB 3 [.ref sh, .int dv, .ref cl, w3, v0, v1, v2])) aa (aJ G ((N + 63) / 64) (fun _ => 0))) a (oB 3 [.ref sh, .int dv, .ref cl, .ref aa, v0, v1, v2])) aa = some (aJ G ((N + 63) / 64) (fun _ => 0)) := (mU_n (Ne.symm n_35)).trans m_51
  have Lcl : M cl = none := (mU_no (mU_no fcl).1).1
  have Lnb : M nb = none := (mU_no (mU_no (mU_no fnb0).1).1).1
  have Lmb : M mb = none := (mU_no (mU_no (mU_no fmb0).1).1).1
  have old : ∀ q, q ≠ a → M q ≠ none → M2 q = M q := fun q q1 q2 => by
    rw [hfr q (fun e => q2 (by rw [e]; exact Lcl)) (fun e => q2 (by rw [e]; exact Lnb)) (fun e => q2 (by rw [e]; exact Lmb)), mU_n (fun e => q2 (by rw [e]; exact Lcl)), mU_n q1, mU_n q1]
  have naa := mU_no faa
  have Laa : M aa = none := by
    cases h9 : M aa with
    | none => rfl
    | some e9 => have h8 := old aa naa.2 (by rw [h9]; exact fun h => by cases h); rw [naa.1, h9] at h8; cases h8
  have fin : ∀ q, q ≠ a → M q ≠ none → (mU (mU (mU M2 a (oB 3 [.ref sh, .int dv, .ref cl, w3, v0, v1, v2])) aa (aJ G ((N + 63) / 64) (fun _ => 0))) a (oB 3 [.ref sh, .int dv, .ref cl, .ref aa, v0, v1, v2])) q = M q := fun q q1 q2 => by
    rw [mU_n q1, mU_n (fun e => q2 (by rw [e]; exact Laa)), mU_n q1]; exact old q q1 q2
  exact q_vret X hr dX5_init_49 (⟨rfl, cl, nb, mb, aa, m_52, ⟨num, mk, m_57, m_58, m_59, c4, c5, c6⟩, m_60, Lcl, Lnb, Lmb, Laa, n_47, n_49, fin⟩)

set_option maxRecDepth 20000 in
theorem c_X5_init_4 {l : Launch} {G : gV} {M : gMem} {a sh m : Nat} {dv : Int32} {lo hi : Nat → Int32} {w0 w1 w2 w3 v0 v1 v2 v3 v4 : Value} (hA : M a = some (oB 4 [w0, w1, w2, w3, v0, v1, v2, v3, v4])) (hS : isShape G M sh (nI m) lo hi) (hO : okS m lo hi) (hN : sz3 lo hi ≤ 4096) : qC l G yX5_init cX5_init 3 none 3 4 (2 + (sz3 lo hi + (sz3 lo hi + 63) / 64) + (sz3 lo hi + 63) / 64) [.ref a, .ref sh, .int dv] M (ndP G M a 4 sh dv (sz3 lo hi) [v0, v1, v2, v3, v4]) := by
  refine qC_of (by decide +kernel) (Nat.le_of_ble_eq_true rfl) (fun F hF X hr hn => ?_)
  subst hF
  have X : qX G F cX5_init 3 RX5 3 := X
  obtain ⟨b, c, d, sp, s1, s2, s3, s4, s5, s6, s7⟩ := id hS
  have n1 : sh ≠ a := fun e => by rw [e, hA] at s1; cases s1
  have n2 : b ≠ a := fun e => by rw [e, hA] at s2; cases s2
  have n3 : c ≠ a := fun e => by rw [e, hA] at s3; cases s3
  have n4 : d ≠ a := fun e => by rw [e, hA] at s4; cases s4
  generalize eN : sz3 lo hi = N at hN ⊢
  have eSz := hO.size
  rw [eN] at eSz
  show qJ G F _ 3 M 4 (2 + (N + (N + 63) / 64) + (N + 63) / 64) 0 [(0, .ref a), (1, .ref sh), (2, .int dv)] []
  refine q_aload_n X dX5_init_0 0 rfl ?_
  refine q_obj X tw_144 tw_38 tw_39 (by decide) (Nat.le_of_ble_eq_true rfl) dX5_init_1 ?_
  refine q_aload_n X dX5_init_4 0 rfl ?_
  refine q_aload_n X dX5_init_5 1 rfl ?_
  refine q_putF X hn hA rfl in_RX3 tyX3 tyX3_ok nmX3 0 (by decide) tw_152 rfl rfl rfl rfl rfl rfl (Nat.le_of_ble_eq_true rfl) (fs1 := [.ref sh, w1, w2, w3, v0, v1, v2, v3, v4]) rfl dX5_init_6 ?_
  have m_1 : (mU M a (oB 4 [.ref sh, w1, w2, w3, v0, v1, v2, v3, v4])) a = some (oB 4 [.ref sh, w1, w2, w3, v0, v1, v2, v3, v4]) := mU_s
  have m_2 : (mU M a (oB 4 [.ref sh, w1, w2, w3, v0, v1, v2, v3, v4])) sh = some (oB 7 [.int (nI m), .ref b, .ref c, .ref d, .int (sL lo hi 0 * sL lo hi 1 * sL lo hi 2)]) := (mU_n (n1)).trans s1
  have m_3 : (mU M a (oB 4 [.ref sh, w1, w2, w3, v0, v1, v2, v3, v4])) b = some (aI G 3 lo) := (mU_n (n2)).trans s2
  have m_4 : (mU M a (oB 4 [.ref sh, w1, w2, w3, v0, v1, v2, v3, v4])) c = some (aI G 3 hi) := (mU_n (n3)).trans s3
  have m_5 : (mU M a (oB 4 [.ref sh, w1, w2, w3, v0, v1, v2, v3, v4])) d = some (aI G 3 sp) := (mU_n (n4)).trans s4
  refine q_aload_n X dX5_init_9 0 rfl ?_
  refine q_iload_n X dX5_init_10 2 rfl ?_
  refine q_putF X hn m_1 rfl in_RX3 tyX3 tyX3_ok nmX3 1 (by decide) tw_153 rfl rfl rfl rfl rfl rfl (Nat.le_of_ble_eq_true rfl) (fs1 := [.ref sh, .int dv, w2, w3, v0, v1, v2, v3, v4]) rfl dX5_init_11 ?_
  have m_6 : (mU (mU M a (oB 4 [.ref sh, w1, w2, w3, v0, v1, v2, v3, v4])) a (oB 4 [.ref sh, .int dv, w2, w3, v0, v1, v2, v3, v4])) a = some (oB 4 [.ref sh, .int dv, w2, w3, v0, v1, v2, v3, v4]) := mU_s
  have m_7 : (mU (mU M a (oB 4 [.ref sh, w1, w2, w3, v0, v1, v2, v3, v4])) a (oB 4 [.ref sh, .int dv, w2, w3, v0, v1, v2, v3, v4])) sh = some (oB 7 [.int (nI m), .ref b, .ref c, .ref d, .int (sL lo hi 0 * sL lo hi 1 * sL lo hi 2)]) := (mU_n (n1)).trans m_2
  have m_8 : (mU (mU M a (oB 4 [.ref sh, w1, w2, w3, v0, v1, v2, v3, v4])) a (oB 4 [.ref sh, .int dv, w2, w3, v0, v1, v2, v3, v4])) b = some (aI G 3 lo) := (mU_n (n2)).trans m_3
  have m_9 : (mU (mU M a (oB 4 [.ref sh, w1, w2, w3, v0, v1, v2, v3, v4])) a (oB 4 [.ref sh, .int dv, w2, w3, v0, v1, v2, v3, v4])) c = some (aI G 3 hi) := (mU_n (n3)).trans m_4
  have m_10 : (mU (mU M a (oB 4 [.ref sh, w1, w2, w3, v0, v1, v2, v3, v4])) a (oB 4 [.ref sh, .int dv, w2, w3, v0, v1, v2, v3, v4])) d = some (aI G 3 sp) := (mU_n (n4)).trans m_5
  refine q_aload_n X dX5_init_14 0 rfl ?_
  refine q_new X (ci := 1) rfl in_RX0 tyX0 tyX0_ok tw_145 tw_106 tw_6 (fs0 := [.null, .null]) (fun j hj => by rcases (show j = 0 ∨ j = 1 by omega) with rfl | rfl <;> rfl) (rc' := 3) (rs' := N + (N + 63) / 64 + (N + 63) / 64) (by omega) (by omega) dX5_init_15 (fun cl fcl => ?_)
  have n_11 : a ≠ cl := g_nef m_6 fcl
  have m_12 : (mU (mU (mU M a (oB 4 [.ref sh, w1, w2, w3, v0, v1, v2, v3, v4])) a (oB 4 [.ref sh, .int dv, w2, w3, v0, v1, v2, v3, v4])) cl (oB 1 [.null, .null])) a = some (oB 4 [.ref sh, .int dv, w2, w3, v0, v1, v2, v3, v4]) := (mU_n n_11).trans m_6
  have n_13 : sh ≠ cl := g_nef m_7 fcl
  have m_14 : (mU (mU (mU M a (oB 4 [.ref sh, w1, w2, w3, v0, v1, v2, v3, v4])) a (oB 4 [.ref sh, .int dv, w2, w3, v0, v1, v2, v3, v4])) cl (oB 1 [.null, .null])) sh = some (oB 7 [.int (nI m), .ref b, .ref c, .ref d, .int (sL lo hi 0 * sL lo hi 1 * sL lo hi 2)]) := (mU_n n_13).trans m_7
  have n_15 : b ≠ cl := g_nef m_8 fcl
  have m_16 : (mU (mU (mU M a (oB 4 [.ref sh, w1, w2, w3, v0, v1, v2, v3, v4])) a (oB 4 [.ref sh, .int dv, w2, w3, v0, v1, v2, v3, v4])) cl (oB 1 [.null, .null])) b = some (aI G 3 lo) := (mU_n n_15).trans m_8
  have n_17 : c ≠ cl := g_nef m_9 fcl
  have m_18 : (mU (mU (mU M a (oB 4 [.ref sh, w1, w2, w3, v0, v1, v2, v3, v4])) a (oB 4 [.ref sh, .int dv, w2, w3, v0, v1, v2, v3, v4])) cl (oB 1 [.null, .null])) c = some (aI G 3 hi) := (mU_n n_17).trans m_9
  have n_19 : d ≠ cl := g_nef m_10 fcl
  have m_20 : (mU (mU (mU M a (oB 4 [.ref sh, w1, w2, w3, v0, v1, v2, v3, v4])) a (oB 4 [.ref sh, .int dv, w2, w3, v0, v1, v2, v3, v4])) cl (oB 1 [.null, .null])) d = some (aI G 3 sp) := (mU_n n_19).trans m_10
  have m_21 : (mU (mU (mU M a (oB 4 [.ref sh, w1, w2, w3, v0, v1, v2, v3, v4])) a (oB 4 [.ref sh, .int dv, w2, w3, v0, v1, v2, v3, v4])) cl (oB 1 [.null, .null])) cl = some (oB 1 [.null, .null]) := mU_s
  refine q_dup X dX5_init_18 rfl ?_
  refine q_aload_n X dX5_init_19 1 rfl ?_
  refine q_callVp X (c_X7_size (n := nI m) (lo := lo) (hi := hi) ⟨b, c, d, sp, m_14, m_16, m_18, m_20, s5, s6, s7⟩) Y_X7_size tw_146 tw_108 tw_109 m_14 rfl (by decide) rfl rfl (Nat.le_of_ble_eq_true rfl) dX5_init_20 ?_
  rw [eSz]
  refine q_callI X (c_X0_init m_21 hN) Y_X0_init tw_147 tw_112 rfl (by decide) rfl rfl (Nat.le_of_ble_eq_true rfl) (rc' := 1) (rs' := (N + 63) / 64) (by omega) (by omega) dX5_init_23 (fun v M' hp _ => ?_)
  obtain ⟨rfl, nb, mb, hC, fnb0, fmb0, hfr⟩ := hp
  generalize M' = M2 at *
  have m_22 : M2 a = some (oB 4 [.ref sh, .int dv, w2, w3, v0, v1, v2, v3, v4]) := (hfr a (n_11) (g_nef m_12 fnb0) (g_nef m_12 fmb0)).trans m_12
  have m_23 : M2 sh = some (oB 7 [.int (nI m), .ref b, .ref c, .ref d, .int (sL lo hi 0 * sL lo hi 1 * sL lo hi 2)]) := (hfr sh (n_13) (g_nef m_14 fnb0) (g_nef m_14 fmb0)).trans m_14
  have m_24 : M2 b = some (aI G 3 lo) := (hfr b (n_15) (g_nef m_16 fnb0) (g_nef m_16 fmb0)).trans m_16
  have m_25 : M2 c = some (aI G 3 hi) := (hfr c (n_17) (g_nef m_18 fnb0) (g_nef m_18 fmb0)).trans m_18
  have m_26 : M2 d = some (aI G 3 sp) := (hfr d (n_19) (g_nef m_20 fnb0) (g_nef m_20 fmb0)).trans m_20
  obtain ⟨num, mk, c1, c2, c3, c4, c5, c6⟩ := hC
  show qJ G F _ 3 M2 1 ((N + 63) / 64) 26 [(0, .ref a), (1, .ref sh), (2, .int dv)] [.ref cl, .ref a]
  refine q_putF X hn m_22 rfl in_RX3 tyX3 tyX3_ok nmX3 2 (by decide) tw_154 rfl rfl rfl rfl rfl rfl (Nat.le_of_ble_eq_true rfl) (fs1 := [.ref sh, .int dv, .ref cl, w3, v0, v1, v2, v3, v4]) rfl dX5_init_26 ?_
  have m_27 : (mU M2 a (oB 4 [.ref sh, .int dv, .ref cl, w3, v0, v1, v2, v3, v4])) a = some (oB 4 [.ref sh, .int dv, .ref cl, w3, v0, v1, v2, v3, v4]) := mU_s
  have m_28 : (mU M2 a (oB 4 [.ref sh, .int dv, .ref cl, w3, v0, v1, v2, v3, v4])) sh = some (oB 7 [.int (nI m), .ref b, .ref c, .ref d, .int (sL lo hi 0 * sL lo hi 1 * sL lo hi 2)]) := (mU_n (n1)).trans m_23
  have m_29 : (mU M2 a (oB 4 [.ref sh, .int dv, .ref cl, w3, v0, v1, v2, v3, v4])) b = some (aI G 3 lo) := (mU_n (n2)).trans m_24
  have m_30 : (mU M2 a (oB 4 [.ref sh, .int dv, .ref cl, w3, v0, v1, v2, v3, v4])) c = some (aI G 3 hi) := (mU_n (n3)).trans m_25
  have m_31 : (mU M2 a (oB 4 [.ref sh, .int dv, .ref cl, w3, v0, v1, v2, v3, v4])) d = some (aI G 3 sp) := (mU_n (n4)).trans m_26
  have m_32 : (mU M2 a (oB 4 [.ref sh, .int dv, .ref cl, w3, v0, v1, v2, v3, v4])) cl = some (oB 1 [.ref nb, .ref mb]) := (mU_n (Ne.symm n_11)).trans c1
  have m_33 : (mU M2 a (oB 4 [.ref sh, .int dv, .ref cl, w3, v0, v1, v2, v3, v4])) nb = some (aJ G N num) := (mU_n ((g_nef m_12 fnb0).symm)).trans c2
  have m_34 : (mU M2 a (oB 4 [.ref sh, .int dv, .ref cl, w3, v0, v1, v2, v3, v4])) mb = some (aJ G ((N + 63) / 64) mk) := (mU_n ((g_nef m_12 fmb0).symm)).trans c3
  refine q_aload_n X dX5_init_29 0 rfl ?_
  refine q_aload_n X dX5_init_30 1 rfl ?_
  refine q_callVp X (c_X7_size (n := nI m) (lo := lo) (hi := hi) ⟨b, c, d, sp, m_28, m_29, m_30, m_31, s5, s6, s7⟩) Y_X7_size tw_146 tw_108 tw_109 m_28 rfl (by decide) rfl rfl (Nat.le_of_ble_eq_true rfl) dX5_init_31 ?_
  rw [eSz]
  refine q_bipush (v := 63) X dX5_init_34 (by decide) ?_
  refine q_iadd X dX5_init_36 ?_
  refine q_bipush (v := 64) X dX5_init_37 (by decide) ?_
  refine q_idiv X dX5_init_39 (by decide) ?_
  rw [cw_div hN]
  refine q_iconst (v := 0) X dX5_init_40 (by decide) ?_
  refine q_callSp X (c_J9_max_7cf53) Y_J9_max_7cf53 tw_148 tw_116 (by decide) rfl rfl (Nat.le_of_ble_eq_true rfl) dX5_init_41 ?_
  rw [mxI_0 (by omega)]
  refine q_newJ X tw_125 ((N + 63) / 64) (rfl) (by omega) (rc' := 0) (rs' := 0) (by omega) (by omega) dX5_init_44 (fun aa faa => ?_)
  have n_35 : a ≠ aa := g_nef m_27 faa
  have m_36 : (mU (mU M2 a (oB 4 [.ref sh, .int dv, .ref cl, w3, v0, v1, v2, v3, v4])) aa (aJ G ((N + 63) / 64) (fun _ => 0))) a = some (oB 4 [.ref sh, .int dv, .ref cl, w3, v0, v1, v2, v3, v4]) := (mU_n n_35).trans m_27
  have n_37 : sh ≠ aa := g_nef m_28 faa
  have m_38 : (mU (mU M2 a (oB 4 [.ref sh, .int dv, .ref cl, w3, v0, v1, v2, v3, v4])) aa (aJ G ((N + 63) / 64) (fun _ => 0))) sh = some (oB 7 [.int (nI m), .ref b, .ref c, .ref d, .int (sL lo hi 0 * sL lo hi 1 * sL lo hi 2)]) := (mU_n n_37).trans m_28
  have n_39 : b ≠ aa := g_nef m_29 faa
  have m_40 : (mU (mU M2 a (oB 4 [.ref sh, .int dv, .ref cl, w3, v0, v1, v2, v3, v4])) aa (aJ G ((N + 63) / 64) (fun _ => 0))) b = some (aI G 3 lo) := (mU_n n_39).trans m_29
  have n_41 : c ≠ aa := g_nef m_30 faa
  have m_42 : (mU (mU M2 a (oB 4 [.ref sh, .int dv, .ref cl, w3, v0, v1, v2, v3, v4])) aa (aJ G ((N + 63) / 64) (fun _ => 0))) c = some (aI G 3 hi) := (mU_n n_41).trans m_30
  have n_43 : d ≠ aa := g_nef m_31 faa
  have m_44 : (mU (mU M2 a (oB 4 [.ref sh, .int dv, .ref cl, w3, v0, v1, v2, v3, v4])) aa (aJ G ((N + 63) / 64) (fun _ => 0))) d = some (aI G 3 sp) := (mU_n n_43).trans m_31
  have n_45 : cl ≠ aa := g_nef m_32 faa
  have m_46 : (mU (mU M2 a (oB 4 [.ref sh, .int dv, .ref cl, w3, v0, v1, v2, v3, v4])) aa (aJ G ((N + 63) / 64) (fun _ => 0))) cl = some (oB 1 [.ref nb, .ref mb]) := (mU_n n_45).trans m_32
  have n_47 : nb ≠ aa := g_nef m_33 faa
  have m_48 : (mU (mU M2 a (oB 4 [.ref sh, .int dv, .ref cl, w3, v0, v1, v2, v3, v4])) aa (aJ G ((N + 63) / 64) (fun _ => 0))) nb = some (aJ G N num) := (mU_n n_47).trans m_33
  have n_49 : mb ≠ aa := g_nef m_34 faa
  have m_50 : (mU (mU M2 a (oB 4 [.ref sh, .int dv, .ref cl, w3, v0, v1, v2, v3, v4])) aa (aJ G ((N + 63) / 64) (fun _ => 0))) mb = some (aJ G ((N + 63) / 64) mk) := (mU_n n_49).trans m_34
  have m_51 : (mU (mU M2 a (oB 4 [.ref sh, .int dv, .ref cl, w3, v0, v1, v2, v3, v4])) aa (aJ G ((N + 63) / 64) (fun _ => 0))) aa = some (aJ G ((N + 63) / 64) (fun _ => 0)) := mU_s
  refine q_putF X hn m_36 rfl in_RX3 tyX3 tyX3_ok nmX3 3 (by decide) tw_155 rfl rfl rfl rfl rfl rfl (Nat.le_of_ble_eq_true rfl) (fs1 := [.ref sh, .int dv, .ref cl, .ref aa, v0, v1, v2, v3, v4]) rfl dX5_init_46 ?_
  have m_52 : (mU (mU (mU M2 a (oB 4 [.ref sh, .int dv, .ref cl, w3, v0, v1, v2, v3, v4])) aa (aJ G ((N + 63) / 64) (fun _ => 0))) a (oB 4 [.ref sh, .int dv, .ref cl, .ref aa, v0, v1, v2, v3, v4])) a = some (oB 4 [.ref sh, .int dv, .ref cl, .ref aa, v0, v1, v2, v3, v4]) := mU_s
  have m_53 : (mU (mU (mU M2 a (oB 4 [.ref sh, .int dv, .ref cl, w3, v0, v1, v2, v3, v4])) aa (aJ G ((N + 63) / 64) (fun _ => 0))) a (oB 4 [.ref sh, .int dv, .ref cl, .ref aa, v0, v1, v2, v3, v4])) sh = some (oB 7 [.int (nI m), .ref b, .ref c, .ref d, .int (sL lo hi 0 * sL lo hi 1 * sL lo hi 2)]) := (mU_n (n1)).trans m_38
  have m_54 : (mU (mU (mU M2 a (oB 4 [.ref sh, .int dv, .ref cl, w3, v0, v1, v2, v3, v4])) aa (aJ G ((N + 63) / 64) (fun _ => 0))) a (oB 4 [.ref sh, .int dv, .ref cl, .ref aa, v0, v1, v2, v3, v4])) b = some (aI G 3 lo) := (mU_n (n2)).trans m_40
  have m_55 : (mU (mU (mU M2 a (oB 4 [.ref sh, .int dv, .ref cl, w3, v0, v1, v2, v3, v4])) aa (aJ G ((N + 63) / 64) (fun _ => 0))) a (oB 4 [.ref sh, .int dv, .ref cl, .ref aa, v0, v1, v2, v3, v4])) c = some (aI G 3 hi) := (mU_n (n3)).trans m_42
  have m_56 : (mU (mU (mU M2 a (oB 4 [.ref sh, .int dv, .ref cl, w3, v0, v1, v2, v3, v4])) aa (aJ G ((N + 63) / 64) (fun _ => 0))) a (oB 4 [.ref sh, .int dv, .ref cl, .ref aa, v0, v1, v2, v3, v4])) d = some (aI G 3 sp) := (mU_n (n4)).trans m_44
  have m_57 : (mU (mU (mU M2 a (oB 4 [.ref sh, .int dv, .ref cl, w3, v0, v1, v2, v3, v4])) aa (aJ G ((N + 63) / 64) (fun _ => 0))) a (oB 4 [.ref sh, .int dv, .ref cl, .ref aa, v0, v1, v2, v3, v4])) cl = some (oB 1 [.ref nb, .ref mb]) := (mU_n (Ne.symm n_11)).trans m_46
  have m_58 : (mU (mU (mU M2 a (oB 4 [.ref sh, .int dv, .ref cl, w3, v0, v1, v2, v3, v4])) aa (aJ G ((N + 63) / 64) (fun _ => 0))) a (oB 4 [.ref sh, .int dv, .ref cl, .ref aa, v0, v1, v2, v3, v4])) nb = some (aJ G N num) := (mU_n ((g_nef m_12 fnb0).symm)).trans m_48
  have m_59 : (mU (mU (mU M2 a (oB 4 [.ref sh, .int dv, .ref cl, w3, v0, v1, v2, v3, v4])) aa (aJ G ((N + 63) / 64) (fun _ => 0))) a (oB 4 [.ref sh, .int dv, .ref cl, .ref aa, v0, v1, v2, v3, v4])) mb = some (aJ G ((N + 63) / 64) mk) := (mU_n ((g_nef m_12 fmb0).symm)).trans m_50
  have m_60 : (mU (mU (mU M2 a (oB 4 [.ref sh, .int dv, .ref cl, w3, v0, v1, v2, v3, v4])) aa (aJ G ((N + 63) / 64) (fun _ => 0))) a (oB 4 [.ref sh, .int dv, .ref cl, .ref aa, v0, v1, v2, v3, v4])) aa = some (aJ G ((N + 63) / 64) (fun _ => 0)) := (mU_n (Ne.symm n_35)).trans m_51
  have Lcl : M cl = none := (mU_no (mU_no fcl).1).1
  have Lnb : M nb = none := (mU_no (mU_no (mU_no fnb0).1).1).1
  have Lmb : M mb = none := (mU_no (mU_no (mU_no fmb0).1).1).1
  have old : ∀ q, q ≠ a → M q ≠ none → M2 q = M q := fun q q1 q2 => by
    rw [hfr q (fun e => q2 (by rw [e]; exact Lcl)) (fun e => q2 (by rw [e]; exact Lnb)) (fun e => q2 (by rw [e]; exact Lmb)), mU_n (fun e => q2 (by rw [e]; exact Lcl)), mU_n q1, mU_n q1]
  have naa := mU_no faa
  have Laa : M aa = none := by
    cases h9 : M aa with
    | none => rfl
    | some e9 => have h8 := old aa naa.2 (by rw [h9]; exact fun h => by cases h); rw [naa.1, h9] at h8; cases h8
  have fin : ∀ q, q ≠ a → M q ≠ none → (mU (mU (mU M2 a (oB 4 [.ref sh, .int dv, .ref cl, w3, v0, v1, v2, v3, v4])) aa (aJ G ((N + 63) / 64) (fun _ => 0))) a (oB 4 [.ref sh, .int dv, .ref cl, .ref aa, v0, v1, v2, v3, v4])) q = M q := fun q q1 q2 => by
    rw [mU_n q1, mU_n (fun e => q2 (by rw [e]; exact Laa)), mU_n q1]; exact old q q1 q2
  exact q_vret X hr dX5_init_49 (⟨rfl, cl, nb, mb, aa, m_52, ⟨num, mk, m_57, m_58, m_59, c4, c5, c6⟩, m_60, Lcl, Lnb, Lmb, Laa, n_47, n_49, fin⟩)

set_option maxRecDepth 20000 in
theorem c_X5_init_5 {l : Launch} {G : gV} {M : gMem} {a sh m : Nat} {dv : Int32} {lo hi : Nat → Int32} {w0 w1 w2 w3 v0 v1 v2 : Value} (hA : M a = some (oB 5 [w0, w1, w2, w3, v0, v1, v2])) (hS : isShape G M sh (nI m) lo hi) (hO : okS m lo hi) (hN : sz3 lo hi ≤ 4096) : qC l G yX5_init cX5_init 3 none 3 4 (2 + (sz3 lo hi + (sz3 lo hi + 63) / 64) + (sz3 lo hi + 63) / 64) [.ref a, .ref sh, .int dv] M (ndP G M a 5 sh dv (sz3 lo hi) [v0, v1, v2]) := by
  refine qC_of (by decide +kernel) (Nat.le_of_ble_eq_true rfl) (fun F hF X hr hn => ?_)
  subst hF
  have X : qX G F cX5_init 3 RX5 3 := X
  obtain ⟨b, c, d, sp, s1, s2, s3, s4, s5, s6, s7⟩ := id hS
  have n1 : sh ≠ a := fun e => by rw [e, hA] at s1; cases s1
  have n2 : b ≠ a := fun e => by rw [e, hA] at s2; cases s2
  have n3 : c ≠ a := fun e => by rw [e, hA] at s3; cases s3
  have n4 : d ≠ a := fun e => by rw [e, hA] at s4; cases s4
  generalize eN : sz3 lo hi = N at hN ⊢
  have eSz := hO.size
  rw [eN] at eSz
  show qJ G F _ 3 M 4 (2 + (N + (N + 63) / 64) + (N + 63) / 64) 0 [(0, .ref a), (1, .ref sh), (2, .int dv)] []
  refine q_aload_n X dX5_init_0 0 rfl ?_
  refine q_obj X tw_144 tw_38 tw_39 (by decide) (Nat.le_of_ble_eq_true rfl) dX5_init_1 ?_
  refine q_aload_n X dX5_init_4 0 rfl ?_
  refine q_aload_n X dX5_init_5 1 rfl ?_
  refine q_putF X hn hA rfl in_RX4 tyX4 tyX4_ok nmX4 0 (by decide) tw_152 rfl rfl rfl rfl rfl rfl (Nat.le_of_ble_eq_true rfl) (fs1 := [.ref sh, w1, w2, w3, v0, v1, v2]) rfl dX5_init_6 ?_
  have m_1 : (mU M a (oB 5 [.ref sh, w1, w2, w3, v0, v1, v2])) a = some (oB 5 [.ref sh, w1, w2, w3, v0, v1, v2]) := mU_s
  have m_2 : (mU M a (oB 5 [.ref sh, w1, w2, w3, v0, v1, v2])) sh = some (oB 7 [.int (nI m), .ref b, .ref c, .ref d, .int (sL lo hi 0 * sL lo hi 1 * sL lo hi 2)]) := (mU_n (n1)).trans s1
  have m_3 : (mU M a (oB 5 [.ref sh, w1, w2, w3, v0, v1, v2])) b = some (aI G 3 lo) := (mU_n (n2)).trans s2
  have m_4 : (mU M a (oB 5 [.ref sh, w1, w2, w3, v0, v1, v2])) c = some (aI G 3 hi) := (mU_n (n3)).trans s3
  have m_5 : (mU M a (oB 5 [.ref sh, w1, w2, w3, v0, v1, v2])) d = some (aI G 3 sp) := (mU_n (n4)).trans s4
  refine q_aload_n X dX5_init_9 0 rfl ?_
  refine q_iload_n X dX5_init_10 2 rfl ?_
  refine q_putF X hn m_1 rfl in_RX4 tyX4 tyX4_ok nmX4 1 (by decide) tw_153 rfl rfl rfl rfl rfl rfl (Nat.le_of_ble_eq_true rfl) (fs1 := [.ref sh, .int dv, w2, w3, v0, v1, v2]) rfl dX5_init_11 ?_
  have m_6 : (mU (mU M a (oB 5 [.ref sh, w1, w2, w3, v0, v1, v2])) a (oB 5 [.ref sh, .int dv, w2, w3, v0, v1, v2])) a = some (oB 5 [.ref sh, .int dv, w2, w3, v0, v1, v2]) := mU_s
  have m_7 : (mU (mU M a (oB 5 [.ref sh, w1, w2, w3, v0, v1, v2])) a (oB 5 [.ref sh, .int dv, w2, w3, v0, v1, v2])) sh = some (oB 7 [.int (nI m), .ref b, .ref c, .ref d, .int (sL lo hi 0 * sL lo hi 1 * sL lo hi 2)]) := (mU_n (n1)).trans m_2
  have m_8 : (mU (mU M a (oB 5 [.ref sh, w1, w2, w3, v0, v1, v2])) a (oB 5 [.ref sh, .int dv, w2, w3, v0, v1, v2])) b = some (aI G 3 lo) := (mU_n (n2)).trans m_3
  have m_9 : (mU (mU M a (oB 5 [.ref sh, w1, w2, w3, v0, v1, v2])) a (oB 5 [.ref sh, .int dv, w2, w3, v0, v1, v2])) c = some (aI G 3 hi) := (mU_n (n3)).trans m_4
  have m_10 : (mU (mU M a (oB 5 [.ref sh, w1, w2, w3, v0, v1, v2])) a (oB 5 [.ref sh, .int dv, w2, w3, v0, v1, v2])) d = some (aI G 3 sp) := (mU_n (n4)).trans m_5
  refine q_aload_n X dX5_init_14 0 rfl ?_
  refine q_new X (ci := 1) rfl in_RX0 tyX0 tyX0_ok tw_145 tw_106 tw_6 (fs0 := [.null, .null]) (fun j hj => by rcases (show j = 0 ∨ j = 1 by omega) with rfl | rfl <;> rfl) (rc' := 3) (rs' := N + (N + 63) / 64 + (N + 63) / 64) (by omega) (by omega) dX5_init_15 (fun cl fcl => ?_)
  have n_11 : a ≠ cl := g_nef m_6 fcl
  have m_12 : (mU (mU (mU M a (oB 5 [.ref sh, w1, w2, w3, v0, v1, v2])) a (oB 5 [.ref sh, .int dv, w2, w3, v0, v1, v2])) cl (oB 1 [.null, .null])) a = some (oB 5 [.ref sh, .int dv, w2, w3, v0, v1, v2]) := (mU_n n_11).trans m_6
  have n_13 : sh ≠ cl := g_nef m_7 fcl
  have m_14 : (mU (mU (mU M a (oB 5 [.ref sh, w1, w2, w3, v0, v1, v2])) a (oB 5 [.ref sh, .int dv, w2, w3, v0, v1, v2])) cl (oB 1 [.null, .null])) sh = some (oB 7 [.int (nI m), .ref b, .ref c, .ref d, .int (sL lo hi 0 * sL lo hi 1 * sL lo hi 2)]) := (mU_n n_13).trans m_7
  have n_15 : b ≠ cl := g_nef m_8 fcl
  have m_16 : (mU (mU (mU M a (oB 5 [.ref sh, w1, w2, w3, v0, v1, v2])) a (oB 5 [.ref sh, .int dv, w2, w3, v0, v1, v2])) cl (oB 1 [.null, .null])) b = some (aI G 3 lo) := (mU_n n_15).trans m_8
  have n_17 : c ≠ cl := g_nef m_9 fcl
  have m_18 : (mU (mU (mU M a (oB 5 [.ref sh, w1, w2, w3, v0, v1, v2])) a (oB 5 [.ref sh, .int dv, w2, w3, v0, v1, v2])) cl (oB 1 [.null, .null])) c = some (aI G 3 hi) := (mU_n n_17).trans m_9
  have n_19 : d ≠ cl := g_nef m_10 fcl
  have m_20 : (mU (mU (mU M a (oB 5 [.ref sh, w1, w2, w3, v0, v1, v2])) a (oB 5 [.ref sh, .int dv, w2, w3, v0, v1, v2])) cl (oB 1 [.null, .null])) d = some (aI G 3 sp) := (mU_n n_19).trans m_10
  have m_21 : (mU (mU (mU M a (oB 5 [.ref sh, w1, w2, w3, v0, v1, v2])) a (oB 5 [.ref sh, .int dv, w2, w3, v0, v1, v2])) cl (oB 1 [.null, .null])) cl = some (oB 1 [.null, .null]) := mU_s
  refine q_dup X dX5_init_18 rfl ?_
  refine q_aload_n X dX5_init_19 1 rfl ?_
  refine q_callVp X (c_X7_size (n := nI m) (lo := lo) (hi := hi) ⟨b, c, d, sp, m_14, m_16, m_18, m_20, s5, s6, s7⟩) Y_X7_size tw_146 tw_108 tw_109 m_14 rfl (by decide) rfl rfl (Nat.le_of_ble_eq_true rfl) dX5_init_20 ?_
  rw [eSz]
  refine q_callI X (c_X0_init m_21 hN) Y_X0_init tw_147 tw_112 rfl (by decide) rfl rfl (Nat.le_of_ble_eq_true rfl) (rc' := 1) (rs' := (N + 63) / 64) (by omega) (by omega) dX5_init_23 (fun v M' hp _ => ?_)
  obtain ⟨rfl, nb, mb, hC, fnb0, fmb0, hfr⟩ := hp
  generalize M' = M2 at *
  have m_22 : M2 a = some (oB 5 [.ref sh, .int dv, w2, w3, v0, v1, v2]) := (hfr a (n_11) (g_nef m_12 fnb0) (g_nef m_12 fmb0)).trans m_12
  have m_23 : M2 sh = some (oB 7 [.int (nI m), .ref b, .ref c, .ref d, .int (sL lo hi 0 * sL lo hi 1 * sL lo hi 2)]) := (hfr sh (n_13) (g_nef m_14 fnb0) (g_nef m_14 fmb0)).trans m_14
  have m_24 : M2 b = some (aI G 3 lo) := (hfr b (n_15) (g_nef m_16 fnb0) (g_nef m_16 fmb0)).trans m_16
  have m_25 : M2 c = some (aI G 3 hi) := (hfr c (n_17) (g_nef m_18 fnb0) (g_nef m_18 fmb0)).trans m_18
  have m_26 : M2 d = some (aI G 3 sp) := (hfr d (n_19) (g_nef m_20 fnb0) (g_nef m_20 fmb0)).trans m_20
  obtain ⟨num, mk, c1, c2, c3, c4, c5, c6⟩ := hC
  show qJ G F _ 3 M2 1 ((N + 63) / 64) 26 [(0, .ref a), (1, .ref sh), (2, .int dv)] [.ref cl, .ref a]
  refine q_putF X hn m_22 rfl in_RX4 tyX4 tyX4_ok nmX4 2 (by decide) tw_154 rfl rfl rfl rfl rfl rfl (Nat.le_of_ble_eq_true rfl) (fs1 := [.ref sh, .int dv, .ref cl, w3, v0, v1, v2]) rfl dX5_init_26 ?_
  have m_27 : (mU M2 a (oB 5 [.ref sh, .int dv, .ref cl, w3, v0, v1, v2])) a = some (oB 5 [.ref sh, .int dv, .ref cl, w3, v0, v1, v2]) := mU_s
  have m_28 : (mU M2 a (oB 5 [.ref sh, .int dv, .ref cl, w3, v0, v1, v2])) sh = some (oB 7 [.int (nI m), .ref b, .ref c, .ref d, .int (sL lo hi 0 * sL lo hi 1 * sL lo hi 2)]) := (mU_n (n1)).trans m_23
  have m_29 : (mU M2 a (oB 5 [.ref sh, .int dv, .ref cl, w3, v0, v1, v2])) b = some (aI G 3 lo) := (mU_n (n2)).trans m_24
  have m_30 : (mU M2 a (oB 5 [.ref sh, .int dv, .ref cl, w3, v0, v1, v2])) c = some (aI G 3 hi) := (mU_n (n3)).trans m_25
  have m_31 : (mU M2 a (oB 5 [.ref sh, .int dv, .ref cl, w3, v0, v1, v2])) d = some (aI G 3 sp) := (mU_n (n4)).trans m_26
  have m_32 : (mU M2 a (oB 5 [.ref sh, .int dv, .ref cl, w3, v0, v1, v2])) cl = some (oB 1 [.ref nb, .ref mb]) := (mU_n (Ne.symm n_11)).trans c1
  have m_33 : (mU M2 a (oB 5 [.ref sh, .int dv, .ref cl, w3, v0, v1, v2])) nb = some (aJ G N num) := (mU_n ((g_nef m_12 fnb0).symm)).trans c2
  have m_34 : (mU M2 a (oB 5 [.ref sh, .int dv, .ref cl, w3, v0, v1, v2])) mb = some (aJ G ((N + 63) / 64) mk) := (mU_n ((g_nef m_12 fmb0).symm)).trans c3
  refine q_aload_n X dX5_init_29 0 rfl ?_
  refine q_aload_n X dX5_init_30 1 rfl ?_
  refine q_callVp X (c_X7_size (n := nI m) (lo := lo) (hi := hi) ⟨b, c, d, sp, m_28, m_29, m_30, m_31, s5, s6, s7⟩) Y_X7_size tw_146 tw_108 tw_109 m_28 rfl (by decide) rfl rfl (Nat.le_of_ble_eq_true rfl) dX5_init_31 ?_
  rw [eSz]
  refine q_bipush (v := 63) X dX5_init_34 (by decide) ?_
  refine q_iadd X dX5_init_36 ?_
  refine q_bipush (v := 64) X dX5_init_37 (by decide) ?_
  refine q_idiv X dX5_init_39 (by decide) ?_
  rw [cw_div hN]
  refine q_iconst (v := 0) X dX5_init_40 (by decide) ?_
  refine q_callSp X (c_J9_max_7cf53) Y_J9_max_7cf53 tw_148 tw_116 (by decide) rfl rfl (Nat.le_of_ble_eq_true rfl) dX5_init_41 ?_
  rw [mxI_0 (by omega)]
  refine q_newJ X tw_125 ((N + 63) / 64) (rfl) (by omega) (rc' := 0) (rs' := 0) (by omega) (by omega) dX5_init_44 (fun aa faa => ?_)
  have n_35 : a ≠ aa := g_nef m_27 faa
  have m_36 : (mU (mU M2 a (oB 5 [.ref sh, .int dv, .ref cl, w3, v0, v1, v2])) aa (aJ G ((N + 63) / 64) (fun _ => 0))) a = some (oB 5 [.ref sh, .int dv, .ref cl, w3, v0, v1, v2]) := (mU_n n_35).trans m_27
  have n_37 : sh ≠ aa := g_nef m_28 faa
  have m_38 : (mU (mU M2 a (oB 5 [.ref sh, .int dv, .ref cl, w3, v0, v1, v2])) aa (aJ G ((N + 63) / 64) (fun _ => 0))) sh = some (oB 7 [.int (nI m), .ref b, .ref c, .ref d, .int (sL lo hi 0 * sL lo hi 1 * sL lo hi 2)]) := (mU_n n_37).trans m_28
  have n_39 : b ≠ aa := g_nef m_29 faa
  have m_40 : (mU (mU M2 a (oB 5 [.ref sh, .int dv, .ref cl, w3, v0, v1, v2])) aa (aJ G ((N + 63) / 64) (fun _ => 0))) b = some (aI G 3 lo) := (mU_n n_39).trans m_29
  have n_41 : c ≠ aa := g_nef m_30 faa
  have m_42 : (mU (mU M2 a (oB 5 [.ref sh, .int dv, .ref cl, w3, v0, v1, v2])) aa (aJ G ((N + 63) / 64) (fun _ => 0))) c = some (aI G 3 hi) := (mU_n n_41).trans m_30
  have n_43 : d ≠ aa := g_nef m_31 faa
  have m_44 : (mU (mU M2 a (oB 5 [.ref sh, .int dv, .ref cl, w3, v0, v1, v2])) aa (aJ G ((N + 63) / 64) (fun _ => 0))) d = some (aI G 3 sp) := (mU_n n_43).trans m_31
  have n_45 : cl ≠ aa := g_nef m_32 faa
  have m_46 : (mU (mU M2 a (oB 5 [.ref sh, .int dv, .ref cl, w3, v0, v1, v2])) aa (aJ G ((N + 63) / 64) (fun _ => 0))) cl = some (oB 1 [.ref nb, .ref mb]) := (mU_n n_45).trans m_32
  have n_47 : nb ≠ aa := g_nef m_33 faa
  have m_48 : (mU (mU M2 a (oB 5 [.ref sh, .int dv, .ref cl, w3, v0, v1, v2])) aa (aJ G ((N + 63) / 64) (fun _ => 0))) nb = some (aJ G N num) := (mU_n n_47).trans m_33
  have n_49 : mb ≠ aa := g_nef m_34 faa
  have m_50 : (mU (mU M2 a (oB 5 [.ref sh, .int dv, .ref cl, w3, v0, v1, v2])) aa (aJ G ((N + 63) / 64) (fun _ => 0))) mb = some (aJ G ((N + 63) / 64) mk) := (mU_n n_49).trans m_34
  have m_51 : (mU (mU M2 a (oB 5 [.ref sh, .int dv, .ref cl, w3, v0, v1, v2])) aa (aJ G ((N + 63) / 64) (fun _ => 0))) aa = some (aJ G ((N + 63) / 64) (fun _ => 0)) := mU_s
  refine q_putF X hn m_36 rfl in_RX4 tyX4 tyX4_ok nmX4 3 (by decide) tw_155 rfl rfl rfl rfl rfl rfl (Nat.le_of_ble_eq_true rfl) (fs1 := [.ref sh, .int dv, .ref cl, .ref aa, v0, v1, v2]) rfl dX5_init_46 ?_
  have m_52 : (mU (mU (mU M2 a (oB 5 [.ref sh, .int dv, .ref cl, w3, v0, v1, v2])) aa (aJ G ((N + 63) / 64) (fun _ => 0))) a (oB 5 [.ref sh, .int dv, .ref cl, .ref aa, v0, v1, v2])) a = some (oB 5 [.ref sh, .int dv, .ref cl, .ref aa, v0, v1, v2]) := mU_s
  have m_53 : (mU (mU (mU M2 a (oB 5 [.ref sh, .int dv, .ref cl, w3, v0, v1, v2])) aa (aJ G ((N + 63) / 64) (fun _ => 0))) a (oB 5 [.ref sh, .int dv, .ref cl, .ref aa, v0, v1, v2])) sh = some (oB 7 [.int (nI m), .ref b, .ref c, .ref d, .int (sL lo hi 0 * sL lo hi 1 * sL lo hi 2)]) := (mU_n (n1)).trans m_38
  have m_54 : (mU (mU (mU M2 a (oB 5 [.ref sh, .int dv, .ref cl, w3, v0, v1, v2])) aa (aJ G ((N + 63) / 64) (fun _ => 0))) a (oB 5 [.ref sh, .int dv, .ref cl, .ref aa, v0, v1, v2])) b = some (aI G 3 lo) := (mU_n (n2)).trans m_40
  have m_55 : (mU (mU (mU M2 a (oB 5 [.ref sh, .int dv, .ref cl, w3, v0, v1, v2])) aa (aJ G ((N + 63) / 64) (fun _ => 0))) a (oB 5 [.ref sh, .int dv, .ref cl, .ref aa, v0, v1, v2])) c = some (aI G 3 hi) := (mU_n (n3)).trans m_42
  have m_56 : (mU (mU (mU M2 a (oB 5 [.ref sh, .int dv, .ref cl, w3, v0, v1, v2])) aa (aJ G ((N + 63) / 64) (fun _ => 0))) a (oB 5 [.ref sh, .int dv, .ref cl, .ref aa, v0, v1, v2])) d = some (aI G 3 sp) := (mU_n (n4)).trans m_44
  have m_57 : (mU (mU (mU M2 a (oB 5 [.ref sh, .int dv, .ref cl, w3, v0, v1, v2])) aa (aJ G ((N + 63) / 64) (fun _ => 0))) a (oB 5 [.ref sh, .int dv, .ref cl, .ref aa, v0, v1, v2])) cl = some (oB 1 [.ref nb, .ref mb]) := (mU_n (Ne.symm n_11)).trans m_46
  have m_58 : (mU (mU (mU M2 a (oB 5 [.ref sh, .int dv, .ref cl, w3, v0, v1, v2])) aa (aJ G ((N + 63) / 64) (fun _ => 0))) a (oB 5 [.ref sh, .int dv, .ref cl, .ref aa, v0, v1, v2])) nb = some (aJ G N num) := (mU_n ((g_nef m_12 fnb0).symm)).trans m_48
  have m_59 : (mU (mU (mU M2 a (oB 5 [.ref sh, .int dv, .ref cl, w3, v0, v1, v2])) aa (aJ G ((N + 63) / 64) (fun _ => 0))) a (oB 5 [.ref sh, .int dv, .ref cl, .ref aa, v0, v1, v2])) mb = some (aJ G ((N + 63) / 64) mk) := (mU_n ((g_nef m_12 fmb0).symm)).trans m_50
  have m_60 : (mU (mU (mU M2 a (oB 5 [.ref sh, .int dv, .ref cl, w3, v0, v1, v2])) aa (aJ G ((N + 63) / 64) (fun _ => 0))) a (oB 5 [.ref sh, .int dv, .ref cl, .ref aa, v0, v1, v2])) aa = some (aJ G ((N + 63) / 64) (fun _ => 0)) := (mU_n (Ne.symm n_35)).trans m_51
  have Lcl : M cl = none := (mU_no (mU_no fcl).1).1
  have Lnb : M nb = none := (mU_no (mU_no (mU_no fnb0).1).1).1
  have Lmb : M mb = none := (mU_no (mU_no (mU_no fmb0).1).1).1
  have old : ∀ q, q ≠ a → M q ≠ none → M2 q = M q := fun q q1 q2 => by
    rw [hfr q (fun e => q2 (by rw [e]; exact Lcl)) (fun e => q2 (by rw [e]; exact Lnb)) (fun e => q2 (by rw [e]; exact Lmb)), mU_n (fun e => q2 (by rw [e]; exact Lcl)), mU_n q1, mU_n q1]
  have naa := mU_no faa
  have Laa : M aa = none := by
    cases h9 : M aa with
    | none => rfl
    | some e9 => have h8 := old aa naa.2 (by rw [h9]; exact fun h => by cases h); rw [naa.1, h9] at h8; cases h8
  have fin : ∀ q, q ≠ a → M q ≠ none → (mU (mU (mU M2 a (oB 5 [.ref sh, .int dv, .ref cl, w3, v0, v1, v2])) aa (aJ G ((N + 63) / 64) (fun _ => 0))) a (oB 5 [.ref sh, .int dv, .ref cl, .ref aa, v0, v1, v2])) q = M q := fun q q1 q2 => by
    rw [mU_n q1, mU_n (fun e => q2 (by rw [e]; exact Laa)), mU_n q1]; exact old q q1 q2
  exact q_vret X hr dX5_init_49 (⟨rfl, cl, nb, mb, aa, m_52, ⟨num, mk, m_57, m_58, m_59, c4, c5, c6⟩, m_60, Lcl, Lnb, Lmb, Laa, n_47, n_49, fin⟩)

set_option maxRecDepth 20000 in
theorem c_X5_init_6 {l : Launch} {G : gV} {M : gMem} {a sh m : Nat} {dv : Int32} {lo hi : Nat → Int32} {w0 w1 w2 w3 v0 v1 : Value} (hA : M a = some (oB 6 [w0, w1, w2, w3, v0, v1])) (hS : isShape G M sh (nI m) lo hi) (hO : okS m lo hi) (hN : sz3 lo hi ≤ 4096) : qC l G yX5_init cX5_init 3 none 3 4 (2 + (sz3 lo hi + (sz3 lo hi + 63) / 64) + (sz3 lo hi + 63) / 64) [.ref a, .ref sh, .int dv] M (ndP G M a 6 sh dv (sz3 lo hi) [v0, v1]) := by
  refine qC_of (by decide +kernel) (Nat.le_of_ble_eq_true rfl) (fun F hF X hr hn => ?_)
  subst hF
  have X : qX G F cX5_init 3 RX5 3 := X
  obtain ⟨b, c, d, sp, s1, s2, s3, s4, s5, s6, s7⟩ := id hS
  have n1 : sh ≠ a := fun e => by rw [e, hA] at s1; cases s1
  have n2 : b ≠ a := fun e => by rw [e, hA] at s2; cases s2
  have n3 : c ≠ a := fun e => by rw [e, hA] at s3; cases s3
  have n4 : d ≠ a := fun e => by rw [e, hA] at s4; cases s4
  generalize eN : sz3 lo hi = N at hN ⊢
  have eSz := hO.size
  rw [eN] at eSz
  show qJ G F _ 3 M 4 (2 + (N + (N + 63) / 64) + (N + 63) / 64) 0 [(0, .ref a), (1, .ref sh), (2, .int dv)] []
  refine q_aload_n X dX5_init_0 0 rfl ?_
  refine q_obj X tw_144 tw_38 tw_39 (by decide) (Nat.le_of_ble_eq_true rfl) dX5_init_1 ?_
  refine q_aload_n X dX5_init_4 0 rfl ?_
  refine q_aload_n X dX5_init_5 1 rfl ?_
  refine q_putF X hn hA rfl in_RX6 tyX6 tyX6_ok nmX6 0 (by decide) tw_152 rfl rfl rfl rfl rfl rfl (Nat.le_of_ble_eq_true rfl) (fs1 := [.ref sh, w1, w2, w3, v0, v1]) rfl dX5_init_6 ?_
  have m_1 : (mU M a (oB 6 [.ref sh, w1, w2, w3, v0, v1])) a = some (oB 6 [.ref sh, w1, w2, w3, v0, v1]) := mU_s
  have m_2 : (mU M a (oB 6 [.ref sh, w1, w2, w3, v0, v1])) sh = some (oB 7 [.int (nI m), .ref b, .ref c, .ref d, .int (sL lo hi 0 * sL lo hi 1 * sL lo hi 2)]) := (mU_n (n1)).trans s1
  have m_3 : (mU M a (oB 6 [.ref sh, w1, w2, w3, v0, v1])) b = some (aI G 3 lo) := (mU_n (n2)).trans s2
  have m_4 : (mU M a (oB 6 [.ref sh, w1, w2, w3, v0, v1])) c = some (aI G 3 hi) := (mU_n (n3)).trans s3
  have m_5 : (mU M a (oB 6 [.ref sh, w1, w2, w3, v0, v1])) d = some (aI G 3 sp) := (mU_n (n4)).trans s4
  refine q_aload_n X dX5_init_9 0 rfl ?_
  refine q_iload_n X dX5_init_10 2 rfl ?_
  refine q_putF X hn m_1 rfl in_RX6 tyX6 tyX6_ok nmX6 1 (by decide) tw_153 rfl rfl rfl rfl rfl rfl (Nat.le_of_ble_eq_true rfl) (fs1 := [.ref sh, .int dv, w2, w3, v0, v1]) rfl dX5_init_11 ?_
  have m_6 : (mU (mU M a (oB 6 [.ref sh, w1, w2, w3, v0, v1])) a (oB 6 [.ref sh, .int dv, w2, w3, v0, v1])) a = some (oB 6 [.ref sh, .int dv, w2, w3, v0, v1]) := mU_s
  have m_7 : (mU (mU M a (oB 6 [.ref sh, w1, w2, w3, v0, v1])) a (oB 6 [.ref sh, .int dv, w2, w3, v0, v1])) sh = some (oB 7 [.int (nI m), .ref b, .ref c, .ref d, .int (sL lo hi 0 * sL lo hi 1 * sL lo hi 2)]) := (mU_n (n1)).trans m_2
  have m_8 : (mU (mU M a (oB 6 [.ref sh, w1, w2, w3, v0, v1])) a (oB 6 [.ref sh, .int dv, w2, w3, v0, v1])) b = some (aI G 3 lo) := (mU_n (n2)).trans m_3
  have m_9 : (mU (mU M a (oB 6 [.ref sh, w1, w2, w3, v0, v1])) a (oB 6 [.ref sh, .int dv, w2, w3, v0, v1])) c = some (aI G 3 hi) := (mU_n (n3)).trans m_4
  have m_10 : (mU (mU M a (oB 6 [.ref sh, w1, w2, w3, v0, v1])) a (oB 6 [.ref sh, .int dv, w2, w3, v0, v1])) d = some (aI G 3 sp) := (mU_n (n4)).trans m_5
  refine q_aload_n X dX5_init_14 0 rfl ?_
  refine q_new X (ci := 1) rfl in_RX0 tyX0 tyX0_ok tw_145 tw_106 tw_6 (fs0 := [.null, .null]) (fun j hj => by rcases (show j = 0 ∨ j = 1 by omega) with rfl | rfl <;> rfl) (rc' := 3) (rs' := N + (N + 63) / 64 + (N + 63) / 64) (by omega) (by omega) dX5_init_15 (fun cl fcl => ?_)
  have n_11 : a ≠ cl := g_nef m_6 fcl
  have m_12 : (mU (mU (mU M a (oB 6 [.ref sh, w1, w2, w3, v0, v1])) a (oB 6 [.ref sh, .int dv, w2, w3, v0, v1])) cl (oB 1 [.null, .null])) a = some (oB 6 [.ref sh, .int dv, w2, w3, v0, v1]) := (mU_n n_11).trans m_6
  have n_13 : sh ≠ cl := g_nef m_7 fcl
  have m_14 : (mU (mU (mU M a (oB 6 [.ref sh, w1, w2, w3, v0, v1])) a (oB 6 [.ref sh, .int dv, w2, w3, v0, v1])) cl (oB 1 [.null, .null])) sh = some (oB 7 [.int (nI m), .ref b, .ref c, .ref d, .int (sL lo hi 0 * sL lo hi 1 * sL lo hi 2)]) := (mU_n n_13).trans m_7
  have n_15 : b ≠ cl := g_nef m_8 fcl
  have m_16 : (mU (mU (mU M a (oB 6 [.ref sh, w1, w2, w3, v0, v1])) a (oB 6 [.ref sh, .int dv, w2, w3, v0, v1])) cl (oB 1 [.null, .null])) b = some (aI G 3 lo) := (mU_n n_15).trans m_8
  have n_17 : c ≠ cl := g_nef m_9 fcl
  have m_18 : (mU (mU (mU M a (oB 6 [.ref sh, w1, w2, w3, v0, v1])) a (oB 6 [.ref sh, .int dv, w2, w3, v0, v1])) cl (oB 1 [.null, .null])) c = some (aI G 3 hi) := (mU_n n_17).trans m_9
  have n_19 : d ≠ cl := g_nef m_10 fcl
  have m_20 : (mU (mU (mU M a (oB 6 [.ref sh, w1, w2, w3, v0, v1])) a (oB 6 [.ref sh, .int dv, w2, w3, v0, v1])) cl (oB 1 [.null, .null])) d = some (aI G 3 sp) := (mU_n n_19).trans m_10
  have m_21 : (mU (mU (mU M a (oB 6 [.ref sh, w1, w2, w3, v0, v1])) a (oB 6 [.ref sh, .int dv, w2, w3, v0, v1])) cl (oB 1 [.null, .null])) cl = some (oB 1 [.null, .null]) := mU_s
  refine q_dup X dX5_init_18 rfl ?_
  refine q_aload_n X dX5_init_19 1 rfl ?_
  refine q_callVp X (c_X7_size (n := nI m) (lo := lo) (hi := hi) ⟨b, c, d, sp, m_14, m_16, m_18, m_20, s5, s6, s7⟩) Y_X7_size tw_146 tw_108 tw_109 m_14 rfl (by decide) rfl rfl (Nat.le_of_ble_eq_true rfl) dX5_init_20 ?_
  rw [eSz]
  refine q_callI X (c_X0_init m_21 hN) Y_X0_init tw_147 tw_112 rfl (by decide) rfl rfl (Nat.le_of_ble_eq_true rfl) (rc' := 1) (rs' := (N + 63) / 64) (by omega) (by omega) dX5_init_23 (fun v M' hp _ => ?_)
  obtain ⟨rfl, nb, mb, hC, fnb0, fmb0, hfr⟩ := hp
  generalize M' = M2 at *
  have m_22 : M2 a = some (oB 6 [.ref sh, .int dv, w2, w3, v0, v1]) := (hfr a (n_11) (g_nef m_12 fnb0) (g_nef m_12 fmb0)).trans m_12
  have m_23 : M2 sh = some (oB 7 [.int (nI m), .ref b, .ref c, .ref d, .int (sL lo hi 0 * sL lo hi 1 * sL lo hi 2)]) := (hfr sh (n_13) (g_nef m_14 fnb0) (g_nef m_14 fmb0)).trans m_14
  have m_24 : M2 b = some (aI G 3 lo) := (hfr b (n_15) (g_nef m_16 fnb0) (g_nef m_16 fmb0)).trans m_16
  have m_25 : M2 c = some (aI G 3 hi) := (hfr c (n_17) (g_nef m_18 fnb0) (g_nef m_18 fmb0)).trans m_18
  have m_26 : M2 d = some (aI G 3 sp) := (hfr d (n_19) (g_nef m_20 fnb0) (g_nef m_20 fmb0)).trans m_20
  obtain ⟨num, mk, c1, c2, c3, c4, c5, c6⟩ := hC
  show qJ G F _ 3 M2 1 ((N + 63) / 64) 26 [(0, .ref a), (1, .ref sh), (2, .int dv)] [.ref cl, .ref a]
  refine q_putF X hn m_22 rfl in_RX6 tyX6 tyX6_ok nmX6 2 (by decide) tw_154 rfl rfl rfl rfl rfl rfl (Nat.le_of_ble_eq_true rfl) (fs1 := [.ref sh, .int dv, .ref cl, w3, v0, v1]) rfl dX5_init_26 ?_
  have m_27 : (mU M2 a (oB 6 [.ref sh, .int dv, .ref cl, w3, v0, v1])) a = some (oB 6 [.ref sh, .int dv, .ref cl, w3, v0, v1]) := mU_s
  have m_28 : (mU M2 a (oB 6 [.ref sh, .int dv, .ref cl, w3, v0, v1])) sh = some (oB 7 [.int (nI m), .ref b, .ref c, .ref d, .int (sL lo hi 0 * sL lo hi 1 * sL lo hi 2)]) := (mU_n (n1)).trans m_23
  have m_29 : (mU M2 a (oB 6 [.ref sh, .int dv, .ref cl, w3, v0, v1])) b = some (aI G 3 lo) := (mU_n (n2)).trans m_24
  have m_30 : (mU M2 a (oB 6 [.ref sh, .int dv, .ref cl, w3, v0, v1])) c = some (aI G 3 hi) := (mU_n (n3)).trans m_25
  have m_31 : (mU M2 a (oB 6 [.ref sh, .int dv, .ref cl, w3, v0, v1])) d = some (aI G 3 sp) := (mU_n (n4)).trans m_26
  have m_32 : (mU M2 a (oB 6 [.ref sh, .int dv, .ref cl, w3, v0, v1])) cl = some (oB 1 [.ref nb, .ref mb]) := (mU_n (Ne.symm n_11)).trans c1
  have m_33 : (mU M2 a (oB 6 [.ref sh, .int dv, .ref cl, w3, v0, v1])) nb = some (aJ G N num) := (mU_n ((g_nef m_12 fnb0).symm)).trans c2
  have m_34 : (mU M2 a (oB 6 [.ref sh, .int dv, .ref cl, w3, v0, v1])) mb = some (aJ G ((N + 63) / 64) mk) := (mU_n ((g_nef m_12 fmb0).symm)).trans c3
  refine q_aload_n X dX5_init_29 0 rfl ?_
  refine q_aload_n X dX5_init_30 1 rfl ?_
  refine q_callVp X (c_X7_size (n := nI m) (lo := lo) (hi := hi) ⟨b, c, d, sp, m_28, m_29, m_30, m_31, s5, s6, s7⟩) Y_X7_size tw_146 tw_108 tw_109 m_28 rfl (by decide) rfl rfl (Nat.le_of_ble_eq_true rfl) dX5_init_31 ?_
  rw [eSz]
  refine q_bipush (v := 63) X dX5_init_34 (by decide) ?_
  refine q_iadd X dX5_init_36 ?_
  refine q_bipush (v := 64) X dX5_init_37 (by decide) ?_
  refine q_idiv X dX5_init_39 (by decide) ?_
  rw [cw_div hN]
  refine q_iconst (v := 0) X dX5_init_40 (by decide) ?_
  refine q_callSp X (c_J9_max_7cf53) Y_J9_max_7cf53 tw_148 tw_116 (by decide) rfl rfl (Nat.le_of_ble_eq_true rfl) dX5_init_41 ?_
  rw [mxI_0 (by omega)]
  refine q_newJ X tw_125 ((N + 63) / 64) (rfl) (by omega) (rc' := 0) (rs' := 0) (by omega) (by omega) dX5_init_44 (fun aa faa => ?_)
  have n_35 : a ≠ aa := g_nef m_27 faa
  have m_36 : (mU (mU M2 a (oB 6 [.ref sh, .int dv, .ref cl, w3, v0, v1])) aa (aJ G ((N + 63) / 64) (fun _ => 0))) a = some (oB 6 [.ref sh, .int dv, .ref cl, w3, v0, v1]) := (mU_n n_35).trans m_27
  have n_37 : sh ≠ aa := g_nef m_28 faa
  have m_38 : (mU (mU M2 a (oB 6 [.ref sh, .int dv, .ref cl, w3, v0, v1])) aa (aJ G ((N + 63) / 64) (fun _ => 0))) sh = some (oB 7 [.int (nI m), .ref b, .ref c, .ref d, .int (sL lo hi 0 * sL lo hi 1 * sL lo hi 2)]) := (mU_n n_37).trans m_28
  have n_39 : b ≠ aa := g_nef m_29 faa
  have m_40 : (mU (mU M2 a (oB 6 [.ref sh, .int dv, .ref cl, w3, v0, v1])) aa (aJ G ((N + 63) / 64) (fun _ => 0))) b = some (aI G 3 lo) := (mU_n n_39).trans m_29
  have n_41 : c ≠ aa := g_nef m_30 faa
  have m_42 : (mU (mU M2 a (oB 6 [.ref sh, .int dv, .ref cl, w3, v0, v1])) aa (aJ G ((N + 63) / 64) (fun _ => 0))) c = some (aI G 3 hi) := (mU_n n_41).trans m_30
  have n_43 : d ≠ aa := g_nef m_31 faa
  have m_44 : (mU (mU M2 a (oB 6 [.ref sh, .int dv, .ref cl, w3, v0, v1])) aa (aJ G ((N + 63) / 64) (fun _ => 0))) d = some (aI G 3 sp) := (mU_n n_43).trans m_31
  have n_45 : cl ≠ aa := g_nef m_32 faa
  have m_46 : (mU (mU M2 a (oB 6 [.ref sh, .int dv, .ref cl, w3, v0, v1])) aa (aJ G ((N + 63) / 64) (fun _ => 0))) cl = some (oB 1 [.ref nb, .ref mb]) := (mU_n n_45).trans m_32
  have n_47 : nb ≠ aa := g_nef m_33 faa
  have m_48 : (mU (mU M2 a (oB 6 [.ref sh, .int dv, .ref cl, w3, v0, v1])) aa (aJ G ((N + 63) / 64) (fun _ => 0))) nb = some (aJ G N num) := (mU_n n_47).trans m_33
  have n_49 : mb ≠ aa := g_nef m_34 faa
  have m_50 : (mU (mU M2 a (oB 6 [.ref sh, .int dv, .ref cl, w3, v0, v1])) aa (aJ G ((N + 63) / 64) (fun _ => 0))) mb = some (aJ G ((N + 63) / 64) mk) := (mU_n n_49).trans m_34
  have m_51 : (mU (mU M2 a (oB 6 [.ref sh, .int dv, .ref cl, w3, v0, v1])) aa (aJ G ((N + 63) / 64) (fun _ => 0))) aa = some (aJ G ((N + 63) / 64) (fun _ => 0)) := mU_s
  refine q_putF X hn m_36 rfl in_RX6 tyX6 tyX6_ok nmX6 3 (by decide) tw_155 rfl rfl rfl rfl rfl rfl (Nat.le_of_ble_eq_true rfl) (fs1 := [.ref sh, .int dv, .ref cl, .ref aa, v0, v1]) rfl dX5_init_46 ?_
  have m_52 : (mU (mU (mU M2 a (oB 6 [.ref sh, .int dv, .ref cl, w3, v0, v1])) aa (aJ G ((N + 63) / 64) (fun _ => 0))) a (oB 6 [.ref sh, .int dv, .ref cl, .ref aa, v0, v1])) a = some (oB 6 [.ref sh, .int dv, .ref cl, .ref aa, v0, v1]) := mU_s
  have m_53 : (mU (mU (mU M2 a (oB 6 [.ref sh, .int dv, .ref cl, w3, v0, v1])) aa (aJ G ((N + 63) / 64) (fun _ => 0))) a (oB 6 [.ref sh, .int dv, .ref cl, .ref aa, v0, v1])) sh = some (oB 7 [.int (nI m), .ref b, .ref c, .ref d, .int (sL lo hi 0 * sL lo hi 1 * sL lo hi 2)]) := (mU_n (n1)).trans m_38
  have m_54 : (mU (mU (mU M2 a (oB 6 [.ref sh, .int dv, .ref cl, w3, v0, v1])) aa (aJ G ((N + 63) / 64) (fun _ => 0))) a (oB 6 [.ref sh, .int dv, .ref cl, .ref aa, v0, v1])) b = some (aI G 3 lo) := (mU_n (n2)).trans m_40
  have m_55 : (mU (mU (mU M2 a (oB 6 [.ref sh, .int dv, .ref cl, w3, v0, v1])) aa (aJ G ((N + 63) / 64) (fun _ => 0))) a (oB 6 [.ref sh, .int dv, .ref cl, .ref aa, v0, v1])) c = some (aI G 3 hi) := (mU_n (n3)).trans m_42
  have m_56 : (mU (mU (mU M2 a (oB 6 [.ref sh, .int dv, .ref cl, w3, v0, v1])) aa (aJ G ((N + 63) / 64) (fun _ => 0))) a (oB 6 [.ref sh, .int dv, .ref cl, .ref aa, v0, v1])) d = some (aI G 3 sp) := (mU_n (n4)).trans m_44
  have m_57 : (mU (mU (mU M2 a (oB 6 [.ref sh, .int dv, .ref cl, w3, v0, v1])) aa (aJ G ((N + 63) / 64) (fun _ => 0))) a (oB 6 [.ref sh, .int dv, .ref cl, .ref aa, v0, v1])) cl = some (oB 1 [.ref nb, .ref mb]) := (mU_n (Ne.symm n_11)).trans m_46
  have m_58 : (mU (mU (mU M2 a (oB 6 [.ref sh, .int dv, .ref cl, w3, v0, v1])) aa (aJ G ((N + 63) / 64) (fun _ => 0))) a (oB 6 [.ref sh, .int dv, .ref cl, .ref aa, v0, v1])) nb = some (aJ G N num) := (mU_n ((g_nef m_12 fnb0).symm)).trans m_48
  have m_59 : (mU (mU (mU M2 a (oB 6 [.ref sh, .int dv, .ref cl, w3, v0, v1])) aa (aJ G ((N + 63) / 64) (fun _ => 0))) a (oB 6 [.ref sh, .int dv, .ref cl, .ref aa, v0, v1])) mb = some (aJ G ((N + 63) / 64) mk) := (mU_n ((g_nef m_12 fmb0).symm)).trans m_50
  have m_60 : (mU (mU (mU M2 a (oB 6 [.ref sh, .int dv, .ref cl, w3, v0, v1])) aa (aJ G ((N + 63) / 64) (fun _ => 0))) a (oB 6 [.ref sh, .int dv, .ref cl, .ref aa, v0, v1])) aa = some (aJ G ((N + 63) / 64) (fun _ => 0)) := (mU_n (Ne.symm n_35)).trans m_51
  have Lcl : M cl = none := (mU_no (mU_no fcl).1).1
  have Lnb : M nb = none := (mU_no (mU_no (mU_no fnb0).1).1).1
  have Lmb : M mb = none := (mU_no (mU_no (mU_no fmb0).1).1).1
  have old : ∀ q, q ≠ a → M q ≠ none → M2 q = M q := fun q q1 q2 => by
    rw [hfr q (fun e => q2 (by rw [e]; exact Lcl)) (fun e => q2 (by rw [e]; exact Lnb)) (fun e => q2 (by rw [e]; exact Lmb)), mU_n (fun e => q2 (by rw [e]; exact Lcl)), mU_n q1, mU_n q1]
  have naa := mU_no faa
  have Laa : M aa = none := by
    cases h9 : M aa with
    | none => rfl
    | some e9 => have h8 := old aa naa.2 (by rw [h9]; exact fun h => by cases h); rw [naa.1, h9] at h8; cases h8
  have fin : ∀ q, q ≠ a → M q ≠ none → (mU (mU (mU M2 a (oB 6 [.ref sh, .int dv, .ref cl, w3, v0, v1])) aa (aJ G ((N + 63) / 64) (fun _ => 0))) a (oB 6 [.ref sh, .int dv, .ref cl, .ref aa, v0, v1])) q = M q := fun q q1 q2 => by
    rw [mU_n q1, mU_n (fun e => q2 (by rw [e]; exact Laa)), mU_n q1]; exact old q q1 q2
  exact q_vret X hr dX5_init_49 (⟨rfl, cl, nb, mb, aa, m_52, ⟨num, mk, m_57, m_58, m_59, c4, c5, c6⟩, m_60, Lcl, Lnb, Lmb, Laa, n_47, n_49, fin⟩)

set_option maxRecDepth 20000 in
theorem c_X5_init_9 {l : Launch} {G : gV} {M : gMem} {a sh m : Nat} {dv : Int32} {lo hi : Nat → Int32} {w0 w1 w2 w3 v0 v1 v2 : Value} (hA : M a = some (oB 9 [w0, w1, w2, w3, v0, v1, v2])) (hS : isShape G M sh (nI m) lo hi) (hO : okS m lo hi) (hN : sz3 lo hi ≤ 4096) : qC l G yX5_init cX5_init 3 none 3 4 (2 + (sz3 lo hi + (sz3 lo hi + 63) / 64) + (sz3 lo hi + 63) / 64) [.ref a, .ref sh, .int dv] M (ndP G M a 9 sh dv (sz3 lo hi) [v0, v1, v2]) := by
  refine qC_of (by decide +kernel) (Nat.le_of_ble_eq_true rfl) (fun F hF X hr hn => ?_)
  subst hF
  have X : qX G F cX5_init 3 RX5 3 := X
  obtain ⟨b, c, d, sp, s1, s2, s3, s4, s5, s6, s7⟩ := id hS
  have n1 : sh ≠ a := fun e => by rw [e, hA] at s1; cases s1
  have n2 : b ≠ a := fun e => by rw [e, hA] at s2; cases s2
  have n3 : c ≠ a := fun e => by rw [e, hA] at s3; cases s3
  have n4 : d ≠ a := fun e => by rw [e, hA] at s4; cases s4
  generalize eN : sz3 lo hi = N at hN ⊢
  have eSz := hO.size
  rw [eN] at eSz
  show qJ G F _ 3 M 4 (2 + (N + (N + 63) / 64) + (N + 63) / 64) 0 [(0, .ref a), (1, .ref sh), (2, .int dv)] []
  refine q_aload_n X dX5_init_0 0 rfl ?_
  refine q_obj X tw_144 tw_38 tw_39 (by decide) (Nat.le_of_ble_eq_true rfl) dX5_init_1 ?_
  refine q_aload_n X dX5_init_4 0 rfl ?_
  refine q_aload_n X dX5_init_5 1 rfl ?_
  refine q_putF X hn hA rfl in_RX9 tyX9 tyX9_ok nmX9 0 (by decide) tw_152 rfl rfl rfl rfl rfl rfl (Nat.le_of_ble_eq_true rfl) (fs1 := [.ref sh, w1, w2, w3, v0, v1, v2]) rfl dX5_init_6 ?_
  have m_1 : (mU M a (oB 9 [.ref sh, w1, w2, w3, v0, v1, v2])) a = some (oB 9 [.ref sh, w1, w2, w3, v0, v1, v2]) := mU_s
  have m_2 : (mU M a (oB 9 [.ref sh, w1, w2, w3, v0, v1, v2])) sh = some (oB 7 [.int (nI m), .ref b, .ref c, .ref d, .int (sL lo hi 0 * sL lo hi 1 * sL lo hi 2)]) := (mU_n (n1)).trans s1
  have m_3 : (mU M a (oB 9 [.ref sh, w1, w2, w3, v0, v1, v2])) b = some (aI G 3 lo) := (mU_n (n2)).trans s2
  have m_4 : (mU M a (oB 9 [.ref sh, w1, w2, w3, v0, v1, v2])) c = some (aI G 3 hi) := (mU_n (n3)).trans s3
  have m_5 : (mU M a (oB 9 [.ref sh, w1, w2, w3, v0, v1, v2])) d = some (aI G 3 sp) := (mU_n (n4)).trans s4
  refine q_aload_n X dX5_init_9 0 rfl ?_
  refine q_iload_n X dX5_init_10 2 rfl ?_
  refine q_putF X hn m_1 rfl in_RX9 tyX9 tyX9_ok nmX9 1 (by decide) tw_153 rfl rfl rfl rfl rfl rfl (Nat.le_of_ble_eq_true rfl) (fs1 := [.ref sh, .int dv, w2, w3, v0, v1, v2]) rfl dX5_init_11 ?_
  have m_6 : (mU (mU M a (oB 9 [.ref sh, w1, w2, w3, v0, v1, v2])) a (oB 9 [.ref sh, .int dv, w2, w3, v0, v1, v2])) a = some (oB 9 [.ref sh, .int dv, w2, w3, v0, v1, v2]) := mU_s
  have m_7 : (mU (mU M a (oB 9 [.ref sh, w1, w2, w3, v0, v1, v2])) a (oB 9 [.ref sh, .int dv, w2, w3, v0, v1, v2])) sh = some (oB 7 [.int (nI m), .ref b, .ref c, .ref d, .int (sL lo hi 0 * sL lo hi 1 * sL lo hi 2)]) := (mU_n (n1)).trans m_2
  have m_8 : (mU (mU M a (oB 9 [.ref sh, w1, w2, w3, v0, v1, v2])) a (oB 9 [.ref sh, .int dv, w2, w3, v0, v1, v2])) b = some (aI G 3 lo) := (mU_n (n2)).trans m_3
  have m_9 : (mU (mU M a (oB 9 [.ref sh, w1, w2, w3, v0, v1, v2])) a (oB 9 [.ref sh, .int dv, w2, w3, v0, v1, v2])) c = some (aI G 3 hi) := (mU_n (n3)).trans m_4
  have m_10 : (mU (mU M a (oB 9 [.ref sh, w1, w2, w3, v0, v1, v2])) a (oB 9 [.ref sh, .int dv, w2, w3, v0, v1, v2])) d = some (aI G 3 sp) := (mU_n (n4)).trans m_5
  refine q_aload_n X dX5_init_14 0 rfl ?_
  refine q_new X (ci := 1) rfl in_RX0 tyX0 tyX0_ok tw_145 tw_106 tw_6 (fs0 := [.null, .null]) (fun j hj => by rcases (show j = 0 ∨ j = 1 by omega) with rfl | rfl <;> rfl) (rc' := 3) (rs' := N + (N + 63) / 64 + (N + 63) / 64) (by omega) (by omega) dX5_init_15 (fun cl fcl => ?_)
  have n_11 : a ≠ cl := g_nef m_6 fcl
  have m_12 : (mU (mU (mU M a (oB 9 [.ref sh, w1, w2, w3, v0, v1, v2])) a (oB 9 [.ref sh, .int dv, w2, w3, v0, v1, v2])) cl (oB 1 [.null, .null])) a = some (oB 9 [.ref sh, .int dv, w2, w3, v0, v1, v2]) := (mU_n n_11).trans m_6
  have n_13 : sh ≠ cl := g_nef m_7 fcl
  have m_14 : (mU (mU (mU M a (oB 9 [.ref sh, w1, w2, w3, v0, v1, v2])) a (oB 9 [.ref sh, .int dv, w2, w3, v0, v1, v2])) cl (oB 1 [.null, .null])) sh = some (oB 7 [.int (nI m), .ref b, .ref c, .ref d, .int (sL lo hi 0 * sL lo hi 1 * sL lo hi 2)]) := (mU_n n_13).trans m_7
  have n_15 : b ≠ cl := g_nef m_8 fcl
  have m_16 : (mU (mU (mU M a (oB 9 [.ref sh, w1, w2, w3, v0, v1, v2])) a (oB 9 [.ref sh, .int dv, w2, w3, v0, v1, v2])) cl (oB 1 [.null, .null])) b = some (aI G 3 lo) := (mU_n n_15).trans m_8
  have n_17 : c ≠ cl := g_nef m_9 fcl
  have m_18 : (mU (mU (mU M a (oB 9 [.ref sh, w1, w2, w3, v0, v1, v2])) a (oB 9 [.ref sh, .int dv, w2, w3, v0, v1, v2])) cl (oB 1 [.null, .null])) c = some (aI G 3 hi) := (mU_n n_17).trans m_9
  have n_19 : d ≠ cl := g_nef m_10 fcl
  have m_20 : (mU (mU (mU M a (oB 9 [.ref sh, w1, w2, w3, v0, v1, v2])) a (oB 9 [.ref sh, .int dv, w2, w3, v0, v1, v2])) cl (oB 1 [.null, .null])) d = some (aI G 3 sp) := (mU_n n_19).trans m_10
  have m_21 : (mU (mU (mU M a (oB 9 [.ref sh, w1, w2, w3, v0, v1, v2])) a (oB 9 [.ref sh, .int dv, w2, w3, v0, v1, v2])) cl (oB 1 [.null, .null])) cl = some (oB 1 [.null, .null]) := mU_s
  refine q_dup X dX5_init_18 rfl ?_
  refine q_aload_n X dX5_init_19 1 rfl ?_
  refine q_callVp X (c_X7_size (n := nI m) (lo := lo) (hi := hi) ⟨b, c, d, sp, m_14, m_16, m_18, m_20, s5, s6, s7⟩) Y_X7_size tw_146 tw_108 tw_109 m_14 rfl (by decide) rfl rfl (Nat.le_of_ble_eq_true rfl) dX5_init_20 ?_
  rw [eSz]
  refine q_callI X (c_X0_init m_21 hN) Y_X0_init tw_147 tw_112 rfl (by decide) rfl rfl (Nat.le_of_ble_eq_true rfl) (rc' := 1) (rs' := (N + 63) / 64) (by omega) (by omega) dX5_init_23 (fun v M' hp _ => ?_)
  obtain ⟨rfl, nb, mb, hC, fnb0, fmb0, hfr⟩ := hp
  generalize M' = M2 at *
  have m_22 : M2 a = some (oB 9 [.ref sh, .int dv, w2, w3, v0, v1, v2]) := (hfr a (n_11) (g_nef m_12 fnb0) (g_nef m_12 fmb0)).trans m_12
  have m_23 : M2 sh = some (oB 7 [.int (nI m), .ref b, .ref c, .ref d, .int (sL lo hi 0 * sL lo hi 1 * sL lo hi 2)]) := (hfr sh (n_13) (g_nef m_14 fnb0) (g_nef m_14 fmb0)).trans m_14
  have m_24 : M2 b = some (aI G 3 lo) := (hfr b (n_15) (g_nef m_16 fnb0) (g_nef m_16 fmb0)).trans m_16
  have m_25 : M2 c = some (aI G 3 hi) := (hfr c (n_17) (g_nef m_18 fnb0) (g_nef m_18 fmb0)).trans m_18
  have m_26 : M2 d = some (aI G 3 sp) := (hfr d (n_19) (g_nef m_20 fnb0) (g_nef m_20 fmb0)).trans m_20
  obtain ⟨num, mk, c1, c2, c3, c4, c5, c6⟩ := hC
  show qJ G F _ 3 M2 1 ((N + 63) / 64) 26 [(0, .ref a), (1, .ref sh), (2, .int dv)] [.ref cl, .ref a]
  refine q_putF X hn m_22 rfl in_RX9 tyX9 tyX9_ok nmX9 2 (by decide) tw_154 rfl rfl rfl rfl rfl rfl (Nat.le_of_ble_eq_true rfl) (fs1 := [.ref sh, .int dv, .ref cl, w3, v0, v1, v2]) rfl dX5_init_26 ?_
  have m_27 : (mU M2 a (oB 9 [.ref sh, .int dv, .ref cl, w3, v0, v1, v2])) a = some (oB 9 [.ref sh, .int dv, .ref cl, w3, v0, v1, v2]) := mU_s
  have m_28 : (mU M2 a (oB 9 [.ref sh, .int dv, .ref cl, w3, v0, v1, v2])) sh = some (oB 7 [.int (nI m), .ref b, .ref c, .ref d, .int (sL lo hi 0 * sL lo hi 1 * sL lo hi 2)]) := (mU_n (n1)).trans m_23
  have m_29 : (mU M2 a (oB 9 [.ref sh, .int dv, .ref cl, w3, v0, v1, v2])) b = some (aI G 3 lo) := (mU_n (n2)).trans m_24
  have m_30 : (mU M2 a (oB 9 [.ref sh, .int dv, .ref cl, w3, v0, v1, v2])) c = some (aI G 3 hi) := (mU_n (n3)).trans m_25
  have m_31 : (mU M2 a (oB 9 [.ref sh, .int dv, .ref cl, w3, v0, v1, v2])) d = some (aI G 3 sp) := (mU_n (n4)).trans m_26
  have m_32 : (mU M2 a (oB 9 [.ref sh, .int dv, .ref cl, w3, v0, v1, v2])) cl = some (oB 1 [.ref nb, .ref mb]) := (mU_n (Ne.symm n_11)).trans c1
  have m_33 : (mU M2 a (oB 9 [.ref sh, .int dv, .ref cl, w3, v0, v1, v2])) nb = some (aJ G N num) := (mU_n ((g_nef m_12 fnb0).symm)).trans c2
  have m_34 : (mU M2 a (oB 9 [.ref sh, .int dv, .ref cl, w3, v0, v1, v2])) mb = some (aJ G ((N + 63) / 64) mk) := (mU_n ((g_nef m_12 fmb0).symm)).trans c3
  refine q_aload_n X dX5_init_29 0 rfl ?_
  refine q_aload_n X dX5_init_30 1 rfl ?_
  refine q_callVp X (c_X7_size (n := nI m) (lo := lo) (hi := hi) ⟨b, c, d, sp, m_28, m_29, m_30, m_31, s5, s6, s7⟩) Y_X7_size tw_146 tw_108 tw_109 m_28 rfl (by decide) rfl rfl (Nat.le_of_ble_eq_true rfl) dX5_init_31 ?_
  rw [eSz]
  refine q_bipush (v := 63) X dX5_init_34 (by decide) ?_
  refine q_iadd X dX5_init_36 ?_
  refine q_bipush (v := 64) X dX5_init_37 (by decide) ?_
  refine q_idiv X dX5_init_39 (by decide) ?_
  rw [cw_div hN]
  refine q_iconst (v := 0) X dX5_init_40 (by decide) ?_
  refine q_callSp X (c_J9_max_7cf53) Y_J9_max_7cf53 tw_148 tw_116 (by decide) rfl rfl (Nat.le_of_ble_eq_true rfl) dX5_init_41 ?_
  rw [mxI_0 (by omega)]
  refine q_newJ X tw_125 ((N + 63) / 64) (rfl) (by omega) (rc' := 0) (rs' := 0) (by omega) (by omega) dX5_init_44 (fun aa faa => ?_)
  have n_35 : a ≠ aa := g_nef m_27 faa
  have m_36 : (mU (mU M2 a (oB 9 [.ref sh, .int dv, .ref cl, w3, v0, v1, v2])) aa (aJ G ((N + 63) / 64) (fun _ => 0))) a = some (oB 9 [.ref sh, .int dv, .ref cl, w3, v0, v1, v2]) := (mU_n n_35).trans m_27
  have n_37 : sh ≠ aa := g_nef m_28 faa
  have m_38 : (mU (mU M2 a (oB 9 [.ref sh, .int dv, .ref cl, w3, v0, v1, v2])) aa (aJ G ((N + 63) / 64) (fun _ => 0))) sh = some (oB 7 [.int (nI m), .ref b, .ref c, .ref d, .int (sL lo hi 0 * sL lo hi 1 * sL lo hi 2)]) := (mU_n n_37).trans m_28
  have n_39 : b ≠ aa := g_nef m_29 faa
  have m_40 : (mU (mU M2 a (oB 9 [.ref sh, .int dv, .ref cl, w3, v0, v1, v2])) aa (aJ G ((N + 63) / 64) (fun _ => 0))) b = some (aI G 3 lo) := (mU_n n_39).trans m_29
  have n_41 : c ≠ aa := g_nef m_30 faa
  have m_42 : (mU (mU M2 a (oB 9 [.ref sh, .int dv, .ref cl, w3, v0, v1, v2])) aa (aJ G ((N + 63) / 64) (fun _ => 0))) c = some (aI G 3 hi) := (mU_n n_41).trans m_30
  have n_43 : d ≠ aa := g_nef m_31 faa
  have m_44 : (mU (mU M2 a (oB 9 [.ref sh, .int dv, .ref cl, w3, v0, v1, v2])) aa (aJ G ((N + 63) / 64) (fun _ => 0))) d = some (aI G 3 sp) := (mU_n n_43).trans m_31
  have n_45 : cl ≠ aa := g_nef m_32 faa
  have m_46 : (mU (mU M2 a (oB 9 [.ref sh, .int dv, .ref cl, w3, v0, v1, v2])) aa (aJ G ((N + 63) / 64) (fun _ => 0))) cl = some (oB 1 [.ref nb, .ref mb]) := (mU_n n_45).trans m_32
  have n_47 : nb ≠ aa := g_nef m_33 faa
  have m_48 : (mU (mU M2 a (oB 9 [.ref sh, .int dv, .ref cl, w3, v0, v1, v2])) aa (aJ G ((N + 63) / 64) (fun _ => 0))) nb = some (aJ G N num) := (mU_n n_47).trans m_33
  have n_49 : mb ≠ aa := g_nef m_34 faa
  have m_50 : (mU (mU M2 a (oB 9 [.ref sh, .int dv, .ref cl, w3, v0, v1, v2])) aa (aJ G ((N + 63) / 64) (fun _ => 0))) mb = some (aJ G ((N + 63) / 64) mk) := (mU_n n_49).trans m_34
  have m_51 : (mU (mU M2 a (oB 9 [.ref sh, .int dv, .ref cl, w3, v0, v1, v2])) aa (aJ G ((N + 63) / 64) (fun _ => 0))) aa = some (aJ G ((N + 63) / 64) (fun _ => 0)) := mU_s
  refine q_putF X hn m_36 rfl in_RX9 tyX9 tyX9_ok nmX9 3 (by decide) tw_155 rfl rfl rfl rfl rfl rfl (Nat.le_of_ble_eq_true rfl) (fs1 := [.ref sh, .int dv, .ref cl, .ref aa, v0, v1, v2]) rfl dX5_init_46 ?_
  have m_52 : (mU (mU (mU M2 a (oB 9 [.ref sh, .int dv, .ref cl, w3, v0, v1, v2])) aa (aJ G ((N + 63) / 64) (fun _ => 0))) a (oB 9 [.ref sh, .int dv, .ref cl, .ref aa, v0, v1, v2])) a = some (oB 9 [.ref sh, .int dv, .ref cl, .ref aa, v0, v1, v2]) := mU_s
  have m_53 : (mU (mU (mU M2 a (oB 9 [.ref sh, .int dv, .ref cl, w3, v0, v1, v2])) aa (aJ G ((N + 63) / 64) (fun _ => 0))) a (oB 9 [.ref sh, .int dv, .ref cl, .ref aa, v0, v1, v2])) sh = some (oB 7 [.int (nI m), .ref b, .ref c, .ref d, .int (sL lo hi 0 * sL lo hi 1 * sL lo hi 2)]) := (mU_n (n1)).trans m_38
  have m_54 : (mU (mU (mU M2 a (oB 9 [.ref sh, .int dv, .ref cl, w3, v0, v1, v2])) aa (aJ G ((N + 63) / 64) (fun _ => 0))) a (oB 9 [.ref sh, .int dv, .ref cl, .ref aa, v0, v1, v2])) b = some (aI G 3 lo) := (mU_n (n2)).trans m_40
  have m_55 : (mU (mU (mU M2 a (oB 9 [.ref sh, .int dv, .ref cl, w3, v0, v1, v2])) aa (aJ G ((N + 63) / 64) (fun _ => 0))) a (oB 9 [.ref sh, .int dv, .ref cl, .ref aa, v0, v1, v2])) c = some (aI G 3 hi) := (mU_n (n3)).trans m_42
  have m_56 : (mU (mU (mU M2 a (oB 9 [.ref sh, .int dv, .ref cl, w3, v0, v1, v2])) aa (aJ G ((N + 63) / 64) (fun _ => 0))) a (oB 9 [.ref sh, .int dv, .ref cl, .ref aa, v0, v1, v2])) d = some (aI G 3 sp) := (mU_n (n4)).trans m_44
  have m_57 : (mU (mU (mU M2 a (oB 9 [.ref sh, .int dv, .ref cl, w3, v0, v1, v2])) aa (aJ G ((N + 63) / 64) (fun _ => 0))) a (oB 9 [.ref sh, .int dv, .ref cl, .ref aa, v0, v1, v2])) cl = some (oB 1 [.ref nb, .ref mb]) := (mU_n (Ne.symm n_11)).trans m_46
  have m_58 : (mU (mU (mU M2 a (oB 9 [.ref sh, .int dv, .ref cl, w3, v0, v1, v2])) aa (aJ G ((N + 63) / 64) (fun _ => 0))) a (oB 9 [.ref sh, .int dv, .ref cl, .ref aa, v0, v1, v2])) nb = some (aJ G N num) := (mU_n ((g_nef m_12 fnb0).symm)).trans m_48
  have m_59 : (mU (mU (mU M2 a (oB 9 [.ref sh, .int dv, .ref cl, w3, v0, v1, v2])) aa (aJ G ((N + 63) / 64) (fun _ => 0))) a (oB 9 [.ref sh, .int dv, .ref cl, .ref aa, v0, v1, v2])) mb = some (aJ G ((N + 63) / 64) mk) := (mU_n ((g_nef m_12 fmb0).symm)).trans m_50
  have m_60 : (mU (mU (mU M2 a (oB 9 [.ref sh, .int dv, .ref cl, w3, v0, v1, v2])) aa (aJ G ((N + 63) / 64) (fun _ => 0))) a (oB 9 [.ref sh, .int dv, .ref cl, .ref aa, v0, v1, v2])) aa = some (aJ G ((N + 63) / 64) (fun _ => 0)) := (mU_n (Ne.symm n_35)).trans m_51
  have Lcl : M cl = none := (mU_no (mU_no fcl).1).1
  have Lnb : M nb = none := (mU_no (mU_no (mU_no fnb0).1).1).1
  have Lmb : M mb = none := (mU_no (mU_no (mU_no fmb0).1).1).1
  have old : ∀ q, q ≠ a → M q ≠ none → M2 q = M q := fun q q1 q2 => by
    rw [hfr q (fun e => q2 (by rw [e]; exact Lcl)) (fun e => q2 (by rw [e]; exact Lnb)) (fun e => q2 (by rw [e]; exact Lmb)), mU_n (fun e => q2 (by rw [e]; exact Lcl)), mU_n q1, mU_n q1]
  have naa := mU_no faa
  have Laa : M aa = none := by
    cases h9 : M aa with
    | none => rfl
    | some e9 => have h8 := old aa naa.2 (by rw [h9]; exact fun h => by cases h); rw [naa.1, h9] at h8; cases h8
  have fin : ∀ q, q ≠ a → M q ≠ none → (mU (mU (mU M2 a (oB 9 [.ref sh, .int dv, .ref cl, w3, v0, v1, v2])) aa (aJ G ((N + 63) / 64) (fun _ => 0))) a (oB 9 [.ref sh, .int dv, .ref cl, .ref aa, v0, v1, v2])) q = M q := fun q q1 q2 => by
    rw [mU_n q1, mU_n (fun e => q2 (by rw [e]; exact Laa)), mU_n q1]; exact old q q1 q2
  exact q_vret X hr dX5_init_49 (⟨rfl, cl, nb, mb, aa, m_52, ⟨num, mk, m_57, m_58, m_59, c4, c5, c6⟩, m_60, Lcl, Lnb, Lmb, Laa, n_47, n_49, fin⟩)

set_option maxRecDepth 20000 in
theorem c_X5_init_10 {l : Launch} {G : gV} {M : gMem} {a sh m : Nat} {dv : Int32} {lo hi : Nat → Int32} {w0 w1 w2 w3 v0 v1 v2 : Value} (hA : M a = some (oB 10 [w0, w1, w2, w3, v0, v1, v2])) (hS : isShape G M sh (nI m) lo hi) (hO : okS m lo hi) (hN : sz3 lo hi ≤ 4096) : qC l G yX5_init cX5_init 3 none 3 4 (2 + (sz3 lo hi + (sz3 lo hi + 63) / 64) + (sz3 lo hi + 63) / 64) [.ref a, .ref sh, .int dv] M (ndP G M a 10 sh dv (sz3 lo hi) [v0, v1, v2]) := by
  refine qC_of (by decide +kernel) (Nat.le_of_ble_eq_true rfl) (fun F hF X hr hn => ?_)
  subst hF
  have X : qX G F cX5_init 3 RX5 3 := X
  obtain ⟨b, c, d, sp, s1, s2, s3, s4, s5, s6, s7⟩ := id hS
  have n1 : sh ≠ a := fun e => by rw [e, hA] at s1; cases s1
  have n2 : b ≠ a := fun e => by rw [e, hA] at s2; cases s2
  have n3 : c ≠ a := fun e => by rw [e, hA] at s3; cases s3
  have n4 : d ≠ a := fun e => by rw [e, hA] at s4; cases s4
  generalize eN : sz3 lo hi = N at hN ⊢
  have eSz := hO.size
  rw [eN] at eSz
  show qJ G F _ 3 M 4 (2 + (N + (N + 63) / 64) + (N + 63) / 64) 0 [(0, .ref a), (1, .ref sh), (2, .int dv)] []
  refine q_aload_n X dX5_init_0 0 rfl ?_
  refine q_obj X tw_144 tw_38 tw_39 (by decide) (Nat.le_of_ble_eq_true rfl) dX5_init_1 ?_
  refine q_aload_n X dX5_init_4 0 rfl ?_
  refine q_aload_n X dX5_init_5 1 rfl ?_
  refine q_putF X hn hA rfl in_RX10 tyX10 tyX10_ok nmX10 0 (by decide) tw_152 rfl rfl rfl rfl rfl rfl (Nat.le_of_ble_eq_true rfl) (fs1 := [.ref sh, w1, w2, w3, v0, v1, v2]) rfl dX5_init_6 ?_
  have m_1 : (mU M a (oB 10 [.ref sh, w1, w2, w3, v0, v1, v2])) a = some (oB 10 [.ref sh, w1, w2, w3, v0, v1, v2]) := mU_s
  have m_2 : (mU M a (oB 10 [.ref sh, w1, w2, w3, v0, v1, v2])) sh = some (oB 7 [.int (nI m), .ref b, .ref c, .ref d, .int (sL lo hi 0 * sL lo hi 1 * sL lo hi 2)]) := (mU_n (n1)).trans s1
  have m_3 : (mU M a (oB 10 [.ref sh, w1, w2, w3, v0, v1, v2])) b = some (aI G 3 lo) := (mU_n (n2)).trans s2
  have m_4 : (mU M a (oB 10 [.ref sh, w1, w2, w3, v0, v1, v2])) c = some (aI G 3 hi) := (mU_n (n3)).trans s3
  have m_5 : (mU M a (oB 10 [.ref sh, w1, w2, w3, v0, v1, v2])) d = some (aI G 3 sp) := (mU_n (n4)).trans s4
  refine q_aload_n X dX5_init_9 0 rfl ?_
  refine q_iload_n X dX5_init_10 2 rfl ?_
  refine q_putF X hn m_1 rfl in_RX10 tyX10 tyX10_ok nmX10 1 (by decide) tw_153 rfl rfl rfl rfl rfl rfl (Nat.le_of_ble_eq_true rfl) (fs1 := [.ref sh, .int dv, w2, w3, v0, v1, v2]) rfl dX5_init_11 ?_
  have m_6 : (mU (mU M a (oB 10 [.ref sh, w1, w2, w3, v0, v1, v2])) a (oB 10 [.ref sh, .int dv, w2, w3, v0, v1, v2])) a = some (oB 10 [.ref sh, .int dv, w2, w3, v0, v1, v2]) := mU_s
  have m_7 : (mU (mU M a (oB 10 [.ref sh, w1, w2, w3, v0, v1, v2])) a (oB 10 [.ref sh, .int dv, w2, w3, v0, v1, v2])) sh = some (oB 7 [.int (nI m), .ref b, .ref c, .ref d, .int (sL lo hi 0 * sL lo hi 1 * sL lo hi 2)]) := (mU_n (n1)).trans m_2
  have m_8 : (mU (mU M a (oB 10 [.ref sh, w1, w2, w3, v0, v1, v2])) a (oB 10 [.ref sh, .int dv, w2, w3, v0, v1, v2])) b = some (aI G 3 lo) := (mU_n (n2)).trans m_3
  have m_9 : (mU (mU M a (oB 10 [.ref sh, w1, w2, w3, v0, v1, v2])) a (oB 10 [.ref sh, .int dv, w2, w3, v0, v1, v2])) c = some (aI G 3 hi) := (mU_n (n3)).trans m_4
  have m_10 : (mU (mU M a (oB 10 [.ref sh, w1, w2, w3, v0, v1, v2])) a (oB 10 [.ref sh, .int dv, w2, w3, v0, v1, v2])) d = some (aI G 3 sp) := (mU_n (n4)).trans m_5
  refine q_aload_n X dX5_init_14 0 rfl ?_
  refine q_new X (ci := 1) rfl in_RX0 tyX0 tyX0_ok tw_145 tw_106 tw_6 (fs0 := [.null, .null]) (fun j hj => by rcases (show j = 0 ∨ j = 1 by omega) with rfl | rfl <;> rfl) (rc' := 3) (rs' := N + (N + 63) / 64 + (N + 63) / 64) (by omega) (by omega) dX5_init_15 (fun cl fcl => ?_)
  have n_11 : a ≠ cl := g_nef m_6 fcl
  have m_12 : (mU (mU (mU M a (oB 10 [.ref sh, w1, w2, w3, v0, v1, v2])) a (oB 10 [.ref sh, .int dv, w2, w3, v0, v1, v2])) cl (oB 1 [.null, .null])) a = some (oB 10 [.ref sh, .int dv, w2, w3, v0, v1, v2]) := (mU_n n_11).trans m_6
  have n_13 : sh ≠ cl := g_nef m_7 fcl
  have m_14 : (mU (mU (mU M a (oB 10 [.ref sh, w1, w2, w3, v0, v1, v2])) a (oB 10 [.ref sh, .int dv, w2, w3, v0, v1, v2])) cl (oB 1 [.null, .null])) sh = some (oB 7 [.int (nI m), .ref b, .ref c, .ref d, .int (sL lo hi 0 * sL lo hi 1 * sL lo hi 2)]) := (mU_n n_13).trans m_7
  have n_15 : b ≠ cl := g_nef m_8 fcl
  have m_16 : (mU (mU (mU M a (oB 10 [.ref sh, w1, w2, w3, v0, v1, v2])) a (oB 10 [.ref sh, .int dv, w2, w3, v0, v1, v2])) cl (oB 1 [.null, .null])) b = some (aI G 3 lo) := (mU_n n_15).trans m_8
  have n_17 : c ≠ cl := g_nef m_9 fcl
  have m_18 : (mU (mU (mU M a (oB 10 [.ref sh, w1, w2, w3, v0, v1, v2])) a (oB 10 [.ref sh, .int dv, w2, w3, v0, v1, v2])) cl (oB 1 [.null, .null])) c = some (aI G 3 hi) := (mU_n n_17).trans m_9
  have n_19 : d ≠ cl := g_nef m_10 fcl
  have m_20 : (mU (mU (mU M a (oB 10 [.ref sh, w1, w2, w3, v0, v1, v2])) a (oB 10 [.ref sh, .int dv, w2, w3, v0, v1, v2])) cl (oB 1 [.null, .null])) d = some (aI G 3 sp) := (mU_n n_19).trans m_10
  have m_21 : (mU (mU (mU M a (oB 10 [.ref sh, w1, w2, w3, v0, v1, v2])) a (oB 10 [.ref sh, .int dv, w2, w3, v0, v1, v2])) cl (oB 1 [.null, .null])) cl = some (oB 1 [.null, .null]) := mU_s
  refine q_dup X dX5_init_18 rfl ?_
  refine q_aload_n X dX5_init_19 1 rfl ?_
  refine q_callVp X (c_X7_size (n := nI m) (lo := lo) (hi := hi) ⟨b, c, d, sp, m_14, m_16, m_18, m_20, s5, s6, s7⟩) Y_X7_size tw_146 tw_108 tw_109 m_14 rfl (by decide) rfl rfl (Nat.le_of_ble_eq_true rfl) dX5_init_20 ?_
  rw [eSz]
  refine q_callI X (c_X0_init m_21 hN) Y_X0_init tw_147 tw_112 rfl (by decide) rfl rfl (Nat.le_of_ble_eq_true rfl) (rc' := 1) (rs' := (N + 63) / 64) (by omega) (by omega) dX5_init_23 (fun v M' hp _ => ?_)
  obtain ⟨rfl, nb, mb, hC, fnb0, fmb0, hfr⟩ := hp
  generalize M' = M2 at *
  have m_22 : M2 a = some (oB 10 [.ref sh, .int dv, w2, w3, v0, v1, v2]) := (hfr a (n_11) (g_nef m_12 fnb0) (g_nef m_12 fmb0)).trans m_12
  have m_23 : M2 sh = some (oB 7 [.int (nI m), .ref b, .ref c, .ref d, .int (sL lo hi 0 * sL lo hi 1 * sL lo hi 2)]) := (hfr sh (n_13) (g_nef m_14 fnb0) (g_nef m_14 fmb0)).trans m_14
  have m_24 : M2 b = some (aI G 3 lo) := (hfr b (n_15) (g_nef m_16 fnb0) (g_nef m_16 fmb0)).trans m_16
  have m_25 : M2 c = some (aI G 3 hi) := (hfr c (n_17) (g_nef m_18 fnb0) (g_nef m_18 fmb0)).trans m_18
  have m_26 : M2 d = some (aI G 3 sp) := (hfr d (n_19) (g_nef m_20 fnb0) (g_nef m_20 fmb0)).trans m_20
  obtain ⟨num, mk, c1, c2, c3, c4, c5, c6⟩ := hC
  show qJ G F _ 3 M2 1 ((N + 63) / 64) 26 [(0, .ref a), (1, .ref sh), (2, .int dv)] [.ref cl, .ref a]
  refine q_putF X hn m_22 rfl in_RX10 tyX10 tyX10_ok nmX10 2 (by decide) tw_154 rfl rfl rfl rfl rfl rfl (Nat.le_of_ble_eq_true rfl) (fs1 := [.ref sh, .int dv, .ref cl, w3, v0, v1, v2]) rfl dX5_init_26 ?_
  have m_27 : (mU M2 a (oB 10 [.ref sh, .int dv, .ref cl, w3, v0, v1, v2])) a = some (oB 10 [.ref sh, .int dv, .ref cl, w3, v0, v1, v2]) := mU_s
  have m_28 : (mU M2 a (oB 10 [.ref sh, .int dv, .ref cl, w3, v0, v1, v2])) sh = some (oB 7 [.int (nI m), .ref b, .ref c, .ref d, .int (sL lo hi 0 * sL lo hi 1 * sL lo hi 2)]) := (mU_n (n1)).trans m_23
  have m_29 : (mU M2 a (oB 10 [.ref sh, .int dv, .ref cl, w3, v0, v1, v2])) b = some (aI G 3 lo) := (mU_n (n2)).trans m_24
  have m_30 : (mU M2 a (oB 10 [.ref sh, .int dv, .ref cl, w3, v0, v1, v2])) c = some (aI G 3 hi) := (mU_n (n3)).trans m_25
  have m_31 : (mU M2 a (oB 10 [.ref sh, .int dv, .ref cl, w3, v0, v1, v2])) d = some (aI G 3 sp) := (mU_n (n4)).trans m_26
  have m_32 : (mU M2 a (oB 10 [.ref sh, .int dv, .ref cl, w3, v0, v1, v2])) cl = some (oB 1 [.ref nb, .ref mb]) := (mU_n (Ne.symm n_11)).trans c1
  have m_33 : (mU M2 a (oB 10 [.ref sh, .int dv, .ref cl, w3, v0, v1, v2])) nb = some (aJ G N num) := (mU_n ((g_nef m_12 fnb0).symm)).trans c2
  have m_34 : (mU M2 a (oB 10 [.ref sh, .int dv, .ref cl, w3, v0, v1, v2])) mb = some (aJ G ((N + 63) / 64) mk) := (mU_n ((g_nef m_12 fmb0).symm)).trans c3
  refine q_aload_n X dX5_init_29 0 rfl ?_
  refine q_aload_n X dX5_init_30 1 rfl ?_
  refine q_callVp X (c_X7_size (n := nI m) (lo := lo) (hi := hi) ⟨b, c, d, sp, m_28, m_29, m_30, m_31, s5, s6, s7⟩) Y_X7_size tw_146 tw_108 tw_109 m_28 rfl (by decide) rfl rfl (Nat.le_of_ble_eq_true rfl) dX5_init_31 ?_
  rw [eSz]
  refine q_bipush (v := 63) X dX5_init_34 (by decide) ?_
  refine q_iadd X dX5_init_36 ?_
  refine q_bipush (v := 64) X dX5_init_37 (by decide) ?_
  refine q_idiv X dX5_init_39 (by decide) ?_
  rw [cw_div hN]
  refine q_iconst (v := 0) X dX5_init_40 (by decide) ?_
  refine q_callSp X (c_J9_max_7cf53) Y_J9_max_7cf53 tw_148 tw_116 (by decide) rfl rfl (Nat.le_of_ble_eq_true rfl) dX5_init_41 ?_
  rw [mxI_0 (by omega)]
  refine q_newJ X tw_125 ((N + 63) / 64) (rfl) (by omega) (rc' := 0) (rs' := 0) (by omega) (by omega) dX5_init_44 (fun aa faa => ?_)
  have n_35 : a ≠ aa := g_nef m_27 faa
  have m_36 : (mU (mU M2 a (oB 10 [.ref sh, .int dv, .ref cl, w3, v0, v1, v2])) aa (aJ G ((N + 63) / 64) (fun _ => 0))) a = some (oB 10 [.ref sh, .int dv, .ref cl, w3, v0, v1, v2]) := (mU_n n_35).trans m_27
  have n_37 : sh ≠ aa := g_nef m_28 faa
  have m_38 : (mU (mU M2 a (oB 10 [.ref sh, .int dv, .ref cl, w3, v0, v1, v2])) aa (aJ G ((N + 63) / 64) (fun _ => 0))) sh = some (oB 7 [.int (nI m), .ref b, .ref c, .ref d, .int (sL lo hi 0 * sL lo hi 1 * sL lo hi 2)]) := (mU_n n_37).trans m_28
  have n_39 : b ≠ aa := g_nef m_29 faa
  have m_40 : (mU (mU M2 a (oB 10 [.ref sh, .int dv, .ref cl, w3, v0, v1, v2])) aa (aJ G ((N + 63) / 64) (fun _ => 0))) b = some (aI G 3 lo) := (mU_n n_39).trans m_29
  have n_41 : c ≠ aa := g_nef m_30 faa
  have m_42 : (mU (mU M2 a (oB 10 [.ref sh, .int dv, .ref cl, w3, v0, v1, v2])) aa (aJ G ((N + 63) / 64) (fun _ => 0))) c = some (aI G 3 hi) := (mU_n n_41).trans m_30
  have n_43 : d ≠ aa := g_nef m_31 faa
  have m_44 : (mU (mU M2 a (oB 10 [.ref sh, .int dv, .ref cl, w3, v0, v1, v2])) aa (aJ G ((N + 63) / 64) (fun _ => 0))) d = some (aI G 3 sp) := (mU_n n_43).trans m_31
  have n_45 : cl ≠ aa := g_nef m_32 faa
  have m_46 : (mU (mU M2 a (oB 10 [.ref sh, .int dv, .ref cl, w3, v0, v1, v2])) aa (aJ G ((N + 63) / 64) (fun _ => 0))) cl = some (oB 1 [.ref nb, .ref mb]) := (mU_n n_45).trans m_32
  have n_47 : nb ≠ aa := g_nef m_33 faa
  have m_48 : (mU (mU M2 a (oB 10 [.ref sh, .int dv, .ref cl, w3, v0, v1, v2])) aa (aJ G ((N + 63) / 64) (fun _ => 0))) nb = some (aJ G N num) := (mU_n n_47).trans m_33
  have n_49 : mb ≠ aa := g_nef m_34 faa
  have m_50 : (mU (mU M2 a (oB 10 [.ref sh, .int dv, .ref cl, w3, v0, v1, v2])) aa (aJ G ((N + 63) / 64) (fun _ => 0))) mb = some (aJ G ((N + 63) / 64) mk) := (mU_n n_49).trans m_34
  have m_51 : (mU (mU M2 a (oB 10 [.ref sh, .int dv, .ref cl, w3, v0, v1, v2])) aa (aJ G ((N + 63) / 64) (fun _ => 0))) aa = some (aJ G ((N + 63) / 64) (fun _ => 0)) := mU_s
  refine q_putF X hn m_36 rfl in_RX10 tyX10 tyX10_ok nmX10 3 (by decide) tw_155 rfl rfl rfl rfl rfl rfl (Nat.le_of_ble_eq_true rfl) (fs1 := [.ref sh, .int dv, .ref cl, .ref aa, v0, v1, v2]) rfl dX5_init_46 ?_
  have m_52 : (mU (mU (mU M2 a (oB 10 [.ref sh, .int dv, .ref cl, w3, v0, v1, v2])) aa (aJ G ((N + 63) / 64) (fun _ => 0))) a (oB 10 [.ref sh, .int dv, .ref cl, .ref aa, v0, v1, v2])) a = some (oB 10 [.ref sh, .int dv, .ref cl, .ref aa, v0, v1, v2]) := mU_s
  have m_53 : (mU (mU (mU M2 a (oB 10 [.ref sh, .int dv, .ref cl, w3, v0, v1, v2])) aa (aJ G ((N + 63) / 64) (fun _ => 0))) a (oB 10 [.ref sh, .int dv, .ref cl, .ref aa, v0, v1, v2])) sh = some (oB 7 [.int (nI m), .ref b, .ref c, .ref d, .int (sL lo hi 0 * sL lo hi 1 * sL lo hi 2)]) := (mU_n (n1)).trans m_38
  have m_54 : (mU (mU (mU M2 a (oB 10 [.ref sh, .int dv, .ref cl, w3, v0, v1, v2])) aa (aJ G ((N + 63) / 64) (fun _ => 0))) a (oB 10 [.ref sh, .int dv, .ref cl, .ref aa, v0, v1, v2])) b = some (aI G 3 lo) := (mU_n (n2)).trans m_40
  have m_55 : (mU (mU (mU M2 a (oB 10 [.ref sh, .int dv, .ref cl, w3, v0, v1, v2])) aa (aJ G ((N + 63) / 64) (fun _ => 0))) a (oB 10 [.ref sh, .int dv, .ref cl, .ref aa, v0, v1, v2])) c = some (aI G 3 hi) := (mU_n (n3)).trans m_42
  have m_56 : (mU (mU (mU M2 a (oB 10 [.ref sh, .int dv, .ref cl, w3, v0, v1, v2])) aa (aJ G ((N + 63) / 64) (fun _ => 0))) a (oB 10 [.ref sh, .int dv, .ref cl, .ref aa, v0, v1, v2])) d = some (aI G 3 sp) := (mU_n (n4)).trans m_44
  have m_57 : (mU (mU (mU M2 a (oB 10 [.ref sh, .int dv, .ref cl, w3, v0, v1, v2])) aa (aJ G ((N + 63) / 64) (fun _ => 0))) a (oB 10 [.ref sh, .int dv, .ref cl, .ref aa, v0, v1, v2])) cl = some (oB 1 [.ref nb, .ref mb]) := (mU_n (Ne.symm n_11)).trans m_46
  have m_58 : (mU (mU (mU M2 a (oB 10 [.ref sh, .int dv, .ref cl, w3, v0, v1, v2])) aa (aJ G ((N + 63) / 64) (fun _ => 0))) a (oB 10 [.ref sh, .int dv, .ref cl, .ref aa, v0, v1, v2])) nb = some (aJ G N num) := (mU_n ((g_nef m_12 fnb0).symm)).trans m_48
  have m_59 : (mU (mU (mU M2 a (oB 10 [.ref sh, .int dv, .ref cl, w3, v0, v1, v2])) aa (aJ G ((N + 63) / 64) (fun _ => 0))) a (oB 10 [.ref sh, .int dv, .ref cl, .ref aa, v0, v1, v2])) mb = some (aJ G ((N + 63) / 64) mk) := (mU_n ((g_nef m_12 fmb0).symm)).trans m_50
  have m_60 : (mU (mU (mU M2 a (oB 10 [.ref sh, .int dv, .ref cl, w3, v0, v1, v2])) aa (aJ G ((N + 63) / 64) (fun _ => 0))) a (oB 10 [.ref sh, .int dv, .ref cl, .ref aa, v0, v1, v2])) aa = some (aJ G ((N + 63) / 64) (fun _ => 0)) := (mU_n (Ne.symm n_35)).trans m_51
  have Lcl : M cl = none := (mU_no (mU_no fcl).1).1
  have Lnb : M nb = none := (mU_no (mU_no (mU_no fnb0).1).1).1
  have Lmb : M mb = none := (mU_no (mU_no (mU_no fmb0).1).1).1
  have old : ∀ q, q ≠ a → M q ≠ none → M2 q = M q := fun q q1 q2 => by
    rw [hfr q (fun e => q2 (by rw [e]; exact Lcl)) (fun e => q2 (by rw [e]; exact Lnb)) (fun e => q2 (by rw [e]; exact Lmb)), mU_n (fun e => q2 (by rw [e]; exact Lcl)), mU_n q1, mU_n q1]
  have naa := mU_no faa
  have Laa : M aa = none := by
    cases h9 : M aa with
    | none => rfl
    | some e9 => have h8 := old aa naa.2 (by rw [h9]; exact fun h => by cases h); rw [naa.1, h9] at h8; cases h8
  have fin : ∀ q, q ≠ a → M q ≠ none → (mU (mU (mU M2 a (oB 10 [.ref sh, .int dv, .ref cl, w3, v0, v1, v2])) aa (aJ G ((N + 63) / 64) (fun _ => 0))) a (oB 10 [.ref sh, .int dv, .ref cl, .ref aa, v0, v1, v2])) q = M q := fun q q1 q2 => by
    rw [mU_n q1, mU_n (fun e => q2 (by rw [e]; exact Laa)), mU_n q1]; exact old q q1 q2
  exact q_vret X hr dX5_init_49 (⟨rfl, cl, nb, mb, aa, m_52, ⟨num, mk, m_57, m_58, m_59, c4, c5, c6⟩, m_60, Lcl, Lnb, Lmb, Laa, n_47, n_49, fin⟩)
