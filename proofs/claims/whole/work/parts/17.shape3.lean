/-! GridVault$Shape: two shapes -/
def tr3 (x0 x1 x2 : Int32) : Nat → Int32 := upd (upd (upd (fun _ => 0) 0 x0) 1 x1) 2 x2
/-- do two shapes meet in their first k dimensions -/
def meetB (z : Bool) (lo hi lo2 hi2 : Nat → Int32) : Nat → Bool
  | 0 => z
  | k + 1 => meetB z lo hi lo2 hi2 k && decide (lo k ≤ hi2 k) && decide (lo2 k ≤ hi k)

set_option maxRecDepth 20000 in
theorem c_X7_common {l : Launch} {G : gV} {M : gMem} {a a2 : Nat} {n n2 : Int32} {lo hi lo2 hi2 : Nat → Int32} (hS : isShape G M a n lo hi) (hS2 : isShape G M a2 n2 lo2 hi2) : qC l G yX7_common cX7_common 4 (some (.object "GridVault$Shape")) 4 5 18 [.ref a, .ref a2] M (pShape G M n (tr3 (mxI (lo 0) (lo2 0)) (mxI (lo 1) (lo2 1)) (mxI (lo 2) (lo2 2))) (tr3 (mnI (hi 0) (hi2 0)) (mnI (hi 1) (hi2 1)) (mnI (hi 2) (hi2 2)))) := by
  refine qC_of (by decide +kernel) (Nat.le_of_ble_eq_true rfl) (fun F hF X hr hn => ?_)
  subst hF
  have X : qX G F cX7_common 4 RX7 4 := X
  obtain ⟨b, c, d0, sp, h1, h2, h3, h4, h5, h6, h7, h8, h9⟩ := id hS
  obtain ⟨b2, c2, d2, sp2, i1, i2, i3, i4, i5, i6, i7, i8, i9⟩ := id hS2
  show qJ G F _ 4 M 5 18 0 [(0, .ref a), (1, .ref a2)] []
  refine q_iconst (v := 3) X dX7_common_0 (by decide) ?_
  refine q_newI X tw_107 3 (by decide) (by decide) (rc' := 4) (rs' := 15) (by omega) (by omega) dX7_common_1 (fun u fu => ?_)
  have n_1 : a ≠ u := g_nef h1 fu
  have m_2 : (mU M u (aI G 3 (fun _ => 0))) a = some (oB 7 [.int n, .ref b, .ref c, .ref sp.2.1, .ref d0, .int (sL lo hi 0 * sL lo hi 1 * sL lo hi 2)]) := (mU_n n_1).trans h1
  have n_3 : b ≠ u := g_nef h2 fu
  have m_4 : (mU M u (aI G 3 (fun _ => 0))) b = some (aI G 3 lo) := (mU_n n_3).trans h2
  have n_5 : c ≠ u := g_nef h3 fu
  have m_6 : (mU M u (aI G 3 (fun _ => 0))) c = some (aI G 3 hi) := (mU_n n_5).trans h3
  have n_7 : a2 ≠ u := g_nef i1 fu
  have m_8 : (mU M u (aI G 3 (fun _ => 0))) a2 = some (oB 7 [.int n2, .ref b2, .ref c2, .ref sp2.2.1, .ref d2, .int (sL lo2 hi2 0 * sL lo2 hi2 1 * sL lo2 hi2 2)]) := (mU_n n_7).trans i1
  have n_9 : b2 ≠ u := g_nef i2 fu
  have m_10 : (mU M u (aI G 3 (fun _ => 0))) b2 = some (aI G 3 lo2) := (mU_n n_9).trans i2
  have n_11 : c2 ≠ u := g_nef i3 fu
  have m_12 : (mU M u (aI G 3 (fun _ => 0))) c2 = some (aI G 3 hi2) := (mU_n n_11).trans i3
  have m_13 : (mU M u (aI G 3 (fun _ => 0))) u = some (aI G 3 (fun _ => 0)) := mU_s
  refine q_dup X dX7_common_3 rfl ?_
  refine q_iconst (v := 0) X dX7_common_4 (by decide) ?_
  refine q_aload_n X dX7_common_5 0 rfl ?_
  refine q_iconst (v := 0) X dX7_common_6 (by decide) ?_
  refine q_callVp X (c_X7_lowN ⟨_, b, c, _, _, _, m_2, m_4, m_6⟩ 0 (by decide) (by decide)) Y_X7_low tw_76 tw_77 tw_78 m_2 rfl (by decide) rfl rfl (Nat.le_of_ble_eq_true rfl) dX7_common_7 ?_
  refine q_aload_n X dX7_common_10 1 rfl ?_
  refine q_iconst (v := 0) X dX7_common_11 (by decide) ?_
  refine q_callVp X (c_X7_lowN ⟨_, b2, c2, _, _, _, m_8, m_10, m_12⟩ 0 (by decide) (by decide)) Y_X7_low tw_76 tw_77 tw_78 m_8 rfl (by decide) rfl rfl (Nat.le_of_ble_eq_true rfl) dX7_common_12 ?_
  refine q_callSp X (c_J9_max_7cf53) Y_J9_max_7cf53 tw_733 tw_123 (by decide) rfl rfl (Nat.le_of_ble_eq_true rfl) dX7_common_15 ?_
  refine q_iastN X 0 m_13 (by decide) (by decide) (by decide) dX7_common_18 ?_
  have m_14 : (mU (mU M u (aI G 3 (fun _ => 0))) u (aI G 3 (upd (fun _ => 0) 0 (mxI (lo 0) (lo2 0))))) a = some (oB 7 [.int n, .ref b, .ref c, .ref sp.2.1, .ref d0, .int (sL lo hi 0 * sL lo hi 1 * sL lo hi 2)]) := (mU_n (n_1)).trans m_2
  have m_15 : (mU (mU M u (aI G 3 (fun _ => 0))) u (aI G 3 (upd (fun _ => 0) 0 (mxI (lo 0) (lo2 0))))) b = some (aI G 3 lo) := (mU_n (n_3)).trans m_4
  have m_16 : (mU (mU M u (aI G 3 (fun _ => 0))) u (aI G 3 (upd (fun _ => 0) 0 (mxI (lo 0) (lo2 0))))) c = some (aI G 3 hi) := (mU_n (n_5)).trans m_6
  have m_17 : (mU (mU M u (aI G 3 (fun _ => 0))) u (aI G 3 (upd (fun _ => 0) 0 (mxI (lo 0) (lo2 0))))) a2 = some (oB 7 [.int n2, .ref b2, .ref c2, .ref sp2.2.1, .ref d2, .int (sL lo2 hi2 0 * sL lo2 hi2 1 * sL lo2 hi2 2)]) := (mU_n (n_7)).trans m_8
  have m_18 : (mU (mU M u (aI G 3 (fun _ => 0))) u (aI G 3 (upd (fun _ => 0) 0 (mxI (lo 0) (lo2 0))))) b2 = some (aI G 3 lo2) := (mU_n (n_9)).trans m_10
  have m_19 : (mU (mU M u (aI G 3 (fun _ => 0))) u (aI G 3 (upd (fun _ => 0) 0 (mxI (lo 0) (lo2 0))))) c2 = some (aI G 3 hi2) := (mU_n (n_11)).trans m_12
  have m_20 : (mU (mU M u (aI G 3 (fun _ => 0))) u (aI G 3 (upd (fun _ => 0) 0 (mxI (lo 0) (lo2 0))))) u = some (aI G 3 (upd (fun _ => 0) 0 (mxI (lo 0) (lo2 0)))) := mU_s
  refine q_dup X dX7_common_19 rfl ?_
  refine q_iconst (v := 1) X dX7_common_20 (by decide) ?_
  refine q_aload_n X dX7_common_21 0 rfl ?_
  refine q_iconst (v := 1) X dX7_common_22 (by decide) ?_
  refine q_callVp X (c_X7_lowN ⟨_, b, c, _, _, _, m_14, m_15, m_16⟩ 1 (by decide) (by decide)) Y_X7_low tw_76 tw_77 tw_78 m_14 rfl (by decide) rfl rfl (Nat.le_of_ble_eq_true rfl) dX7_common_23 ?_
  refine q_aload_n X dX7_common_26 1 rfl ?_
  refine q_iconst (v := 1) X dX7_common_27 (by decide) ?_
  refine q_callVp X (c_X7_lowN ⟨_, b2, c2, _, _, _, m_17, m_18, m_19⟩ 1 (by decide) (by decide)) Y_X7_low tw_76 tw_77 tw_78 m_17 rfl (by decide) rfl rfl (Nat.le_of_ble_eq_true rfl) dX7_common_28 ?_
  refine q_callSp X (c_J9_max_7cf53) Y_J9_max_7cf53 tw_733 tw_123 (by decide) rfl rfl (Nat.le_of_ble_eq_true rfl) dX7_common_31 ?_
  refine q_iastN X 1 m_20 (by decide) (by decide) (by decide) dX7_common_34 ?_
  have m_21 : (mU (mU (mU M u (aI G 3 (fun _ => 0))) u (aI G 3 (upd (fun _ => 0) 0 (mxI (lo 0) (lo2 0))))) u (aI G 3 (upd (upd (fun _ => 0) 0 (mxI (lo 0) (lo2 0))) 1 (mxI (lo 1) (lo2 1))))) a = some (oB 7 [.int n, .ref b, .ref c, .ref sp.2.1, .ref d0, .int (sL lo hi 0 * sL lo hi 1 * sL lo hi 2)]) := (mU_n (n_1)).trans m_14
  have m_22 : (mU (mU (mU M u (aI G 3 (fun _ => 0))) u (aI G 3 (upd (fun _ => 0) 0 (mxI (lo 0) (lo2 0))))) u (aI G 3 (upd (upd (fun _ => 0) 0 (mxI (lo 0) (lo2 0))) 1 (mxI (lo 1) (lo2 1))))) b = some (aI G 3 lo) := (mU_n (n_3)).trans m_15
  have m_23 : (mU (mU (mU M u (aI G 3 (fun _ => 0))) u (aI G 3 (upd (fun _ => 0) 0 (mxI (lo 0) (lo2 0))))) u (aI G 3 (upd (upd (fun _ => 0) 0 (mxI (lo 0) (lo2 0))) 1 (mxI (lo 1) (lo2 1))))) c = some (aI G 3 hi) := (mU_n (n_5)).trans m_16
  have m_24 : (mU (mU (mU M u (aI G 3 (fun _ => 0))) u (aI G 3 (upd (fun _ => 0) 0 (mxI (lo 0) (lo2 0))))) u (aI G 3 (upd (upd (fun _ => 0) 0 (mxI (lo 0) (lo2 0))) 1 (mxI (lo 1) (lo2 1))))) a2 = some (oB 7 [.int n2, .ref b2, .ref c2, .ref sp2.2.1, .ref d2, .int (sL lo2 hi2 0 * sL lo2 hi2 1 * sL lo2 hi2 2)]) := (mU_n (n_7)).trans m_17
  have m_25 : (mU (mU (mU M u (aI G 3 (fun _ => 0))) u (aI G 3 (upd (fun _ => 0) 0 (mxI (lo 0) (lo2 0))))) u (aI G 3 (upd (upd (fun _ => 0) 0 (mxI (lo 0) (lo2 0))) 1 (mxI (lo 1) (lo2 1))))) b2 = some (aI G 3 lo2) := (mU_n (n_9)).trans m_18
  have m_26 : (mU (mU (mU M u (aI G 3 (fun _ => 0))) u (aI G 3 (upd (fun _ => 0) 0 (mxI (lo 0) (lo2 0))))) u (aI G 3 (upd (upd (fun _ => 0) 0 (mxI (lo 0) (lo2 0))) 1 (mxI (lo 1) (lo2 1))))) c2 = some (aI G 3 hi2) := (mU_n (n_11)).trans m_19
  have m_27 : (mU (mU (mU M u (aI G 3 (fun _ => 0))) u (aI G 3 (upd (fun _ => 0) 0 (mxI (lo 0) (lo2 0))))) u (aI G 3 (upd (upd (fun _ => 0) 0 (mxI (lo 0) (lo2 0))) 1 (mxI (lo 1) (lo2 1))))) u = some (aI G 3 (upd (upd (fun _ => 0) 0 (mxI (lo 0) (lo2 0))) 1 (mxI (lo 1) (lo2 1)))) := mU_s
  refine q_dup X dX7_common_35 rfl ?_
  refine q_iconst (v := 2) X dX7_common_36 (by decide) ?_
  refine q_aload_n X dX7_common_37 0 rfl ?_
  refine q_iconst (v := 2) X dX7_common_38 (by decide) ?_
  refine q_callVp X (c_X7_lowN ⟨_, b, c, _, _, _, m_21, m_22, m_23⟩ 2 (by decide) (by decide)) Y_X7_low tw_76 tw_77 tw_78 m_21 rfl (by decide) rfl rfl (Nat.le_of_ble_eq_true rfl) dX7_common_39 ?_
  refine q_aload_n X dX7_common_42 1 rfl ?_
  refine q_iconst (v := 2) X dX7_common_43 (by decide) ?_
  refine q_callVp X (c_X7_lowN ⟨_, b2, c2, _, _, _, m_24, m_25, m_26⟩ 2 (by decide) (by decide)) Y_X7_low tw_76 tw_77 tw_78 m_24 rfl (by decide) rfl rfl (Nat.le_of_ble_eq_true rfl) dX7_common_44 ?_
  refine q_callSp X (c_J9_max_7cf53) Y_J9_max_7cf53 tw_733 tw_123 (by decide) rfl rfl (Nat.le_of_ble_eq_true rfl) dX7_common_47 ?_
  refine q_iastN X 2 m_27 (by decide) (by decide) (by decide) dX7_common_50 ?_
  have m_28 : (mU (mU (mU (mU M u (aI G 3 (fun _ => 0))) u (aI G 3 (upd (fun _ => 0) 0 (mxI (lo 0) (lo2 0))))) u (aI G 3 (upd (upd (fun _ => 0) 0 (mxI (lo 0) (lo2 0))) 1 (mxI (lo 1) (lo2 1))))) u (aI G 3 (upd (upd (upd (fun _ => 0) 0 (mxI (lo 0) (lo2 0))) 1 (mxI (lo 1) (lo2 1))) 2 (mxI (lo 2) (lo2 2))))) a = some (oB 7 [.int n, .ref b, .ref c, .ref sp.2.1, .ref d0, .int (sL lo hi 0 * sL lo hi 1 * sL lo hi 2)]) := (mU_n (n_1)).trans m_21
  have m_29 : (mU (mU (mU (mU M u (aI G 3 (fun _ => 0))) u (aI G 3 (upd (fun _ => 0) 0 (mxI (lo 0) (lo2 0))))) u (aI G 3 (upd (upd (fun _ => 0) 0 (mxI (lo 0) (lo2 0))) 1 (mxI (lo 1) (lo2 1))))) u (aI G 3 (upd (upd (upd (fun _ => 0) 0 (mxI (lo 0) (lo2 0))) 1 (mxI (lo 1) (lo2 1))) 2 (mxI (lo 2) (lo2 2))))) b = some (aI G 3 lo) := (mU_n (n_3)).trans m_22
  have m_30 : (mU (mU (mU (mU M u (aI G 3 (fun _ => 0))) u (aI G 3 (upd (fun _ => 0) 0 (mxI (lo 0) (lo2 0))))) u (aI G 3 (upd (upd (fun _ => 0) 0 (mxI (lo 0) (lo2 0))) 1 (mxI (lo 1) (lo2 1))))) u (aI G 3 (upd (upd (upd (fun _ => 0) 0 (mxI (lo 0) (lo2 0))) 1 (mxI (lo 1) (lo2 1))) 2 (mxI (lo 2) (lo2 2))))) c = some (aI G 3 hi) := (mU_n (n_5)).trans m_23
  have m_31 : (mU (mU (mU (mU M u (aI G 3 (fun _ => 0))) u (aI G 3 (upd (fun _ => 0) 0 (mxI (lo 0) (lo2 0))))) u (aI G 3 (upd (upd (fun _ => 0) 0 (mxI (lo 0) (lo2 0))) 1 (mxI (lo 1) (lo2 1))))) u (aI G 3 (upd (upd (upd (fun _ => 0) 0 (mxI (lo 0) (lo2 0))) 1 (mxI (lo 1) (lo2 1))) 2 (mxI (lo 2) (lo2 2))))) a2 = some (oB 7 [.int n2, .ref b2, .ref c2, .ref sp2.2.1, .ref d2, .int (sL lo2 hi2 0 * sL lo2 hi2 1 * sL lo2 hi2 2)]) := (mU_n (n_7)).trans m_24
  have m_32 : (mU (mU (mU (mU M u (aI G 3 (fun _ => 0))) u (aI G 3 (upd (fun _ => 0) 0 (mxI (lo 0) (lo2 0))))) u (aI G 3 (upd (upd (fun _ => 0) 0 (mxI (lo 0) (lo2 0))) 1 (mxI (lo 1) (lo2 1))))) u (aI G 3 (upd (upd (upd (fun _ => 0) 0 (mxI (lo 0) (lo2 0))) 1 (mxI (lo 1) (lo2 1))) 2 (mxI (lo 2) (lo2 2))))) b2 = some (aI G 3 lo2) := (mU_n (n_9)).trans m_25
  have m_33 : (mU (mU (mU (mU M u (aI G 3 (fun _ => 0))) u (aI G 3 (upd (fun _ => 0) 0 (mxI (lo 0) (lo2 0))))) u (aI G 3 (upd (upd (fun _ => 0) 0 (mxI (lo 0) (lo2 0))) 1 (mxI (lo 1) (lo2 1))))) u (aI G 3 (upd (upd (upd (fun _ => 0) 0 (mxI (lo 0) (lo2 0))) 1 (mxI (lo 1) (lo2 1))) 2 (mxI (lo 2) (lo2 2))))) c2 = some (aI G 3 hi2) := (mU_n (n_11)).trans m_26
  have m_34 : (mU (mU (mU (mU M u (aI G 3 (fun _ => 0))) u (aI G 3 (upd (fun _ => 0) 0 (mxI (lo 0) (lo2 0))))) u (aI G 3 (upd (upd (fun _ => 0) 0 (mxI (lo 0) (lo2 0))) 1 (mxI (lo 1) (lo2 1))))) u (aI G 3 (upd (upd (upd (fun _ => 0) 0 (mxI (lo 0) (lo2 0))) 1 (mxI (lo 1) (lo2 1))) 2 (mxI (lo 2) (lo2 2))))) u = some (aI G 3 (upd (upd (upd (fun _ => 0) 0 (mxI (lo 0) (lo2 0))) 1 (mxI (lo 1) (lo2 1))) 2 (mxI (lo 2) (lo2 2)))) := mU_s
  have E1 := mExt_new (e := aI G 3 (tr3 (mxI (lo 0) (lo2 0)) (mxI (lo 1) (lo2 1)) (mxI (lo 2) (lo2 2)))) fu
  rw [mU_mU, mU_mU, mU_mU] ; change qJ G F _ 4 (mU M u (aI G 3 (tr3 (mxI (lo 0) (lo2 0)) (mxI (lo 1) (lo2 1)) (mxI (lo 2) (lo2 2))))) 4 15 51 [(0, .ref a), (1, .ref a2)] [.ref u]
  have z_u_a : (mU M u (aI G 3 (tr3 (mxI (lo 0) (lo2 0)) (mxI (lo 1) (lo2 1)) (mxI (lo 2) (lo2 2))))) a = some (oB 7 [.int n, .ref b, .ref c, .ref sp.2.1, .ref d0, .int (sL lo hi 0 * sL lo hi 1 * sL lo hi 2)]) := E1 _ _ (h1)
  have z_u_b : (mU M u (aI G 3 (tr3 (mxI (lo 0) (lo2 0)) (mxI (lo 1) (lo2 1)) (mxI (lo 2) (lo2 2))))) b = some (aI G 3 lo) := E1 _ _ (h2)
  have z_u_c : (mU M u (aI G 3 (tr3 (mxI (lo 0) (lo2 0)) (mxI (lo 1) (lo2 1)) (mxI (lo 2) (lo2 2))))) c = some (aI G 3 hi) := E1 _ _ (h3)
  have z_u_a2 : (mU M u (aI G 3 (tr3 (mxI (lo 0) (lo2 0)) (mxI (lo 1) (lo2 1)) (mxI (lo 2) (lo2 2))))) a2 = some (oB 7 [.int n2, .ref b2, .ref c2, .ref sp2.2.1, .ref d2, .int (sL lo2 hi2 0 * sL lo2 hi2 1 * sL lo2 hi2 2)]) := E1 _ _ (i1)
  have z_u_b2 : (mU M u (aI G 3 (tr3 (mxI (lo 0) (lo2 0)) (mxI (lo 1) (lo2 1)) (mxI (lo 2) (lo2 2))))) b2 = some (aI G 3 lo2) := E1 _ _ (i2)
  have z_u_c2 : (mU M u (aI G 3 (tr3 (mxI (lo 0) (lo2 0)) (mxI (lo 1) (lo2 1)) (mxI (lo 2) (lo2 2))))) c2 = some (aI G 3 hi2) := E1 _ _ (i3)
  have z_u_u : (mU M u (aI G 3 (tr3 (mxI (lo 0) (lo2 0)) (mxI (lo 1) (lo2 1)) (mxI (lo 2) (lo2 2))))) u = some (aI G 3 (tr3 (mxI (lo 0) (lo2 0)) (mxI (lo 1) (lo2 1)) (mxI (lo 2) (lo2 2)))) := mU_s
  refine q_astore_n (lv' := [(2, .ref u), (0, .ref a), (1, .ref a2)]) X dX7_common_51 (by decide) rfl ?_
  refine q_iconst (v := 3) X dX7_common_52 (by decide) ?_
  refine q_newI X tw_107 3 (by decide) (by decide) (rc' := 3) (rs' := 12) (by omega) (by omega) dX7_common_53 (fun w fw => ?_)
  have n_35 : a ≠ w := g_nef z_u_a fw
  have m_36 : (mU (mU M u (aI G 3 (tr3 (mxI (lo 0) (lo2 0)) (mxI (lo 1) (lo2 1)) (mxI (lo 2) (lo2 2))))) w (aI G 3 (fun _ => 0))) a = some (oB 7 [.int n, .ref b, .ref c, .ref sp.2.1, .ref d0, .int (sL lo hi 0 * sL lo hi 1 * sL lo hi 2)]) := (mU_n n_35).trans z_u_a
  have n_37 : b ≠ w := g_nef z_u_b fw
  have m_38 : (mU (mU M u (aI G 3 (tr3 (mxI (lo 0) (lo2 0)) (mxI (lo 1) (lo2 1)) (mxI (lo 2) (lo2 2))))) w (aI G 3 (fun _ => 0))) b = some (aI G 3 lo) := (mU_n n_37).trans z_u_b
  have n_39 : c ≠ w := g_nef z_u_c fw
  have m_40 : (mU (mU M u (aI G 3 (tr3 (mxI (lo 0) (lo2 0)) (mxI (lo 1) (lo2 1)) (mxI (lo 2) (lo2 2))))) w (aI G 3 (fun _ => 0))) c = some (aI G 3 hi) := (mU_n n_39).trans z_u_c
  have n_41 : a2 ≠ w := g_nef z_u_a2 fw
  have m_42 : (mU (mU M u (aI G 3 (tr3 (mxI (lo 0) (lo2 0)) (mxI (lo 1) (lo2 1)) (mxI (lo 2) (lo2 2))))) w (aI G 3 (fun _ => 0))) a2 = some (oB 7 [.int n2, .ref b2, .ref c2, .ref sp2.2.1, .ref d2, .int (sL lo2 hi2 0 * sL lo2 hi2 1 * sL lo2 hi2 2)]) := (mU_n n_41).trans z_u_a2
  have n_43 : b2 ≠ w := g_nef z_u_b2 fw
  have m_44 : (mU (mU M u (aI G 3 (tr3 (mxI (lo 0) (lo2 0)) (mxI (lo 1) (lo2 1)) (mxI (lo 2) (lo2 2))))) w (aI G 3 (fun _ => 0))) b2 = some (aI G 3 lo2) := (mU_n n_43).trans z_u_b2
  have n_45 : c2 ≠ w := g_nef z_u_c2 fw
  have m_46 : (mU (mU M u (aI G 3 (tr3 (mxI (lo 0) (lo2 0)) (mxI (lo 1) (lo2 1)) (mxI (lo 2) (lo2 2))))) w (aI G 3 (fun _ => 0))) c2 = some (aI G 3 hi2) := (mU_n n_45).trans z_u_c2
  have n_47 : u ≠ w := g_nef z_u_u fw
  have m_48 : (mU (mU M u (aI G 3 (tr3 (mxI (lo 0) (lo2 0)) (mxI (lo 1) (lo2 1)) (mxI (lo 2) (lo2 2))))) w (aI G 3 (fun _ => 0))) u = some (aI G 3 (tr3 (mxI (lo 0) (lo2 0)) (mxI (lo 1) (lo2 1)) (mxI (lo 2) (lo2 2)))) := (mU_n n_47).trans z_u_u
  have m_49 : (mU (mU M u (aI G 3 (tr3 (mxI (lo 0) (lo2 0)) (mxI (lo 1) (lo2 1)) (mxI (lo 2) (lo2 2))))) w (aI G 3 (fun _ => 0))) w = some (aI G 3 (fun _ => 0)) := mU_s
  refine q_dup X dX7_common_55 rfl ?_
  refine q_iconst (v := 0) X dX7_common_56 (by decide) ?_
  refine q_aload_n X dX7_common_57 1 rfl ?_
  refine q_iconst (v := 0) X dX7_common_58 (by decide) ?_
  refine q_callVp X (c_X7_highN ⟨_, b, c, _, _, _, m_36, m_38, m_40⟩ 0 (by decide) (by decide)) Y_X7_high tw_72 tw_73 tw_74 m_36 rfl (by decide) rfl rfl (Nat.le_of_ble_eq_true rfl) dX7_common_59 ?_
  refine q_aload_n X dX7_common_62 2 rfl ?_
  refine q_iconst (v := 0) X dX7_common_63 (by decide) ?_
  refine q_callVp X (c_X7_highN ⟨_, b2, c2, _, _, _, m_42, m_44, m_46⟩ 0 (by decide) (by decide)) Y_X7_high tw_72 tw_73 tw_74 m_42 rfl (by decide) rfl rfl (Nat.le_of_ble_eq_true rfl) dX7_common_64 ?_
  refine q_callSp X (c_J9_min_7cf53) Y_J9_min_7cf53 tw_797 tw_239 (by decide) rfl rfl (Nat.le_of_ble_eq_true rfl) dX7_common_67 ?_
  refine q_iastN X 0 m_49 (by decide) (by decide) (by decide) dX7_common_70 ?_
  have m_50 : (mU (mU (mU M u (aI G 3 (tr3 (mxI (lo 0) (lo2 0)) (mxI (lo 1) (lo2 1)) (mxI (lo 2) (lo2 2))))) w (aI G 3 (fun _ => 0))) w (aI G 3 (upd (fun _ => 0) 0 (mnI (hi 0) (hi2 0))))) a = some (oB 7 [.int n, .ref b, .ref c, .ref sp.2.1, .ref d0, .int (sL lo hi 0 * sL lo hi 1 * sL lo hi 2)]) := (mU_n (n_35)).trans m_36
  have m_51 : (mU (mU (mU M u (aI G 3 (tr3 (mxI (lo 0) (lo2 0)) (mxI (lo 1) (lo2 1)) (mxI (lo 2) (lo2 2))))) w (aI G 3 (fun _ => 0))) w (aI G 3 (upd (fun _ => 0) 0 (mnI (hi 0) (hi2 0))))) b = some (aI G 3 lo) := (mU_n (n_37)).trans m_38
  have m_52 : (mU (mU (mU M u (aI G 3 (tr3 (mxI (lo 0) (lo2 0)) (mxI (lo 1) (lo2 1)) (mxI (lo 2) (lo2 2))))) w (aI G 3 (fun _ => 0))) w (aI G 3 (upd (fun _ => 0) 0 (mnI (hi 0) (hi2 0))))) c = some (aI G 3 hi) := (mU_n (n_39)).trans m_40
  have m_53 : (mU (mU (mU M u (aI G 3 (tr3 (mxI (lo 0) (lo2 0)) (mxI (lo 1) (lo2 1)) (mxI (lo 2) (lo2 2))))) w (aI G 3 (fun _ => 0))) w (aI G 3 (upd (fun _ => 0) 0 (mnI (hi 0) (hi2 0))))) a2 = some (oB 7 [.int n2, .ref b2, .ref c2, .ref sp2.2.1, .ref d2, .int (sL lo2 hi2 0 * sL lo2 hi2 1 * sL lo2 hi2 2)]) := (mU_n (n_41)).trans m_42
  have m_54 : (mU (mU (mU M u (aI G 3 (tr3 (mxI (lo 0) (lo2 0)) (mxI (lo 1) (lo2 1)) (mxI (lo 2) (lo2 2))))) w (aI G 3 (fun _ => 0))) w (aI G 3 (upd (fun _ => 0) 0 (mnI (hi 0) (hi2 0))))) b2 = some (aI G 3 lo2) := (mU_n (n_43)).trans m_44
  have m_55 : (mU (mU (mU M u (aI G 3 (tr3 (mxI (lo 0) (lo2 0)) (mxI (lo 1) (lo2 1)) (mxI (lo 2) (lo2 2))))) w (aI G 3 (fun _ => 0))) w (aI G 3 (upd (fun _ => 0) 0 (mnI (hi 0) (hi2 0))))) c2 = some (aI G 3 hi2) := (mU_n (n_45)).trans m_46
  have m_56 : (mU (mU (mU M u (aI G 3 (tr3 (mxI (lo 0) (lo2 0)) (mxI (lo 1) (lo2 1)) (mxI (lo 2) (lo2 2))))) w (aI G 3 (fun _ => 0))) w (aI G 3 (upd (fun _ => 0) 0 (mnI (hi 0) (hi2 0))))) u = some (aI G 3 (tr3 (mxI (lo 0) (lo2 0)) (mxI (lo 1) (lo2 1)) (mxI (lo 2) (lo2 2)))) := (mU_n (n_47)).trans m_48
  have m_57 : (mU (mU (mU M u (aI G 3 (tr3 (mxI (lo 0) (lo2 0)) (mxI (lo 1) (lo2 1)) (mxI (lo 2) (lo2 2))))) w (aI G 3 (fun _ => 0))) w (aI G 3 (upd (fun _ => 0) 0 (mnI (hi 0) (hi2 0))))) w = some (aI G 3 (upd (fun _ => 0) 0 (mnI (hi 0) (hi2 0)))) := mU_s
  refine q_dup X dX7_common_71 rfl ?_
  refine q_iconst (v := 1) X dX7_common_72 (by decide) ?_
  refine q_aload_n X dX7_common_73 1 rfl ?_
  refine q_iconst (v := 1) X dX7_common_74 (by decide) ?_
  refine q_callVp X (c_X7_highN ⟨_, b, c, _, _, _, m_50, m_51, m_52⟩ 1 (by decide) (by decide)) Y_X7_high tw_72 tw_73 tw_74 m_50 rfl (by decide) rfl rfl (Nat.le_of_ble_eq_true rfl) dX7_common_75 ?_
  refine q_aload_n X dX7_common_78 2 rfl ?_
  refine q_iconst (v := 1) X dX7_common_79 (by decide) ?_
  refine q_callVp X (c_X7_highN ⟨_, b2, c2, _, _, _, m_53, m_54, m_55⟩ 1 (by decide) (by decide)) Y_X7_high tw_72 tw_73 tw_74 m_53 rfl (by decide) rfl rfl (Nat.le_of_ble_eq_true rfl) dX7_common_80 ?_
  refine q_callSp X (c_J9_min_7cf53) Y_J9_min_7cf53 tw_797 tw_239 (by decide) rfl rfl (Nat.le_of_ble_eq_true rfl) dX7_common_83 ?_
  refine q_iastN X 1 m_57 (by decide) (by decide) (by decide) dX7_common_86 ?_
  have m_58 : (mU (mU (mU (mU M u (aI G 3 (tr3 (mxI (lo 0) (lo2 0)) (mxI (lo 1) (lo2 1)) (mxI (lo 2) (lo2 2))))) w (aI G 3 (fun _ => 0))) w (aI G 3 (upd (fun _ => 0) 0 (mnI (hi 0) (hi2 0))))) w (aI G 3 (upd (upd (fun _ => 0) 0 (mnI (hi 0) (hi2 0))) 1 (mnI (hi 1) (hi2 1))))) a = some (oB 7 [.int n, .ref b, .ref c, .ref sp.2.1, .ref d0, .int (sL lo hi 0 * sL lo hi 1 * sL lo hi 2)]) := (mU_n (n_35)).trans m_50
  have m_59 : (mU (mU (mU (mU M u (aI G 3 (tr3 (mxI (lo 0) (lo2 0)) (mxI (lo 1) (lo2 1)) (mxI (lo 2) (lo2 2))))) w (aI G 3 (fun _ => 0))) w (aI G 3 (upd (fun _ => 0) 0 (mnI (hi 0) (hi2 0))))) w (aI G 3 (upd (upd (fun _ => 0) 0 (mnI (hi 0) (hi2 0))) 1 (mnI (hi 1) (hi2 1))))) b = some (aI G 3 lo) := (mU_n (n_37)).trans m_51
  have m_60 : (mU (mU (mU (mU M u (aI G 3 (tr3 (mxI (lo 0) (lo2 0)) (mxI (lo 1) (lo2 1)) (mxI (lo 2) (lo2 2))))) w (aI G 3 (fun _ => 0))) w (aI G 3 (upd (fun _ => 0) 0 (mnI (hi 0) (hi2 0))))) w (aI G 3 (upd (upd (fun _ => 0) 0 (mnI (hi 0) (hi2 0))) 1 (mnI (hi 1) (hi2 1))))) c = some (aI G 3 hi) := (mU_n (n_39)).trans m_52
  have m_61 : (mU (mU (mU (mU M u (aI G 3 (tr3 (mxI (lo 0) (lo2 0)) (mxI (lo 1) (lo2 1)) (mxI (lo 2) (lo2 2))))) w (aI G 3 (fun _ => 0))) w (aI G 3 (upd (fun _ => 0) 0 (mnI (hi 0) (hi2 0))))) w (aI G 3 (upd (upd (fun _ => 0) 0 (mnI (hi 0) (hi2 0))) 1 (mnI (hi 1) (hi2 1))))) a2 = some (oB 7 [.int n2, .ref b2, .ref c2, .ref sp2.2.1, .ref d2, .int (sL lo2 hi2 0 * sL lo2 hi2 1 * sL lo2 hi2 2)]) := (mU_n (n_41)).trans m_53
  have m_62 : (mU (mU (mU (mU M u (aI G 3 (tr3 (mxI (lo 0) (lo2 0)) (mxI (lo 1) (lo2 1)) (mxI (lo 2) (lo2 2))))) w (aI G 3 (fun _ => 0))) w (aI G 3 (upd (fun _ => 0) 0 (mnI (hi 0) (hi2 0))))) w (aI G 3 (upd (upd (fun _ => 0) 0 (mnI (hi 0) (hi2 0))) 1 (mnI (hi 1) (hi2 1))))) b2 = some (aI G 3 lo2) := (mU_n (n_43)).trans m_54
  have m_63 : (mU (mU (mU (mU M u (aI G 3 (tr3 (mxI (lo 0) (lo2 0)) (mxI (lo 1) (lo2 1)) (mxI (lo 2) (lo2 2))))) w (aI G 3 (fun _ => 0))) w (aI G 3 (upd (fun _ => 0) 0 (mnI (hi 0) (hi2 0))))) w (aI G 3 (upd (upd (fun _ => 0) 0 (mnI (hi 0) (hi2 0))) 1 (mnI (hi 1) (hi2 1))))) c2 = some (aI G 3 hi2) := (mU_n (n_45)).trans m_55
  have m_64 : (mU (mU (mU (mU M u (aI G 3 (tr3 (mxI (lo 0) (lo2 0)) (mxI (lo 1) (lo2 1)) (mxI (lo 2) (lo2 2))))) w (aI G 3 (fun _ => 0))) w (aI G 3 (upd (fun _ => 0) 0 (mnI (hi 0) (hi2 0))))) w (aI G 3 (upd (upd (fun _ => 0) 0 (mnI (hi 0) (hi2 0))) 1 (mnI (hi 1) (hi2 1))))) u = some (aI G 3 (tr3 (mxI (lo 0) (lo2 0)) (mxI (lo 1) (lo2 1)) (mxI (lo 2) (lo2 2)))) := (mU_n (n_47)).trans m_56
  have m_65 : (mU (mU (mU (mU M u (aI G 3 (tr3 (mxI (lo 0) (lo2 0)) (mxI (lo 1) (lo2 1)) (mxI (lo 2) (lo2 2))))) w (aI G 3 (fun _ => 0))) w (aI G 3 (upd (fun _ => 0) 0 (mnI (hi 0) (hi2 0))))) w (aI G 3 (upd (upd (fun _ => 0) 0 (mnI (hi 0) (hi2 0))) 1 (mnI (hi 1) (hi2 1))))) w = some (aI G 3 (upd (upd (fun _ => 0) 0 (mnI (hi 0) (hi2 0))) 1 (mnI (hi 1) (hi2 1)))) := mU_s
  refine q_dup X dX7_common_87 rfl ?_
  refine q_iconst (v := 2) X dX7_common_88 (by decide) ?_
  refine q_aload_n X dX7_common_89 1 rfl ?_
  refine q_iconst (v := 2) X dX7_common_90 (by decide) ?_
  refine q_callVp X (c_X7_highN ⟨_, b, c, _, _, _, m_58, m_59, m_60⟩ 2 (by decide) (by decide)) Y_X7_high tw_72 tw_73 tw_74 m_58 rfl (by decide) rfl rfl (Nat.le_of_ble_eq_true rfl) dX7_common_91 ?_
  refine q_aload_n X dX7_common_94 2 rfl ?_
  refine q_iconst (v := 2) X dX7_common_95 (by decide) ?_
  refine q_callVp X (c_X7_highN ⟨_, b2, c2, _, _, _, m_61, m_62, m_63⟩ 2 (by decide) (by decide)) Y_X7_high tw_72 tw_73 tw_74 m_61 rfl (by decide) rfl rfl (Nat.le_of_ble_eq_true rfl) dX7_common_96 ?_
  refine q_callSp X (c_J9_min_7cf53) Y_J9_min_7cf53 tw_797 tw_239 (by decide) rfl rfl (Nat.le_of_ble_eq_true rfl) dX7_common_99 ?_
  refine q_iastN X 2 m_65 (by decide) (by decide) (by decide) dX7_common_102 ?_
  have m_66 : (mU (mU (mU (mU (mU M u (aI G 3 (tr3 (mxI (lo 0) (lo2 0)) (mxI (lo 1) (lo2 1)) (mxI (lo 2) (lo2 2))))) w (aI G 3 (fun _ => 0))) w (aI G 3 (upd (fun _ => 0) 0 (mnI (hi 0) (hi2 0))))) w (aI G 3 (upd (upd (fun _ => 0) 0 (mnI (hi 0) (hi2 0))) 1 (mnI (hi 1) (hi2 1))))) w (aI G 3 (upd (upd (upd (fun _ => 0) 0 (mnI (hi 0) (hi2 0))) 1 (mnI (hi 1) (hi2 1))) 2 (mnI (hi 2) (hi2 2))))) a = some (oB 7 [.int n, .ref b, .ref c, .ref sp.2.1, .ref d0, .int (sL lo hi 0 * sL lo hi 1 * sL lo hi 2)]) := (mU_n (n_35)).trans m_58
  have m_67 : (mU (mU (mU (mU (mU M u (aI G 3 (tr3 (mxI (lo 0) (lo2 0)) (mxI (lo 1) (lo2 1)) (mxI (lo 2) (lo2 2))))) w (aI G 3 (fun _ => 0))) w (aI G 3 (upd (fun _ => 0) 0 (mnI (hi 0) (hi2 0))))) w (aI G 3 (upd (upd (fun _ => 0) 0 (mnI (hi 0) (hi2 0))) 1 (mnI (hi 1) (hi2 1))))) w (aI G 3 (upd (upd (upd (fun _ => 0) 0 (mnI (hi 0) (hi2 0))) 1 (mnI (hi 1) (hi2 1))) 2 (mnI (hi 2) (hi2 2))))) b = some (aI G 3 lo) := (mU_n (n_37)).trans m_59
  have m_68 : (mU (mU (mU (mU (mU M u (aI G 3 (tr3 (mxI (lo 0) (lo2 0)) (mxI (lo 1) (lo2 1)) (mxI (lo 2) (lo2 2))))) w (aI G 3 (fun _ => 0))) w (aI G 3 (upd (fun _ => 0) 0 (mnI (hi 0) (hi2 0))))) w (aI G 3 (upd (upd (fun _ => 0) 0 (mnI (hi 0) (hi2 0))) 1 (mnI (hi 1) (hi2 1))))) w (aI G 3 (upd (upd (upd (fun _ => 0) 0 (mnI (hi 0) (hi2 0))) 1 (mnI (hi 1) (hi2 1))) 2 (mnI (hi 2) (hi2 2))))) c = some (aI G 3 hi) := (mU_n (n_39)).trans m_60
  have m_69 : (mU (mU (mU (mU (mU M u (aI G 3 (tr3 (mxI (lo 0) (lo2 0)) (mxI (lo 1) (lo2 1)) (mxI (lo 2) (lo2 2))))) w (aI G 3 (fun _ => 0))) w (aI G 3 (upd (fun _ => 0) 0 (mnI (hi 0) (hi2 0))))) w (aI G 3 (upd (upd (fun _ => 0) 0 (mnI (hi 0) (hi2 0))) 1 (mnI (hi 1) (hi2 1))))) w (aI G 3 (upd (upd (upd (fun _ => 0) 0 (mnI (hi 0) (hi2 0))) 1 (mnI (hi 1) (hi2 1))) 2 (mnI (hi 2) (hi2 2))))) a2 = some (oB 7 [.int n2, .ref b2, .ref c2, .ref sp2.2.1, .ref d2, .int (sL lo2 hi2 0 * sL lo2 hi2 1 * sL lo2 hi2 2)]) := (mU_n (n_41)).trans m_61
  have m_70 : (mU (mU (mU (mU (mU M u (aI G 3 (tr3 (mxI (lo 0) (lo2 0)) (mxI (lo 1) (lo2 1)) (mxI (lo 2) (lo2 2))))) w (aI G 3 (fun _ => 0))) w (aI G 3 (upd (fun _ => 0) 0 (mnI (hi 0) (hi2 0))))) w (aI G 3 (upd (upd (fun _ => 0) 0 (mnI (hi 0) (hi2 0))) 1 (mnI (hi 1) (hi2 1))))) w (aI G 3 (upd (upd (upd (fun _ => 0) 0 (mnI (hi 0) (hi2 0))) 1 (mnI (hi 1) (hi2 1))) 2 (mnI (hi 2) (hi2 2))))) b2 = some (aI G 3 lo2) := (mU_n (n_43)).trans m_62
  have m_71 : (mU (mU (mU (mU (mU M u (aI G 3 (tr3 (mxI (lo 0) (lo2 0)) (mxI (lo 1) (lo2 1)) (mxI (lo 2) (lo2 2))))) w (aI G 3 (fun _ => 0))) w (aI G 3 (upd (fun _ => 0) 0 (mnI (hi 0) (hi2 0))))) w (aI G 3 (upd (upd (fun _ => 0) 0 (mnI (hi 0) (hi2 0))) 1 (mnI (hi 1) (hi2 1))))) w (aI G 3 (upd (upd (upd (fun _ => 0) 0 (mnI (hi 0) (hi2 0))) 1 (mnI (hi 1) (hi2 1))) 2 (mnI (hi 2) (hi2 2))))) c2 = some (aI G 3 hi2) := (mU_n (n_45)).trans m_63
  have m_72 : (mU (mU (mU (mU (mU M u (aI G 3 (tr3 (mxI (lo 0) (lo2 0)) (mxI (lo 1) (lo2 1)) (mxI (lo 2) (lo2 2))))) w (aI G 3 (fun _ => 0))) w (aI G 3 (upd (fun _ => 0) 0 (mnI (hi 0) (hi2 0))))) w (aI G 3 (upd (upd (fun _ => 0) 0 (mnI (hi 0) (hi2 0))) 1 (mnI (hi 1) (hi2 1))))) w (aI G 3 (upd (upd (upd (fun _ => 0) 0 (mnI (hi 0) (hi2 0))) 1 (mnI (hi 1) (hi2 1))) 2 (mnI (hi 2) (hi2 2))))) u = some (aI G 3 (tr3 (mxI (lo 0) (lo2 0)) (mxI (lo 1) (lo2 1)) (mxI (lo 2) (lo2 2)))) := (mU_n (n_47)).trans m_64
  have m_73 : (mU (mU (mU (mU (mU M u (aI G 3 (tr3 (mxI (lo 0) (lo2 0)) (mxI (lo 1) (lo2 1)) (mxI (lo 2) (lo2 2))))) w (aI G 3 (fun _ => 0))) w (aI G 3 (upd (fun _ => 0) 0 (mnI (hi 0) (hi2 0))))) w (aI G 3 (upd (upd (fun _ => 0) 0 (mnI (hi 0) (hi2 0))) 1 (mnI (hi 1) (hi2 1))))) w (aI G 3 (upd (upd (upd (fun _ => 0) 0 (mnI (hi 0) (hi2 0))) 1 (mnI (hi 1) (hi2 1))) 2 (mnI (hi 2) (hi2 2))))) w = some (aI G 3 (upd (upd (upd (fun _ => 0) 0 (mnI (hi 0) (hi2 0))) 1 (mnI (hi 1) (hi2 1))) 2 (mnI (hi 2) (hi2 2)))) := mU_s
  rw [mU_mU, mU_mU, mU_mU] ; change qJ G F _ 4 (mU (mU M u (aI G 3 (tr3 (mxI (lo 0) (lo2 0)) (mxI (lo 1) (lo2 1)) (mxI (lo 2) (lo2 2))))) w (aI G 3 (tr3 (mnI (hi 0) (hi2 0)) (mnI (hi 1) (hi2 1)) (mnI (hi 2) (hi2 2))))) 3 12 103 [(2, .ref u), (0, .ref a), (1, .ref a2)] [.ref w]
  have E2 := mExt_new (e := aI G 3 (tr3 (mnI (hi 0) (hi2 0)) (mnI (hi 1) (hi2 1)) (mnI (hi 2) (hi2 2)))) fw
  have z_w_a : (mU (mU M u (aI G 3 (tr3 (mxI (lo 0) (lo2 0)) (mxI (lo 1) (lo2 1)) (mxI (lo 2) (lo2 2))))) w (aI G 3 (tr3 (mnI (hi 0) (hi2 0)) (mnI (hi 1) (hi2 1)) (mnI (hi 2) (hi2 2))))) a = some (oB 7 [.int n, .ref b, .ref c, .ref sp.2.1, .ref d0, .int (sL lo hi 0 * sL lo hi 1 * sL lo hi 2)]) := E2 _ _ (z_u_a)
  have z_w_b : (mU (mU M u (aI G 3 (tr3 (mxI (lo 0) (lo2 0)) (mxI (lo 1) (lo2 1)) (mxI (lo 2) (lo2 2))))) w (aI G 3 (tr3 (mnI (hi 0) (hi2 0)) (mnI (hi 1) (hi2 1)) (mnI (hi 2) (hi2 2))))) b = some (aI G 3 lo) := E2 _ _ (z_u_b)
  have z_w_c : (mU (mU M u (aI G 3 (tr3 (mxI (lo 0) (lo2 0)) (mxI (lo 1) (lo2 1)) (mxI (lo 2) (lo2 2))))) w (aI G 3 (tr3 (mnI (hi 0) (hi2 0)) (mnI (hi 1) (hi2 1)) (mnI (hi 2) (hi2 2))))) c = some (aI G 3 hi) := E2 _ _ (z_u_c)
  have z_w_a2 : (mU (mU M u (aI G 3 (tr3 (mxI (lo 0) (lo2 0)) (mxI (lo 1) (lo2 1)) (mxI (lo 2) (lo2 2))))) w (aI G 3 (tr3 (mnI (hi 0) (hi2 0)) (mnI (hi 1) (hi2 1)) (mnI (hi 2) (hi2 2))))) a2 = some (oB 7 [.int n2, .ref b2, .ref c2, .ref sp2.2.1, .ref d2, .int (sL lo2 hi2 0 * sL lo2 hi2 1 * sL lo2 hi2 2)]) := E2 _ _ (z_u_a2)
  have z_w_b2 : (mU (mU M u (aI G 3 (tr3 (mxI (lo 0) (lo2 0)) (mxI (lo 1) (lo2 1)) (mxI (lo 2) (lo2 2))))) w (aI G 3 (tr3 (mnI (hi 0) (hi2 0)) (mnI (hi 1) (hi2 1)) (mnI (hi 2) (hi2 2))))) b2 = some (aI G 3 lo2) := E2 _ _ (z_u_b2)
  have z_w_c2 : (mU (mU M u (aI G 3 (tr3 (mxI (lo 0) (lo2 0)) (mxI (lo 1) (lo2 1)) (mxI (lo 2) (lo2 2))))) w (aI G 3 (tr3 (mnI (hi 0) (hi2 0)) (mnI (hi 1) (hi2 1)) (mnI (hi 2) (hi2 2))))) c2 = some (aI G 3 hi2) := E2 _ _ (z_u_c2)
  have z_w_u : (mU (mU M u (aI G 3 (tr3 (mxI (lo 0) (lo2 0)) (mxI (lo 1) (lo2 1)) (mxI (lo 2) (lo2 2))))) w (aI G 3 (tr3 (mnI (hi 0) (hi2 0)) (mnI (hi 1) (hi2 1)) (mnI (hi 2) (hi2 2))))) u = some (aI G 3 (tr3 (mxI (lo 0) (lo2 0)) (mxI (lo 1) (lo2 1)) (mxI (lo 2) (lo2 2)))) := E2 _ _ (z_u_u)
  have z_w_w : (mU (mU M u (aI G 3 (tr3 (mxI (lo 0) (lo2 0)) (mxI (lo 1) (lo2 1)) (mxI (lo 2) (lo2 2))))) w (aI G 3 (tr3 (mnI (hi 0) (hi2 0)) (mnI (hi 1) (hi2 1)) (mnI (hi 2) (hi2 2))))) w = some (aI G 3 (tr3 (mnI (hi 0) (hi2 0)) (mnI (hi 1) (hi2 1)) (mnI (hi 2) (hi2 2)))) := mU_s
  refine q_astore_n (lv' := [(3, .ref w), (2, .ref u), (0, .ref a), (1, .ref a2)]) X dX7_common_103 (by decide) rfl ?_
  refine q_new X (ci := 7) rfl in_RX7 tyX7 tyX7_ok tw_646 tw_67 tw_5 (fs0 := [.int 0, .null, .null, .null, .null, .int 0]) (fun j hj => by rcases (show j = 0 ∨ j = 1 ∨ j = 2 ∨ j = 3 ∨ j = 4 ∨ j = 5 by omega) with rfl | rfl | rfl | rfl | rfl | rfl <;> rfl) (rc' := 2) (rs' := 6) (by omega) (by omega) dX7_common_104 (fun p fp => ?_)
  have n_74 : a ≠ p := g_nef z_w_a fp
  have m_75 : (mU (mU (mU M u (aI G 3 (tr3 (mxI (lo 0) (lo2 0)) (mxI (lo 1) (lo2 1)) (mxI (lo 2) (lo2 2))))) w (aI G 3 (tr3 (mnI (hi 0) (hi2 0)) (mnI (hi 1) (hi2 1)) (mnI (hi 2) (hi2 2))))) p (oB 7 [.int 0, .null, .null, .null, .null, .int 0])) a = some (oB 7 [.int n, .ref b, .ref c, .ref sp.2.1, .ref d0, .int (sL lo hi 0 * sL lo hi 1 * sL lo hi 2)]) := (mU_n n_74).trans z_w_a
  have n_76 : b ≠ p := g_nef z_w_b fp
  have m_77 : (mU (mU (mU M u (aI G 3 (tr3 (mxI (lo 0) (lo2 0)) (mxI (lo 1) (lo2 1)) (mxI (lo 2) (lo2 2))))) w (aI G 3 (tr3 (mnI (hi 0) (hi2 0)) (mnI (hi 1) (hi2 1)) (mnI (hi 2) (hi2 2))))) p (oB 7 [.int 0, .null, .null, .null, .null, .int 0])) b = some (aI G 3 lo) := (mU_n n_76).trans z_w_b
  have n_78 : c ≠ p := g_nef z_w_c fp
  have m_79 : (mU (mU (mU M u (aI G 3 (tr3 (mxI (lo 0) (lo2 0)) (mxI (lo 1) (lo2 1)) (mxI (lo 2) (lo2 2))))) w (aI G 3 (tr3 (mnI (hi 0) (hi2 0)) (mnI (hi 1) (hi2 1)) (mnI (hi 2) (hi2 2))))) p (oB 7 [.int 0, .null, .null, .null, .null, .int 0])) c = some (aI G 3 hi) := (mU_n n_78).trans z_w_c
  have n_80 : a2 ≠ p := g_nef z_w_a2 fp
  have m_81 : (mU (mU (mU M u (aI G 3 (tr3 (mxI (lo 0) (lo2 0)) (mxI (lo 1) (lo2 1)) (mxI (lo 2) (lo2 2))))) w (aI G 3 (tr3 (mnI (hi 0) (hi2 0)) (mnI (hi 1) (hi2 1)) (mnI (hi 2) (hi2 2))))) p (oB 7 [.int 0, .null, .null, .null, .null, .int 0])) a2 = some (oB 7 [.int n2, .ref b2, .ref c2, .ref sp2.2.1, .ref d2, .int (sL lo2 hi2 0 * sL lo2 hi2 1 * sL lo2 hi2 2)]) := (mU_n n_80).trans z_w_a2
  have n_82 : b2 ≠ p := g_nef z_w_b2 fp
  have m_83 : (mU (mU (mU M u (aI G 3 (tr3 (mxI (lo 0) (lo2 0)) (mxI (lo 1) (lo2 1)) (mxI (lo 2) (lo2 2))))) w (aI G 3 (tr3 (mnI (hi 0) (hi2 0)) (mnI (hi 1) (hi2 1)) (mnI (hi 2) (hi2 2))))) p (oB 7 [.int 0, .null, .null, .null, .null, .int 0])) b2 = some (aI G 3 lo2) := (mU_n n_82).trans z_w_b2
  have n_84 : c2 ≠ p := g_nef z_w_c2 fp
  have m_85 : (mU (mU (mU M u (aI G 3 (tr3 (mxI (lo 0) (lo2 0)) (mxI (lo 1) (lo2 1)) (mxI (lo 2) (lo2 2))))) w (aI G 3 (tr3 (mnI (hi 0) (hi2 0)) (mnI (hi 1) (hi2 1)) (mnI (hi 2) (hi2 2))))) p (oB 7 [.int 0, .null, .null, .null, .null, .int 0])) c2 = some (aI G 3 hi2) := (mU_n n_84).trans z_w_c2
  have n_86 : u ≠ p := g_nef z_w_u fp
  have m_87 : (mU (mU (mU M u (aI G 3 (tr3 (mxI (lo 0) (lo2 0)) (mxI (lo 1) (lo2 1)) (mxI (lo 2) (lo2 2))))) w (aI G 3 (tr3 (mnI (hi 0) (hi2 0)) (mnI (hi 1) (hi2 1)) (mnI (hi 2) (hi2 2))))) p (oB 7 [.int 0, .null, .null, .null, .null, .int 0])) u = some (aI G 3 (tr3 (mxI (lo 0) (lo2 0)) (mxI (lo 1) (lo2 1)) (mxI (lo 2) (lo2 2)))) := (mU_n n_86).trans z_w_u
  have n_88 : w ≠ p := g_nef z_w_w fp
  have m_89 : (mU (mU (mU M u (aI G 3 (tr3 (mxI (lo 0) (lo2 0)) (mxI (lo 1) (lo2 1)) (mxI (lo 2) (lo2 2))))) w (aI G 3 (tr3 (mnI (hi 0) (hi2 0)) (mnI (hi 1) (hi2 1)) (mnI (hi 2) (hi2 2))))) p (oB 7 [.int 0, .null, .null, .null, .null, .int 0])) w = some (aI G 3 (tr3 (mnI (hi 0) (hi2 0)) (mnI (hi 1) (hi2 1)) (mnI (hi 2) (hi2 2)))) := (mU_n n_88).trans z_w_w
  have m_90 : (mU (mU (mU M u (aI G 3 (tr3 (mxI (lo 0) (lo2 0)) (mxI (lo 1) (lo2 1)) (mxI (lo 2) (lo2 2))))) w (aI G 3 (tr3 (mnI (hi 0) (hi2 0)) (mnI (hi 1) (hi2 1)) (mnI (hi 2) (hi2 2))))) p (oB 7 [.int 0, .null, .null, .null, .null, .int 0])) p = some (oB 7 [.int 0, .null, .null, .null, .null, .int 0]) := mU_s
  refine q_dup X dX7_common_107 rfl ?_
  refine q_aload_n X dX7_common_108 2 rfl ?_
  refine q_get X m_75 rfl in_RX7 0 (by decide) tw_88 rfl rfl dX7_common_109 ?_
  refine q_aload_n X dX7_common_112 1 rfl ?_
  refine q_aload_n X dX7_common_113 0 rfl ?_
  refine q_callI X (c_X7_init (n := n) (lo := (tr3 (mxI (lo 0) (lo2 0)) (mxI (lo 1) (lo2 1)) (mxI (lo 2) (lo2 2)))) (hi := (tr3 (mnI (hi 0) (hi2 0)) (mnI (hi 1) (hi2 1)) (mnI (hi 2) (hi2 2)))) m_90 m_87 m_89) Y_X7_init tw_657 tw_69 rfl (by decide) rfl rfl (Nat.le_of_ble_eq_true rfl) (rc' := 0) (rs' := 0) (by omega) (by omega) dX7_common_114 (fun v M' hp _ => ?_)
  obtain ⟨rfl, hS3, w9, d9, fw9, fd9, hfr⟩ := hp
  show qJ G F _ 4 M' 0 0 117 [(3, .ref w), (2, .ref u), (0, .ref a), (1, .ref a2)] [.ref p]
  exact q_aret X hr (Or.inl ⟨_, rfl⟩) dX7_common_117 (⟨p, rfl, (E1.trans E2).none fp, hS3, fun x e hx => have h8 := (E1.trans E2) x e hx; have h9 := (mExt_new fp) x e h8; (hfr x (g_nef h8 fp) (g_nef h9 fw9) (g_nef h9 fd9)).trans h9⟩)

set_option maxRecDepth 20000 in
theorem c_X7_meets {l : Launch} {G : gV} {M : gMem} {a a2 : Nat} {n n2 : Int32} {lo hi lo2 hi2 : Nat → Int32} (hS : isShape G M a n lo hi) (hS2 : isShape G M a2 n2 lo2 hi2) {m : Nat} (hn9 : n = nI m) (hm : m ≤ 3) : qC l G yX7_meets cX7_meets 4 (some .boolean) 2 0 0 [.ref a, .ref a2] M (pP (.int (bI (meetB (decide (n = n2)) lo hi lo2 hi2 m))) M) := by
  refine qC_of (by decide +kernel) (Nat.le_of_ble_eq_true rfl) (fun F hF X hr hn => ?_)
  subst hF
  have X : qX G F cX7_meets 4 RX7 2 := X
  obtain ⟨b, c, d0, sp, h1, h2, h3, h4, h5, h6, h7, h8, h9⟩ := id hS
  obtain ⟨b2, c2, d2, sp2, i1, i2, i3, i4, i5, i6, i7, i8, i9⟩ := id hS2
  have loop : ∀ (t j : Nat), j + t = m → qJ G F (qQ G F (pP (.int (bI (meetB (decide (n = n2)) lo hi lo2 hi2 m))) M)) 4 M 0 0 19 [(0, .ref a), (1, .ref a2), (2, .int (bI (meetB (decide (n = n2)) lo hi lo2 hi2 j))), (3, .int (nI j))] [] := by
    intro t
    induction t with
    | zero =>
      intro j hj
      have hjm : j = m := by omega
      refine q_iload_n X dX7_meets_19 3 rfl ?_
      refine q_aload_n X dX7_meets_20 0 rfl ?_
      refine q_get X h1 rfl in_RX7 0 (by decide) tw_88 rfl rfl dX7_meets_21 ?_
      refine q_icmp_ge X 69 dX7_meets_24 (by decide) (fun c_1 => ?_) (fun c_1 => absurd (by rw [hn9, hjm]; exact nI_le (Nat.le_refl _) (by omega)) c_1)
      refine q_iload_n X dX7_meets_69 2 rfl ?_
      exact q_zret X hr (bI_01 _) dX7_meets_70 (⟨by rw [hjm], rfl⟩)
    | succ t ih =>
      intro j hj
      have hj3 : j < 3 := by omega
      refine q_iload_n X dX7_meets_19 3 rfl ?_
      refine q_aload_n X dX7_meets_20 0 rfl ?_
      refine q_get X h1 rfl in_RX7 0 (by decide) tw_88 rfl rfl dX7_meets_21 ?_
      refine q_icmp_ge X 69 dX7_meets_24 (by decide) (fun c_2 => absurd c_2 (by rw [hn9]; exact nI_ge (show j < m by omega) (by omega))) (fun c_2 => ?_)
      refine q_iload_n X dX7_meets_27 2 rfl ?_
      refine q_if_eq X 61 dX7_meets_28 (by decide) (fun k1 => ?_) (fun k1 => ?_)
      · refine q_iconst (v := 0) X dX7_meets_61 (by decide) ?_
        have ec : (0 : Int32) = bI (meetB (decide (n = n2)) lo hi lo2 hi2 (j + 1)) := by unfold meetB; first | (rw [bI_0.mp k1]; rfl) | (rw [decide_eq_false (Int32.not_le.mpr k2), Bool.and_false]; rfl) | (rw [decide_eq_false (Int32.not_le.mpr k3), Bool.and_false]; rfl)
        rw [ec]
        refine q_istore_n (lv' := [(2, .int (bI (meetB (decide (n = n2)) lo hi lo2 hi2 (j + 1)))), (0, .ref a), (1, .ref a2), (3, .int (nI j))]) X dX7_meets_62 (by decide) rfl ?_
        refine q_iinc (v := (nI (j + 1))) (lv' := [(3, .int (nI (j + 1))), (2, .int (bI (meetB (decide (n = n2)) lo hi lo2 hi2 (j + 1)))), (0, .ref a), (1, .ref a2)]) X dX7_meets_63 3 rfl (nI_1 j) (by decide) rfl ?_
        refine q_goto X 19 dX7_meets_66 (by decide) ?_
        refine q_sub [2, 3, 1, 0] rfl ?_
        exact ih (j + 1) (by omega)
      · refine q_aload_n X dX7_meets_31 0 rfl ?_
        refine q_iload_n X dX7_meets_32 3 rfl ?_
        refine q_callVp X (c_X7_lowN ⟨_, b, c, _, _, _, h1, h2, h3⟩ j hj3 rfl) Y_X7_low tw_76 tw_77 tw_78 h1 rfl (by decide) rfl rfl (Nat.le_of_ble_eq_true rfl) dX7_meets_33 ?_
        refine q_aload_n X dX7_meets_36 1 rfl ?_
        refine q_iload_n X dX7_meets_37 3 rfl ?_
        refine q_callVp X (c_X7_highN ⟨_, b2, c2, _, _, _, i1, i2, i3⟩ j hj3 rfl) Y_X7_high tw_72 tw_73 tw_74 i1 rfl (by decide) rfl rfl (Nat.le_of_ble_eq_true rfl) dX7_meets_38 ?_
        refine q_icmp_gt X 61 dX7_meets_41 (by decide) (fun k2 => ?_) (fun k2 => ?_)
        · refine q_iconst (v := 0) X dX7_meets_61 (by decide) ?_
          have ec : (0 : Int32) = bI (meetB (decide (n = n2)) lo hi lo2 hi2 (j + 1)) := by unfold meetB; first | (rw [bI_0.mp k1]; rfl) | (rw [decide_eq_false (Int32.not_le.mpr k2), Bool.and_false]; rfl) | (rw [decide_eq_false (Int32.not_le.mpr k3), Bool.and_false]; rfl)
          rw [ec]
          refine q_istore_n (lv' := [(2, .int (bI (meetB (decide (n = n2)) lo hi lo2 hi2 (j + 1)))), (0, .ref a), (1, .ref a2), (3, .int (nI j))]) X dX7_meets_62 (by decide) rfl ?_
          refine q_iinc (v := (nI (j + 1))) (lv' := [(3, .int (nI (j + 1))), (2, .int (bI (meetB (decide (n = n2)) lo hi lo2 hi2 (j + 1)))), (0, .ref a), (1, .ref a2)]) X dX7_meets_63 3 rfl (nI_1 j) (by decide) rfl ?_
          refine q_goto X 19 dX7_meets_66 (by decide) ?_
          refine q_sub [2, 3, 1, 0] rfl ?_
          exact ih (j + 1) (by omega)
        · refine q_aload_n X dX7_meets_44 1 rfl ?_
          refine q_iload_n X dX7_meets_45 3 rfl ?_
          refine q_callVp X (c_X7_lowN ⟨_, b2, c2, _, _, _, i1, i2, i3⟩ j hj3 rfl) Y_X7_low tw_76 tw_77 tw_78 i1 rfl (by decide) rfl rfl (Nat.le_of_ble_eq_true rfl) dX7_meets_46 ?_
          refine q_aload_n X dX7_meets_49 0 rfl ?_
          refine q_iload_n X dX7_meets_50 3 rfl ?_
          refine q_callVp X (c_X7_highN ⟨_, b, c, _, _, _, h1, h2, h3⟩ j hj3 rfl) Y_X7_high tw_72 tw_73 tw_74 h1 rfl (by decide) rfl rfl (Nat.le_of_ble_eq_true rfl) dX7_meets_51 ?_
          refine q_icmp_gt X 61 dX7_meets_54 (by decide) (fun k3 => ?_) (fun k3 => ?_)
          · refine q_iconst (v := 0) X dX7_meets_61 (by decide) ?_
            have ec : (0 : Int32) = bI (meetB (decide (n = n2)) lo hi lo2 hi2 (j + 1)) := by unfold meetB; first | (rw [bI_0.mp k1]; rfl) | (rw [decide_eq_false (Int32.not_le.mpr k2), Bool.and_false]; rfl) | (rw [decide_eq_false (Int32.not_le.mpr k3), Bool.and_false]; rfl)
            rw [ec]
            refine q_istore_n (lv' := [(2, .int (bI (meetB (decide (n = n2)) lo hi lo2 hi2 (j + 1)))), (0, .ref a), (1, .ref a2), (3, .int (nI j))]) X dX7_meets_62 (by decide) rfl ?_
            refine q_iinc (v := (nI (j + 1))) (lv' := [(3, .int (nI (j + 1))), (2, .int (bI (meetB (decide (n = n2)) lo hi lo2 hi2 (j + 1)))), (0, .ref a), (1, .ref a2)]) X dX7_meets_63 3 rfl (nI_1 j) (by decide) rfl ?_
            refine q_goto X 19 dX7_meets_66 (by decide) ?_
            refine q_sub [2, 3, 1, 0] rfl ?_
            exact ih (j + 1) (by omega)
          · refine q_iconst (v := 1) X dX7_meets_57 (by decide) ?_
            refine q_goto X 62 dX7_meets_58 (by decide) ?_
            have ec : (1 : Int32) = bI (meetB (decide (n = n2)) lo hi lo2 hi2 (j + 1)) := by unfold meetB; rw [show meetB (decide (n = n2)) lo hi lo2 hi2 j = true from (by cases h : meetB (decide (n = n2)) lo hi lo2 hi2 j with | true => rfl | false => exact absurd (by rw [h]; rfl) k1), decide_eq_true (Int32.not_lt.mp k2), decide_eq_true (Int32.not_lt.mp k3)]; rfl
            rw [ec]
            refine q_istore_n (lv' := [(2, .int (bI (meetB (decide (n = n2)) lo hi lo2 hi2 (j + 1)))), (0, .ref a), (1, .ref a2), (3, .int (nI j))]) X dX7_meets_62 (by decide) rfl ?_
            refine q_iinc (v := (nI (j + 1))) (lv' := [(3, .int (nI (j + 1))), (2, .int (bI (meetB (decide (n = n2)) lo hi lo2 hi2 (j + 1)))), (0, .ref a), (1, .ref a2)]) X dX7_meets_63 3 rfl (nI_1 j) (by decide) rfl ?_
            refine q_goto X 19 dX7_meets_66 (by decide) ?_
            refine q_sub [2, 3, 1, 0] rfl ?_
            exact ih (j + 1) (by omega)
  refine q_aload_n X dX7_meets_0 0 rfl ?_
  refine q_get X h1 rfl in_RX7 0 (by decide) tw_88 rfl rfl dX7_meets_1 ?_
  refine q_aload_n X dX7_meets_4 1 rfl ?_
  refine q_get X i1 rfl in_RX7 0 (by decide) tw_88 rfl rfl dX7_meets_5 ?_
  refine q_icmp_ne X 15 dX7_meets_8 (by decide) (fun k0 => ?_) (fun k0 => ?_)
  · refine q_iconst (v := 0) X dX7_meets_15 (by decide) ?_
    have ec : (0 : Int32) = bI (meetB (decide (n = n2)) lo hi lo2 hi2 0) := by unfold meetB; rw [decide_eq_false k0]; rfl
    rw [ec]
    refine q_istore_n (lv' := [(2, .int (bI (meetB (decide (n = n2)) lo hi lo2 hi2 0))), (0, .ref a), (1, .ref a2)]) X dX7_meets_16 (by decide) rfl ?_
    refine q_iconst (v := 0) X dX7_meets_17 (by decide) ?_
    refine q_istore_n (lv' := [(3, .int 0), (2, .int (bI (meetB (decide (n = n2)) lo hi lo2 hi2 0))), (0, .ref a), (1, .ref a2)]) X dX7_meets_18 (by decide) rfl ?_
    refine q_sub [2, 3, 1, 0] rfl ?_
    exact loop m 0 (by omega)
  · refine q_iconst (v := 1) X dX7_meets_11 (by decide) ?_
    refine q_goto X 16 dX7_meets_12 (by decide) ?_
    have ec : (1 : Int32) = bI (meetB (decide (n = n2)) lo hi lo2 hi2 0) := by unfold meetB; rw [decide_eq_true k0]; rfl
    rw [ec]
    refine q_istore_n (lv' := [(2, .int (bI (meetB (decide (n = n2)) lo hi lo2 hi2 0))), (0, .ref a), (1, .ref a2)]) X dX7_meets_16 (by decide) rfl ?_
    refine q_iconst (v := 0) X dX7_meets_17 (by decide) ?_
    refine q_istore_n (lv' := [(3, .int 0), (2, .int (bI (meetB (decide (n = n2)) lo hi lo2 hi2 0))), (0, .ref a), (1, .ref a2)]) X dX7_meets_18 (by decide) rfl ?_
    refine q_sub [2, 3, 1, 0] rfl ?_
    exact loop m 0 (by omega)
