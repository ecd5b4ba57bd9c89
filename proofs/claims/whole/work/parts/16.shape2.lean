/-! GridVault$Shape: its making, and shapes made of shapes -/
set_option maxRecDepth 20000 in
theorem c_X7_init {l : Launch} {G : gV} {M : gMem} {a b c : Nat} {n : Int32} {lo hi : Nat → Int32} (h1 : M a = some (oB 7 [.int 0, .null, .null, .null, .null, .int 0])) (h2 : M b = some (aI G 3 lo)) (h3 : M c = some (aI G 3 hi)) : qC l G yX7_init cX7_init 4 none 3 2 6 [.ref a, .int n, .ref b, .ref c] M (fun v M' => v = none ∧ isShape G M' a n lo hi ∧ ∃ w d, M w = none ∧ M d = none ∧ ∀ q, q ≠ a → q ≠ w → q ≠ d → M' q = M q) := by
  refine qC_of (by decide +kernel) (Nat.le_of_ble_eq_true rfl) (fun F hF X hr hn => ?_)
  subst hF
  have X : qX G F cX7_init 4 RX7 3 := X
  show qJ G F _ 4 M 2 6 0 [(0, .ref a), (1, .int n), (2, .ref b), (3, .ref c)] []
  refine q_aload_n X dX7_init_0 0 rfl ?_
  refine q_obj X tw_71 tw_38 tw_39 (by decide) (Nat.le_of_ble_eq_true rfl) dX7_init_1 ?_
  refine q_aload_n X dX7_init_4 0 rfl ?_
  refine q_iload_n X dX7_init_5 1 rfl ?_
  refine q_putF X hn h1 rfl in_RX7 tyX7 tyX7_ok nmX7 0 (by decide) tw_88 rfl rfl rfl rfl rfl rfl (Nat.le_of_ble_eq_true rfl) (fs1 := [.int n, .null, .null, .null, .null, .int 0]) rfl dX7_init_6 ?_
  have m_1 : (mU M a (oB 7 [.int n, .null, .null, .null, .null, .int 0])) a = some (oB 7 [.int n, .null, .null, .null, .null, .int 0]) := mU_s
  have m_2 : (mU M a (oB 7 [.int n, .null, .null, .null, .null, .int 0])) b = some (aI G 3 lo) := (mU_n (Ne.symm (g_neoa h1 h2))).trans h2
  have m_3 : (mU M a (oB 7 [.int n, .null, .null, .null, .null, .int 0])) c = some (aI G 3 hi) := (mU_n (Ne.symm (g_neoa h1 h3))).trans h3
  refine q_aload_n X dX7_init_9 0 rfl ?_
  refine q_aload_n X dX7_init_10 2 rfl ?_
  refine q_putF X hn m_1 rfl in_RX7 tyX7 tyX7_ok nmX7 1 (by decide) tw_89 rfl rfl rfl rfl rfl rfl (Nat.le_of_ble_eq_true rfl) (fs1 := [.int n, .ref b, .null, .null, .null, .int 0]) rfl dX7_init_11 ?_
  have m_4 : (mU (mU M a (oB 7 [.int n, .null, .null, .null, .null, .int 0])) a (oB 7 [.int n, .ref b, .null, .null, .null, .int 0])) a = some (oB 7 [.int n, .ref b, .null, .null, .null, .int 0]) := mU_s
  have m_5 : (mU (mU M a (oB 7 [.int n, .null, .null, .null, .null, .int 0])) a (oB 7 [.int n, .ref b, .null, .null, .null, .int 0])) b = some (aI G 3 lo) := (mU_n (Ne.symm (g_neoa h1 h2))).trans m_2
  have m_6 : (mU (mU M a (oB 7 [.int n, .null, .null, .null, .null, .int 0])) a (oB 7 [.int n, .ref b, .null, .null, .null, .int 0])) c = some (aI G 3 hi) := (mU_n (Ne.symm (g_neoa h1 h3))).trans m_3
  refine q_aload_n X dX7_init_14 0 rfl ?_
  refine q_aload_n X dX7_init_15 3 rfl ?_
  refine q_putF X hn m_4 rfl in_RX7 tyX7 tyX7_ok nmX7 2 (by decide) tw_90 rfl rfl rfl rfl rfl rfl (Nat.le_of_ble_eq_true rfl) (fs1 := [.int n, .ref b, .ref c, .null, .null, .int 0]) rfl dX7_init_16 ?_
  have m_7 : (mU (mU (mU M a (oB 7 [.int n, .null, .null, .null, .null, .int 0])) a (oB 7 [.int n, .ref b, .null, .null, .null, .int 0])) a (oB 7 [.int n, .ref b, .ref c, .null, .null, .int 0])) a = some (oB 7 [.int n, .ref b, .ref c, .null, .null, .int 0]) := mU_s
  have m_8 : (mU (mU (mU M a (oB 7 [.int n, .null, .null, .null, .null, .int 0])) a (oB 7 [.int n, .ref b, .null, .null, .null, .int 0])) a (oB 7 [.int n, .ref b, .ref c, .null, .null, .int 0])) b = some (aI G 3 lo) := (mU_n (Ne.symm (g_neoa h1 h2))).trans m_5
  have m_9 : (mU (mU (mU M a (oB 7 [.int n, .null, .null, .null, .null, .int 0])) a (oB 7 [.int n, .ref b, .null, .null, .null, .int 0])) a (oB 7 [.int n, .ref b, .ref c, .null, .null, .int 0])) c = some (aI G 3 hi) := (mU_n (Ne.symm (g_neoa h1 h3))).trans m_6
  refine q_aload_n X dX7_init_19 0 rfl ?_
  refine q_iconst (v := 3) X dX7_init_20 (by decide) ?_
  refine q_newI X tw_107 3 (by decide) (by decide) (rc' := 1) (rs' := 3) (by decide) (by decide) dX7_init_21 (fun w fw => ?_)
  have n_10 : a ≠ w := g_nef m_7 fw
  have m_11 : (mU (mU (mU (mU M a (oB 7 [.int n, .null, .null, .null, .null, .int 0])) a (oB 7 [.int n, .ref b, .null, .null, .null, .int 0])) a (oB 7 [.int n, .ref b, .ref c, .null, .null, .int 0])) w (aI G 3 (fun _ => 0))) a = some (oB 7 [.int n, .ref b, .ref c, .null, .null, .int 0]) := (mU_n n_10).trans m_7
  have n_12 : b ≠ w := g_nef m_8 fw
  have m_13 : (mU (mU (mU (mU M a (oB 7 [.int n, .null, .null, .null, .null, .int 0])) a (oB 7 [.int n, .ref b, .null, .null, .null, .int 0])) a (oB 7 [.int n, .ref b, .ref c, .null, .null, .int 0])) w (aI G 3 (fun _ => 0))) b = some (aI G 3 lo) := (mU_n n_12).trans m_8
  have n_14 : c ≠ w := g_nef m_9 fw
  have m_15 : (mU (mU (mU (mU M a (oB 7 [.int n, .null, .null, .null, .null, .int 0])) a (oB 7 [.int n, .ref b, .null, .null, .null, .int 0])) a (oB 7 [.int n, .ref b, .ref c, .null, .null, .int 0])) w (aI G 3 (fun _ => 0))) c = some (aI G 3 hi) := (mU_n n_14).trans m_9
  have m_16 : (mU (mU (mU (mU M a (oB 7 [.int n, .null, .null, .null, .null, .int 0])) a (oB 7 [.int n, .ref b, .null, .null, .null, .int 0])) a (oB 7 [.int n, .ref b, .ref c, .null, .null, .int 0])) w (aI G 3 (fun _ => 0))) w = some (aI G 3 (fun _ => 0)) := mU_s
  refine q_dup X dX7_init_23 rfl ?_
  refine q_iconst (v := 0) X dX7_init_24 (by decide) ?_
  refine q_aload_n X dX7_init_25 0 rfl ?_
  refine q_iconst (v := 0) X dX7_init_26 (by decide) ?_
  refine q_callVp X (c_X7_highN ⟨_, b, c, _, _, _, m_11, m_13, m_15⟩ 0 (by decide) (by decide)) Y_X7_high tw_72 tw_73 tw_74 m_11 rfl (by decide) rfl rfl (Nat.le_of_ble_eq_true rfl) dX7_init_27 ?_
  refine q_aload_n X dX7_init_30 0 rfl ?_
  refine q_iconst (v := 0) X dX7_init_31 (by decide) ?_
  refine q_callVp X (c_X7_lowN ⟨_, b, c, _, _, _, m_11, m_13, m_15⟩ 0 (by decide) (by decide)) Y_X7_low tw_76 tw_77 tw_78 m_11 rfl (by decide) rfl rfl (Nat.le_of_ble_eq_true rfl) dX7_init_32 ?_
  refine q_isub X dX7_init_35 ?_
  refine q_iconst (v := 1) X dX7_init_36 (by decide) ?_
  refine q_iadd X dX7_init_37 ?_
  refine q_iastN X 0 m_16 (by decide) (by decide) (by decide) dX7_init_38 ?_
  have m_17 : (mU (mU (mU (mU (mU M a (oB 7 [.int n, .null, .null, .null, .null, .int 0])) a (oB 7 [.int n, .ref b, .null, .null, .null, .int 0])) a (oB 7 [.int n, .ref b, .ref c, .null, .null, .int 0])) w (aI G 3 (fun _ => 0))) w (aI G 3 (upd (fun _ => 0) 0 (((hi 0) - (lo 0)) + 1)))) a = some (oB 7 [.int n, .ref b, .ref c, .null, .null, .int 0]) := (mU_n (n_10)).trans m_11
  have m_18 : (mU (mU (mU (mU (mU M a (oB 7 [.int n, .null, .null, .null, .null, .int 0])) a (oB 7 [.int n, .ref b, .null, .null, .null, .int 0])) a (oB 7 [.int n, .ref b, .ref c, .null, .null, .int 0])) w (aI G 3 (fun _ => 0))) w (aI G 3 (upd (fun _ => 0) 0 (((hi 0) - (lo 0)) + 1)))) b = some (aI G 3 lo) := (mU_n (n_12)).trans m_13
  have m_19 : (mU (mU (mU (mU (mU M a (oB 7 [.int n, .null, .null, .null, .null, .int 0])) a (oB 7 [.int n, .ref b, .null, .null, .null, .int 0])) a (oB 7 [.int n, .ref b, .ref c, .null, .null, .int 0])) w (aI G 3 (fun _ => 0))) w (aI G 3 (upd (fun _ => 0) 0 (((hi 0) - (lo 0)) + 1)))) c = some (aI G 3 hi) := (mU_n (n_14)).trans m_15
  have m_20 : (mU (mU (mU (mU (mU M a (oB 7 [.int n, .null, .null, .null, .null, .int 0])) a (oB 7 [.int n, .ref b, .null, .null, .null, .int 0])) a (oB 7 [.int n, .ref b, .ref c, .null, .null, .int 0])) w (aI G 3 (fun _ => 0))) w (aI G 3 (upd (fun _ => 0) 0 (((hi 0) - (lo 0)) + 1)))) w = some (aI G 3 (upd (fun _ => 0) 0 (((hi 0) - (lo 0)) + 1))) := mU_s
  refine q_dup X dX7_init_39 rfl ?_
  refine q_iconst (v := 1) X dX7_init_40 (by decide) ?_
  refine q_aload_n X dX7_init_41 0 rfl ?_
  refine q_iconst (v := 1) X dX7_init_42 (by decide) ?_
  refine q_callVp X (c_X7_highN ⟨_, b, c, _, _, _, m_17, m_18, m_19⟩ 1 (by decide) (by decide)) Y_X7_high tw_72 tw_73 tw_74 m_17 rfl (by decide) rfl rfl (Nat.le_of_ble_eq_true rfl) dX7_init_43 ?_
  refine q_aload_n X dX7_init_46 0 rfl ?_
  refine q_iconst (v := 1) X dX7_init_47 (by decide) ?_
  refine q_callVp X (c_X7_lowN ⟨_, b, c, _, _, _, m_17, m_18, m_19⟩ 1 (by decide) (by decide)) Y_X7_low tw_76 tw_77 tw_78 m_17 rfl (by decide) rfl rfl (Nat.le_of_ble_eq_true rfl) dX7_init_48 ?_
  refine q_isub X dX7_init_51 ?_
  refine q_iconst (v := 1) X dX7_init_52 (by decide) ?_
  refine q_iadd X dX7_init_53 ?_
  refine q_iastN X 1 m_20 (by decide) (by decide) (by decide) dX7_init_54 ?_
  have m_21 : (mU (mU (mU (mU (mU (mU M a (oB 7 [.int n, .null, .null, .null, .null, .int 0])) a (oB 7 [.int n, .ref b, .null, .null, .null, .int 0])) a (oB 7 [.int n, .ref b, .ref c, .null, .null, .int 0])) w (aI G 3 (fun _ => 0))) w (aI G 3 (upd (fun _ => 0) 0 (((hi 0) - (lo 0)) + 1)))) w (aI G 3 (upd (upd (fun _ => 0) 0 (((hi 0) - (lo 0)) + 1)) 1 (((hi 1) - (lo 1)) + 1)))) a = some (oB 7 [.int n, .ref b, .ref c, .null, .null, .int 0]) := (mU_n (n_10)).trans m_17
  have m_22 : (mU (mU (mU (mU (mU (mU M a (oB 7 [.int n, .null, .null, .null, .null, .int 0])) a (oB 7 [.int n, .ref b, .null, .null, .null, .int 0])) a (oB 7 [.int n, .ref b, .ref c, .null, .null, .int 0])) w (aI G 3 (fun _ => 0))) w (aI G 3 (upd (fun _ => 0) 0 (((hi 0) - (lo 0)) + 1)))) w (aI G 3 (upd (upd (fun _ => 0) 0 (((hi 0) - (lo 0)) + 1)) 1 (((hi 1) - (lo 1)) + 1)))) b = some (aI G 3 lo) := (mU_n (n_12)).trans m_18
  have m_23 : (mU (mU (mU (mU (mU (mU M a (oB 7 [.int n, .null, .null, .null, .null, .int 0])) a (oB 7 [.int n, .ref b, .null, .null, .null, .int 0])) a (oB 7 [.int n, .ref b, .ref c, .null, .null, .int 0])) w (aI G 3 (fun _ => 0))) w (aI G 3 (upd (fun _ => 0) 0 (((hi 0) - (lo 0)) + 1)))) w (aI G 3 (upd (upd (fun _ => 0) 0 (((hi 0) - (lo 0)) + 1)) 1 (((hi 1) - (lo 1)) + 1)))) c = some (aI G 3 hi) := (mU_n (n_14)).trans m_19
  have m_24 : (mU (mU (mU (mU (mU (mU M a (oB 7 [.int n, .null, .null, .null, .null, .int 0])) a (oB 7 [.int n, .ref b, .null, .null, .null, .int 0])) a (oB 7 [.int n, .ref b, .ref c, .null, .null, .int 0])) w (aI G 3 (fun _ => 0))) w (aI G 3 (upd (fun _ => 0) 0 (((hi 0) - (lo 0)) + 1)))) w (aI G 3 (upd (upd (fun _ => 0) 0 (((hi 0) - (lo 0)) + 1)) 1 (((hi 1) - (lo 1)) + 1)))) w = some (aI G 3 (upd (upd (fun _ => 0) 0 (((hi 0) - (lo 0)) + 1)) 1 (((hi 1) - (lo 1)) + 1))) := mU_s
  refine q_dup X dX7_init_55 rfl ?_
  refine q_iconst (v := 2) X dX7_init_56 (by decide) ?_
  refine q_aload_n X dX7_init_57 0 rfl ?_
  refine q_iconst (v := 2) X dX7_init_58 (by decide) ?_
  refine q_callVp X (c_X7_highN ⟨_, b, c, _, _, _, m_21, m_22, m_23⟩ 2 (by decide) (by decide)) Y_X7_high tw_72 tw_73 tw_74 m_21 rfl (by decide) rfl rfl (Nat.le_of_ble_eq_true rfl) dX7_init_59 ?_
  refine q_aload_n X dX7_init_62 0 rfl ?_
  refine q_iconst (v := 2) X dX7_init_63 (by decide) ?_
  refine q_callVp X (c_X7_lowN ⟨_, b, c, _, _, _, m_21, m_22, m_23⟩ 2 (by decide) (by decide)) Y_X7_low tw_76 tw_77 tw_78 m_21 rfl (by decide) rfl rfl (Nat.le_of_ble_eq_true rfl) dX7_init_64 ?_
  refine q_isub X dX7_init_67 ?_
  refine q_iconst (v := 1) X dX7_init_68 (by decide) ?_
  refine q_iadd X dX7_init_69 ?_
  refine q_iastN X 2 m_24 (by decide) (by decide) (by decide) dX7_init_70 ?_
  have m_25 : (mU (mU (mU (mU (mU (mU (mU M a (oB 7 [.int n, .null, .null, .null, .null, .int 0])) a (oB 7 [.int n, .ref b, .null, .null, .null, .int 0])) a (oB 7 [.int n, .ref b, .ref c, .null, .null, .int 0])) w (aI G 3 (fun _ => 0))) w (aI G 3 (upd (fun _ => 0) 0 (((hi 0) - (lo 0)) + 1)))) w (aI G 3 (upd (upd (fun _ => 0) 0 (((hi 0) - (lo 0)) + 1)) 1 (((hi 1) - (lo 1)) + 1)))) w (aI G 3 (upd (upd (upd (fun _ => 0) 0 (((hi 0) - (lo 0)) + 1)) 1 (((hi 1) - (lo 1)) + 1)) 2 (((hi 2) - (lo 2)) + 1)))) a = some (oB 7 [.int n, .ref b, .ref c, .null, .null, .int 0]) := (mU_n (n_10)).trans m_21
  have m_26 : (mU (mU (mU (mU (mU (mU (mU M a (oB 7 [.int n, .null, .null, .null, .null, .int 0])) a (oB 7 [.int n, .ref b, .null, .null, .null, .int 0])) a (oB 7 [.int n, .ref b, .ref c, .null, .null, .int 0])) w (aI G 3 (fun _ => 0))) w (aI G 3 (upd (fun _ => 0) 0 (((hi 0) - (lo 0)) + 1)))) w (aI G 3 (upd (upd (fun _ => 0) 0 (((hi 0) - (lo 0)) + 1)) 1 (((hi 1) - (lo 1)) + 1)))) w (aI G 3 (upd (upd (upd (fun _ => 0) 0 (((hi 0) - (lo 0)) + 1)) 1 (((hi 1) - (lo 1)) + 1)) 2 (((hi 2) - (lo 2)) + 1)))) b = some (aI G 3 lo) := (mU_n (n_12)).trans m_22
  have m_27 : (mU (mU (mU (mU (mU (mU (mU M a (oB 7 [.int n, .null, .null, .null, .null, .int 0])) a (oB 7 [.int n, .ref b, .null, .null, .null, .int 0])) a (oB 7 [.int n, .ref b, .ref c, .null, .null, .int 0])) w (aI G 3 (fun _ => 0))) w (aI G 3 (upd (fun _ => 0) 0 (((hi 0) - (lo 0)) + 1)))) w (aI G 3 (upd (upd (fun _ => 0) 0 (((hi 0) - (lo 0)) + 1)) 1 (((hi 1) - (lo 1)) + 1)))) w (aI G 3 (upd (upd (upd (fun _ => 0) 0 (((hi 0) - (lo 0)) + 1)) 1 (((hi 1) - (lo 1)) + 1)) 2 (((hi 2) - (lo 2)) + 1)))) c = some (aI G 3 hi) := (mU_n (n_14)).trans m_23
  have m_28 : (mU (mU (mU (mU (mU (mU (mU M a (oB 7 [.int n, .null, .null, .null, .null, .int 0])) a (oB 7 [.int n, .ref b, .null, .null, .null, .int 0])) a (oB 7 [.int n, .ref b, .ref c, .null, .null, .int 0])) w (aI G 3 (fun _ => 0))) w (aI G 3 (upd (fun _ => 0) 0 (((hi 0) - (lo 0)) + 1)))) w (aI G 3 (upd (upd (fun _ => 0) 0 (((hi 0) - (lo 0)) + 1)) 1 (((hi 1) - (lo 1)) + 1)))) w (aI G 3 (upd (upd (upd (fun _ => 0) 0 (((hi 0) - (lo 0)) + 1)) 1 (((hi 1) - (lo 1)) + 1)) 2 (((hi 2) - (lo 2)) + 1)))) w = some (aI G 3 (upd (upd (upd (fun _ => 0) 0 (((hi 0) - (lo 0)) + 1)) 1 (((hi 1) - (lo 1)) + 1)) 2 (((hi 2) - (lo 2)) + 1))) := mU_s
  refine q_putF X hn m_25 rfl in_RX7 tyX7 tyX7_ok nmX7 3 (by decide) tw_91 rfl rfl rfl rfl rfl rfl (Nat.le_of_ble_eq_true rfl) (fs1 := [.int n, .ref b, .ref c, .ref w, .null, .int 0]) rfl dX7_init_71 ?_
  have m_29 : (mU (mU (mU (mU (mU (mU (mU (mU M a (oB 7 [.int n, .null, .null, .null, .null, .int 0])) a (oB 7 [.int n, .ref b, .null, .null, .null, .int 0])) a (oB 7 [.int n, .ref b, .ref c, .null, .null, .int 0])) w (aI G 3 (fun _ => 0))) w (aI G 3 (upd (fun _ => 0) 0 (((hi 0) - (lo 0)) + 1)))) w (aI G 3 (upd (upd (fun _ => 0) 0 (((hi 0) - (lo 0)) + 1)) 1 (((hi 1) - (lo 1)) + 1)))) w (aI G 3 (upd (upd (upd (fun _ => 0) 0 (((hi 0) - (lo 0)) + 1)) 1 (((hi 1) - (lo 1)) + 1)) 2 (((hi 2) - (lo 2)) + 1)))) a (oB 7 [.int n, .ref b, .ref c, .ref w, .null, .int 0])) a = some (oB 7 [.int n, .ref b, .ref c, .ref w, .null, .int 0]) := mU_s
  have m_30 : (mU (mU (mU (mU (mU (mU (mU (mU M a (oB 7 [.int n, .null, .null, .null, .null, .int 0])) a (oB 7 [.int n, .ref b, .null, .null, .null, .int 0])) a (oB 7 [.int n, .ref b, .ref c, .null, .null, .int 0])) w (aI G 3 (fun _ => 0))) w (aI G 3 (upd (fun _ => 0) 0 (((hi 0) - (lo 0)) + 1)))) w (aI G 3 (upd (upd (fun _ => 0) 0 (((hi 0) - (lo 0)) + 1)) 1 (((hi 1) - (lo 1)) + 1)))) w (aI G 3 (upd (upd (upd (fun _ => 0) 0 (((hi 0) - (lo 0)) + 1)) 1 (((hi 1) - (lo 1)) + 1)) 2 (((hi 2) - (lo 2)) + 1)))) a (oB 7 [.int n, .ref b, .ref c, .ref w, .null, .int 0])) b = some (aI G 3 lo) := (mU_n (Ne.symm (g_neoa h1 h2))).trans m_26
  have m_31 : (mU (mU (mU (mU (mU (mU (mU (mU M a (oB 7 [.int n, .null, .null, .null, .null, .int 0])) a (oB 7 [.int n, .ref b, .null, .null, .null, .int 0])) a (oB 7 [.int n, .ref b, .ref c, .null, .null, .int 0])) w (aI G 3 (fun _ => 0))) w (aI G 3 (upd (fun _ => 0) 0 (((hi 0) - (lo 0)) + 1)))) w (aI G 3 (upd (upd (fun _ => 0) 0 (((hi 0) - (lo 0)) + 1)) 1 (((hi 1) - (lo 1)) + 1)))) w (aI G 3 (upd (upd (upd (fun _ => 0) 0 (((hi 0) - (lo 0)) + 1)) 1 (((hi 1) - (lo 1)) + 1)) 2 (((hi 2) - (lo 2)) + 1)))) a (oB 7 [.int n, .ref b, .ref c, .ref w, .null, .int 0])) c = some (aI G 3 hi) := (mU_n (Ne.symm (g_neoa h1 h3))).trans m_27
  have m_32 : (mU (mU (mU (mU (mU (mU (mU (mU M a (oB 7 [.int n, .null, .null, .null, .null, .int 0])) a (oB 7 [.int n, .ref b, .null, .null, .null, .int 0])) a (oB 7 [.int n, .ref b, .ref c, .null, .null, .int 0])) w (aI G 3 (fun _ => 0))) w (aI G 3 (upd (fun _ => 0) 0 (((hi 0) - (lo 0)) + 1)))) w (aI G 3 (upd (upd (fun _ => 0) 0 (((hi 0) - (lo 0)) + 1)) 1 (((hi 1) - (lo 1)) + 1)))) w (aI G 3 (upd (upd (upd (fun _ => 0) 0 (((hi 0) - (lo 0)) + 1)) 1 (((hi 1) - (lo 1)) + 1)) 2 (((hi 2) - (lo 2)) + 1)))) a (oB 7 [.int n, .ref b, .ref c, .ref w, .null, .int 0])) w = some (aI G 3 (upd (upd (upd (fun _ => 0) 0 (((hi 0) - (lo 0)) + 1)) 1 (((hi 1) - (lo 1)) + 1)) 2 (((hi 2) - (lo 2)) + 1))) := (mU_n (Ne.symm n_10)).trans m_28
  refine q_aload_n X dX7_init_74 0 rfl ?_
  refine q_iconst (v := 3) X dX7_init_75 (by decide) ?_
  refine q_newI X tw_107 3 (by decide) (by decide) (rc' := 0) (rs' := 0) (by decide) (by decide) dX7_init_76 (fun d fd => ?_)
  have n_33 : a ≠ d := g_nef m_29 fd
  have m_34 : (mU (mU (mU (mU (mU (mU (mU (mU (mU M a (oB 7 [.int n, .null, .null, .null, .null, .int 0])) a (oB 7 [.int n, .ref b, .null, .null, .null, .int 0])) a (oB 7 [.int n, .ref b, .ref c, .null, .null, .int 0])) w (aI G 3 (fun _ => 0))) w (aI G 3 (upd (fun _ => 0) 0 (((hi 0) - (lo 0)) + 1)))) w (aI G 3 (upd (upd (fun _ => 0) 0 (((hi 0) - (lo 0)) + 1)) 1 (((hi 1) - (lo 1)) + 1)))) w (aI G 3 (upd (upd (upd (fun _ => 0) 0 (((hi 0) - (lo 0)) + 1)) 1 (((hi 1) - (lo 1)) + 1)) 2 (((hi 2) - (lo 2)) + 1)))) a (oB 7 [.int n, .ref b, .ref c, .ref w, .null, .int 0])) d (aI G 3 (fun _ => 0))) a = some (oB 7 [.int n, .ref b, .ref c, .ref w, .null, .int 0]) := (mU_n n_33).trans m_29
  have n_35 : b ≠ d := g_nef m_30 fd
  have m_36 : (mU (mU (mU (mU (mU (mU (mU (mU (mU M a (oB 7 [.int n, .null, .null, .null, .null, .int 0])) a (oB 7 [.int n, .ref b, .null, .null, .null, .int 0])) a (oB 7 [.int n, .ref b, .ref c, .null, .null, .int 0])) w (aI G 3 (fun _ => 0))) w (aI G 3 (upd (fun _ => 0) 0 (((hi 0) - (lo 0)) + 1)))) w (aI G 3 (upd (upd (fun _ => 0) 0 (((hi 0) - (lo 0)) + 1)) 1 (((hi 1) - (lo 1)) + 1)))) w (aI G 3 (upd (upd (upd (fun _ => 0) 0 (((hi 0) - (lo 0)) + 1)) 1 (((hi 1) - (lo 1)) + 1)) 2 (((hi 2) - (lo 2)) + 1)))) a (oB 7 [.int n, .ref b, .ref c, .ref w, .null, .int 0])) d (aI G 3 (fun _ => 0))) b = some (aI G 3 lo) := (mU_n n_35).trans m_30
  have n_37 : c ≠ d := g_nef m_31 fd
  have m_38 : (mU (mU (mU (mU (mU (mU (mU (mU (mU M a (oB 7 [.int n, .null, .null, .null, .null, .int 0])) a (oB 7 [.int n, .ref b, .null, .null, .null, .int 0])) a (oB 7 [.int n, .ref b, .ref c, .null, .null, .int 0])) w (aI G 3 (fun _ => 0))) w (aI G 3 (upd (fun _ => 0) 0 (((hi 0) - (lo 0)) + 1)))) w (aI G 3 (upd (upd (fun _ => 0) 0 (((hi 0) - (lo 0)) + 1)) 1 (((hi 1) - (lo 1)) + 1)))) w (aI G 3 (upd (upd (upd (fun _ => 0) 0 (((hi 0) - (lo 0)) + 1)) 1 (((hi 1) - (lo 1)) + 1)) 2 (((hi 2) - (lo 2)) + 1)))) a (oB 7 [.int n, .ref b, .ref c, .ref w, .null, .int 0])) d (aI G 3 (fun _ => 0))) c = some (aI G 3 hi) := (mU_n n_37).trans m_31
  have n_39 : w ≠ d := g_nef m_32 fd
  have m_40 : (mU (mU (mU (mU (mU (mU (mU (mU (mU M a (oB 7 [.int n, .null, .null, .null, .null, .int 0])) a (oB 7 [.int n, .ref b, .null, .null, .null, .int 0])) a (oB 7 [.int n, .ref b, .ref c, .null, .null, .int 0])) w (aI G 3 (fun _ => 0))) w (aI G 3 (upd (fun _ => 0) 0 (((hi 0) - (lo 0)) + 1)))) w (aI G 3 (upd (upd (fun _ => 0) 0 (((hi 0) - (lo 0)) + 1)) 1 (((hi 1) - (lo 1)) + 1)))) w (aI G 3 (upd (upd (upd (fun _ => 0) 0 (((hi 0) - (lo 0)) + 1)) 1 (((hi 1) - (lo 1)) + 1)) 2 (((hi 2) - (lo 2)) + 1)))) a (oB 7 [.int n, .ref b, .ref c, .ref w, .null, .int 0])) d (aI G 3 (fun _ => 0))) w = some (aI G 3 (upd (upd (upd (fun _ => 0) 0 (((hi 0) - (lo 0)) + 1)) 1 (((hi 1) - (lo 1)) + 1)) 2 (((hi 2) - (lo 2)) + 1))) := (mU_n n_39).trans m_32
  have m_41 : (mU (mU (mU (mU (mU (mU (mU (mU (mU M a (oB 7 [.int n, .null, .null, .null, .null, .int 0])) a (oB 7 [.int n, .ref b, .null, .null, .null, .int 0])) a (oB 7 [.int n, .ref b, .ref c, .null, .null, .int 0])) w (aI G 3 (fun _ => 0))) w (aI G 3 (upd (fun _ => 0) 0 (((hi 0) - (lo 0)) + 1)))) w (aI G 3 (upd (upd (fun _ => 0) 0 (((hi 0) - (lo 0)) + 1)) 1 (((hi 1) - (lo 1)) + 1)))) w (aI G 3 (upd (upd (upd (fun _ => 0) 0 (((hi 0) - (lo 0)) + 1)) 1 (((hi 1) - (lo 1)) + 1)) 2 (((hi 2) - (lo 2)) + 1)))) a (oB 7 [.int n, .ref b, .ref c, .ref w, .null, .int 0])) d (aI G 3 (fun _ => 0))) d = some (aI G 3 (fun _ => 0)) := mU_s
  refine q_dup X dX7_init_78 rfl ?_
  refine q_iconst (v := 0) X dX7_init_79 (by decide) ?_
  refine q_aload_n X dX7_init_80 0 rfl ?_
  refine q_iconst (v := 1) X dX7_init_81 (by decide) ?_
  refine q_callVp X (c_X7_lengthN (x := sL lo hi 1) ⟨_, w, _, _, _, _, m_34, m_40⟩ 1 (by decide) (by decide) rfl) Y_X7_length tw_80 tw_81 tw_82 m_34 rfl (by decide) rfl rfl (Nat.le_of_ble_eq_true rfl) dX7_init_82 ?_
  refine q_aload_n X dX7_init_85 0 rfl ?_
  refine q_iconst (v := 2) X dX7_init_86 (by decide) ?_
  refine q_callVp X (c_X7_lengthN (x := sL lo hi 2) ⟨_, w, _, _, _, _, m_34, m_40⟩ 2 (by decide) (by decide) rfl) Y_X7_length tw_80 tw_81 tw_82 m_34 rfl (by decide) rfl rfl (Nat.le_of_ble_eq_true rfl) dX7_init_87 ?_
  refine q_imul X dX7_init_90 ?_
  refine q_iastN X 0 m_41 (by decide) (by decide) (by decide) dX7_init_91 ?_
  have m_42 : (mU (mU (mU (mU (mU (mU (mU (mU (mU (mU M a (oB 7 [.int n, .null, .null, .null, .null, .int 0])) a (oB 7 [.int n, .ref b, .null, .null, .null, .int 0])) a (oB 7 [.int n, .ref b, .ref c, .null, .null, .int 0])) w (aI G 3 (fun _ => 0))) w (aI G 3 (upd (fun _ => 0) 0 (((hi 0) - (lo 0)) + 1)))) w (aI G 3 (upd (upd (fun _ => 0) 0 (((hi 0) - (lo 0)) + 1)) 1 (((hi 1) - (lo 1)) + 1)))) w (aI G 3 (upd (upd (upd (fun _ => 0) 0 (((hi 0) - (lo 0)) + 1)) 1 (((hi 1) - (lo 1)) + 1)) 2 (((hi 2) - (lo 2)) + 1)))) a (oB 7 [.int n, .ref b, .ref c, .ref w, .null, .int 0])) d (aI G 3 (fun _ => 0))) d (aI G 3 (upd (fun _ => 0) 0 ((sL lo hi 1) * (sL lo hi 2))))) a = some (oB 7 [.int n, .ref b, .ref c, .ref w, .null, .int 0]) := (mU_n (n_33)).trans m_34
  have m_43 : (mU (mU (mU (mU (mU (mU (mU (mU (mU (mU M a (oB 7 [.int n, .null, .null, .null, .null, .int 0])) a (oB 7 [.int n, .ref b, .null, .null, .null, .int 0])) a (oB 7 [.int n, .ref b, .ref c, .null, .null, .int 0])) w (aI G 3 (fun _ => 0))) w (aI G 3 (upd (fun _ => 0) 0 (((hi 0) - (lo 0)) + 1)))) w (aI G 3 (upd (upd (fun _ => 0) 0 (((hi 0) - (lo 0)) + 1)) 1 (((hi 1) - (lo 1)) + 1)))) w (aI G 3 (upd (upd (upd (fun _ => 0) 0 (((hi 0) - (lo 0)) + 1)) 1 (((hi 1) - (lo 1)) + 1)) 2 (((hi 2) - (lo 2)) + 1)))) a (oB 7 [.int n, .ref b, .ref c, .ref w, .null, .int 0])) d (aI G 3 (fun _ => 0))) d (aI G 3 (upd (fun _ => 0) 0 ((sL lo hi 1) * (sL lo hi 2))))) b = some (aI G 3 lo) := (mU_n (n_35)).trans m_36
  have m_44 : (mU (mU (mU (mU (mU (mU (mU (mU (mU (mU M a (oB 7 [.int n, .null, .null, .null, .null, .int 0])) a (oB 7 [.int n, .ref b, .null, .null, .null, .int 0])) a (oB 7 [.int n, .ref b, .ref c, .null, .null, .int 0])) w (aI G 3 (fun _ => 0))) w (aI G 3 (upd (fun _ => 0) 0 (((hi 0) - (lo 0)) + 1)))) w (aI G 3 (upd (upd (fun _ => 0) 0 (((hi 0) - (lo 0)) + 1)) 1 (((hi 1) - (lo 1)) + 1)))) w (aI G 3 (upd (upd (upd (fun _ => 0) 0 (((hi 0) - (lo 0)) + 1)) 1 (((hi 1) - (lo 1)) + 1)) 2 (((hi 2) - (lo 2)) + 1)))) a (oB 7 [.int n, .ref b, .ref c, .ref w, .null, .int 0])) d (aI G 3 (fun _ => 0))) d (aI G 3 (upd (fun _ => 0) 0 ((sL lo hi 1) * (sL lo hi 2))))) c = some (aI G 3 hi) := (mU_n (n_37)).trans m_38
  have m_45 : (mU (mU (mU (mU (mU (mU (mU (mU (mU (mU M a (oB 7 [.int n, .null, .null, .null, .null, .int 0])) a (oB 7 [.int n, .ref b, .null, .null, .null, .int 0])) a (oB 7 [.int n, .ref b, .ref c, .null, .null, .int 0])) w (aI G 3 (fun _ => 0))) w (aI G 3 (upd (fun _ => 0) 0 (((hi 0) - (lo 0)) + 1)))) w (aI G 3 (upd (upd (fun _ => 0) 0 (((hi 0) - (lo 0)) + 1)) 1 (((hi 1) - (lo 1)) + 1)))) w (aI G 3 (upd (upd (upd (fun _ => 0) 0 (((hi 0) - (lo 0)) + 1)) 1 (((hi 1) - (lo 1)) + 1)) 2 (((hi 2) - (lo 2)) + 1)))) a (oB 7 [.int n, .ref b, .ref c, .ref w, .null, .int 0])) d (aI G 3 (fun _ => 0))) d (aI G 3 (upd (fun _ => 0) 0 ((sL lo hi 1) * (sL lo hi 2))))) w = some (aI G 3 (upd (upd (upd (fun _ => 0) 0 (((hi 0) - (lo 0)) + 1)) 1 (((hi 1) - (lo 1)) + 1)) 2 (((hi 2) - (lo 2)) + 1))) := (mU_n (n_39)).trans m_40
  have m_46 : (mU (mU (mU (mU (mU (mU (mU (mU (mU (mU M a (oB 7 [.int n, .null, .null, .null, .null, .int 0])) a (oB 7 [.int n, .ref b, .null, .null, .null, .int 0])) a (oB 7 [.int n, .ref b, .ref c, .null, .null, .int 0])) w (aI G 3 (fun _ => 0))) w (aI G 3 (upd (fun _ => 0) 0 (((hi 0) - (lo 0)) + 1)))) w (aI G 3 (upd (upd (fun _ => 0) 0 (((hi 0) - (lo 0)) + 1)) 1 (((hi 1) - (lo 1)) + 1)))) w (aI G 3 (upd (upd (upd (fun _ => 0) 0 (((hi 0) - (lo 0)) + 1)) 1 (((hi 1) - (lo 1)) + 1)) 2 (((hi 2) - (lo 2)) + 1)))) a (oB 7 [.int n, .ref b, .ref c, .ref w, .null, .int 0])) d (aI G 3 (fun _ => 0))) d (aI G 3 (upd (fun _ => 0) 0 ((sL lo hi 1) * (sL lo hi 2))))) d = some (aI G 3 (upd (fun _ => 0) 0 ((sL lo hi 1) * (sL lo hi 2)))) := mU_s
  refine q_dup X dX7_init_92 rfl ?_
  refine q_iconst (v := 1) X dX7_init_93 (by decide) ?_
  refine q_aload_n X dX7_init_94 0 rfl ?_
  refine q_iconst (v := 2) X dX7_init_95 (by decide) ?_
  refine q_callVp X (c_X7_lengthN (x := sL lo hi 2) ⟨_, w, _, _, _, _, m_42, m_45⟩ 2 (by decide) (by decide) rfl) Y_X7_length tw_80 tw_81 tw_82 m_42 rfl (by decide) rfl rfl (Nat.le_of_ble_eq_true rfl) dX7_init_96 ?_
  refine q_iastN X 1 m_46 (by decide) (by decide) (by decide) dX7_init_99 ?_
  have m_47 : (mU (mU (mU (mU (mU (mU (mU (mU (mU (mU (mU M a (oB 7 [.int n, .null, .null, .null, .null, .int 0])) a (oB 7 [.int n, .ref b, .null, .null, .null, .int 0])) a (oB 7 [.int n, .ref b, .ref c, .null, .null, .int 0])) w (aI G 3 (fun _ => 0))) w (aI G 3 (upd (fun _ => 0) 0 (((hi 0) - (lo 0)) + 1)))) w (aI G 3 (upd (upd (fun _ => 0) 0 (((hi 0) - (lo 0)) + 1)) 1 (((hi 1) - (lo 1)) + 1)))) w (aI G 3 (upd (upd (upd (fun _ => 0) 0 (((hi 0) - (lo 0)) + 1)) 1 (((hi 1) - (lo 1)) + 1)) 2 (((hi 2) - (lo 2)) + 1)))) a (oB 7 [.int n, .ref b, .ref c, .ref w, .null, .int 0])) d (aI G 3 (fun _ => 0))) d (aI G 3 (upd (fun _ => 0) 0 ((sL lo hi 1) * (sL lo hi 2))))) d (aI G 3 (upd (upd (fun _ => 0) 0 ((sL lo hi 1) * (sL lo hi 2))) 1 (sL lo hi 2)))) a = some (oB 7 [.int n, .ref b, .ref c, .ref w, .null, .int 0]) := (mU_n (n_33)).trans m_42
  have m_48 : (mU (mU (mU (mU (mU (mU (mU (mU (mU (mU (mU M a (oB 7 [.int n, .null, .null, .null, .null, .int 0])) a (oB 7 [.int n, .ref b, .null, .null, .null, .int 0])) a (oB 7 [.int n, .ref b, .ref c, .null, .null, .int 0])) w (aI G 3 (fun _ => 0))) w (aI G 3 (upd (fun _ => 0) 0 (((hi 0) - (lo 0)) + 1)))) w (aI G 3 (upd (upd (fun _ => 0) 0 (((hi 0) - (lo 0)) + 1)) 1 (((hi 1) - (lo 1)) + 1)))) w (aI G 3 (upd (upd (upd (fun _ => 0) 0 (((hi 0) - (lo 0)) + 1)) 1 (((hi 1) - (lo 1)) + 1)) 2 (((hi 2) - (lo 2)) + 1)))) a (oB 7 [.int n, .ref b, .ref c, .ref w, .null, .int 0])) d (aI G 3 (fun _ => 0))) d (aI G 3 (upd (fun _ => 0) 0 ((sL lo hi 1) * (sL lo hi 2))))) d (aI G 3 (upd (upd (fun _ => 0) 0 ((sL lo hi 1) * (sL lo hi 2))) 1 (sL lo hi 2)))) b = some (aI G 3 lo) := (mU_n (n_35)).trans m_43
  have m_49 : (mU (mU (mU (mU (mU (mU (mU (mU (mU (mU (mU M a (oB 7 [.int n, .null, .null, .null, .null, .int 0])) a (oB 7 [.int n, .ref b, .null, .null, .null, .int 0])) a (oB 7 [.int n, .ref b, .ref c, .null, .null, .int 0])) w (aI G 3 (fun _ => 0))) w (aI G 3 (upd (fun _ => 0) 0 (((hi 0) - (lo 0)) + 1)))) w (aI G 3 (upd (upd (fun _ => 0) 0 (((hi 0) - (lo 0)) + 1)) 1 (((hi 1) - (lo 1)) + 1)))) w (aI G 3 (upd (upd (upd (fun _ => 0) 0 (((hi 0) - (lo 0)) + 1)) 1 (((hi 1) - (lo 1)) + 1)) 2 (((hi 2) - (lo 2)) + 1)))) a (oB 7 [.int n, .ref b, .ref c, .ref w, .null, .int 0])) d (aI G 3 (fun _ => 0))) d (aI G 3 (upd (fun _ => 0) 0 ((sL lo hi 1) * (sL lo hi 2))))) d (aI G 3 (upd (upd (fun _ => 0) 0 ((sL lo hi 1) * (sL lo hi 2))) 1 (sL lo hi 2)))) c = some (aI G 3 hi) := (mU_n (n_37)).trans m_44
  have m_50 : (mU (mU (mU (mU (mU (mU (mU (mU (mU (mU (mU M a (oB 7 [.int n, .null, .null, .null, .null, .int 0])) a (oB 7 [.int n, .ref b, .null, .null, .null, .int 0])) a (oB 7 [.int n, .ref b, .ref c, .null, .null, .int 0])) w (aI G 3 (fun _ => 0))) w (aI G 3 (upd (fun _ => 0) 0 (((hi 0) - (lo 0)) + 1)))) w (aI G 3 (upd (upd (fun _ => 0) 0 (((hi 0) - (lo 0)) + 1)) 1 (((hi 1) - (lo 1)) + 1)))) w (aI G 3 (upd (upd (upd (fun _ => 0) 0 (((hi 0) - (lo 0)) + 1)) 1 (((hi 1) - (lo 1)) + 1)) 2 (((hi 2) - (lo 2)) + 1)))) a (oB 7 [.int n, .ref b, .ref c, .ref w, .null, .int 0])) d (aI G 3 (fun _ => 0))) d (aI G 3 (upd (fun _ => 0) 0 ((sL lo hi 1) * (sL lo hi 2))))) d (aI G 3 (upd (upd (fun _ => 0) 0 ((sL lo hi 1) * (sL lo hi 2))) 1 (sL lo hi 2)))) w = some (aI G 3 (upd (upd (upd (fun _ => 0) 0 (((hi 0) - (lo 0)) + 1)) 1 (((hi 1) - (lo 1)) + 1)) 2 (((hi 2) - (lo 2)) + 1))) := (mU_n (n_39)).trans m_45
  have m_51 : (mU (mU (mU (mU (mU (mU (mU (mU (mU (mU (mU M a (oB 7 [.int n, .null, .null, .null, .null, .int 0])) a (oB 7 [.int n, .ref b, .null, .null, .null, .int 0])) a (oB 7 [.int n, .ref b, .ref c, .null, .null, .int 0])) w (aI G 3 (fun _ => 0))) w (aI G 3 (upd (fun _ => 0) 0 (((hi 0) - (lo 0)) + 1)))) w (aI G 3 (upd (upd (fun _ => 0) 0 (((hi 0) - (lo 0)) + 1)) 1 (((hi 1) - (lo 1)) + 1)))) w (aI G 3 (upd (upd (upd (fun _ => 0) 0 (((hi 0) - (lo 0)) + 1)) 1 (((hi 1) - (lo 1)) + 1)) 2 (((hi 2) - (lo 2)) + 1)))) a (oB 7 [.int n, .ref b, .ref c, .ref w, .null, .int 0])) d (aI G 3 (fun _ => 0))) d (aI G 3 (upd (fun _ => 0) 0 ((sL lo hi 1) * (sL lo hi 2))))) d (aI G 3 (upd (upd (fun _ => 0) 0 ((sL lo hi 1) * (sL lo hi 2))) 1 (sL lo hi 2)))) d = some (aI G 3 (upd (upd (fun _ => 0) 0 ((sL lo hi 1) * (sL lo hi 2))) 1 (sL lo hi 2))) := mU_s
  refine q_dup X dX7_init_100 rfl ?_
  refine q_iconst (v := 2) X dX7_init_101 (by decide) ?_
  refine q_iconst (v := 1) X dX7_init_102 (by decide) ?_
  refine q_iastN X 2 m_51 (by decide) (by decide) (by decide) dX7_init_103 ?_
  have m_52 : (mU (mU (mU (mU (mU (mU (mU (mU (mU (mU (mU (mU M a (oB 7 [.int n, .null, .null, .null, .null, .int 0])) a (oB 7 [.int n, .ref b, .null, .null, .null, .int 0])) a (oB 7 [.int n, .ref b, .ref c, .null, .null, .int 0])) w (aI G 3 (fun _ => 0))) w (aI G 3 (upd (fun _ => 0) 0 (((hi 0) - (lo 0)) + 1)))) w (aI G 3 (upd (upd (fun _ => 0) 0 (((hi 0) - (lo 0)) + 1)) 1 (((hi 1) - (lo 1)) + 1)))) w (aI G 3 (upd (upd (upd (fun _ => 0) 0 (((hi 0) - (lo 0)) + 1)) 1 (((hi 1) - (lo 1)) + 1)) 2 (((hi 2) - (lo 2)) + 1)))) a (oB 7 [.int n, .ref b, .ref c, .ref w, .null, .int 0])) d (aI G 3 (fun _ => 0))) d (aI G 3 (upd (fun _ => 0) 0 ((sL lo hi 1) * (sL lo hi 2))))) d (aI G 3 (upd (upd (fun _ => 0) 0 ((sL lo hi 1) * (sL lo hi 2))) 1 (sL lo hi 2)))) d (aI G 3 (upd (upd (upd (fun _ => 0) 0 ((sL lo hi 1) * (sL lo hi 2))) 1 (sL lo hi 2)) 2 1))) a = some (oB 7 [.int n, .ref b, .ref c, .ref w, .null, .int 0]) := (mU_n (n_33)).trans m_47
  have m_53 : (mU (mU (mU (mU (mU (mU (mU (mU (mU (mU (mU (mU M a (oB 7 [.int n, .null, .null, .null, .null, .int 0])) a (oB 7 [.int n, .ref b, .null, .null, .null, .int 0])) a (oB 7 [.int n, .ref b, .ref c, .null, .null, .int 0])) w (aI G 3 (fun _ => 0))) w (aI G 3 (upd (fun _ => 0) 0 (((hi 0) - (lo 0)) + 1)))) w (aI G 3 (upd (upd (fun _ => 0) 0 (((hi 0) - (lo 0)) + 1)) 1 (((hi 1) - (lo 1)) + 1)))) w (aI G 3 (upd (upd (upd (fun _ => 0) 0 (((hi 0) - (lo 0)) + 1)) 1 (((hi 1) - (lo 1)) + 1)) 2 (((hi 2) - (lo 2)) + 1)))) a (oB 7 [.int n, .ref b, .ref c, .ref w, .null, .int 0])) d (aI G 3 (fun _ => 0))) d (aI G 3 (upd (fun _ => 0) 0 ((sL lo hi 1) * (sL lo hi 2))))) d (aI G 3 (upd (upd (fun _ => 0) 0 ((sL lo hi 1) * (sL lo hi 2))) 1 (sL lo hi 2)))) d (aI G 3 (upd (upd (upd (fun _ => 0) 0 ((sL lo hi 1) * (sL lo hi 2))) 1 (sL lo hi 2)) 2 1))) b = some (aI G 3 lo) := (mU_n (n_35)).trans m_48
  have m_54 : (mU (mU (mU (mU (mU (mU (mU (mU (mU (mU (mU (mU M a (oB 7 [.int n, .null, .null, .null, .null, .int 0])) a (oB 7 [.int n, .ref b, .null, .null, .null, .int 0])) a (oB 7 [.int n, .ref b, .ref c, .null, .null, .int 0])) w (aI G 3 (fun _ => 0))) w (aI G 3 (upd (fun _ => 0) 0 (((hi 0) - (lo 0)) + 1)))) w (aI G 3 (upd (upd (fun _ => 0) 0 (((hi 0) - (lo 0)) + 1)) 1 (((hi 1) - (lo 1)) + 1)))) w (aI G 3 (upd (upd (upd (fun _ => 0) 0 (((hi 0) - (lo 0)) + 1)) 1 (((hi 1) - (lo 1)) + 1)) 2 (((hi 2) - (lo 2)) + 1)))) a (oB 7 [.int n, .ref b, .ref c, .ref w, .null, .int 0])) d (aI G 3 (fun _ => 0))) d (aI G 3 (upd (fun _ => 0) 0 ((sL lo hi 1) * (sL lo hi 2))))) d (aI G 3 (upd (upd (fun _ => 0) 0 ((sL lo hi 1) * (sL lo hi 2))) 1 (sL lo hi 2)))) d (aI G 3 (upd (upd (upd (fun _ => 0) 0 ((sL lo hi 1) * (sL lo hi 2))) 1 (sL lo hi 2)) 2 1))) c = some (aI G 3 hi) := (mU_n (n_37)).trans m_49
  have m_55 : (mU (mU (mU (mU (mU (mU (mU (mU (mU (mU (mU (mU M a (oB 7 [.int n, .null, .null, .null, .null, .int 0])) a (oB 7 [.int n, .ref b, .null, .null, .null, .int 0])) a (oB 7 [.int n, .ref b, .ref c, .null, .null, .int 0])) w (aI G 3 (fun _ => 0))) w (aI G 3 (upd (fun _ => 0) 0 (((hi 0) - (lo 0)) + 1)))) w (aI G 3 (upd (upd (fun _ => 0) 0 (((hi 0) - (lo 0)) + 1)) 1 (((hi 1) - (lo 1)) + 1)))) w (aI G 3 (upd (upd (upd (fun _ => 0) 0 (((hi 0) - (lo 0)) + 1)) 1 (((hi 1) - (lo 1)) + 1)) 2 (((hi 2) - (lo 2)) + 1)))) a (oB 7 [.int n, .ref b, .ref c, .ref w, .null, .int 0])) d (aI G 3 (fun _ => 0))) d (aI G 3 (upd (fun _ => 0) 0 ((sL lo hi 1) * (sL lo hi 2))))) d (aI G 3 (upd (upd (fun _ => 0) 0 ((sL lo hi 1) * (sL lo hi 2))) 1 (sL lo hi 2)))) d (aI G 3 (upd (upd (upd (fun _ => 0) 0 ((sL lo hi 1) * (sL lo hi 2))) 1 (sL lo hi 2)) 2 1))) w = some (aI G 3 (upd (upd (upd (fun _ => 0) 0 (((hi 0) - (lo 0)) + 1)) 1 (((hi 1) - (lo 1)) + 1)) 2 (((hi 2) - (lo 2)) + 1))) := (mU_n (n_39)).trans m_50
  have m_56 : (mU (mU (mU (mU (mU (mU (mU (mU (mU (mU (mU (mU M a (oB 7 [.int n, .null, .null, .null, .null, .int 0])) a (oB 7 [.int n, .ref b, .null, .null, .null, .int 0])) a (oB 7 [.int n, .ref b, .ref c, .null, .null, .int 0])) w (aI G 3 (fun _ => 0))) w (aI G 3 (upd (fun _ => 0) 0 (((hi 0) - (lo 0)) + 1)))) w (aI G 3 (upd (upd (fun _ => 0) 0 (((hi 0) - (lo 0)) + 1)) 1 (((hi 1) - (lo 1)) + 1)))) w (aI G 3 (upd (upd (upd (fun _ => 0) 0 (((hi 0) - (lo 0)) + 1)) 1 (((hi 1) - (lo 1)) + 1)) 2 (((hi 2) - (lo 2)) + 1)))) a (oB 7 [.int n, .ref b, .ref c, .ref w, .null, .int 0])) d (aI G 3 (fun _ => 0))) d (aI G 3 (upd (fun _ => 0) 0 ((sL lo hi 1) * (sL lo hi 2))))) d (aI G 3 (upd (upd (fun _ => 0) 0 ((sL lo hi 1) * (sL lo hi 2))) 1 (sL lo hi 2)))) d (aI G 3 (upd (upd (upd (fun _ => 0) 0 ((sL lo hi 1) * (sL lo hi 2))) 1 (sL lo hi 2)) 2 1))) d = some (aI G 3 (upd (upd (upd (fun _ => 0) 0 ((sL lo hi 1) * (sL lo hi 2))) 1 (sL lo hi 2)) 2 1)) := mU_s
  refine q_putF X hn m_52 rfl in_RX7 tyX7 tyX7_ok nmX7 4 (by decide) tw_92 rfl rfl rfl rfl rfl rfl (Nat.le_of_ble_eq_true rfl) (fs1 := [.int n, .ref b, .ref c, .ref w, .ref d, .int 0]) rfl dX7_init_104 ?_
  have m_57 : (mU (mU (mU (mU (mU (mU (mU (mU (mU (mU (mU (mU (mU M a (oB 7 [.int n, .null, .null, .null, .null, .int 0])) a (oB 7 [.int n, .ref b, .null, .null, .null, .int 0])) a (oB 7 [.int n, .ref b, .ref c, .null, .null, .int 0])) w (aI G 3 (fun _ => 0))) w (aI G 3 (upd (fun _ => 0) 0 (((hi 0) - (lo 0)) + 1)))) w (aI G 3 (upd (upd (fun _ => 0) 0 (((hi 0) - (lo 0)) + 1)) 1 (((hi 1) - (lo 1)) + 1)))) w (aI G 3 (upd (upd (upd (fun _ => 0) 0 (((hi 0) - (lo 0)) + 1)) 1 (((hi 1) - (lo 1)) + 1)) 2 (((hi 2) - (lo 2)) + 1)))) a (oB 7 [.int n, .ref b, .ref c, .ref w, .null, .int 0])) d (aI G 3 (fun _ => 0))) d (aI G 3 (upd (fun _ => 0) 0 ((sL lo hi 1) * (sL lo hi 2))))) d (aI G 3 (upd (upd (fun _ => 0) 0 ((sL lo hi 1) * (sL lo hi 2))) 1 (sL lo hi 2)))) d (aI G 3 (upd (upd (upd (fun _ => 0) 0 ((sL lo hi 1) * (sL lo hi 2))) 1 (sL lo hi 2)) 2 1))) a (oB 7 [.int n, .ref b, .ref c, .ref w, .ref d, .int 0])) a = some (oB 7 [.int n, .ref b, .ref c, .ref w, .ref d, .int 0]) := mU_s
  have m_58 : (mU (mU (mU (mU (mU (mU (mU (mU (mU (mU (mU (mU (mU M a (oB 7 [.int n, .null, .null, .null, .null, .int 0])) a (oB 7 [.int n, .ref b, .null, .null, .null, .int 0])) a (oB 7 [.int n, .ref b, .ref c, .null, .null, .int 0])) w (aI G 3 (fun _ => 0))) w (aI G 3 (upd (fun _ => 0) 0 (((hi 0) - (lo 0)) + 1)))) w (aI G 3 (upd (upd (fun _ => 0) 0 (((hi 0) - (lo 0)) + 1)) 1 (((hi 1) - (lo 1)) + 1)))) w (aI G 3 (upd (upd (upd (fun _ => 0) 0 (((hi 0) - (lo 0)) + 1)) 1 (((hi 1) - (lo 1)) + 1)) 2 (((hi 2) - (lo 2)) + 1)))) a (oB 7 [.int n, .ref b, .ref c, .ref w, .null, .int 0])) d (aI G 3 (fun _ => 0))) d (aI G 3 (upd (fun _ => 0) 0 ((sL lo hi 1) * (sL lo hi 2))))) d (aI G 3 (upd (upd (fun _ => 0) 0 ((sL lo hi 1) * (sL lo hi 2))) 1 (sL lo hi 2)))) d (aI G 3 (upd (upd (upd (fun _ => 0) 0 ((sL lo hi 1) * (sL lo hi 2))) 1 (sL lo hi 2)) 2 1))) a (oB 7 [.int n, .ref b, .ref c, .ref w, .ref d, .int 0])) b = some (aI G 3 lo) := (mU_n (Ne.symm (g_neoa h1 h2))).trans m_53
  have m_59 : (mU (mU (mU (mU (mU (mU (mU (mU (mU (mU (mU (mU (mU M a (oB 7 [.int n, .null, .null, .null, .null, .int 0])) a (oB 7 [.int n, .ref b, .null, .null, .null, .int 0])) a (oB 7 [.int n, .ref b, .ref c, .null, .null, .int 0])) w (aI G 3 (fun _ => 0))) w (aI G 3 (upd (fun _ => 0) 0 (((hi 0) - (lo 0)) + 1)))) w (aI G 3 (upd (upd (fun _ => 0) 0 (((hi 0) - (lo 0)) + 1)) 1 (((hi 1) - (lo 1)) + 1)))) w (aI G 3 (upd (upd (upd (fun _ => 0) 0 (((hi 0) - (lo 0)) + 1)) 1 (((hi 1) - (lo 1)) + 1)) 2 (((hi 2) - (lo 2)) + 1)))) a (oB 7 [.int n, .ref b, .ref c, .ref w, .null, .int 0])) d (aI G 3 (fun _ => 0))) d (aI G 3 (upd (fun _ => 0) 0 ((sL lo hi 1) * (sL lo hi 2))))) d (aI G 3 (upd (upd (fun _ => 0) 0 ((sL lo hi 1) * (sL lo hi 2))) 1 (sL lo hi 2)))) d (aI G 3 (upd (upd (upd (fun _ => 0) 0 ((sL lo hi 1) * (sL lo hi 2))) 1 (sL lo hi 2)) 2 1))) a (oB 7 [.int n, .ref b, .ref c, .ref w, .ref d, .int 0])) c = some (aI G 3 hi) := (mU_n (Ne.symm (g_neoa h1 h3))).trans m_54
  have m_60 : (mU (mU (mU (mU (mU (mU (mU (mU (mU (mU (mU (mU (mU M a (oB 7 [.int n, .null, .null, .null, .null, .int 0])) a (oB 7 [.int n, .ref b, .null, .null, .null, .int 0])) a (oB 7 [.int n, .ref b, .ref c, .null, .null, .int 0])) w (aI G 3 (fun _ => 0))) w (aI G 3 (upd (fun _ => 0) 0 (((hi 0) - (lo 0)) + 1)))) w (aI G 3 (upd (upd (fun _ => 0) 0 (((hi 0) - (lo 0)) + 1)) 1 (((hi 1) - (lo 1)) + 1)))) w (aI G 3 (upd (upd (upd (fun _ => 0) 0 (((hi 0) - (lo 0)) + 1)) 1 (((hi 1) - (lo 1)) + 1)) 2 (((hi 2) - (lo 2)) + 1)))) a (oB 7 [.int n, .ref b, .ref c, .ref w, .null, .int 0])) d (aI G 3 (fun _ => 0))) d (aI G 3 (upd (fun _ => 0) 0 ((sL lo hi 1) * (sL lo hi 2))))) d (aI G 3 (upd (upd (fun _ => 0) 0 ((sL lo hi 1) * (sL lo hi 2))) 1 (sL lo hi 2)))) d (aI G 3 (upd (upd (upd (fun _ => 0) 0 ((sL lo hi 1) * (sL lo hi 2))) 1 (sL lo hi 2)) 2 1))) a (oB 7 [.int n, .ref b, .ref c, .ref w, .ref d, .int 0])) w = some (aI G 3 (upd (upd (upd (fun _ => 0) 0 (((hi 0) - (lo 0)) + 1)) 1 (((hi 1) - (lo 1)) + 1)) 2 (((hi 2) - (lo 2)) + 1))) := (mU_n (Ne.symm n_10)).trans m_55
  have m_61 : (mU (mU (mU (mU (mU (mU (mU (mU (mU (mU (mU (mU (mU M a (oB 7 [.int n, .null, .null, .null, .null, .int 0])) a (oB 7 [.int n, .ref b, .null, .null, .null, .int 0])) a (oB 7 [.int n, .ref b, .ref c, .null, .null, .int 0])) w (aI G 3 (fun _ => 0))) w (aI G 3 (upd (fun _ => 0) 0 (((hi 0) - (lo 0)) + 1)))) w (aI G 3 (upd (upd (fun _ => 0) 0 (((hi 0) - (lo 0)) + 1)) 1 (((hi 1) - (lo 1)) + 1)))) w (aI G 3 (upd (upd (upd (fun _ => 0) 0 (((hi 0) - (lo 0)) + 1)) 1 (((hi 1) - (lo 1)) + 1)) 2 (((hi 2) - (lo 2)) + 1)))) a (oB 7 [.int n, .ref b, .ref c, .ref w, .null, .int 0])) d (aI G 3 (fun _ => 0))) d (aI G 3 (upd (fun _ => 0) 0 ((sL lo hi 1) * (sL lo hi 2))))) d (aI G 3 (upd (upd (fun _ => 0) 0 ((sL lo hi 1) * (sL lo hi 2))) 1 (sL lo hi 2)))) d (aI G 3 (upd (upd (upd (fun _ => 0) 0 ((sL lo hi 1) * (sL lo hi 2))) 1 (sL lo hi 2)) 2 1))) a (oB 7 [.int n, .ref b, .ref c, .ref w, .ref d, .int 0])) d = some (aI G 3 (upd (upd (upd (fun _ => 0) 0 ((sL lo hi 1) * (sL lo hi 2))) 1 (sL lo hi 2)) 2 1)) := (mU_n (Ne.symm n_33)).trans m_56
  refine q_aload_n X dX7_init_107 0 rfl ?_
  refine q_aload_n X dX7_init_108 0 rfl ?_
  refine q_iconst (v := 0) X dX7_init_109 (by decide) ?_
  refine q_callVp X (c_X7_lengthN (x := sL lo hi 0) ⟨_, w, _, _, _, _, m_57, m_60⟩ 0 (by decide) (by decide) rfl) Y_X7_length tw_80 tw_81 tw_82 m_57 rfl (by decide) rfl rfl (Nat.le_of_ble_eq_true rfl) dX7_init_110 ?_
  refine q_aload_n X dX7_init_113 0 rfl ?_
  refine q_iconst (v := 0) X dX7_init_114 (by decide) ?_
  refine q_callVp X (c_X7_stepN (x := sL lo hi 1 * sL lo hi 2) ⟨_, d, _, _, _, _, m_57, m_61⟩ 0 (by decide) (by decide) rfl) Y_X7_step tw_84 tw_85 tw_86 m_57 rfl (by decide) rfl rfl (Nat.le_of_ble_eq_true rfl) dX7_init_115 ?_
  refine q_imul X dX7_init_118 ?_
  rw [show ((sL lo hi 0) * (sL lo hi 1 * sL lo hi 2) : Int32) = sL lo hi 0 * sL lo hi 1 * sL lo hi 2 from (Int32.mul_assoc _ _ _).symm]
  refine q_putF X hn m_57 rfl in_RX7 tyX7 tyX7_ok nmX7 5 (by decide) tw_93 rfl rfl rfl rfl rfl rfl (Nat.le_of_ble_eq_true rfl) (fs1 := [.int n, .ref b, .ref c, .ref w, .ref d, .int (sL lo hi 0 * sL lo hi 1 * sL lo hi 2)]) rfl dX7_init_119 ?_
  have m_62 : (mU (mU (mU (mU (mU (mU (mU (mU (mU (mU (mU (mU (mU (mU M a (oB 7 [.int n, .null, .null, .null, .null, .int 0])) a (oB 7 [.int n, .ref b, .null, .null, .null, .int 0])) a (oB 7 [.int n, .ref b, .ref c, .null, .null, .int 0])) w (aI G 3 (fun _ => 0))) w (aI G 3 (upd (fun _ => 0) 0 (((hi 0) - (lo 0)) + 1)))) w (aI G 3 (upd (upd (fun _ => 0) 0 (((hi 0) - (lo 0)) + 1)) 1 (((hi 1) - (lo 1)) + 1)))) w (aI G 3 (upd (upd (upd (fun _ => 0) 0 (((hi 0) - (lo 0)) + 1)) 1 (((hi 1) - (lo 1)) + 1)) 2 (((hi 2) - (lo 2)) + 1)))) a (oB 7 [.int n, .ref b, .ref c, .ref w, .null, .int 0])) d (aI G 3 (fun _ => 0))) d (aI G 3 (upd (fun _ => 0) 0 ((sL lo hi 1) * (sL lo hi 2))))) d (aI G 3 (upd (upd (fun _ => 0) 0 ((sL lo hi 1) * (sL lo hi 2))) 1 (sL lo hi 2)))) d (aI G 3 (upd (upd (upd (fun _ => 0) 0 ((sL lo hi 1) * (sL lo hi 2))) 1 (sL lo hi 2)) 2 1))) a (oB 7 [.int n, .ref b, .ref c, .ref w, .ref d, .int 0])) a (oB 7 [.int n, .ref b, .ref c, .ref w, .ref d, .int (sL lo hi 0 * sL lo hi 1 * sL lo hi 2)])) a = some (oB 7 [.int n, .ref b, .ref c, .ref w, .ref d, .int (sL lo hi 0 * sL lo hi 1 * sL lo hi 2)]) := mU_s
  have m_63 : (mU (mU (mU (mU (mU (mU (mU (mU (mU (mU (mU (mU (mU (mU M a (oB 7 [.int n, .null, .null, .null, .null, .int 0])) a (oB 7 [.int n, .ref b, .null, .null, .null, .int 0])) a (oB 7 [.int n, .ref b, .ref c, .null, .null, .int 0])) w (aI G 3 (fun _ => 0))) w (aI G 3 (upd (fun _ => 0) 0 (((hi 0) - (lo 0)) + 1)))) w (aI G 3 (upd (upd (fun _ => 0) 0 (((hi 0) - (lo 0)) + 1)) 1 (((hi 1) - (lo 1)) + 1)))) w (aI G 3 (upd (upd (upd (fun _ => 0) 0 (((hi 0) - (lo 0)) + 1)) 1 (((hi 1) - (lo 1)) + 1)) 2 (((hi 2) - (lo 2)) + 1)))) a (oB 7 [.int n, .ref b, .ref c, .ref w, .null, .int 0])) d (aI G 3 (fun _ => 0))) d (aI G 3 (upd (fun _ => 0) 0 ((sL lo hi 1) * (sL lo hi 2))))) d (aI G 3 (upd (upd (fun _ => 0) 0 ((sL lo hi 1) * (sL lo hi 2))) 1 (sL lo hi 2)))) d (aI G 3 (upd (upd (upd (fun _ => 0) 0 ((sL lo hi 1) * (sL lo hi 2))) 1 (sL lo hi 2)) 2 1))) a (oB 7 [.int n, .ref b, .ref c, .ref w, .ref d, .int 0])) a (oB 7 [.int n, .ref b, .ref c, .ref w, .ref d, .int (sL lo hi 0 * sL lo hi 1 * sL lo hi 2)])) b = some (aI G 3 lo) := (mU_n (Ne.symm (g_neoa h1 h2))).trans m_58
  have m_64 : (mU (mU (mU (mU (mU (mU (mU (mU (mU (mU (mU (mU (mU (mU M a (oB 7 [.int n, .null, .null, .null, .null, .int 0])) a (oB 7 [.int n, .ref b, .null, .null, .null, .int 0])) a (oB 7 [.int n, .ref b, .ref c, .null, .null, .int 0])) w (aI G 3 (fun _ => 0))) w (aI G 3 (upd (fun _ => 0) 0 (((hi 0) - (lo 0)) + 1)))) w (aI G 3 (upd (upd (fun _ => 0) 0 (((hi 0) - (lo 0)) + 1)) 1 (((hi 1) - (lo 1)) + 1)))) w (aI G 3 (upd (upd (upd (fun _ => 0) 0 (((hi 0) - (lo 0)) + 1)) 1 (((hi 1) - (lo 1)) + 1)) 2 (((hi 2) - (lo 2)) + 1)))) a (oB 7 [.int n, .ref b, .ref c, .ref w, .null, .int 0])) d (aI G 3 (fun _ => 0))) d (aI G 3 (upd (fun _ => 0) 0 ((sL lo hi 1) * (sL lo hi 2))))) d (aI G 3 (upd (upd (fun _ => 0) 0 ((sL lo hi 1) * (sL lo hi 2))) 1 (sL lo hi 2)))) d (aI G 3 (upd (upd (upd (fun _ => 0) 0 ((sL lo hi 1) * (sL lo hi 2))) 1 (sL lo hi 2)) 2 1))) a (oB 7 [.int n, .ref b, .ref c, .ref w, .ref d, .int 0])) a (oB 7 [.int n, .ref b, .ref c, .ref w, .ref d, .int (sL lo hi 0 * sL lo hi 1 * sL lo hi 2)])) c = some (aI G 3 hi) := (mU_n (Ne.symm (g_neoa h1 h3))).trans m_59
  have m_65 : (mU (mU (mU (mU (mU (mU (mU (mU (mU (mU (mU (mU (mU (mU M a (oB 7 [.int n, .null, .null, .null, .null, .int 0])) a (oB 7 [.int n, .ref b, .null, .null, .null, .int 0])) a (oB 7 [.int n, .ref b, .ref c, .null, .null, .int 0])) w (aI G 3 (fun _ => 0))) w (aI G 3 (upd (fun _ => 0) 0 (((hi 0) - (lo 0)) + 1)))) w (aI G 3 (upd (upd (fun _ => 0) 0 (((hi 0) - (lo 0)) + 1)) 1 (((hi 1) - (lo 1)) + 1)))) w (aI G 3 (upd (upd (upd (fun _ => 0) 0 (((hi 0) - (lo 0)) + 1)) 1 (((hi 1) - (lo 1)) + 1)) 2 (((hi 2) - (lo 2)) + 1)))) a (oB 7 [.int n, .ref b, .ref c, .ref w, .null, .int 0])) d (aI G 3 (fun _ => 0))) d (aI G 3 (upd (fun _ => 0) 0 ((sL lo hi 1) * (sL lo hi 2))))) d (aI G 3 (upd (upd (fun _ => 0) 0 ((sL lo hi 1) * (sL lo hi 2))) 1 (sL lo hi 2)))) d (aI G 3 (upd (upd (upd (fun _ => 0) 0 ((sL lo hi 1) * (sL lo hi 2))) 1 (sL lo hi 2)) 2 1))) a (oB 7 [.int n, .ref b, .ref c, .ref w, .ref d, .int 0])) a (oB 7 [.int n, .ref b, .ref c, .ref w, .ref d, .int (sL lo hi 0 * sL lo hi 1 * sL lo hi 2)])) w = some (aI G 3 (upd (upd (upd (fun _ => 0) 0 (((hi 0) - (lo 0)) + 1)) 1 (((hi 1) - (lo 1)) + 1)) 2 (((hi 2) - (lo 2)) + 1))) := (mU_n (Ne.symm n_10)).trans m_60
  have m_66 : (mU (mU (mU (mU (mU (mU (mU (mU (mU (mU (mU (mU (mU (mU M a (oB 7 [.int n, .null, .null, .null, .null, .int 0])) a (oB 7 [.int n, .ref b, .null, .null, .null, .int 0])) a (oB 7 [.int n, .ref b, .ref c, .null, .null, .int 0])) w (aI G 3 (fun _ => 0))) w (aI G 3 (upd (fun _ => 0) 0 (((hi 0) - (lo 0)) + 1)))) w (aI G 3 (upd (upd (fun _ => 0) 0 (((hi 0) - (lo 0)) + 1)) 1 (((hi 1) - (lo 1)) + 1)))) w (aI G 3 (upd (upd (upd (fun _ => 0) 0 (((hi 0) - (lo 0)) + 1)) 1 (((hi 1) - (lo 1)) + 1)) 2 (((hi 2) - (lo 2)) + 1)))) a (oB 7 [.int n, .ref b, .ref c, .ref w, .null, .int 0])) d (aI G 3 (fun _ => 0))) d (aI G 3 (upd (fun _ => 0) 0 ((sL lo hi 1) * (sL lo hi 2))))) d (aI G 3 (upd (upd (fun _ => 0) 0 ((sL lo hi 1) * (sL lo hi 2))) 1 (sL lo hi 2)))) d (aI G 3 (upd (upd (upd (fun _ => 0) 0 ((sL lo hi 1) * (sL lo hi 2))) 1 (sL lo hi 2)) 2 1))) a (oB 7 [.int n, .ref b, .ref c, .ref w, .ref d, .int 0])) a (oB 7 [.int n, .ref b, .ref c, .ref w, .ref d, .int (sL lo hi 0 * sL lo hi 1 * sL lo hi 2)])) d = some (aI G 3 (upd (upd (upd (fun _ => 0) 0 ((sL lo hi 1) * (sL lo hi 2))) 1 (sL lo hi 2)) 2 1)) := (mU_n (Ne.symm n_33)).trans m_61
  exact q_vret X hr dX7_init_122 (⟨rfl, ⟨b, c, d, (_, w, _), m_62, m_63, m_64, m_66, rfl, rfl, rfl, m_65, rfl, rfl, rfl⟩, w, d, (mU_none (mU_none (mU_none fw))), (mU_none (mU_none (mU_none (mU_none (mU_none (mU_none (mU_none (mU_none fd)))))))), fun q q1 q2 q3 => by simp only [mU, q1, q2, q3, if_false]⟩)

/-- a row of three with one place changed -/
def rpl3 (f : Nat → Int32) (d x : Int32) : Nat → Int32 := if d < 0 then f else if nI 3 ≤ d then f else upd f d.toNatClampNeg x
theorem rpl3_N {f : Nat → Int32} {d x : Int32} (j : Nat) (hj : j < 3) (hd : d = nI j) : rpl3 f d x = upd f j x := by
  subst hd
  unfold rpl3
  rw [if_neg (nI_pos (by omega)), if_neg (nI_ge hj (by decide)), nI_clamp (by omega)]
/-- a fresh cell comes, with e in it; the answer is that cell -/
def pN (M : gMem) (e : va_E) : Option Value → gMem → Prop := fun v M' => ∃ q : Nat, v = some (.ref q) ∧ M q = none ∧ M' = mU M q e

set_option maxRecDepth 20000 in
theorem c_X7_replaced {l : Launch} {G : gV} {M : gMem} {a : Nat} {f : Nat → Int32} {d x : Int32} (h1 : M a = some (aI G 3 f)) : qC l G yX7_replaced cX7_replaced 4 (some (.array .int)) 3 1 3 [.ref a, .int d, .int x] M (pN M (aI G 3 (rpl3 f d x))) := by
  refine qC_of (by decide +kernel) (Nat.le_of_ble_eq_true rfl) (fun F hF X hr hn => ?_)
  subst hF
  have X : qX G F cX7_replaced 4 RX7 3 := X
  show qJ G F _ 4 M 1 3 0 [(0, .ref a), (1, .int d), (2, .int x)] []
  refine q_aload_n X dX7_replaced_0 0 rfl ?_
  refine q_cloneI X tw_650 tw_651 tw_652 tw_653 tw_654 tn_655 h1 (by decide) (Nat.le_of_ble_eq_true rfl) (rc' := 0) (rs' := 0) (by omega) (by omega) dX7_replaced_1 (fun q fq => ?_)
  have n_1 : a ≠ q := g_nef h1 fq
  have m_2 : (mU M q (aI G 3 f)) a = some (aI G 3 f) := (mU_n n_1).trans h1
  have m_3 : (mU M q (aI G 3 f)) q = some (aI G 3 f) := mU_s
  refine q_castI X tw_656 m_3 dX7_replaced_4 ?_
  refine q_astore_n (lv' := [(3, .ref q), (0, .ref a), (1, .int d), (2, .int x)]) X dX7_replaced_7 (by decide) rfl ?_
  refine q_iload_n X dX7_replaced_8 2 rfl ?_
  refine q_if_lt X 22 dX7_replaced_9 (by decide) (fun c1 => ?_) (fun c1 => ?_)
  · refine q_aload_n X dX7_replaced_22 0 rfl ?_
    exact q_aret X hr (Or.inr ⟨_, rfl⟩) dX7_replaced_23 (⟨q, rfl, fq, by unfold rpl3; simp only [*, if_true, if_false, not_true, not_false_eq_true]⟩)
  · refine q_iload_n X dX7_replaced_12 2 rfl ?_
    refine q_aload_n X dX7_replaced_13 0 rfl ?_
    refine q_alen X 0 m_3 rfl dX7_replaced_14 ?_
    refine q_icmp_ge X 22 dX7_replaced_15 (by decide) (fun c2 => ?_) (fun c2 => ?_)
    · refine q_aload_n X dX7_replaced_22 0 rfl ?_
      exact q_aret X hr (Or.inr ⟨_, rfl⟩) dX7_replaced_23 (⟨q, rfl, fq, by unfold rpl3; simp only [*, if_true, if_false, not_true, not_false_eq_true]⟩)
    · refine q_aload_n X dX7_replaced_18 0 rfl ?_
      refine q_iload_n X dX7_replaced_19 2 rfl ?_
      refine q_iload_n X dX7_replaced_20 3 rfl ?_
      refine q_iast X m_3 (s3_in c1 c2) dX7_replaced_21 ?_
      have m_4 : (mU (mU M q (aI G 3 f)) q (aI G 3 (upd f d.toNatClampNeg x))) a = some (aI G 3 f) := (mU_n (n_1)).trans m_2
      have m_5 : (mU (mU M q (aI G 3 f)) q (aI G 3 (upd f d.toNatClampNeg x))) q = some (aI G 3 (upd f d.toNatClampNeg x)) := mU_s
      refine q_aload_n X dX7_replaced_22 0 rfl ?_
      exact q_aret X hr (Or.inr ⟨_, rfl⟩) dX7_replaced_23 (⟨q, rfl, fq, by rw [mU_mU]; unfold rpl3; simp only [*, if_true, if_false, not_true, not_false_eq_true]⟩)

/-- the place d is dropped: what stood behind it moves up -/
def dr3 (f : Nat → Int32) (j i : Nat) : Nat → Int32 := fun k => if k < j then f k else if k < i then (if k + 1 < 3 then f (k + 1) else 0) else f k
theorem dr3_0 {f : Nat → Int32} {j : Nat} : dr3 f j j = f := by
  funext k; unfold dr3
  by_cases h : k < j
  · rw [if_pos h]
  · rw [if_neg h, if_neg h]
theorem dr3_s {f : Nat → Int32} {j i : Nat} (h : j ≤ i) : upd (dr3 f j i) i (if i + 1 < 3 then f (i + 1) else 0) = dr3 f j (i + 1) := by
  funext k; unfold upd dr3
  by_cases e : k = i
  · subst e; rw [if_pos rfl, if_neg (show ¬ k < j by omega), if_pos (show k < k + 1 by omega)]
  · rw [if_neg e]
    by_cases h1 : k < j
    · rw [if_pos h1, if_pos h1]
    · rw [if_neg h1, if_neg h1]
      by_cases h2 : k < i
      · rw [if_pos h2, if_pos (show k < i + 1 by omega)]
      · rw [if_neg h2, if_neg (show ¬ k < i + 1 by omega)]

set_option maxRecDepth 20000 in
theorem c_X7_dropped {l : Launch} {G : gV} {M : gMem} {a j : Nat} {f : Nat → Int32} (h1 : M a = some (aI G 3 f)) (hj : j < 3) : qC l G yX7_dropped cX7_dropped 4 (some (.array .int)) 3 1 3 [.ref a, .int (nI j)] M (pN M (aI G 3 (dr3 f j 3))) := by
  refine qC_of (by decide +kernel) (Nat.le_of_ble_eq_true rfl) (fun F hF X hr hn => ?_)
  subst hF
  have X : qX G F cX7_dropped 4 RX7 3 := X
  have loop : ∀ (q : Nat), M q = none → ∀ (t i : Nat), i + t = 3 → j ≤ i → qJ G F (qQ G F (pN M (aI G 3 (dr3 f j 3)))) 4 (mU M q (aI G 3 (dr3 f j i))) 0 0 14 [(0, .ref a), (2, .ref q), (3, .int (nI i))] [] := by
    intro q fq t
    have nq : a ≠ q := g_nef h1 fq
    induction t with
    | zero =>
      intro i hi hji
      have mq : (mU M q (aI G 3 (dr3 f j i))) q = some (aI G 3 (dr3 f j i)) := mU_s
      have ma : (mU M q (aI G 3 (dr3 f j i))) a = some (aI G 3 f) := (mU_n nq).trans h1
      have hi3 : i = 3 := by omega
      refine q_iload_n X dX7_dropped_14 2 rfl ?_
      refine q_aload_n X dX7_dropped_15 1 rfl ?_
      refine q_alen X 0 mq rfl dX7_dropped_16 ?_
      refine q_icmp_ge X 46 dX7_dropped_17 (by decide) (fun c_1 => ?_) (fun c_1 => absurd (nI_le (show 3 ≤ i by omega) (by omega)) c_1)
      refine q_aload_n X dX7_dropped_46 1 rfl ?_
      exact q_aret X hr (Or.inr ⟨_, rfl⟩) dX7_dropped_47 (⟨q, rfl, fq, by rw [hi3]⟩)
    | succ t ih =>
      intro i hi hji
      have mq : (mU M q (aI G 3 (dr3 f j i))) q = some (aI G 3 (dr3 f j i)) := mU_s
      have ma : (mU M q (aI G 3 (dr3 f j i))) a = some (aI G 3 f) := (mU_n nq).trans h1
      refine q_iload_n X dX7_dropped_14 2 rfl ?_
      refine q_aload_n X dX7_dropped_15 1 rfl ?_
      refine q_alen X 0 mq rfl dX7_dropped_16 ?_
      refine q_icmp_ge X 46 dX7_dropped_17 (by decide) (fun c_2 => absurd c_2 (nI_ge (show i < 3 by omega) (by omega))) (fun c_2 => ?_)
      refine q_aload_n X dX7_dropped_20 1 rfl ?_
      refine q_iload_n X dX7_dropped_21 2 rfl ?_
      refine q_iload_n X dX7_dropped_22 2 rfl ?_
      refine q_iconst (v := 1) X dX7_dropped_23 (by decide) ?_
      refine q_iadd X dX7_dropped_24 ?_
      refine q_aload_n X dX7_dropped_25 0 rfl ?_
      refine q_alen X 0 ma rfl dX7_dropped_26 ?_
      refine q_icmp_ge X 38 dX7_dropped_27 (by decide) (fun c1 => ?_) (fun c1 => ?_)
      · have c2 : ¬ i + 1 < 3 := fun h => absurd c1 (by rw [nI_1]; exact nI_ge h (by omega))
        refine q_iconst (v := 0) X dX7_dropped_38 (by decide) ?_
        refine q_iastN X i mq (rfl) (by omega) (by decide) dX7_dropped_39 ?_
        have m_3 : (mU (mU M q (aI G 3 (dr3 f j i))) q (aI G 3 (upd (dr3 f j i) i 0))) a = some (aI G 3 f) := (mU_n (nq)).trans ma
        have m_4 : (mU (mU M q (aI G 3 (dr3 f j i))) q (aI G 3 (upd (dr3 f j i) i 0))) q = some (aI G 3 (upd (dr3 f j i) i 0)) := mU_s
        rw [mU_mU, show upd (dr3 f j i) i 0 = dr3 f j (i + 1) from (by rw [← dr3_s hji]; congr 1; rw [if_neg c2])]
        refine q_iinc (v := (nI (i + 1))) (lv' := [(3, .int (nI (i + 1))), (0, .ref a), (2, .ref q)]) X dX7_dropped_40 2 rfl (nI_1 i) (by decide) rfl ?_
        refine q_goto X 14 dX7_dropped_43 (by decide) ?_
        refine q_sub [1, 2, 0] rfl ?_
        exact ih (i + 1) (by omega) (by omega)
      · have c2 : i + 1 < 3 := Nat.lt_of_not_le (fun h => c1 (by rw [nI_1]; exact nI_le h (by omega)))
        refine q_aload_n X dX7_dropped_30 0 rfl ?_
        refine q_iload_n X dX7_dropped_31 2 rfl ?_
        refine q_iconst (v := 1) X dX7_dropped_32 (by decide) ?_
        refine q_iadd X dX7_dropped_33 ?_
        refine q_ialdN X (i + 1) ma (nI_1 i) (by omega) (by decide) dX7_dropped_34 ?_
        refine q_goto X 39 dX7_dropped_35 (by decide) ?_
        refine q_iastN X i mq (rfl) (by omega) (by decide) dX7_dropped_39 ?_
        have m_5 : (mU (mU M q (aI G 3 (dr3 f j i))) q (aI G 3 (upd (dr3 f j i) i (f (i + 1))))) a = some (aI G 3 f) := (mU_n (nq)).trans ma
        have m_6 : (mU (mU M q (aI G 3 (dr3 f j i))) q (aI G 3 (upd (dr3 f j i) i (f (i + 1))))) q = some (aI G 3 (upd (dr3 f j i) i (f (i + 1)))) := mU_s
        rw [mU_mU, show upd (dr3 f j i) i (f (i + 1)) = dr3 f j (i + 1) from (by rw [← dr3_s hji]; congr 1; rw [if_pos c2])]
        refine q_iinc (v := (nI (i + 1))) (lv' := [(3, .int (nI (i + 1))), (0, .ref a), (2, .ref q)]) X dX7_dropped_40 2 rfl (nI_1 i) (by decide) rfl ?_
        refine q_goto X 14 dX7_dropped_43 (by decide) ?_
        refine q_sub [1, 2, 0] rfl ?_
        exact ih (i + 1) (by omega) (by omega)
  refine q_aload_n X dX7_dropped_0 0 rfl ?_
  refine q_cloneI X tw_650 tw_651 tw_652 tw_653 tw_654 tn_655 h1 (by decide) (Nat.le_of_ble_eq_true rfl) (rc' := 0) (rs' := 0) (by omega) (by omega) dX7_dropped_1 (fun q fq => ?_)
  have n_7 : a ≠ q := g_nef h1 fq
  have m_8 : (mU M q (aI G 3 f)) a = some (aI G 3 f) := (mU_n n_7).trans h1
  have m_9 : (mU M q (aI G 3 f)) q = some (aI G 3 f) := mU_s
  refine q_castI X tw_656 m_9 dX7_dropped_4 ?_
  refine q_astore_n (lv' := [(2, .ref q), (0, .ref a), (1, .int (nI j))]) X dX7_dropped_7 (by decide) rfl ?_
  refine q_iload_n X dX7_dropped_8 2 rfl ?_
  refine q_iconst (v := 0) X dX7_dropped_9 (by decide) ?_
  refine q_callSp X (c_J9_max_7cf53) Y_J9_max_7cf53 tw_733 tw_123 (by decide) rfl rfl (Nat.le_of_ble_eq_true rfl) dX7_dropped_10 ?_
  rw [mxI_0 (by omega)]
  refine q_istore_n (lv' := [(3, .int (nI j)), (2, .ref q), (0, .ref a), (1, .int (nI j))]) X dX7_dropped_13 (by decide) rfl ?_
  refine q_sub [2, 1, 0] rfl ?_
  have h := loop q fq (3 - j) j (by omega) (Nat.le_refl _)
  rw [dr3_0] at h
  exact h

/-- nothing of the memory has changed; more may have come -/
def mExt (M M' : gMem) : Prop := ∀ (x : Nat) (e : va_E), M x = some e → M' x = some e
theorem mExt.rf (M : gMem) : mExt M M := fun _ _ h => h
theorem mExt.trans {M M1 M2 : gMem} (h : mExt M M1) (h2 : mExt M1 M2) : mExt M M2 := fun x e hx => h2 x e (h x e hx)
theorem mExt_new {M : gMem} {q : Nat} {e : va_E} (f : M q = none) : mExt M (mU M q e) := fun x e' hx => (mU_n (g_nef hx f)).trans hx
theorem mExt.none {M M' : gMem} (h : mExt M M') {q : Nat} (f : M' q = none) : M q = none := by
  cases h9 : M q with
  | none => rfl
  | some e => rw [h q e h9] at f; cases f
theorem isShape.ext {G : gV} {M M' : gMem} {a : Nat} {n : Int32} {lo hi : Nat → Int32} (h : isShape G M a n lo hi) (x : mExt M M') : isShape G M' a n lo hi := by
  obtain ⟨b, c, d, sp, h1, h2, h3, h4, h5, h6, h7, h8, h9⟩ := h
  exact ⟨b, c, d, sp, x _ _ h1, x _ _ h2, x _ _ h3, x _ _ h4, h5, h6, h7, x _ _ h8, h9⟩
/-- a shape is made; the answer is its cell -/
def pShape (G : gV) (M : gMem) (n : Int32) (lo hi : Nat → Int32) : Option Value → gMem → Prop := fun v M' => ∃ q : Nat, v = some (.ref q) ∧ M q = none ∧ isShape G M' q n lo hi ∧ mExt M M'

set_option maxRecDepth 20000 in
theorem c_X7_ranged {l : Launch} {G : gV} {M : gMem} {a : Nat} {n : Int32} {lo hi : Nat → Int32} (hS : isShape G M a n lo hi) {d x y : Int32} : qC l G yX7_ranged cX7_ranged 4 (some (.object "GridVault$Shape")) 4 5 18 [.ref a, .int d, .int x, .int y] M (pShape G M n (rpl3 lo d x) (rpl3 hi d y)) := by
  refine qC_of (by decide +kernel) (Nat.le_of_ble_eq_true rfl) (fun F hF X hr hn => ?_)
  subst hF
  have X : qX G F cX7_ranged 4 RX7 4 := X
  obtain ⟨b, c, d0, sp, h1, h2, h3, h4, h5, h6, h7, h8, h9⟩ := id hS
  show qJ G F _ 4 M 5 18 0 [(0, .ref a), (1, .int d), (2, .int x), (3, .int y)] []
  refine q_new X (ci := 7) rfl in_RX7 tyX7 tyX7_ok tw_646 tw_67 tw_5 (fs0 := [.int 0, .null, .null, .null, .null, .int 0]) (fun j hj => by rcases (show j = 0 ∨ j = 1 ∨ j = 2 ∨ j = 3 ∨ j = 4 ∨ j = 5 by omega) with rfl | rfl | rfl | rfl | rfl | rfl <;> rfl) (rc' := 4) (rs' := 12) (by omega) (by omega) dX7_ranged_0 (fun p fp => ?_)
  have n_1 : a ≠ p := g_nef h1 fp
  have m_2 : (mU M p (oB 7 [.int 0, .null, .null, .null, .null, .int 0])) a = some (oB 7 [.int n, .ref b, .ref c, .ref sp.2.1, .ref d0, .int (sL lo hi 0 * sL lo hi 1 * sL lo hi 2)]) := (mU_n n_1).trans h1
  have n_3 : b ≠ p := g_nef h2 fp
  have m_4 : (mU M p (oB 7 [.int 0, .null, .null, .null, .null, .int 0])) b = some (aI G 3 lo) := (mU_n n_3).trans h2
  have n_5 : c ≠ p := g_nef h3 fp
  have m_6 : (mU M p (oB 7 [.int 0, .null, .null, .null, .null, .int 0])) c = some (aI G 3 hi) := (mU_n n_5).trans h3
  have m_7 : (mU M p (oB 7 [.int 0, .null, .null, .null, .null, .int 0])) p = some (oB 7 [.int 0, .null, .null, .null, .null, .int 0]) := mU_s
  refine q_dup X dX7_ranged_3 rfl ?_
  refine q_aload_n X dX7_ranged_4 0 rfl ?_
  refine q_get X m_2 rfl in_RX7 0 (by decide) tw_88 rfl rfl dX7_ranged_5 ?_
  refine q_aload_n X dX7_ranged_8 0 rfl ?_
  refine q_get X m_2 rfl in_RX7 1 (by decide) tw_89 rfl rfl dX7_ranged_9 ?_
  refine q_iload_n X dX7_ranged_12 1 rfl ?_
  refine q_iload_n X dX7_ranged_13 2 rfl ?_
  refine q_callS X (c_X7_replaced m_4) Y_X7_replaced tw_647 tw_648 (by decide) rfl rfl (Nat.le_of_ble_eq_true rfl) (rc' := 3) (rs' := 9) (by omega) (by omega) dX7_ranged_14 (fun v M' hp _ => ?_)
  obtain ⟨b1, rfl, fb1, rfl⟩ := hp
  have n_8 : a ≠ b1 := g_nef m_2 fb1
  have m_9 : (mU (mU M p (oB 7 [.int 0, .null, .null, .null, .null, .int 0])) b1 (aI G 3 (rpl3 lo d x))) a = some (oB 7 [.int n, .ref b, .ref c, .ref sp.2.1, .ref d0, .int (sL lo hi 0 * sL lo hi 1 * sL lo hi 2)]) := (mU_n n_8).trans m_2
  have n_10 : b ≠ b1 := g_nef m_4 fb1
  have m_11 : (mU (mU M p (oB 7 [.int 0, .null, .null, .null, .null, .int 0])) b1 (aI G 3 (rpl3 lo d x))) b = some (aI G 3 lo) := (mU_n n_10).trans m_4
  have n_12 : c ≠ b1 := g_nef m_6 fb1
  have m_13 : (mU (mU M p (oB 7 [.int 0, .null, .null, .null, .null, .int 0])) b1 (aI G 3 (rpl3 lo d x))) c = some (aI G 3 hi) := (mU_n n_12).trans m_6
  have n_14 : p ≠ b1 := g_nef m_7 fb1
  have m_15 : (mU (mU M p (oB 7 [.int 0, .null, .null, .null, .null, .int 0])) b1 (aI G 3 (rpl3 lo d x))) p = some (oB 7 [.int 0, .null, .null, .null, .null, .int 0]) := (mU_n n_14).trans m_7
  have m_16 : (mU (mU M p (oB 7 [.int 0, .null, .null, .null, .null, .int 0])) b1 (aI G 3 (rpl3 lo d x))) b1 = some (aI G 3 (rpl3 lo d x)) := mU_s
  show qJ G F _ 4 (mU (mU M p (oB 7 [.int 0, .null, .null, .null, .null, .int 0])) b1 (aI G 3 (rpl3 lo d x))) 3 9 17 [(0, .ref a), (1, .int d), (2, .int x), (3, .int y)] [.ref b1, .int n, .ref p, .ref p]
  refine q_aload_n X dX7_ranged_17 0 rfl ?_
  refine q_get X m_9 rfl in_RX7 2 (by decide) tw_90 rfl rfl dX7_ranged_18 ?_
  refine q_iload_n X dX7_ranged_21 1 rfl ?_
  refine q_iload_n X dX7_ranged_22 3 rfl ?_
  refine q_callS X (c_X7_replaced m_13) Y_X7_replaced tw_647 tw_648 (by decide) rfl rfl (Nat.le_of_ble_eq_true rfl) (rc' := 2) (rs' := 6) (by omega) (by omega) dX7_ranged_23 (fun v M' hp _ => ?_)
  obtain ⟨c1, rfl, fc1, rfl⟩ := hp
  have n_17 : a ≠ c1 := g_nef m_9 fc1
  have m_18 : (mU (mU (mU M p (oB 7 [.int 0, .null, .null, .null, .null, .int 0])) b1 (aI G 3 (rpl3 lo d x))) c1 (aI G 3 (rpl3 hi d y))) a = some (oB 7 [.int n, .ref b, .ref c, .ref sp.2.1, .ref d0, .int (sL lo hi 0 * sL lo hi 1 * sL lo hi 2)]) := (mU_n n_17).trans m_9
  have n_19 : b ≠ c1 := g_nef m_11 fc1
  have m_20 : (mU (mU (mU M p (oB 7 [.int 0, .null, .null, .null, .null, .int 0])) b1 (aI G 3 (rpl3 lo d x))) c1 (aI G 3 (rpl3 hi d y))) b = some (aI G 3 lo) := (mU_n n_19).trans m_11
  have n_21 : c ≠ c1 := g_nef m_13 fc1
  have m_22 : (mU (mU (mU M p (oB 7 [.int 0, .null, .null, .null, .null, .int 0])) b1 (aI G 3 (rpl3 lo d x))) c1 (aI G 3 (rpl3 hi d y))) c = some (aI G 3 hi) := (mU_n n_21).trans m_13
  have n_23 : p ≠ c1 := g_nef m_15 fc1
  have m_24 : (mU (mU (mU M p (oB 7 [.int 0, .null, .null, .null, .null, .int 0])) b1 (aI G 3 (rpl3 lo d x))) c1 (aI G 3 (rpl3 hi d y))) p = some (oB 7 [.int 0, .null, .null, .null, .null, .int 0]) := (mU_n n_23).trans m_15
  have n_25 : b1 ≠ c1 := g_nef m_16 fc1
  have m_26 : (mU (mU (mU M p (oB 7 [.int 0, .null, .null, .null, .null, .int 0])) b1 (aI G 3 (rpl3 lo d x))) c1 (aI G 3 (rpl3 hi d y))) b1 = some (aI G 3 (rpl3 lo d x)) := (mU_n n_25).trans m_16
  have m_27 : (mU (mU (mU M p (oB 7 [.int 0, .null, .null, .null, .null, .int 0])) b1 (aI G 3 (rpl3 lo d x))) c1 (aI G 3 (rpl3 hi d y))) c1 = some (aI G 3 (rpl3 hi d y)) := mU_s
  show qJ G F _ 4 (mU (mU (mU M p (oB 7 [.int 0, .null, .null, .null, .null, .int 0])) b1 (aI G 3 (rpl3 lo d x))) c1 (aI G 3 (rpl3 hi d y))) 2 6 26 [(0, .ref a), (1, .int d), (2, .int x), (3, .int y)] [.ref c1, .ref b1, .int n, .ref p, .ref p]
  refine q_callI X (c_X7_init (n := n) (lo := (rpl3 lo d x)) (hi := (rpl3 hi d y)) m_24 m_26 m_27) Y_X7_init tw_657 tw_69 rfl (by decide) rfl rfl (Nat.le_of_ble_eq_true rfl) (rc' := 0) (rs' := 0) (by omega) (by omega) dX7_ranged_26 (fun v M' hp _ => ?_)
  obtain ⟨rfl, hS2, w9, d9, fw9, fd9, hfr⟩ := hp
  show qJ G F _ 4 M' 0 0 29 [(0, .ref a), (1, .int d), (2, .int x), (3, .int y)] [.ref p]
  exact q_aret X hr (Or.inl ⟨_, rfl⟩) dX7_ranged_29 (⟨p, rfl, fp, hS2, fun x e hx => have h9 := ((mExt_new fp).trans ((mExt_new fb1).trans (mExt_new fc1))) x e hx; (hfr x (g_nef hx fp) (g_nef h9 fw9) (g_nef h9 fd9)).trans h9⟩)

set_option maxRecDepth 20000 in
theorem c_X7_without {l : Launch} {G : gV} {M : gMem} {a : Nat} {n : Int32} {lo hi : Nat → Int32} (hS : isShape G M a n lo hi) {j : Nat} (hj : j < 3) : qC l G yX7_without cX7_without 2 (some (.object "GridVault$Shape")) 4 5 18 [.ref a, .int (nI j)] M (pShape G M (n - 1) (dr3 lo j 3) (dr3 hi j 3)) := by
  refine qC_of (by decide +kernel) (Nat.le_of_ble_eq_true rfl) (fun F hF X hr hn => ?_)
  subst hF
  have X : qX G F cX7_without 2 RX7 4 := X
  obtain ⟨b, c, d0, sp, h1, h2, h3, h4, h5, h6, h7, h8, h9⟩ := id hS
  show qJ G F _ 2 M 5 18 0 [(0, .ref a), (1, .int (nI j))] []
  refine q_new X (ci := 7) rfl in_RX7 tyX7 tyX7_ok tw_646 tw_67 tw_5 (fs0 := [.int 0, .null, .null, .null, .null, .int 0]) (fun j hj => by rcases (show j = 0 ∨ j = 1 ∨ j = 2 ∨ j = 3 ∨ j = 4 ∨ j = 5 by omega) with rfl | rfl | rfl | rfl | rfl | rfl <;> rfl) (rc' := 4) (rs' := 12) (by omega) (by omega) dX7_without_0 (fun p fp => ?_)
  have n_1 : a ≠ p := g_nef h1 fp
  have m_2 : (mU M p (oB 7 [.int 0, .null, .null, .null, .null, .int 0])) a = some (oB 7 [.int n, .ref b, .ref c, .ref sp.2.1, .ref d0, .int (sL lo hi 0 * sL lo hi 1 * sL lo hi 2)]) := (mU_n n_1).trans h1
  have n_3 : b ≠ p := g_nef h2 fp
  have m_4 : (mU M p (oB 7 [.int 0, .null, .null, .null, .null, .int 0])) b = some (aI G 3 lo) := (mU_n n_3).trans h2
  have n_5 : c ≠ p := g_nef h3 fp
  have m_6 : (mU M p (oB 7 [.int 0, .null, .null, .null, .null, .int 0])) c = some (aI G 3 hi) := (mU_n n_5).trans h3
  have m_7 : (mU M p (oB 7 [.int 0, .null, .null, .null, .null, .int 0])) p = some (oB 7 [.int 0, .null, .null, .null, .null, .int 0]) := mU_s
  refine q_dup X dX7_without_3 rfl ?_
  refine q_aload_n X dX7_without_4 0 rfl ?_
  refine q_get X m_2 rfl in_RX7 0 (by decide) tw_88 rfl rfl dX7_without_5 ?_
  refine q_iconst (v := 1) X dX7_without_8 (by decide) ?_
  refine q_isub X dX7_without_9 ?_
  refine q_aload_n X dX7_without_10 0 rfl ?_
  refine q_get X m_2 rfl in_RX7 1 (by decide) tw_89 rfl rfl dX7_without_11 ?_
  refine q_iload_n X dX7_without_14 1 rfl ?_
  refine q_callS X (c_X7_dropped m_4 hj) Y_X7_dropped tw_730 tw_731 (by decide) rfl rfl (Nat.le_of_ble_eq_true rfl) (rc' := 3) (rs' := 9) (by omega) (by omega) dX7_without_15 (fun v M' hp _ => ?_)
  obtain ⟨b1, rfl, fb1, rfl⟩ := hp
  have n_8 : a ≠ b1 := g_nef m_2 fb1
  have m_9 : (mU (mU M p (oB 7 [.int 0, .null, .null, .null, .null, .int 0])) b1 (aI G 3 (dr3 lo j 3))) a = some (oB 7 [.int n, .ref b, .ref c, .ref sp.2.1, .ref d0, .int (sL lo hi 0 * sL lo hi 1 * sL lo hi 2)]) := (mU_n n_8).trans m_2
  have n_10 : b ≠ b1 := g_nef m_4 fb1
  have m_11 : (mU (mU M p (oB 7 [.int 0, .null, .null, .null, .null, .int 0])) b1 (aI G 3 (dr3 lo j 3))) b = some (aI G 3 lo) := (mU_n n_10).trans m_4
  have n_12 : c ≠ b1 := g_nef m_6 fb1
  have m_13 : (mU (mU M p (oB 7 [.int 0, .null, .null, .null, .null, .int 0])) b1 (aI G 3 (dr3 lo j 3))) c = some (aI G 3 hi) := (mU_n n_12).trans m_6
  have n_14 : p ≠ b1 := g_nef m_7 fb1
  have m_15 : (mU (mU M p (oB 7 [.int 0, .null, .null, .null, .null, .int 0])) b1 (aI G 3 (dr3 lo j 3))) p = some (oB 7 [.int 0, .null, .null, .null, .null, .int 0]) := (mU_n n_14).trans m_7
  have m_16 : (mU (mU M p (oB 7 [.int 0, .null, .null, .null, .null, .int 0])) b1 (aI G 3 (dr3 lo j 3))) b1 = some (aI G 3 (dr3 lo j 3)) := mU_s
  show qJ G F _ 2 (mU (mU M p (oB 7 [.int 0, .null, .null, .null, .null, .int 0])) b1 (aI G 3 (dr3 lo j 3))) 3 9 18 [(0, .ref a), (1, .int (nI j))] [.ref b1, .int (n - 1), .ref p, .ref p]
  refine q_aload_n X dX7_without_18 0 rfl ?_
  refine q_get X m_9 rfl in_RX7 2 (by decide) tw_90 rfl rfl dX7_without_19 ?_
  refine q_iload_n X dX7_without_22 1 rfl ?_
  refine q_callS X (c_X7_dropped m_13 hj) Y_X7_dropped tw_730 tw_731 (by decide) rfl rfl (Nat.le_of_ble_eq_true rfl) (rc' := 2) (rs' := 6) (by omega) (by omega) dX7_without_23 (fun v M' hp _ => ?_)
  obtain ⟨c1, rfl, fc1, rfl⟩ := hp
  have n_17 : a ≠ c1 := g_nef m_9 fc1
  have m_18 : (mU (mU (mU M p (oB 7 [.int 0, .null, .null, .null, .null, .int 0])) b1 (aI G 3 (dr3 lo j 3))) c1 (aI G 3 (dr3 hi j 3))) a = some (oB 7 [.int n, .ref b, .ref c, .ref sp.2.1, .ref d0, .int (sL lo hi 0 * sL lo hi 1 * sL lo hi 2)]) := (mU_n n_17).trans m_9
  have n_19 : b ≠ c1 := g_nef m_11 fc1
  have m_20 : (mU (mU (mU M p (oB 7 [.int 0, .null, .null, .null, .null, .int 0])) b1 (aI G 3 (dr3 lo j 3))) c1 (aI G 3 (dr3 hi j 3))) b = some (aI G 3 lo) := (mU_n n_19).trans m_11
  have n_21 : c ≠ c1 := g_nef m_13 fc1
  have m_22 : (mU (mU (mU M p (oB 7 [.int 0, .null, .null, .null, .null, .int 0])) b1 (aI G 3 (dr3 lo j 3))) c1 (aI G 3 (dr3 hi j 3))) c = some (aI G 3 hi) := (mU_n n_21).trans m_13
  have n_23 : p ≠ c1 := g_nef m_15 fc1
  have m_24 : (mU (mU (mU M p (oB 7 [.int 0, .null, .null, .null, .null, .int 0])) b1 (aI G 3 (dr3 lo j 3))) c1 (aI G 3 (dr3 hi j 3))) p = some (oB 7 [.int 0, .null, .null, .null, .null, .int 0]) := (mU_n n_23).trans m_15
  have n_25 : b1 ≠ c1 := g_nef m_16 fc1
  have m_26 : (mU (mU (mU M p (oB 7 [.int 0, .null, .null, .null, .null, .int 0])) b1 (aI G 3 (dr3 lo j 3))) c1 (aI G 3 (dr3 hi j 3))) b1 = some (aI G 3 (dr3 lo j 3)) := (mU_n n_25).trans m_16
  have m_27 : (mU (mU (mU M p (oB 7 [.int 0, .null, .null, .null, .null, .int 0])) b1 (aI G 3 (dr3 lo j 3))) c1 (aI G 3 (dr3 hi j 3))) c1 = some (aI G 3 (dr3 hi j 3)) := mU_s
  show qJ G F _ 2 (mU (mU (mU M p (oB 7 [.int 0, .null, .null, .null, .null, .int 0])) b1 (aI G 3 (dr3 lo j 3))) c1 (aI G 3 (dr3 hi j 3))) 2 6 26 [(0, .ref a), (1, .int (nI j))] [.ref c1, .ref b1, .int (n - 1), .ref p, .ref p]
  refine q_callI X (c_X7_init (n := n - 1) (lo := (dr3 lo j 3)) (hi := (dr3 hi j 3)) m_24 m_26 m_27) Y_X7_init tw_657 tw_69 rfl (by decide) rfl rfl (Nat.le_of_ble_eq_true rfl) (rc' := 0) (rs' := 0) (by omega) (by omega) dX7_without_26 (fun v M' hp _ => ?_)
  obtain ⟨rfl, hS2, w9, d9, fw9, fd9, hfr⟩ := hp
  show qJ G F _ 2 M' 0 0 29 [(0, .ref a), (1, .int (nI j))] [.ref p]
  exact q_aret X hr (Or.inl ⟨_, rfl⟩) dX7_without_29 (⟨p, rfl, fp, hS2, fun x e hx => have h9 := ((mExt_new fp).trans ((mExt_new fb1).trans (mExt_new fc1))) x e hx; (hfr x (g_nef hx fp) (g_nef h9 fw9) (g_nef h9 fd9)).trans h9⟩)

set_option maxRecDepth 20000 in
theorem c_X7_swapped {l : Launch} {G : gV} {M : gMem} {a : Nat} {n : Int32} {lo hi : Nat → Int32} (hS : isShape G M a n lo hi) {d e : Int32} : qC l G yX7_swapped cX7_swapped 3 (some (.object "GridVault$Shape")) 5 10 36 [.ref a, .int d, .int e] M (pShape G M n (rpl3 (rpl3 lo d (s3 lo 0 e)) e (s3 lo 0 d)) (rpl3 (rpl3 hi d (s3 hi 0 e)) e (s3 hi 0 d))) := by
  refine qC_of (by decide +kernel) (Nat.le_of_ble_eq_true rfl) (fun F hF X hr hn => ?_)
  subst hF
  have X : qX G F cX7_swapped 3 RX7 5 := X
  obtain ⟨b, c, d0, sp, h1, h2, h3, h4, h5, h6, h7, h8, h9⟩ := id hS
  show qJ G F _ 3 M 10 36 0 [(0, .ref a), (1, .int d), (2, .int e)] []
  refine q_aload_n X dX7_swapped_0 0 rfl ?_
  refine q_iload_n X dX7_swapped_1 1 rfl ?_
  refine q_aload_n X dX7_swapped_2 0 rfl ?_
  refine q_iload_n X dX7_swapped_3 2 rfl ?_
  refine q_callVp X (c_X7_low hS) Y_X7_low tw_76 tw_77 tw_78 h1 rfl (by decide) rfl rfl (Nat.le_of_ble_eq_true rfl) dX7_swapped_4 ?_
  refine q_aload_n X dX7_swapped_7 0 rfl ?_
  refine q_iload_n X dX7_swapped_8 2 rfl ?_
  refine q_callVp X (c_X7_high hS) Y_X7_high tw_72 tw_73 tw_74 h1 rfl (by decide) rfl rfl (Nat.le_of_ble_eq_true rfl) dX7_swapped_9 ?_
  refine q_callV X (c_X7_ranged hS) Y_X7_ranged tw_906 tw_643 tw_644 h1 rfl (by decide) rfl rfl (Nat.le_of_ble_eq_true rfl) (rc' := 5) (rs' := 18) (by omega) (by omega) dX7_swapped_12 (fun v M' hp _ => ?_)
  obtain ⟨p, rfl, fp, hS1, hx1⟩ := hp
  obtain ⟨b1, c1, d1, sp1, k1, k2, k3, k4, k5, k6, k7, k8, k9⟩ := id hS1
  generalize M' = M1 at *
  have m_1 : M1 a = some (oB 7 [.int n, .ref b, .ref c, .ref sp.2.1, .ref d0, .int (sL lo hi 0 * sL lo hi 1 * sL lo hi 2)]) := ((hx1 _ _ h1).trans h1.symm).trans h1
  have m_2 : M1 b = some (aI G 3 lo) := ((hx1 _ _ h2).trans h2.symm).trans h2
  have m_3 : M1 c = some (aI G 3 hi) := ((hx1 _ _ h3).trans h3.symm).trans h3
  have hS := hS.ext hx1
  show qJ G F _ 3 M1 5 18 15 [(0, .ref a), (1, .int d), (2, .int e)] [.ref p]
  refine q_iload_n X dX7_swapped_15 2 rfl ?_
  refine q_aload_n X dX7_swapped_16 0 rfl ?_
  refine q_iload_n X dX7_swapped_17 1 rfl ?_
  refine q_callVp X (c_X7_low hS) Y_X7_low tw_76 tw_77 tw_78 m_1 rfl (by decide) rfl rfl (Nat.le_of_ble_eq_true rfl) dX7_swapped_18 ?_
  refine q_aload_n X dX7_swapped_21 0 rfl ?_
  refine q_iload_n X dX7_swapped_22 1 rfl ?_
  refine q_callVp X (c_X7_high hS) Y_X7_high tw_72 tw_73 tw_74 m_1 rfl (by decide) rfl rfl (Nat.le_of_ble_eq_true rfl) dX7_swapped_23 ?_
  refine q_callV X (c_X7_ranged hS1) Y_X7_ranged tw_906 tw_643 tw_644 k1 rfl (by decide) rfl rfl (Nat.le_of_ble_eq_true rfl) (rc' := 0) (rs' := 0) (by omega) (by omega) dX7_swapped_26 (fun v M' hp _ => ?_)
  obtain ⟨q, rfl, fq, hS2, hx2⟩ := hp
  show qJ G F _ 3 M' 0 0 29 [(0, .ref a), (1, .int d), (2, .int e)] [.ref q]
  exact q_aret X hr (Or.inl ⟨_, rfl⟩) dX7_swapped_29 (⟨q, rfl, hx1.none fq, hS2, hx1.trans hx2⟩)
