/-! GridVault$Cells: its making, its copying -/
theorem mxI_0 {N : Nat} (h : N < 2 ^ 31) : mxI (nI N) 0 = nI N := by unfold mxI; rw [if_neg (nI_pos h)]
theorem cw_div {N : Nat} (h : N ≤ 4096) : (nI N + 63) / 64 = nI ((N + 63) / 64) := by
  rw [show (63 : Int32) = nI 63 from rfl, nI_add, show (64 : Int32) = nI 64 from rfl, pk_div (by omega) (by decide) (by decide)]
theorem cells_none {G : gV} {M : gMem} {a na ma N : Nat} (h1 : M a = some (oB 1 [.ref na, .ref ma])) (h2 : M na = some (aJ G N (fun _ => 0))) (h3 : M ma = some (aJ G ((N + 63) / 64) (fun _ => 0))) (h4 : na ≠ ma) (h5 : N ≤ 4096) : isCells G M a na ma N (fun _ => none) := by
  have z : ∀ i, mkAt (fun _ => 0) i = false := fun i => by unfold mkAt; show (0 : Int64).toBitVec.getLsbD _ = false; rw [show (0 : Int64).toBitVec = 0#64 from rfl, BitVec.getLsbD_zero]
  exact ⟨_, _, h1, h2, h3, h4, h5, fun i _ => z i, (fun i v _ h => absurd h (fun h => by cases h)), fun i _ _ => z i, fun _ _ => rfl⟩

set_option maxRecDepth 20000 in
theorem c_X0_init {l : Launch} {G : gV} {M : gMem} {a N : Nat} (h1 : M a = some (oB 1 [.null, .null])) (hN : N ≤ 4096) : qC l G yX0_init cX0_init 3 none 2 2 (N + (N + 63) / 64) [.ref a, .int (nI N)] M (fun v M' => v = none ∧ ∃ na ma : Nat, isCells G M' a na ma N (fun _ => none) ∧ M na = none ∧ M ma = none ∧ ∀ q, q ≠ a → q ≠ na → q ≠ ma → M' q = M q) := by
  refine qC_of (by decide +kernel) (Nat.le_of_ble_eq_true rfl) (fun F hF X hr hn => ?_)
  subst hF
  have X : qX G F cX0_init 3 RX0 2 := X
  show qJ G F _ 3 M 2 (N + (N + 63) / 64) 0 [(0, .ref a), (1, .int (nI N))] []
  refine q_aload_n X dX0_init_0 0 rfl ?_
  refine q_obj X tw_121 tw_38 tw_39 (by decide) (Nat.le_of_ble_eq_true rfl) dX0_init_1 ?_
  refine q_iload_n X dX0_init_4 1 rfl ?_
  refine q_iconst (v := 0) X dX0_init_5 (by decide) ?_
  refine q_callSp X (c_J9_max_7cf53) Y_J9_max_7cf53 tw_122 tw_123 (by decide) rfl rfl (Nat.le_of_ble_eq_true rfl) dX0_init_6 ?_
  rw [mxI_0 (by omega)]
  refine q_istore_n (lv' := [(2, .int (nI N)), (0, .ref a), (1, .int (nI N))]) X dX0_init_9 (by decide) rfl ?_
  refine q_aload_n X dX0_init_10 1 rfl ?_
  refine q_iload_n X dX0_init_11 0 rfl ?_
  refine q_newJ X tw_132 N (rfl) (by omega) (rc' := 1) (rs' := (N + 63) / 64) (by omega) (by omega) dX0_init_12 (fun na fna => ?_)
  have n_1 : a ≠ na := g_nef h1 fna
  have m_2 : (mU M na (aJ G N (fun _ => 0))) a = some (oB 1 [.null, .null]) := (mU_n n_1).trans h1
  have m_3 : (mU M na (aJ G N (fun _ => 0))) na = some (aJ G N (fun _ => 0)) := mU_s
  refine q_putF X hn m_2 rfl in_RX0 tyX0 tyX0_ok nmX0 0 (by decide) tw_125 rfl rfl rfl rfl rfl rfl (Nat.le_of_ble_eq_true rfl) (fs1 := [.ref na, .null]) rfl dX0_init_14 ?_
  have m_4 : (mU (mU M na (aJ G N (fun _ => 0))) a (oB 1 [.ref na, .null])) a = some (oB 1 [.ref na, .null]) := mU_s
  have m_5 : (mU (mU M na (aJ G N (fun _ => 0))) a (oB 1 [.ref na, .null])) na = some (aJ G N (fun _ => 0)) := (mU_n (Ne.symm n_1)).trans m_3
  refine q_aload_n X dX0_init_17 1 rfl ?_
  refine q_iload_n X dX0_init_18 0 rfl ?_
  refine q_bipush (v := 63) X dX0_init_19 (by decide) ?_
  refine q_iadd X dX0_init_21 ?_
  refine q_bipush (v := 64) X dX0_init_22 (by decide) ?_
  refine q_idiv X dX0_init_24 (by decide) ?_
  refine q_newJ X tw_132 ((N + 63) / 64) (cw_div hN) (by omega) (rc' := 0) (rs' := 0) (by omega) (by omega) dX0_init_25 (fun ma fma => ?_)
  have n_6 : a ≠ ma := g_nef m_4 fma
  have m_7 : (mU (mU (mU M na (aJ G N (fun _ => 0))) a (oB 1 [.ref na, .null])) ma (aJ G ((N + 63) / 64) (fun _ => 0))) a = some (oB 1 [.ref na, .null]) := (mU_n n_6).trans m_4
  have n_8 : na ≠ ma := g_nef m_5 fma
  have m_9 : (mU (mU (mU M na (aJ G N (fun _ => 0))) a (oB 1 [.ref na, .null])) ma (aJ G ((N + 63) / 64) (fun _ => 0))) na = some (aJ G N (fun _ => 0)) := (mU_n n_8).trans m_5
  have m_10 : (mU (mU (mU M na (aJ G N (fun _ => 0))) a (oB 1 [.ref na, .null])) ma (aJ G ((N + 63) / 64) (fun _ => 0))) ma = some (aJ G ((N + 63) / 64) (fun _ => 0)) := mU_s
  refine q_putF X hn m_7 rfl in_RX0 tyX0 tyX0_ok nmX0 1 (by decide) tw_126 rfl rfl rfl rfl rfl rfl (Nat.le_of_ble_eq_true rfl) (fs1 := [.ref na, .ref ma]) rfl dX0_init_27 ?_
  have m_11 : (mU (mU (mU (mU M na (aJ G N (fun _ => 0))) a (oB 1 [.ref na, .null])) ma (aJ G ((N + 63) / 64) (fun _ => 0))) a (oB 1 [.ref na, .ref ma])) a = some (oB 1 [.ref na, .ref ma]) := mU_s
  have m_12 : (mU (mU (mU (mU M na (aJ G N (fun _ => 0))) a (oB 1 [.ref na, .null])) ma (aJ G ((N + 63) / 64) (fun _ => 0))) a (oB 1 [.ref na, .ref ma])) na = some (aJ G N (fun _ => 0)) := (mU_n (Ne.symm n_1)).trans m_9
  have m_13 : (mU (mU (mU (mU M na (aJ G N (fun _ => 0))) a (oB 1 [.ref na, .null])) ma (aJ G ((N + 63) / 64) (fun _ => 0))) a (oB 1 [.ref na, .ref ma])) ma = some (aJ G ((N + 63) / 64) (fun _ => 0)) := (mU_n (Ne.symm n_6)).trans m_10
  have Lma : M ma = none := by have h := fma; unfold mU at h; by_cases e1 : ma = a; (rw [if_pos e1] at h; cases h); rw [if_neg e1] at h; by_cases e2 : ma = na; (rw [if_pos e2] at h; cases h); rw [if_neg e2] at h; exact h
  exact q_vret X hr dX0_init_30 (⟨rfl, na, ma, cells_none m_11 m_12 m_13 (n_8) hN, fna, Lma, fun q q1 q2 q3 => by simp only [mU, q1, q2, q3, if_false]⟩)

set_option maxRecDepth 20000 in
theorem c_X0_copyFrom {l : Launch} {G : gV} {M : gMem} {a na ma b nb mb N : Nat} {f g : Nat → Option Int64} (hC : isCells G M a na ma N f) (hD : isCells G M b nb mb N g) (x1 : na ≠ mb) (x2 : ma ≠ nb) : qC l G yX0_copyFrom cX0_copyFrom 2 none 3 0 0 [.ref a, .ref b] M (cPost G M a na ma N g) := by
  refine qC_of (by decide +kernel) (Nat.le_of_ble_eq_true rfl) (fun F hF X hr hn => ?_)
  subst hF
  have X : qX G F cX0_copyFrom 2 RX0 3 := X
  obtain ⟨num, mk, h1, h2, h3, h4, h5, h6, h7, h8, h9⟩ := id hC
  obtain ⟨num2, mk2, i1, i2, i3, i4, i5, i6, i7, i8, i9⟩ := id hD
  show qJ G F _ 2 M 0 0 0 [(0, .ref a), (1, .ref b)] []
  refine q_aload_n X dX0_copyFrom_0 0 rfl ?_
  refine q_get X h1 rfl in_RX0 0 (by decide) tw_125 rfl rfl dX0_copyFrom_1 ?_
  refine q_alen X 1 h2 rfl dX0_copyFrom_4 ?_
  refine q_aload_n X dX0_copyFrom_5 1 rfl ?_
  refine q_get X i1 rfl in_RX0 0 (by decide) tw_125 rfl rfl dX0_copyFrom_6 ?_
  refine q_alen X 1 i2 rfl dX0_copyFrom_9 ?_
  refine q_icmp_ne X 49 dX0_copyFrom_10 (by decide) (fun c_1 => absurd rfl c_1) (fun c_1 => ?_)
  refine q_aload_n X dX0_copyFrom_13 1 rfl ?_
  refine q_get X i1 rfl in_RX0 0 (by decide) tw_125 rfl rfl dX0_copyFrom_14 ?_
  refine q_iconst (v := 0) X dX0_copyFrom_17 (by decide) ?_
  refine q_aload_n X dX0_copyFrom_18 0 rfl ?_
  refine q_get X h1 rfl in_RX0 0 (by decide) tw_125 rfl rfl dX0_copyFrom_19 ?_
  refine q_iconst (v := 0) X dX0_copyFrom_22 (by decide) ?_
  refine q_aload_n X dX0_copyFrom_23 0 rfl ?_
  refine q_get X h1 rfl in_RX0 0 (by decide) tw_125 rfl rfl dX0_copyFrom_24 ?_
  refine q_alen X 1 h2 rfl dX0_copyFrom_27 ?_
  refine q_copyJ X tw_517 tw_243 tw_242 tw_12 i2 h2 rfl (by omega) (by decide) (Nat.le_of_ble_eq_true rfl) dX0_copyFrom_28 ?_
  have m_2 : (mU M na (aJ G N num2)) a = some (oB 1 [.ref na, .ref ma]) := (mU_n (g_neoa h1 h2)).trans h1
  have m_3 : (mU M na (aJ G N num2)) na = some (aJ G N num2) := mU_s
  have m_4 : (mU M na (aJ G N num2)) ma = some (aJ G ((N + 63) / 64) mk) := (mU_n (Ne.symm (h4))).trans h3
  have m_5 : (mU M na (aJ G N num2)) b = some (oB 1 [.ref nb, .ref mb]) := (mU_n (g_neoa i1 h2)).trans i1
  have m_6 : (mU M na (aJ G N num2)) mb = some (aJ G ((N + 63) / 64) mk2) := (mU_n (x1.symm)).trans i3
  refine q_aload_n X dX0_copyFrom_31 1 rfl ?_
  refine q_get X m_5 rfl in_RX0 1 (by decide) tw_126 rfl rfl dX0_copyFrom_32 ?_
  refine q_iconst (v := 0) X dX0_copyFrom_35 (by decide) ?_
  refine q_aload_n X dX0_copyFrom_36 0 rfl ?_
  refine q_get X m_2 rfl in_RX0 1 (by decide) tw_126 rfl rfl dX0_copyFrom_37 ?_
  refine q_iconst (v := 0) X dX0_copyFrom_40 (by decide) ?_
  refine q_aload_n X dX0_copyFrom_41 0 rfl ?_
  refine q_get X m_2 rfl in_RX0 1 (by decide) tw_126 rfl rfl dX0_copyFrom_42 ?_
  refine q_alen X 1 m_4 rfl dX0_copyFrom_45 ?_
  refine q_copyJ X tw_517 tw_243 tw_242 tw_12 m_6 m_4 rfl (by omega) (by decide) (Nat.le_of_ble_eq_true rfl) dX0_copyFrom_46 ?_
  have m_7 : (mU (mU M na (aJ G N num2)) ma (aJ G ((N + 63) / 64) mk2)) a = some (oB 1 [.ref na, .ref ma]) := (mU_n (g_neoa h1 h3)).trans m_2
  have m_8 : (mU (mU M na (aJ G N num2)) ma (aJ G ((N + 63) / 64) mk2)) na = some (aJ G N num2) := (mU_n (h4)).trans m_3
  have m_9 : (mU (mU M na (aJ G N num2)) ma (aJ G ((N + 63) / 64) mk2)) ma = some (aJ G ((N + 63) / 64) mk2) := mU_s
  have m_10 : (mU (mU M na (aJ G N num2)) ma (aJ G ((N + 63) / 64) mk2)) b = some (oB 1 [.ref nb, .ref mb]) := (mU_n (g_neoa i1 h3)).trans m_5
  exact q_vret X hr dX0_copyFrom_49 (⟨rfl, ⟨num2, mk2, m_7, m_8, m_9, h4, h5, i6, i7, i8, i9⟩, fun q q1 q2 => (mU_n q2).trans (mU_n q1)⟩)
