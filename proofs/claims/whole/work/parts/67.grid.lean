/-! GridVaultModel$Grid -/
/-- a new grid, its places 0 -/
def gN0 (G : gV) (M : gMem) (q : Nat) (dims dp : Int32) (lo hi : Nat → Int32) (M' : gMem) : Prop := ∃ la ha : Nat, M la = none ∧ M ha = none ∧ la ≠ ha ∧ la ≠ q ∧ ha ≠ q ∧ M' q = some (oB 12 [.int dims, .int dp, .ref la, .ref ha, .null, .null]) ∧ M' la = some (aI G 3 lo) ∧ M' ha = some (aI G 3 hi) ∧ mEv (fun x => x = q) M M'
def gIn (lo hi : Nat → Int32) (x y z : Int32) : Int32 := if x < lo 0 then 0 else if hi 0 < x then 0 else if y < lo 1 then 0 else if hi 1 < y then 0 else if z < lo 2 then 0 else if hi 2 < z then 0 else 1
def gAt (lo hi : Nat → Int32) (x y z : Int32) : Int32 := ((x - lo 0) * sL lo hi 1 + y - lo 1) * sL lo hi 2 + z - lo 2

set_option maxRecDepth 20000 in
theorem c_X12_init {l : Launch} {G : gV} {M : gMem} {a : Nat} (hA : M a = some (oB 12 [.int 0, .int 0, .null, .null, .null, .null])) : qC l G yX12_init cX12_init 1 none 1 2 6 [.ref a] M (fun v M' => v = none ∧ gN0 G M a 0 0 (fun _ => 0) (fun _ => 0) M') := by
  refine qC_of (by decide +kernel) (Nat.le_of_ble_eq_true rfl) (fun F hF X hr hn => ?_)
  subst hF
  have X : qX G F cX12_init 1 RX12 1 := X
  show qJ G F _ 1 M 2 6 0 [(0, .ref a)] []
  refine q_aload_n X dX12_init_0 0 rfl ?_
  refine q_obj X tw_1155 tw_38 tw_39 (by decide) (Nat.le_of_ble_eq_true rfl) dX12_init_1 ?_
  refine q_aload_n X dX12_init_4 0 rfl ?_
  refine q_iconst (v := 3) X dX12_init_5 (by decide) ?_
  refine q_newI X tw_107 3 (rfl) (by decide) (rc' := 1) (rs' := 3) (by omega) (by omega) dX12_init_6 (fun la fla => ?_)
  have n_1 : a ≠ la := g_nef hA fla
  have m_2 : (mU M la (aI G 3 (fun _ => 0))) a = some (oB 12 [.int 0, .int 0, .null, .null, .null, .null]) := (mU_n n_1).trans hA
  have m_3 : (mU M la (aI G 3 (fun _ => 0))) la = some (aI G 3 (fun _ => 0)) := mU_s
  refine q_putF X hn m_2 rfl in_RX12 tyX12 tyX12_ok nmX12 2 (by decide) tw_1158 rfl rfl rfl rfl rfl rfl (Nat.le_of_ble_eq_true rfl) (fs1 := [.int 0, .int 0, .ref la, .null, .null, .null]) rfl dX12_init_8 ?_
  have m_4 : (mU (mU M la (aI G 3 (fun _ => 0))) a (oB 12 [.int 0, .int 0, .ref la, .null, .null, .null])) a = some (oB 12 [.int 0, .int 0, .ref la, .null, .null, .null]) := mU_s
  have m_5 : (mU (mU M la (aI G 3 (fun _ => 0))) a (oB 12 [.int 0, .int 0, .ref la, .null, .null, .null])) la = some (aI G 3 (fun _ => 0)) := (mU_n (Ne.symm n_1)).trans m_3
  refine q_aload_n X dX12_init_11 0 rfl ?_
  refine q_iconst (v := 3) X dX12_init_12 (by decide) ?_
  refine q_newI X tw_107 3 (rfl) (by decide) (rc' := 0) (rs' := 0) (by omega) (by omega) dX12_init_13 (fun ha fha => ?_)
  have n_6 : a ≠ ha := g_nef m_4 fha
  have m_7 : (mU (mU (mU M la (aI G 3 (fun _ => 0))) a (oB 12 [.int 0, .int 0, .ref la, .null, .null, .null])) ha (aI G 3 (fun _ => 0))) a = some (oB 12 [.int 0, .int 0, .ref la, .null, .null, .null]) := (mU_n n_6).trans m_4
  have n_8 : la ≠ ha := g_nef m_5 fha
  have m_9 : (mU (mU (mU M la (aI G 3 (fun _ => 0))) a (oB 12 [.int 0, .int 0, .ref la, .null, .null, .null])) ha (aI G 3 (fun _ => 0))) la = some (aI G 3 (fun _ => 0)) := (mU_n n_8).trans m_5
  have m_10 : (mU (mU (mU M la (aI G 3 (fun _ => 0))) a (oB 12 [.int 0, .int 0, .ref la, .null, .null, .null])) ha (aI G 3 (fun _ => 0))) ha = some (aI G 3 (fun _ => 0)) := mU_s
  refine q_putF X hn m_7 rfl in_RX12 tyX12 tyX12_ok nmX12 3 (by decide) tw_1160 rfl rfl rfl rfl rfl rfl (Nat.le_of_ble_eq_true rfl) (fs1 := [.int 0, .int 0, .ref la, .ref ha, .null, .null]) rfl dX12_init_15 ?_
  have m_11 : (mU (mU (mU (mU M la (aI G 3 (fun _ => 0))) a (oB 12 [.int 0, .int 0, .ref la, .null, .null, .null])) ha (aI G 3 (fun _ => 0))) a (oB 12 [.int 0, .int 0, .ref la, .ref ha, .null, .null])) a = some (oB 12 [.int 0, .int 0, .ref la, .ref ha, .null, .null]) := mU_s
  have m_12 : (mU (mU (mU (mU M la (aI G 3 (fun _ => 0))) a (oB 12 [.int 0, .int 0, .ref la, .null, .null, .null])) ha (aI G 3 (fun _ => 0))) a (oB 12 [.int 0, .int 0, .ref la, .ref ha, .null, .null])) la = some (aI G 3 (fun _ => 0)) := (mU_n (Ne.symm n_1)).trans m_9
  have m_13 : (mU (mU (mU (mU M la (aI G 3 (fun _ => 0))) a (oB 12 [.int 0, .int 0, .ref la, .null, .null, .null])) ha (aI G 3 (fun _ => 0))) a (oB 12 [.int 0, .int 0, .ref la, .ref ha, .null, .null])) ha = some (aI G 3 (fun _ => 0)) := (mU_n (Ne.symm n_6)).trans m_10
  have lq : la ≠ a := Ne.symm (g_nef hA fla)
  have evf : mEv (fun x => x = a) M (mU (mU (mU (mU M la (aI G 3 (fun _ => 0))) a (oB 12 [.int 0, .int 0, .ref la, .null, .null, .null])) ha (aI G 3 (fun _ => 0))) a (oB 12 [.int 0, .int 0, .ref la, .ref ha, .null, .null])) := mEv.trans (K := fun x => x = a) (mEv_new fla) (mEv.trans (K := fun x => x = a) (mEv_upd (K := fun x => x = a) rfl) (mEv.trans (K := fun x => x = a) (mEv_new fha) (mEv_upd (K := fun x => x = a) rfl)))
  have nha : M ha = none := (mEv.trans (K := fun x => x = a) (mEv_new fla) (mEv_upd (K := fun x => x = a) rfl)).none fha
  have hq : ha ≠ a := fun z => by rw [z, hA] at nha; cases nha
  have lha : la ≠ ha := fun z => by have := fha; rw [← z, mU_n lq, mU_s] at this; cases this
  exact q_vret X hr dX12_init_18 (⟨rfl, la, ha, fla, nha, lha, lq, hq, m_11, m_12, m_13, evf⟩)

set_option maxRecDepth 20000 in
theorem c_X12_size {l : Launch} {G : gV} {M : gMem} {a la ha : Nat} {w0 w1 w4 w5 : Value} {lo hi : Nat → Int32} (hA : M a = some (oB 12 [w0, w1, .ref la, .ref ha, w4, w5])) (h1 : M la = some (aI G 3 lo)) (h2 : M ha = some (aI G 3 hi)) (j : Nat) (hj : j < 3) {e : Int32} (he : e = nI j) : qC l G yX12_size cX12_size 2 (some .int) 1 0 0 [.ref a, .int e] M (pP (.int (sL lo hi j)) M) := by
  refine qC_of (by decide +kernel) (Nat.le_of_ble_eq_true rfl) (fun F hF X hr hn => ?_)
  subst hF
  have X : qX G F cX12_size 2 RX12 1 := X
  show qJ G F _ 2 M 0 0 0 [(0, .ref a), (1, .int e)] []
  refine q_aload_n X dX12_size_0 0 rfl ?_
  refine q_get X hA rfl in_RX12 3 (by decide) tw_1160 rfl rfl dX12_size_1 ?_
  refine q_iload_n X dX12_size_4 1 rfl ?_
  refine q_ialdN X j h2 (he) (hj) (by decide) dX12_size_5 ?_
  refine q_aload_n X dX12_size_6 0 rfl ?_
  refine q_get X hA rfl in_RX12 2 (by decide) tw_1158 rfl rfl dX12_size_7 ?_
  refine q_iload_n X dX12_size_10 1 rfl ?_
  refine q_ialdN X j h1 (he) (hj) (by decide) dX12_size_11 ?_
  refine q_isub X dX12_size_12 ?_
  refine q_iconst (v := 1) X dX12_size_13 (by decide) ?_
  refine q_iadd X dX12_size_14 ?_
  exact q_iret X hr dX12_size_15 (⟨rfl, rfl⟩)

set_option maxRecDepth 20000 in
theorem c_X12_cells {l : Launch} {G : gV} {M : gMem} {a la ha : Nat} {w0 w1 w4 w5 : Value} {lo hi : Nat → Int32} (hA : M a = some (oB 12 [w0, w1, .ref la, .ref ha, w4, w5])) (h1 : M la = some (aI G 3 lo)) (h2 : M ha = some (aI G 3 hi)) : qC l G yX12_cells cX12_cells 1 (some .int) 2 0 0 [.ref a] M (pP (.int (sL lo hi 0 * sL lo hi 1 * sL lo hi 2)) M) := by
  refine qC_of (by decide +kernel) (Nat.le_of_ble_eq_true rfl) (fun F hF X hr hn => ?_)
  subst hF
  have X : qX G F cX12_cells 1 RX12 2 := X
  show qJ G F _ 1 M 0 0 0 [(0, .ref a)] []
  refine q_aload_n X dX12_cells_0 0 rfl ?_
  refine q_iconst (v := 0) X dX12_cells_1 (by decide) ?_
  refine q_callVp X (c_X12_size hA h1 h2 0 (by decide) (by decide)) Y_X12_size tw_1187 tw_1188 tw_1189 hA rfl (by omega) rfl rfl (Nat.le_of_ble_eq_true rfl) dX12_cells_2 ?_
  refine q_aload_n X dX12_cells_5 0 rfl ?_
  refine q_iconst (v := 1) X dX12_cells_6 (by decide) ?_
  refine q_callVp X (c_X12_size hA h1 h2 1 (by decide) (by decide)) Y_X12_size tw_1187 tw_1188 tw_1189 hA rfl (by omega) rfl rfl (Nat.le_of_ble_eq_true rfl) dX12_cells_7 ?_
  refine q_imul X dX12_cells_10 ?_
  refine q_aload_n X dX12_cells_11 0 rfl ?_
  refine q_iconst (v := 2) X dX12_cells_12 (by decide) ?_
  refine q_callVp X (c_X12_size hA h1 h2 2 (by decide) (by decide)) Y_X12_size tw_1187 tw_1188 tw_1189 hA rfl (by omega) rfl rfl (Nat.le_of_ble_eq_true rfl) dX12_cells_13 ?_
  refine q_imul X dX12_cells_16 ?_
  exact q_iret X hr dX12_cells_17 (⟨rfl, rfl⟩)

set_option maxRecDepth 20000 in
theorem c_X12_in {l : Launch} {G : gV} {M : gMem} {a la ha : Nat} {w0 w1 w4 w5 : Value} {lo hi : Nat → Int32} (hA : M a = some (oB 12 [w0, w1, .ref la, .ref ha, w4, w5])) (h1 : M la = some (aI G 3 lo)) (h2 : M ha = some (aI G 3 hi)) {x y z : Int32} : qC l G yX12_in cX12_in 4 (some .boolean) 1 0 0 [.ref a, .int x, .int y, .int z] M (pP (.int (gIn lo hi x y z)) M) := by
  refine qC_of (by decide +kernel) (Nat.le_of_ble_eq_true rfl) (fun F hF X hr hn => ?_)
  subst hF
  have X : qX G F cX12_in 4 RX12 1 := X
  show qJ G F _ 4 M 0 0 0 [(0, .ref a), (1, .int x), (2, .int y), (3, .int z)] []
  refine q_iload_n X dX12_in_0 1 rfl ?_
  refine q_aload_n X dX12_in_1 0 rfl ?_
  refine q_get X hA rfl in_RX12 2 (by decide) tw_1158 rfl rfl dX12_in_2 ?_
  refine q_iconst (v := 0) X dX12_in_5 (by decide) ?_
  refine q_ialdN X 0 h1 (rfl) (by decide) (by decide) dX12_in_6 ?_
  refine q_icmp_lt X 64 dX12_in_7 (by decide) (fun c_1 => ?_) (fun c_1 => ?_)
  · refine q_iconst (v := 0) X dX12_in_64 (by decide) ?_
    exact q_zret X hr (by decide) dX12_in_65 (⟨congrArg (fun z => some (Value.int z)) (by unfold gIn; simp only [*, if_true, if_false, not_true, not_false_eq_true]), rfl⟩)
  · refine q_iload_n X dX12_in_10 1 rfl ?_
    refine q_aload_n X dX12_in_11 0 rfl ?_
    refine q_get X hA rfl in_RX12 3 (by decide) tw_1160 rfl rfl dX12_in_12 ?_
    refine q_iconst (v := 0) X dX12_in_15 (by decide) ?_
    refine q_ialdN X 0 h2 (rfl) (by decide) (by decide) dX12_in_16 ?_
    refine q_icmp_gt X 64 dX12_in_17 (by decide) (fun c_2 => ?_) (fun c_2 => ?_)
    · refine q_iconst (v := 0) X dX12_in_64 (by decide) ?_
      exact q_zret X hr (by decide) dX12_in_65 (⟨congrArg (fun z => some (Value.int z)) (by unfold gIn; simp only [*, if_true, if_false, not_true, not_false_eq_true]), rfl⟩)
    · refine q_iload_n X dX12_in_20 2 rfl ?_
      refine q_aload_n X dX12_in_21 0 rfl ?_
      refine q_get X hA rfl in_RX12 2 (by decide) tw_1158 rfl rfl dX12_in_22 ?_
      refine q_iconst (v := 1) X dX12_in_25 (by decide) ?_
      refine q_ialdN X 1 h1 (rfl) (by decide) (by decide) dX12_in_26 ?_
      refine q_icmp_lt X 64 dX12_in_27 (by decide) (fun c_3 => ?_) (fun c_3 => ?_)
      · refine q_iconst (v := 0) X dX12_in_64 (by decide) ?_
        exact q_zret X hr (by decide) dX12_in_65 (⟨congrArg (fun z => some (Value.int z)) (by unfold gIn; simp only [*, if_true, if_false, not_true, not_false_eq_true]), rfl⟩)
      · refine q_iload_n X dX12_in_30 2 rfl ?_
        refine q_aload_n X dX12_in_31 0 rfl ?_
        refine q_get X hA rfl in_RX12 3 (by decide) tw_1160 rfl rfl dX12_in_32 ?_
        refine q_iconst (v := 1) X dX12_in_35 (by decide) ?_
        refine q_ialdN X 1 h2 (rfl) (by decide) (by decide) dX12_in_36 ?_
        refine q_icmp_gt X 64 dX12_in_37 (by decide) (fun c_4 => ?_) (fun c_4 => ?_)
        · refine q_iconst (v := 0) X dX12_in_64 (by decide) ?_
          exact q_zret X hr (by decide) dX12_in_65 (⟨congrArg (fun z => some (Value.int z)) (by unfold gIn; simp only [*, if_true, if_false, not_true, not_false_eq_true]), rfl⟩)
        · refine q_iload_n X dX12_in_40 3 rfl ?_
          refine q_aload_n X dX12_in_41 0 rfl ?_
          refine q_get X hA rfl in_RX12 2 (by decide) tw_1158 rfl rfl dX12_in_42 ?_
          refine q_iconst (v := 2) X dX12_in_45 (by decide) ?_
          refine q_ialdN X 2 h1 (rfl) (by decide) (by decide) dX12_in_46 ?_
          refine q_icmp_lt X 64 dX12_in_47 (by decide) (fun c_5 => ?_) (fun c_5 => ?_)
          · refine q_iconst (v := 0) X dX12_in_64 (by decide) ?_
            exact q_zret X hr (by decide) dX12_in_65 (⟨congrArg (fun z => some (Value.int z)) (by unfold gIn; simp only [*, if_true, if_false, not_true, not_false_eq_true]), rfl⟩)
          · refine q_iload_n X dX12_in_50 3 rfl ?_
            refine q_aload_n X dX12_in_51 0 rfl ?_
            refine q_get X hA rfl in_RX12 3 (by decide) tw_1160 rfl rfl dX12_in_52 ?_
            refine q_iconst (v := 2) X dX12_in_55 (by decide) ?_
            refine q_ialdN X 2 h2 (rfl) (by decide) (by decide) dX12_in_56 ?_
            refine q_icmp_gt X 64 dX12_in_57 (by decide) (fun c_6 => ?_) (fun c_6 => ?_)
            · refine q_iconst (v := 0) X dX12_in_64 (by decide) ?_
              exact q_zret X hr (by decide) dX12_in_65 (⟨congrArg (fun z => some (Value.int z)) (by unfold gIn; simp only [*, if_true, if_false, not_true, not_false_eq_true]), rfl⟩)
            · refine q_iconst (v := 1) X dX12_in_60 (by decide) ?_
              refine q_goto X 65 dX12_in_61 (by decide) ?_
              exact q_zret X hr (by decide) dX12_in_65 (⟨congrArg (fun z => some (Value.int z)) (by unfold gIn; simp only [*, if_true, if_false, not_true, not_false_eq_true]), rfl⟩)

set_option maxRecDepth 20000 in
theorem c_X12_at {l : Launch} {G : gV} {M : gMem} {a la ha : Nat} {w0 w1 w4 w5 : Value} {lo hi : Nat → Int32} (hA : M a = some (oB 12 [w0, w1, .ref la, .ref ha, w4, w5])) (h1 : M la = some (aI G 3 lo)) (h2 : M ha = some (aI G 3 hi)) {x y z : Int32} : qC l G yX12_at cX12_at 4 (some .int) 2 0 0 [.ref a, .int x, .int y, .int z] M (pP (.int (gAt lo hi x y z)) M) := by
  refine qC_of (by decide +kernel) (Nat.le_of_ble_eq_true rfl) (fun F hF X hr hn => ?_)
  subst hF
  have X : qX G F cX12_at 4 RX12 2 := X
  show qJ G F _ 4 M 0 0 0 [(0, .ref a), (1, .int x), (2, .int y), (3, .int z)] []
  refine q_iload_n X dX12_at_0 1 rfl ?_
  refine q_aload_n X dX12_at_1 0 rfl ?_
  refine q_get X hA rfl in_RX12 2 (by decide) tw_1158 rfl rfl dX12_at_2 ?_
  refine q_iconst (v := 0) X dX12_at_5 (by decide) ?_
  refine q_ialdN X 0 h1 (rfl) (by decide) (by decide) dX12_at_6 ?_
  refine q_isub X dX12_at_7 ?_
  refine q_aload_n X dX12_at_8 0 rfl ?_
  refine q_iconst (v := 1) X dX12_at_9 (by decide) ?_
  refine q_callVp X (c_X12_size hA h1 h2 1 (by decide) (by decide)) Y_X12_size tw_1187 tw_1188 tw_1189 hA rfl (by omega) rfl rfl (Nat.le_of_ble_eq_true rfl) dX12_at_10 ?_
  refine q_imul X dX12_at_13 ?_
  refine q_iload_n X dX12_at_14 2 rfl ?_
  refine q_iadd X dX12_at_15 ?_
  refine q_aload_n X dX12_at_16 0 rfl ?_
  refine q_get X hA rfl in_RX12 2 (by decide) tw_1158 rfl rfl dX12_at_17 ?_
  refine q_iconst (v := 1) X dX12_at_20 (by decide) ?_
  refine q_ialdN X 1 h1 (rfl) (by decide) (by decide) dX12_at_21 ?_
  refine q_isub X dX12_at_22 ?_
  refine q_aload_n X dX12_at_23 0 rfl ?_
  refine q_iconst (v := 2) X dX12_at_24 (by decide) ?_
  refine q_callVp X (c_X12_size hA h1 h2 2 (by decide) (by decide)) Y_X12_size tw_1187 tw_1188 tw_1189 hA rfl (by omega) rfl rfl (Nat.le_of_ble_eq_true rfl) dX12_at_25 ?_
  refine q_imul X dX12_at_28 ?_
  refine q_iload_n X dX12_at_29 3 rfl ?_
  refine q_iadd X dX12_at_30 ?_
  refine q_aload_n X dX12_at_31 0 rfl ?_
  refine q_get X hA rfl in_RX12 2 (by decide) tw_1158 rfl rfl dX12_at_32 ?_
  refine q_iconst (v := 2) X dX12_at_35 (by decide) ?_
  refine q_ialdN X 2 h1 (rfl) (by decide) (by decide) dX12_at_36 ?_
  refine q_isub X dX12_at_37 ?_
  exact q_iret X hr dX12_at_38 (⟨rfl, rfl⟩)

/-- a grid gets its rows -/
def mkP (G : gV) (M : gMem) (a la ha : Nat) (w0 w1 : Value) (n : Nat) : Option Value → gMem → Prop := fun v M' => v = none ∧ ∃ va za : Nat, M va = none ∧ M za = none ∧ va ≠ za ∧ M' a = some (oB 12 [w0, w1, .ref la, .ref ha, .ref va, .ref za]) ∧ M' va = some (aJ G n (fun _ => 0)) ∧ M' za = some (aZ G n (fun _ => 0)) ∧ mEv (fun x => x = a) M M'

set_option maxRecDepth 20000 in
theorem c_X12_make {l : Launch} {G : gV} {M : gMem} {a la ha : Nat} {w0 w1 w4 w5 : Value} {lo hi : Nat → Int32} (hA : M a = some (oB 12 [w0, w1, .ref la, .ref ha, w4, w5])) (h1 : M la = some (aI G 3 lo)) (h2 : M ha = some (aI G 3 hi)) {n : Nat} (hn9 : sL lo hi 0 * sL lo hi 1 * sL lo hi 2 = nI n) (hN : n ≤ 4096) : qC l G yX12_make cX12_make 1 none 3 2 (2 * n) [.ref a] M (mkP G M a la ha w0 w1 n) := by
  refine qC_of (by decide +kernel) (Nat.le_of_ble_eq_true rfl) (fun F hF X hr hn => ?_)
  subst hF
  have X : qX G F cX12_make 1 RX12 3 := X
  show qJ G F _ 1 M 2 (2 * n) 0 [(0, .ref a)] []
  refine q_aload_n X dX12_make_0 0 rfl ?_
  refine q_aload_n X dX12_make_1 0 rfl ?_
  refine q_callVp X (c_X12_cells hA h1 h2) Y_X12_cells tw_1183 tw_1184 tw_1185 hA rfl (by omega) rfl rfl (Nat.le_of_ble_eq_true rfl) dX12_make_2 ?_
  rw [hn9]
  refine q_newJ X tw_132 n (rfl) (by omega) (rc' := 1) (rs' := n) (by omega) (by omega) dX12_make_5 (fun va fva => ?_)
  have n_1 : a ≠ va := g_nef hA fva
  have m_2 : (mU M va (aJ G n (fun _ => 0))) a = some (oB 12 [w0, w1, .ref la, .ref ha, w4, w5]) := (mU_n n_1).trans hA
  have n_3 : la ≠ va := g_nef h1 fva
  have m_4 : (mU M va (aJ G n (fun _ => 0))) la = some (aI G 3 lo) := (mU_n n_3).trans h1
  have n_5 : ha ≠ va := g_nef h2 fva
  have m_6 : (mU M va (aJ G n (fun _ => 0))) ha = some (aI G 3 hi) := (mU_n n_5).trans h2
  have m_7 : (mU M va (aJ G n (fun _ => 0))) va = some (aJ G n (fun _ => 0)) := mU_s
  refine q_put X m_2 rfl in_RX12 tyX12 tyX12_ok nmX12 4 (by decide) tw_1162 rfl rfl rfl rfl rfl (Nat.le_of_ble_eq_true rfl) (fs1 := [w0, w1, .ref la, .ref ha, .ref va, w5]) rfl dX12_make_7 ?_
  have m_8 : (mU (mU M va (aJ G n (fun _ => 0))) a (oB 12 [w0, w1, .ref la, .ref ha, .ref va, w5])) a = some (oB 12 [w0, w1, .ref la, .ref ha, .ref va, w5]) := mU_s
  have m_9 : (mU (mU M va (aJ G n (fun _ => 0))) a (oB 12 [w0, w1, .ref la, .ref ha, .ref va, w5])) la = some (aI G 3 lo) := (mU_n (Ne.symm (g_neoa m_2 m_4))).trans m_4
  have m_10 : (mU (mU M va (aJ G n (fun _ => 0))) a (oB 12 [w0, w1, .ref la, .ref ha, .ref va, w5])) ha = some (aI G 3 hi) := (mU_n (Ne.symm (g_neoa m_2 m_6))).trans m_6
  have m_11 : (mU (mU M va (aJ G n (fun _ => 0))) a (oB 12 [w0, w1, .ref la, .ref ha, .ref va, w5])) va = some (aJ G n (fun _ => 0)) := (mU_n (Ne.symm n_1)).trans m_7
  refine q_aload_n X dX12_make_10 0 rfl ?_
  refine q_aload_n X dX12_make_11 0 rfl ?_
  refine q_callVp X (c_X12_cells m_8 m_9 m_10) Y_X12_cells tw_1183 tw_1184 tw_1185 m_8 rfl (by omega) rfl rfl (Nat.le_of_ble_eq_true rfl) dX12_make_12 ?_
  rw [hn9]
  refine q_newZ X tw_1237 n (rfl) (by omega) (rc' := 0) (rs' := 0) (by omega) (by omega) dX12_make_15 (fun za fza => ?_)
  have n_12 : a ≠ za := g_nef m_8 fza
  have m_13 : (mU (mU (mU M va (aJ G n (fun _ => 0))) a (oB 12 [w0, w1, .ref la, .ref ha, .ref va, w5])) za (aZ G n (fun _ => 0))) a = some (oB 12 [w0, w1, .ref la, .ref ha, .ref va, w5]) := (mU_n n_12).trans m_8
  have n_14 : la ≠ za := g_nef m_9 fza
  have m_15 : (mU (mU (mU M va (aJ G n (fun _ => 0))) a (oB 12 [w0, w1, .ref la, .ref ha, .ref va, w5])) za (aZ G n (fun _ => 0))) la = some (aI G 3 lo) := (mU_n n_14).trans m_9
  have n_16 : ha ≠ za := g_nef m_10 fza
  have m_17 : (mU (mU (mU M va (aJ G n (fun _ => 0))) a (oB 12 [w0, w1, .ref la, .ref ha, .ref va, w5])) za (aZ G n (fun _ => 0))) ha = some (aI G 3 hi) := (mU_n n_16).trans m_10
  have n_18 : va ≠ za := g_nef m_11 fza
  have m_19 : (mU (mU (mU M va (aJ G n (fun _ => 0))) a (oB 12 [w0, w1, .ref la, .ref ha, .ref va, w5])) za (aZ G n (fun _ => 0))) va = some (aJ G n (fun _ => 0)) := (mU_n n_18).trans m_11
  have m_20 : (mU (mU (mU M va (aJ G n (fun _ => 0))) a (oB 12 [w0, w1, .ref la, .ref ha, .ref va, w5])) za (aZ G n (fun _ => 0))) za = some (aZ G n (fun _ => 0)) := mU_s
  refine q_put X m_13 rfl in_RX12 tyX12 tyX12_ok nmX12 5 (by decide) tw_1164 rfl rfl rfl rfl rfl (Nat.le_of_ble_eq_true rfl) (fs1 := [w0, w1, .ref la, .ref ha, .ref va, .ref za]) rfl dX12_make_17 ?_
  have m_21 : (mU (mU (mU (mU M va (aJ G n (fun _ => 0))) a (oB 12 [w0, w1, .ref la, .ref ha, .ref va, w5])) za (aZ G n (fun _ => 0))) a (oB 12 [w0, w1, .ref la, .ref ha, .ref va, .ref za])) a = some (oB 12 [w0, w1, .ref la, .ref ha, .ref va, .ref za]) := mU_s
  have m_22 : (mU (mU (mU (mU M va (aJ G n (fun _ => 0))) a (oB 12 [w0, w1, .ref la, .ref ha, .ref va, w5])) za (aZ G n (fun _ => 0))) a (oB 12 [w0, w1, .ref la, .ref ha, .ref va, .ref za])) la = some (aI G 3 lo) := (mU_n (Ne.symm (g_neoa m_13 m_15))).trans m_15
  have m_23 : (mU (mU (mU (mU M va (aJ G n (fun _ => 0))) a (oB 12 [w0, w1, .ref la, .ref ha, .ref va, w5])) za (aZ G n (fun _ => 0))) a (oB 12 [w0, w1, .ref la, .ref ha, .ref va, .ref za])) ha = some (aI G 3 hi) := (mU_n (Ne.symm (g_neoa m_13 m_17))).trans m_17
  have m_24 : (mU (mU (mU (mU M va (aJ G n (fun _ => 0))) a (oB 12 [w0, w1, .ref la, .ref ha, .ref va, w5])) za (aZ G n (fun _ => 0))) a (oB 12 [w0, w1, .ref la, .ref ha, .ref va, .ref za])) va = some (aJ G n (fun _ => 0)) := (mU_n (Ne.symm n_1)).trans m_19
  have m_25 : (mU (mU (mU (mU M va (aJ G n (fun _ => 0))) a (oB 12 [w0, w1, .ref la, .ref ha, .ref va, w5])) za (aZ G n (fun _ => 0))) a (oB 12 [w0, w1, .ref la, .ref ha, .ref va, .ref za])) za = some (aZ G n (fun _ => 0)) := (mU_n (Ne.symm n_12)).trans m_20
  have evf : mEv (fun x => x = a) M (mU (mU (mU (mU M va (aJ G n (fun _ => 0))) a (oB 12 [w0, w1, .ref la, .ref ha, .ref va, w5])) za (aZ G n (fun _ => 0))) a (oB 12 [w0, w1, .ref la, .ref ha, .ref va, .ref za])) := mEv.trans (K := fun x => x = a) (mEv_new fva) (mEv.trans (K := fun x => x = a) (mEv_upd (K := fun x => x = a) rfl) (mEv.trans (K := fun x => x = a) (mEv_new fza) (mEv_upd (K := fun x => x = a) rfl)))
  have nza : M za = none := (mEv.trans (K := fun x => x = a) (mEv_new fva) (mEv_upd (K := fun x => x = a) rfl)).none fza
  have vq : va ≠ a := Ne.symm (g_nef hA fva)
  have lha : va ≠ za := fun z => by have := fza; rw [← z, mU_n vq, mU_s] at this; cases this
  exact q_vret X hr dX12_make_20 (⟨rfl, va, za, fva, nza, lha, m_21, m_24, m_25, evf⟩)

set_option maxRecDepth 20000 in
theorem c_X12_filled {l : Launch} {G : gV} {M : gMem} {a za n : Nat} {w0 w1 w2 w3 w4 : Value} {zf : Nat → Int32} {b : Nat → Bool} (hA : M a = some (oB 12 [w0, w1, w2, w3, w4, .ref za])) (h1 : M za = some (aZ G n zf)) (hb : ∀ i, i < n → zf i = bI (b i)) (hn9 : n ≤ 4096) : qC l G yX12_filled cX12_filled 3 (some .int) 1 0 0 [.ref a] M (pP (.int (nI (cntB b n))) M) := by
  refine qC_of (by decide +kernel) (Nat.le_of_ble_eq_true rfl) (fun F hF X hr hn => ?_)
  subst hF
  have X : qX G F cX12_filled 3 RX12 1 := X
  have hfin : qJ G F (qQ G F (pP (.int (nI (cntB b n))) M)) 3 M 0 0 31 [(0, .ref a), (1, .int (nI (cntB b n)))] [] := by
    refine q_iload_n X dX12_filled_31 1 rfl ?_
    exact q_iret X hr dX12_filled_32 ⟨rfl, rfl⟩
  have L0 : ∀ (kk : qJ G F (qQ G F (pP (.int (nI (cntB b n))) M)) 3 M 0 0 31 [(0, .ref a), (1, .int (nI (cntB b n)))] []) (t t9 : Nat), t9 + t = n → qJ G F (qQ G F (pP (.int (nI (cntB b n))) M)) 3 M 0 0 4 [(0, .ref a), (1, .int (nI (cntB b t9))), (2, .int (nI t9))] [] := by
    intro  kk t
    induction t with
    | zero =>
      intro t9 ht90
      obtain rfl : t9 = n := by omega
      refine q_iload_n X dX12_filled_4 2 rfl ?_
      refine q_aload_n X dX12_filled_5 0 rfl ?_
      refine q_get X hA rfl in_RX12 5 (by decide) tw_1164 rfl rfl dX12_filled_6 ?_
      refine q_alen X 2 h1 rfl dX12_filled_9 ?_
      refine q_icmp_ge X 31 dX12_filled_10 (by decide) (fun c_1 => ?_) (fun c_1 => absurd (Int32.le_refl _) c_1)
      refine q_sub [0, 1] rfl ?_
      exact kk
    | succ t ih =>
      intro t9 ht90
      have ht9 : t9 < n := by omega
      refine q_iload_n X dX12_filled_4 2 rfl ?_
      refine q_aload_n X dX12_filled_5 0 rfl ?_
      refine q_get X hA rfl in_RX12 5 (by decide) tw_1164 rfl rfl dX12_filled_6 ?_
      refine q_alen X 2 h1 rfl dX12_filled_9 ?_
      refine q_icmp_ge X 31 dX12_filled_10 (by decide) (fun c_2 => absurd c_2 (nI_ge ht9 (by omega))) (fun c_2 => ?_)
      refine q_aload_n X dX12_filled_13 0 rfl ?_
      refine q_get X hA rfl in_RX12 5 (by decide) tw_1164 rfl rfl dX12_filled_14 ?_
      refine q_iload_n X dX12_filled_17 2 rfl ?_
      refine q_zaldN X t9 h1 (rfl) (ht9) (by omega) dX12_filled_18 ?_
      refine q_if_eq X 25 dX12_filled_19 (by decide) (fun k1 => ?_) (fun k1 => ?_)
      · refine q_iinc (v := (nI (t9 + 1))) (lv' := [(2, .int (nI (t9 + 1))), (0, .ref a), (1, .int (nI (cntB b t9)))]) X dX12_filled_25 2 rfl (nI_1 t9) (by decide) rfl ?_
        refine q_goto X 4 dX12_filled_28 (by decide) ?_
        refine q_sub [1, 2, 0] rfl ?_
        have G5 := ih (t9 + 1) (by omega)
        rw [cntB_n (bI_fl (by rw [← hb t9 ht9]; exact k1))] at G5
        exact G5
      · refine q_iinc (v := (nI (cntB b t9 + 1))) (lv' := [(1, .int (nI (cntB b t9 + 1))), (0, .ref a), (2, .int (nI t9))]) X dX12_filled_22 1 rfl (nI_1 _) (by decide) rfl ?_
        refine q_iinc (v := (nI (t9 + 1))) (lv' := [(2, .int (nI (t9 + 1))), (1, .int (nI (cntB b t9 + 1))), (0, .ref a)]) X dX12_filled_25 2 rfl (nI_1 t9) (by decide) rfl ?_
        refine q_goto X 4 dX12_filled_28 (by decide) ?_
        refine q_sub [2, 1, 0] rfl ?_
        have G5 := ih (t9 + 1) (by omega)
        rw [cntB_s (bI_ne (by rw [← hb t9 ht9]; exact k1))] at G5
        exact G5
  refine q_iconst (v := 0) X dX12_filled_0 (by decide) ?_
  refine q_istore_n (lv' := [(1, .int 0), (0, .ref a)]) X dX12_filled_1 (by decide) rfl ?_
  refine q_iconst (v := 0) X dX12_filled_2 (by decide) ?_
  refine q_istore_n (lv' := [(2, .int 0), (1, .int 0), (0, .ref a)]) X dX12_filled_3 (by decide) rfl ?_
  refine q_sub [2, 1, 0] rfl ?_
  exact L0 hfin n 0 (by omega)
