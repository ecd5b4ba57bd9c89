/-! grids made out of grids -/
def lkP (G : gV) (M : gMem) (dims dp : Int32) (lo hi : Nat → Int32) : Option Value → gMem → Prop := fun v M' => ∃ q la ha : Nat, v = some (.ref q) ∧ M q = none ∧ M la = none ∧ M ha = none ∧ la ≠ ha ∧ la ≠ q ∧ ha ≠ q ∧ M' q = some (oB 12 [.int dims, .int dp, .ref la, .ref ha, .null, .null]) ∧ M' la = some (aI G 3 lo) ∧ M' ha = some (aI G 3 hi) ∧ mEv (fun _ => False) M M'

set_option maxRecDepth 20000 in
theorem c_like {l : Launch} {G : gV} {M : gMem} {a la0 ha0 : Nat} {w1 w4 w5 : Value} {dm dp : Int32} {lo hi : Nat → Int32} (hA : M a = some (oB 12 [.int dm, w1, .ref la0, .ref ha0, w4, w5])) (h1 : M la0 = some (aI G 3 lo)) (h2 : M ha0 = some (aI G 3 hi)) : qC l G yX13_like cX13_like 4 (some (.object "GridVaultModel$Grid")) 2 3 12 [.ref a, .int dp] M (lkP G M dm dp lo hi) := by
  refine qC_of (by decide +kernel) (Nat.le_of_ble_eq_true rfl) (fun F hF X hr hn => ?_)
  subst hF
  have X : qX G F cX13_like 4 RX13 2 := X
  show qJ G F _ 4 M 3 12 0 [(0, .ref a), (1, .int dp)] []
  refine q_new X (ci := 12) rfl in_RX12 tyX12 tyX12_ok tw_1145 tw_1151 tw_15 (fs0 := [.int 0, .int 0, .null, .null, .null, .null]) (fun j hj => by rcases (show j = 0 ∨ j = 1 ∨ j = 2 ∨ j = 3 ∨ j = 4 ∨ j = 5 by omega) with rfl | rfl | rfl | rfl | rfl | rfl <;> rfl) (rc' := 2) (rs' := 6) (by omega) (by omega) dX13_like_0 (fun q fq => ?_)
  have n_1 : a ≠ q := g_nef hA fq
  have m_2 : (mU M q (oB 12 [.int 0, .int 0, .null, .null, .null, .null])) a = some (oB 12 [.int dm, w1, .ref la0, .ref ha0, w4, w5]) := (mU_n n_1).trans hA
  have n_3 : la0 ≠ q := g_nef h1 fq
  have m_4 : (mU M q (oB 12 [.int 0, .int 0, .null, .null, .null, .null])) la0 = some (aI G 3 lo) := (mU_n n_3).trans h1
  have n_5 : ha0 ≠ q := g_nef h2 fq
  have m_6 : (mU M q (oB 12 [.int 0, .int 0, .null, .null, .null, .null])) ha0 = some (aI G 3 hi) := (mU_n n_5).trans h2
  have m_7 : (mU M q (oB 12 [.int 0, .int 0, .null, .null, .null, .null])) q = some (oB 12 [.int 0, .int 0, .null, .null, .null, .null]) := mU_s
  have n9a : ¬ a = q := g_nef hA fq
  have n9la0 : ¬ la0 = q := g_nef h1 fq
  have n9ha0 : ¬ ha0 = q := g_nef h2 fq
  refine q_dup X dX13_like_3 rfl ?_
  refine q_callIN X (c_X12_init mU_s) Y_X12_init tn_1152 tw_1153 rfl (by omega) rfl rfl (Nat.le_of_ble_eq_true rfl) (rc' := 0) (rs' := 0) (by omega) (by omega) dX13_like_4 (fun v M' hp _ => ?_)
  obtain ⟨rfl, la, ha, nla, nha, llaha, llaq, lhaq, hq, hla, hha, eq⟩ := hp
  generalize M' = M108 at *
  have m_9 : M108 a = some (oB 12 [.int dm, w1, .ref la0, .ref ha0, w4, w5]) := eq.keep m_2 n9a
  have m_10 : M108 la0 = some (aI G 3 lo) := eq.keep m_4 n9la0
  have m_11 : M108 ha0 = some (aI G 3 hi) := eq.keep m_6 n9ha0
  show qJ G F _ 4 M108 0 0 7 [(0, .ref a), (1, .int dp)] [.ref q]
  have fq9 := fq
  have nla9 : M la = none := (mEv_new (K := fun _ => False) fq).none nla
  have nha9 : M ha = none := (mEv_new (K := fun _ => False) fq).none nha
  refine q_astore_n (lv' := [(2, .ref q), (0, .ref a), (1, .int dp)]) X dX13_like_7 (by decide) rfl ?_
  refine q_aload_n X dX13_like_8 0 rfl ?_
  refine q_aload_n X dX13_like_9 1 rfl ?_
  refine q_get X m_9 rfl in_RX12 0 (by decide) tw_1156 rfl rfl dX13_like_10 ?_
  refine q_put X hq rfl in_RX12 tyX12 tyX12_ok nmX12 0 (by decide) tw_1156 rfl rfl rfl rfl rfl (Nat.le_of_ble_eq_true rfl) (fs1 := [.int dm, .int 0, .ref la, .ref ha, .null, .null]) rfl dX13_like_13 ?_
  have m_12 : (mU M108 q (oB 12 [.int dm, .int 0, .ref la, .ref ha, .null, .null])) a = some (oB 12 [.int dm, w1, .ref la0, .ref ha0, w4, w5]) := (mU_n (n_1)).trans m_9
  have m_13 : (mU M108 q (oB 12 [.int dm, .int 0, .ref la, .ref ha, .null, .null])) la0 = some (aI G 3 lo) := (mU_n (n_3)).trans m_10
  have m_14 : (mU M108 q (oB 12 [.int dm, .int 0, .ref la, .ref ha, .null, .null])) ha0 = some (aI G 3 hi) := (mU_n (n_5)).trans m_11
  have m_15 : (mU M108 q (oB 12 [.int dm, .int 0, .ref la, .ref ha, .null, .null])) q = some (oB 12 [.int dm, .int 0, .ref la, .ref ha, .null, .null]) := mU_s
  have m_16 : (mU M108 q (oB 12 [.int dm, .int 0, .ref la, .ref ha, .null, .null])) la = some (aI G 3 (fun _ => 0)) := (mU_n (Ne.symm (g_neoa hq hla))).trans hla
  have m_17 : (mU M108 q (oB 12 [.int dm, .int 0, .ref la, .ref ha, .null, .null])) ha = some (aI G 3 (fun _ => 0)) := (mU_n (Ne.symm (g_neoa hq hha))).trans hha
  refine q_aload_n X dX13_like_16 0 rfl ?_
  refine q_iload_n X dX13_like_17 2 rfl ?_
  refine q_put X m_15 rfl in_RX12 tyX12 tyX12_ok nmX12 1 (by decide) tw_1157 rfl rfl rfl rfl rfl (Nat.le_of_ble_eq_true rfl) (fs1 := [.int dm, .int dp, .ref la, .ref ha, .null, .null]) rfl dX13_like_18 ?_
  have m_18 : (mU (mU M108 q (oB 12 [.int dm, .int 0, .ref la, .ref ha, .null, .null])) q (oB 12 [.int dm, .int dp, .ref la, .ref ha, .null, .null])) a = some (oB 12 [.int dm, w1, .ref la0, .ref ha0, w4, w5]) := (mU_n (n_1)).trans m_12
  have m_19 : (mU (mU M108 q (oB 12 [.int dm, .int 0, .ref la, .ref ha, .null, .null])) q (oB 12 [.int dm, .int dp, .ref la, .ref ha, .null, .null])) la0 = some (aI G 3 lo) := (mU_n (n_3)).trans m_13
  have m_20 : (mU (mU M108 q (oB 12 [.int dm, .int 0, .ref la, .ref ha, .null, .null])) q (oB 12 [.int dm, .int dp, .ref la, .ref ha, .null, .null])) ha0 = some (aI G 3 hi) := (mU_n (n_5)).trans m_14
  have m_21 : (mU (mU M108 q (oB 12 [.int dm, .int 0, .ref la, .ref ha, .null, .null])) q (oB 12 [.int dm, .int dp, .ref la, .ref ha, .null, .null])) q = some (oB 12 [.int dm, .int dp, .ref la, .ref ha, .null, .null]) := mU_s
  have m_22 : (mU (mU M108 q (oB 12 [.int dm, .int 0, .ref la, .ref ha, .null, .null])) q (oB 12 [.int dm, .int dp, .ref la, .ref ha, .null, .null])) la = some (aI G 3 (fun _ => 0)) := (mU_n (Ne.symm (g_neoa m_15 m_16))).trans m_16
  have m_23 : (mU (mU M108 q (oB 12 [.int dm, .int 0, .ref la, .ref ha, .null, .null])) q (oB 12 [.int dm, .int dp, .ref la, .ref ha, .null, .null])) ha = some (aI G 3 (fun _ => 0)) := (mU_n (Ne.symm (g_neoa m_15 m_17))).trans m_17
  refine q_iconst (v := 0) X dX13_like_21 (by decide) ?_
  refine q_istore_n (lv' := [(3, .int 0), (2, .ref q), (0, .ref a), (1, .int dp)]) X dX13_like_22 (by decide) rfl ?_
  refine q_iload_n X dX13_like_23 0 rfl ?_
  refine q_iconst (v := 3) X dX13_like_24 (by decide) ?_
  refine q_icmp_ge X 58 dX13_like_25 (by decide) (fun c_24 => absurd c_24 (by decide)) (fun c_24 => ?_)
  refine q_aload_n X dX13_like_28 1 rfl ?_
  refine q_get X m_21 rfl in_RX12 2 (by decide) tw_1159 rfl rfl dX13_like_29 ?_
  refine q_iload_n X dX13_like_32 0 rfl ?_
  refine q_aload_n X dX13_like_33 2 rfl ?_
  refine q_get X m_18 rfl in_RX12 2 (by decide) tw_1159 rfl rfl dX13_like_34 ?_
  refine q_iload_n X dX13_like_37 0 rfl ?_
  refine q_ialdN X 0 m_19 (rfl) (by decide) (by decide) dX13_like_38 ?_
  refine q_iastN X 0 m_22 (rfl) (by decide) (by decide) dX13_like_39 ?_
  have m_25 : (mU (mU (mU M108 q (oB 12 [.int dm, .int 0, .ref la, .ref ha, .null, .null])) q (oB 12 [.int dm, .int dp, .ref la, .ref ha, .null, .null])) la (aI G 3 (upd (fun _ => 0) 0 (lo 0)))) a = some (oB 12 [.int dm, w1, .ref la0, .ref ha0, w4, w5]) := (mU_n (g_neoa m_18 m_22)).trans m_18
  have m_26 : (mU (mU (mU M108 q (oB 12 [.int dm, .int 0, .ref la, .ref ha, .null, .null])) q (oB 12 [.int dm, .int dp, .ref la, .ref ha, .null, .null])) la (aI G 3 (upd (fun _ => 0) 0 (lo 0)))) la0 = some (aI G 3 lo) := (mU_n (g_nef m_4 nla)).trans m_19
  have m_27 : (mU (mU (mU M108 q (oB 12 [.int dm, .int 0, .ref la, .ref ha, .null, .null])) q (oB 12 [.int dm, .int dp, .ref la, .ref ha, .null, .null])) la (aI G 3 (upd (fun _ => 0) 0 (lo 0)))) ha0 = some (aI G 3 hi) := (mU_n (g_nef m_6 nla)).trans m_20
  have m_28 : (mU (mU (mU M108 q (oB 12 [.int dm, .int 0, .ref la, .ref ha, .null, .null])) q (oB 12 [.int dm, .int dp, .ref la, .ref ha, .null, .null])) la (aI G 3 (upd (fun _ => 0) 0 (lo 0)))) q = some (oB 12 [.int dm, .int dp, .ref la, .ref ha, .null, .null]) := (mU_n (g_neoa m_21 m_22)).trans m_21
  have m_29 : (mU (mU (mU M108 q (oB 12 [.int dm, .int 0, .ref la, .ref ha, .null, .null])) q (oB 12 [.int dm, .int dp, .ref la, .ref ha, .null, .null])) la (aI G 3 (upd (fun _ => 0) 0 (lo 0)))) la = some (aI G 3 (upd (fun _ => 0) 0 (lo 0))) := mU_s
  have m_30 : (mU (mU (mU M108 q (oB 12 [.int dm, .int 0, .ref la, .ref ha, .null, .null])) q (oB 12 [.int dm, .int dp, .ref la, .ref ha, .null, .null])) la (aI G 3 (upd (fun _ => 0) 0 (lo 0)))) ha = some (aI G 3 (fun _ => 0)) := (mU_n (Ne.symm (llaha))).trans m_23
  refine q_aload_n X dX13_like_40 1 rfl ?_
  refine q_get X m_28 rfl in_RX12 3 (by decide) tw_1161 rfl rfl dX13_like_41 ?_
  refine q_iload_n X dX13_like_44 0 rfl ?_
  refine q_aload_n X dX13_like_45 2 rfl ?_
  refine q_get X m_25 rfl in_RX12 3 (by decide) tw_1161 rfl rfl dX13_like_46 ?_
  refine q_iload_n X dX13_like_49 0 rfl ?_
  refine q_ialdN X 0 m_27 (rfl) (by decide) (by decide) dX13_like_50 ?_
  refine q_iastN X 0 m_30 (rfl) (by decide) (by decide) dX13_like_51 ?_
  have m_31 : (mU (mU (mU (mU M108 q (oB 12 [.int dm, .int 0, .ref la, .ref ha, .null, .null])) q (oB 12 [.int dm, .int dp, .ref la, .ref ha, .null, .null])) la (aI G 3 (upd (fun _ => 0) 0 (lo 0)))) ha (aI G 3 (upd (fun _ => 0) 0 (hi 0)))) a = some (oB 12 [.int dm, w1, .ref la0, .ref ha0, w4, w5]) := (mU_n (g_neoa m_25 m_30)).trans m_25
  have m_32 : (mU (mU (mU (mU M108 q (oB 12 [.int dm, .int 0, .ref la, .ref ha, .null, .null])) q (oB 12 [.int dm, .int dp, .ref la, .ref ha, .null, .null])) la (aI G 3 (upd (fun _ => 0) 0 (lo 0)))) ha (aI G 3 (upd (fun _ => 0) 0 (hi 0)))) la0 = some (aI G 3 lo) := (mU_n (g_nef m_4 nha)).trans m_26
  have m_33 : (mU (mU (mU (mU M108 q (oB 12 [.int dm, .int 0, .ref la, .ref ha, .null, .null])) q (oB 12 [.int dm, .int dp, .ref la, .ref ha, .null, .null])) la (aI G 3 (upd (fun _ => 0) 0 (lo 0)))) ha (aI G 3 (upd (fun _ => 0) 0 (hi 0)))) ha0 = some (aI G 3 hi) := (mU_n (g_nef m_6 nha)).trans m_27
  have m_34 : (mU (mU (mU (mU M108 q (oB 12 [.int dm, .int 0, .ref la, .ref ha, .null, .null])) q (oB 12 [.int dm, .int dp, .ref la, .ref ha, .null, .null])) la (aI G 3 (upd (fun _ => 0) 0 (lo 0)))) ha (aI G 3 (upd (fun _ => 0) 0 (hi 0)))) q = some (oB 12 [.int dm, .int dp, .ref la, .ref ha, .null, .null]) := (mU_n (g_neoa m_28 m_30)).trans m_28
  have m_35 : (mU (mU (mU (mU M108 q (oB 12 [.int dm, .int 0, .ref la, .ref ha, .null, .null])) q (oB 12 [.int dm, .int dp, .ref la, .ref ha, .null, .null])) la (aI G 3 (upd (fun _ => 0) 0 (lo 0)))) ha (aI G 3 (upd (fun _ => 0) 0 (hi 0)))) la = some (aI G 3 (upd (fun _ => 0) 0 (lo 0))) := (mU_n (llaha)).trans m_29
  have m_36 : (mU (mU (mU (mU M108 q (oB 12 [.int dm, .int 0, .ref la, .ref ha, .null, .null])) q (oB 12 [.int dm, .int dp, .ref la, .ref ha, .null, .null])) la (aI G 3 (upd (fun _ => 0) 0 (lo 0)))) ha (aI G 3 (upd (fun _ => 0) 0 (hi 0)))) ha = some (aI G 3 (upd (fun _ => 0) 0 (hi 0))) := mU_s
  refine q_iinc (v := 1) (lv' := [(3, .int 1), (2, .ref q), (0, .ref a), (1, .int dp)]) X dX13_like_52 0 rfl (by decide) (by decide) rfl ?_
  refine q_goto X 23 dX13_like_55 (by decide) ?_
  refine q_iload_n X dX13_like_23 0 rfl ?_
  refine q_iconst (v := 3) X dX13_like_24 (by decide) ?_
  refine q_icmp_ge X 58 dX13_like_25 (by decide) (fun c_37 => absurd c_37 (by decide)) (fun c_37 => ?_)
  refine q_aload_n X dX13_like_28 1 rfl ?_
  refine q_get X m_34 rfl in_RX12 2 (by decide) tw_1159 rfl rfl dX13_like_29 ?_
  refine q_iload_n X dX13_like_32 0 rfl ?_
  refine q_aload_n X dX13_like_33 2 rfl ?_
  refine q_get X m_31 rfl in_RX12 2 (by decide) tw_1159 rfl rfl dX13_like_34 ?_
  refine q_iload_n X dX13_like_37 0 rfl ?_
  refine q_ialdN X 1 m_32 (rfl) (by decide) (by decide) dX13_like_38 ?_
  refine q_iastN X 1 m_35 (rfl) (by decide) (by decide) dX13_like_39 ?_
  have m_38 : (mU (mU (mU (mU (mU M108 q (oB 12 [.int dm, .int 0, .ref la, .ref ha, .null, .null])) q (oB 12 [.int dm, .int dp, .ref la, .ref ha, .null, .null])) la (aI G 3 (upd (fun _ => 0) 0 (lo 0)))) ha (aI G 3 (upd (fun _ => 0) 0 (hi 0)))) la (aI G 3 (upd (upd (fun _ => 0) 0 (lo 0)) 1 (lo 1)))) a = some (oB 12 [.int dm, w1, .ref la0, .ref ha0, w4, w5]) := (mU_n (g_neoa m_31 m_35)).trans m_31
  have m_39 : (mU (mU (mU (mU (mU M108 q (oB 12 [.int dm, .int 0, .ref la, .ref ha, .null, .null])) q (oB 12 [.int dm, .int dp, .ref la, .ref ha, .null, .null])) la (aI G 3 (upd (fun _ => 0) 0 (lo 0)))) ha (aI G 3 (upd (fun _ => 0) 0 (hi 0)))) la (aI G 3 (upd (upd (fun _ => 0) 0 (lo 0)) 1 (lo 1)))) la0 = some (aI G 3 lo) := (mU_n (g_nef m_4 nla)).trans m_32
  have m_40 : (mU (mU (mU (mU (mU M108 q (oB 12 [.int dm, .int 0, .ref la, .ref ha, .null, .null])) q (oB 12 [.int dm, .int dp, .ref la, .ref ha, .null, .null])) la (aI G 3 (upd (fun _ => 0) 0 (lo 0)))) ha (aI G 3 (upd (fun _ => 0) 0 (hi 0)))) la (aI G 3 (upd (upd (fun _ => 0) 0 (lo 0)) 1 (lo 1)))) ha0 = some (aI G 3 hi) := (mU_n (g_nef m_6 nla)).trans m_33
  have m_41 : (mU (mU (mU (mU (mU M108 q (oB 12 [.int dm, .int 0, .ref la, .ref ha, .null, .null])) q (oB 12 [.int dm, .int dp, .ref la, .ref ha, .null, .null])) la (aI G 3 (upd (fun _ => 0) 0 (lo 0)))) ha (aI G 3 (upd (fun _ => 0) 0 (hi 0)))) la (aI G 3 (upd (upd (fun _ => 0) 0 (lo 0)) 1 (lo 1)))) q = some (oB 12 [.int dm, .int dp, .ref la, .ref ha, .null, .null]) := (mU_n (g_neoa m_34 m_35)).trans m_34
  have m_42 : (mU (mU (mU (mU (mU M108 q (oB 12 [.int dm, .int 0, .ref la, .ref ha, .null, .null])) q (oB 12 [.int dm, .int dp, .ref la, .ref ha, .null, .null])) la (aI G 3 (upd (fun _ => 0) 0 (lo 0)))) ha (aI G 3 (upd (fun _ => 0) 0 (hi 0)))) la (aI G 3 (upd (upd (fun _ => 0) 0 (lo 0)) 1 (lo 1)))) la = some (aI G 3 (upd (upd (fun _ => 0) 0 (lo 0)) 1 (lo 1))) := mU_s
  have m_43 : (mU (mU (mU (mU (mU M108 q (oB 12 [.int dm, .int 0, .ref la, .ref ha, .null, .null])) q (oB 12 [.int dm, .int dp, .ref la, .ref ha, .null, .null])) la (aI G 3 (upd (fun _ => 0) 0 (lo 0)))) ha (aI G 3 (upd (fun _ => 0) 0 (hi 0)))) la (aI G 3 (upd (upd (fun _ => 0) 0 (lo 0)) 1 (lo 1)))) ha = some (aI G 3 (upd (fun _ => 0) 0 (hi 0))) := (mU_n (Ne.symm (llaha))).trans m_36
  refine q_aload_n X dX13_like_40 1 rfl ?_
  refine q_get X m_41 rfl in_RX12 3 (by decide) tw_1161 rfl rfl dX13_like_41 ?_
  refine q_iload_n X dX13_like_44 0 rfl ?_
  refine q_aload_n X dX13_like_45 2 rfl ?_
  refine q_get X m_38 rfl in_RX12 3 (by decide) tw_1161 rfl rfl dX13_like_46 ?_
  refine q_iload_n X dX13_like_49 0 rfl ?_
  refine q_ialdN X 1 m_40 (rfl) (by decide) (by decide) dX13_like_50 ?_
  refine q_iastN X 1 m_43 (rfl) (by decide) (by decide) dX13_like_51 ?_
  have m_44 : (mU (mU (mU (mU (mU (mU M108 q (oB 12 [.int dm, .int 0, .ref la, .ref ha, .null, .null])) q (oB 12 [.int dm, .int dp, .ref la, .ref ha, .null, .null])) la (aI G 3 (upd (fun _ => 0) 0 (lo 0)))) ha (aI G 3 (upd (fun _ => 0) 0 (hi 0)))) la (aI G 3 (upd (upd (fun _ => 0) 0 (lo 0)) 1 (lo 1)))) ha (aI G 3 (upd (upd (fun _ => 0) 0 (hi 0)) 1 (hi 1)))) a = some (oB 12 [.int dm, w1, .ref la0, .ref ha0, w4, w5]) := (mU_n (g_neoa m_38 m_43)).trans m_38
  have m_45 : (mU (mU (mU (mU (mU (mU M108 q (oB 12 [.int dm, .int 0, .ref la, .ref ha, .null, .null])) q (oB 12 [.int dm, .int dp, .ref la, .ref ha, .null, .null])) la (aI G 3 (upd (fun _ => 0) 0 (lo 0)))) ha (aI G 3 (upd (fun _ => 0) 0 (hi 0)))) la (aI G 3 (upd (upd (fun _ => 0) 0 (lo 0)) 1 (lo 1)))) ha (aI G 3 (upd (upd (fun _ => 0) 0 (hi 0)) 1 (hi 1)))) la0 = some (aI G 3 lo) := (mU_n (g_nef m_4 nha)).trans m_39
  have m_46 : (mU (mU (mU (mU (mU (mU M108 q (oB 12 [.int dm, .int 0, .ref la, .ref ha, .null, .null])) q (oB 12 [.int dm, .int dp, .ref la, .ref ha, .null, .null])) la (aI G 3 (upd (fun _ => 0) 0 (lo 0)))) ha (aI G 3 (upd (fun _ => 0) 0 (hi 0)))) la (aI G 3 (upd (upd (fun _ => 0) 0 (lo 0)) 1 (lo 1)))) ha (aI G 3 (upd (upd (fun _ => 0) 0 (hi 0)) 1 (hi 1)))) ha0 = some (aI G 3 hi) := (mU_n (g_nef m_6 nha)).trans m_40
  have m_47 : (mU (mU (mU (mU (mU (mU M108 q (oB 12 [.int dm, .int 0, .ref la, .ref ha, .null, .null])) q (oB 12 [.int dm, .int dp, .ref la, .ref ha, .null, .null])) la (aI G 3 (upd (fun _ => 0) 0 (lo 0)))) ha (aI G 3 (upd (fun _ => 0) 0 (hi 0)))) la (aI G 3 (upd (upd (fun _ => 0) 0 (lo 0)) 1 (lo 1)))) ha (aI G 3 (upd (upd (fun _ => 0) 0 (hi 0)) 1 (hi 1)))) q = some (oB 12 [.int dm, .int dp, .ref la, .ref ha, .null, .null]) := (mU_n (g_neoa m_41 m_43)).trans m_41
  have m_48 : (mU (mU (mU (mU (mU (mU M108 q (oB 12 [.int dm, .int 0, .ref la, .ref ha, .null, .null])) q (oB 12 [.int dm, .int dp, .ref la, .ref ha, .null, .null])) la (aI G 3 (upd (fun _ => 0) 0 (lo 0)))) ha (aI G 3 (upd (fun _ => 0) 0 (hi 0)))) la (aI G 3 (upd (upd (fun _ => 0) 0 (lo 0)) 1 (lo 1)))) ha (aI G 3 (upd (upd (fun _ => 0) 0 (hi 0)) 1 (hi 1)))) la = some (aI G 3 (upd (upd (fun _ => 0) 0 (lo 0)) 1 (lo 1))) := (mU_n (llaha)).trans m_42
  have m_49 : (mU (mU (mU (mU (mU (mU M108 q (oB 12 [.int dm, .int 0, .ref la, .ref ha, .null, .null])) q (oB 12 [.int dm, .int dp, .ref la, .ref ha, .null, .null])) la (aI G 3 (upd (fun _ => 0) 0 (lo 0)))) ha (aI G 3 (upd (fun _ => 0) 0 (hi 0)))) la (aI G 3 (upd (upd (fun _ => 0) 0 (lo 0)) 1 (lo 1)))) ha (aI G 3 (upd (upd (fun _ => 0) 0 (hi 0)) 1 (hi 1)))) ha = some (aI G 3 (upd (upd (fun _ => 0) 0 (hi 0)) 1 (hi 1))) := mU_s
  refine q_iinc (v := 2) (lv' := [(3, .int 2), (2, .ref q), (0, .ref a), (1, .int dp)]) X dX13_like_52 0 rfl (by decide) (by decide) rfl ?_
  refine q_goto X 23 dX13_like_55 (by decide) ?_
  refine q_iload_n X dX13_like_23 0 rfl ?_
  refine q_iconst (v := 3) X dX13_like_24 (by decide) ?_
  refine q_icmp_ge X 58 dX13_like_25 (by decide) (fun c_50 => absurd c_50 (by decide)) (fun c_50 => ?_)
  refine q_aload_n X dX13_like_28 1 rfl ?_
  refine q_get X m_47 rfl in_RX12 2 (by decide) tw_1159 rfl rfl dX13_like_29 ?_
  refine q_iload_n X dX13_like_32 0 rfl ?_
  refine q_aload_n X dX13_like_33 2 rfl ?_
  refine q_get X m_44 rfl in_RX12 2 (by decide) tw_1159 rfl rfl dX13_like_34 ?_
  refine q_iload_n X dX13_like_37 0 rfl ?_
  refine q_ialdN X 2 m_45 (rfl) (by decide) (by decide) dX13_like_38 ?_
  refine q_iastN X 2 m_48 (rfl) (by decide) (by decide) dX13_like_39 ?_
  have m_51 : (mU (mU (mU (mU (mU (mU (mU M108 q (oB 12 [.int dm, .int 0, .ref la, .ref ha, .null, .null])) q (oB 12 [.int dm, .int dp, .ref la, .ref ha, .null, .null])) la (aI G 3 (upd (fun _ => 0) 0 (lo 0)))) ha (aI G 3 (upd (fun _ => 0) 0 (hi 0)))) la (aI G 3 (upd (upd (fun _ => 0) 0 (lo 0)) 1 (lo 1)))) ha (aI G 3 (upd (upd (fun _ => 0) 0 (hi 0)) 1 (hi 1)))) la (aI G 3 (upd (upd (upd (fun _ => 0) 0 (lo 0)) 1 (lo 1)) 2 (lo 2)))) a = some (oB 12 [.int dm, w1, .ref la0, .ref ha0, w4, w5]) := (mU_n (g_neoa m_44 m_48)).trans m_44
  have m_52 : (mU (mU (mU (mU (mU (mU (mU M108 q (oB 12 [.int dm, .int 0, .ref la, .ref ha, .null, .null])) q (oB 12 [.int dm, .int dp, .ref la, .ref ha, .null, .null])) la (aI G 3 (upd (fun _ => 0) 0 (lo 0)))) ha (aI G 3 (upd (fun _ => 0) 0 (hi 0)))) la (aI G 3 (upd (upd (fun _ => 0) 0 (lo 0)) 1 (lo 1)))) ha (aI G 3 (upd (upd (fun _ => 0) 0 (hi 0)) 1 (hi 1)))) la (aI G 3 (upd (upd (upd (fun _ => 0) 0 (lo 0)) 1 (lo 1)) 2 (lo 2)))) la0 = some (aI G 3 lo) := (mU_n (g_nef m_4 nla)).trans m_45
  have m_53 : (mU (mU (mU (mU (mU (mU (mU M108 q (oB 12 [.int dm, .int 0, .ref la, .ref ha, .null, .null])) q (oB 12 [.int dm, .int dp, .ref la, .ref ha, .null, .null])) la (aI G 3 (upd (fun _ => 0) 0 (lo 0)))) ha (aI G 3 (upd (fun _ => 0) 0 (hi 0)))) la (aI G 3 (upd (upd (fun _ => 0) 0 (lo 0)) 1 (lo 1)))) ha (aI G 3 (upd (upd (fun _ => 0) 0 (hi 0)) 1 (hi 1)))) la (aI G 3 (upd (upd (upd (fun _ => 0) 0 (lo 0)) 1 (lo 1)) 2 (lo 2)))) ha0 = some (aI G 3 hi) := (mU_n (g_nef m_6 nla)).trans m_46
  have m_54 : (mU (mU (mU (mU (mU (mU (mU M108 q (oB 12 [.int dm, .int 0, .ref la, .ref ha, .null, .null])) q (oB 12 [.int dm, .int dp, .ref la, .ref ha, .null, .null])) la (aI G 3 (upd (fun _ => 0) 0 (lo 0)))) ha (aI G 3 (upd (fun _ => 0) 0 (hi 0)))) la (aI G 3 (upd (upd (fun _ => 0) 0 (lo 0)) 1 (lo 1)))) ha (aI G 3 (upd (upd (fun _ => 0) 0 (hi 0)) 1 (hi 1)))) la (aI G 3 (upd (upd (upd (fun _ => 0) 0 (lo 0)) 1 (lo 1)) 2 (lo 2)))) q = some (oB 12 [.int dm, .int dp, .ref la, .ref ha, .null, .null]) := (mU_n (g_neoa m_47 m_48)).trans m_47
  have m_55 : (mU (mU (mU (mU (mU (mU (mU M108 q (oB 12 [.int dm, .int 0, .ref la, .ref ha, .null, .null])) q (oB 12 [.int dm, .int dp, .ref la, .ref ha, .null, .null])) la (aI G 3 (upd (fun _ => 0) 0 (lo 0)))) ha (aI G 3 (upd (fun _ => 0) 0 (hi 0)))) la (aI G 3 (upd (upd (fun _ => 0) 0 (lo 0)) 1 (lo 1)))) ha (aI G 3 (upd (upd (fun _ => 0) 0 (hi 0)) 1 (hi 1)))) la (aI G 3 (upd (upd (upd (fun _ => 0) 0 (lo 0)) 1 (lo 1)) 2 (lo 2)))) la = some (aI G 3 (upd (upd (upd (fun _ => 0) 0 (lo 0)) 1 (lo 1)) 2 (lo 2))) := mU_s
  have m_56 : (mU (mU (mU (mU (mU (mU (mU M108 q (oB 12 [.int dm, .int 0, .ref la, .ref ha, .null, .null])) q (oB 12 [.int dm, .int dp, .ref la, .ref ha, .null, .null])) la (aI G 3 (upd (fun _ => 0) 0 (lo 0)))) ha (aI G 3 (upd (fun _ => 0) 0 (hi 0)))) la (aI G 3 (upd (upd (fun _ => 0) 0 (lo 0)) 1 (lo 1)))) ha (aI G 3 (upd (upd (fun _ => 0) 0 (hi 0)) 1 (hi 1)))) la (aI G 3 (upd (upd (upd (fun _ => 0) 0 (lo 0)) 1 (lo 1)) 2 (lo 2)))) ha = some (aI G 3 (upd (upd (fun _ => 0) 0 (hi 0)) 1 (hi 1))) := (mU_n (Ne.symm (llaha))).trans m_49
  refine q_aload_n X dX13_like_40 1 rfl ?_
  refine q_get X m_54 rfl in_RX12 3 (by decide) tw_1161 rfl rfl dX13_like_41 ?_
  refine q_iload_n X dX13_like_44 0 rfl ?_
  refine q_aload_n X dX13_like_45 2 rfl ?_
  refine q_get X m_51 rfl in_RX12 3 (by decide) tw_1161 rfl rfl dX13_like_46 ?_
  refine q_iload_n X dX13_like_49 0 rfl ?_
  refine q_ialdN X 2 m_53 (rfl) (by decide) (by decide) dX13_like_50 ?_
  refine q_iastN X 2 m_56 (rfl) (by decide) (by decide) dX13_like_51 ?_
  have m_57 : (mU (mU (mU (mU (mU (mU (mU (mU M108 q (oB 12 [.int dm, .int 0, .ref la, .ref ha, .null, .null])) q (oB 12 [.int dm, .int dp, .ref la, .ref ha, .null, .null])) la (aI G 3 (upd (fun _ => 0) 0 (lo 0)))) ha (aI G 3 (upd (fun _ => 0) 0 (hi 0)))) la (aI G 3 (upd (upd (fun _ => 0) 0 (lo 0)) 1 (lo 1)))) ha (aI G 3 (upd (upd (fun _ => 0) 0 (hi 0)) 1 (hi 1)))) la (aI G 3 (upd (upd (upd (fun _ => 0) 0 (lo 0)) 1 (lo 1)) 2 (lo 2)))) ha (aI G 3 (upd (upd (upd (fun _ => 0) 0 (hi 0)) 1 (hi 1)) 2 (hi 2)))) a = some (oB 12 [.int dm, w1, .ref la0, .ref ha0, w4, w5]) := (mU_n (g_neoa m_51 m_56)).trans m_51
  have m_58 : (mU (mU (mU (mU (mU (mU (mU (mU M108 q (oB 12 [.int dm, .int 0, .ref la, .ref ha, .null, .null])) q (oB 12 [.int dm, .int dp, .ref la, .ref ha, .null, .null])) la (aI G 3 (upd (fun _ => 0) 0 (lo 0)))) ha (aI G 3 (upd (fun _ => 0) 0 (hi 0)))) la (aI G 3 (upd (upd (fun _ => 0) 0 (lo 0)) 1 (lo 1)))) ha (aI G 3 (upd (upd (fun _ => 0) 0 (hi 0)) 1 (hi 1)))) la (aI G 3 (upd (upd (upd (fun _ => 0) 0 (lo 0)) 1 (lo 1)) 2 (lo 2)))) ha (aI G 3 (upd (upd (upd (fun _ => 0) 0 (hi 0)) 1 (hi 1)) 2 (hi 2)))) la0 = some (aI G 3 lo) := (mU_n (g_nef m_4 nha)).trans m_52
  have m_59 : (mU (mU (mU (mU (mU (mU (mU (mU M108 q (oB 12 [.int dm, .int 0, .ref la, .ref ha, .null, .null])) q (oB 12 [.int dm, .int dp, .ref la, .ref ha, .null, .null])) la (aI G 3 (upd (fun _ => 0) 0 (lo 0)))) ha (aI G 3 (upd (fun _ => 0) 0 (hi 0)))) la (aI G 3 (upd (upd (fun _ => 0) 0 (lo 0)) 1 (lo 1)))) ha (aI G 3 (upd (upd (fun _ => 0) 0 (hi 0)) 1 (hi 1)))) la (aI G 3 (upd (upd (upd (fun _ => 0) 0 (lo 0)) 1 (lo 1)) 2 (lo 2)))) ha (aI G 3 (upd (upd (upd (fun _ => 0) 0 (hi 0)) 1 (hi 1)) 2 (hi 2)))) ha0 = some (aI G 3 hi) := (mU_n (g_nef m_6 nha)).trans m_53
  have m_60 : (mU (mU (mU (mU (mU (mU (mU (mU M108 q (oB 12 [.int dm, .int 0, .ref la, .ref ha, .null, .null])) q (oB 12 [.int dm, .int dp, .ref la, .ref ha, .null, .null])) la (aI G 3 (upd (fun _ => 0) 0 (lo 0)))) ha (aI G 3 (upd (fun _ => 0) 0 (hi 0)))) la (aI G 3 (upd (upd (fun _ => 0) 0 (lo 0)) 1 (lo 1)))) ha (aI G 3 (upd (upd (fun _ => 0) 0 (hi 0)) 1 (hi 1)))) la (aI G 3 (upd (upd (upd (fun _ => 0) 0 (lo 0)) 1 (lo 1)) 2 (lo 2)))) ha (aI G 3 (upd (upd (upd (fun _ => 0) 0 (hi 0)) 1 (hi 1)) 2 (hi 2)))) q = some (oB 12 [.int dm, .int dp, .ref la, .ref ha, .null, .null]) := (mU_n (g_neoa m_54 m_56)).trans m_54
  have m_61 : (mU (mU (mU (mU (mU (mU (mU (mU M108 q (oB 12 [.int dm, .int 0, .ref la, .ref ha, .null, .null])) q (oB 12 [.int dm, .int dp, .ref la, .ref ha, .null, .null])) la (aI G 3 (upd (fun _ => 0) 0 (lo 0)))) ha (aI G 3 (upd (fun _ => 0) 0 (hi 0)))) la (aI G 3 (upd (upd (fun _ => 0) 0 (lo 0)) 1 (lo 1)))) ha (aI G 3 (upd (upd (fun _ => 0) 0 (hi 0)) 1 (hi 1)))) la (aI G 3 (upd (upd (upd (fun _ => 0) 0 (lo 0)) 1 (lo 1)) 2 (lo 2)))) ha (aI G 3 (upd (upd (upd (fun _ => 0) 0 (hi 0)) 1 (hi 1)) 2 (hi 2)))) la = some (aI G 3 (upd (upd (upd (fun _ => 0) 0 (lo 0)) 1 (lo 1)) 2 (lo 2))) := (mU_n (llaha)).trans m_55
  have m_62 : (mU (mU (mU (mU (mU (mU (mU (mU M108 q (oB 12 [.int dm, .int 0, .ref la, .ref ha, .null, .null])) q (oB 12 [.int dm, .int dp, .ref la, .ref ha, .null, .null])) la (aI G 3 (upd (fun _ => 0) 0 (lo 0)))) ha (aI G 3 (upd (fun _ => 0) 0 (hi 0)))) la (aI G 3 (upd (upd (fun _ => 0) 0 (lo 0)) 1 (lo 1)))) ha (aI G 3 (upd (upd (fun _ => 0) 0 (hi 0)) 1 (hi 1)))) la (aI G 3 (upd (upd (upd (fun _ => 0) 0 (lo 0)) 1 (lo 1)) 2 (lo 2)))) ha (aI G 3 (upd (upd (upd (fun _ => 0) 0 (hi 0)) 1 (hi 1)) 2 (hi 2)))) ha = some (aI G 3 (upd (upd (upd (fun _ => 0) 0 (hi 0)) 1 (hi 1)) 2 (hi 2))) := mU_s
  refine q_iinc (v := 3) (lv' := [(3, .int 3), (2, .ref q), (0, .ref a), (1, .int dp)]) X dX13_like_52 0 rfl (by decide) (by decide) rfl ?_
  refine q_goto X 23 dX13_like_55 (by decide) ?_
  refine q_iload_n X dX13_like_23 0 rfl ?_
  refine q_iconst (v := 3) X dX13_like_24 (by decide) ?_
  refine q_icmp_ge X 58 dX13_like_25 (by decide) (fun c_63 => ?_) (fun c_63 => absurd (by decide) c_63)
  refine q_arrI (g := lo) m_61 (fun i hi9 => by rcases (show i = 0 ∨ i = 1 ∨ i = 2 by omega) with rfl | rfl | rfl <;> simp [upd]) ?_
  have m_64 : (mU (mU (mU (mU (mU (mU (mU (mU (mU M108 q (oB 12 [.int dm, .int 0, .ref la, .ref ha, .null, .null])) q (oB 12 [.int dm, .int dp, .ref la, .ref ha, .null, .null])) la (aI G 3 (upd (fun _ => 0) 0 (lo 0)))) ha (aI G 3 (upd (fun _ => 0) 0 (hi 0)))) la (aI G 3 (upd (upd (fun _ => 0) 0 (lo 0)) 1 (lo 1)))) ha (aI G 3 (upd (upd (fun _ => 0) 0 (hi 0)) 1 (hi 1)))) la (aI G 3 (upd (upd (upd (fun _ => 0) 0 (lo 0)) 1 (lo 1)) 2 (lo 2)))) ha (aI G 3 (upd (upd (upd (fun _ => 0) 0 (hi 0)) 1 (hi 1)) 2 (hi 2)))) la (aI G 3 lo)) a = some (oB 12 [.int dm, w1, .ref la0, .ref ha0, w4, w5]) := (mU_n (g_neoa m_57 m_61)).trans m_57
  have m_65 : (mU (mU (mU (mU (mU (mU (mU (mU (mU M108 q (oB 12 [.int dm, .int 0, .ref la, .ref ha, .null, .null])) q (oB 12 [.int dm, .int dp, .ref la, .ref ha, .null, .null])) la (aI G 3 (upd (fun _ => 0) 0 (lo 0)))) ha (aI G 3 (upd (fun _ => 0) 0 (hi 0)))) la (aI G 3 (upd (upd (fun _ => 0) 0 (lo 0)) 1 (lo 1)))) ha (aI G 3 (upd (upd (fun _ => 0) 0 (hi 0)) 1 (hi 1)))) la (aI G 3 (upd (upd (upd (fun _ => 0) 0 (lo 0)) 1 (lo 1)) 2 (lo 2)))) ha (aI G 3 (upd (upd (upd (fun _ => 0) 0 (hi 0)) 1 (hi 1)) 2 (hi 2)))) la (aI G 3 lo)) la0 = some (aI G 3 lo) := (mU_n (g_nef m_4 nla)).trans m_58
  have m_66 : (mU (mU (mU (mU (mU (mU (mU (mU (mU M108 q (oB 12 [.int dm, .int 0, .ref la, .ref ha, .null, .null])) q (oB 12 [.int dm, .int dp, .ref la, .ref ha, .null, .null])) la (aI G 3 (upd (fun _ => 0) 0 (lo 0)))) ha (aI G 3 (upd (fun _ => 0) 0 (hi 0)))) la (aI G 3 (upd (upd (fun _ => 0) 0 (lo 0)) 1 (lo 1)))) ha (aI G 3 (upd (upd (fun _ => 0) 0 (hi 0)) 1 (hi 1)))) la (aI G 3 (upd (upd (upd (fun _ => 0) 0 (lo 0)) 1 (lo 1)) 2 (lo 2)))) ha (aI G 3 (upd (upd (upd (fun _ => 0) 0 (hi 0)) 1 (hi 1)) 2 (hi 2)))) la (aI G 3 lo)) ha0 = some (aI G 3 hi) := (mU_n (g_nef m_6 nla)).trans m_59
  have m_67 : (mU (mU (mU (mU (mU (mU (mU (mU (mU M108 q (oB 12 [.int dm, .int 0, .ref la, .ref ha, .null, .null])) q (oB 12 [.int dm, .int dp, .ref la, .ref ha, .null, .null])) la (aI G 3 (upd (fun _ => 0) 0 (lo 0)))) ha (aI G 3 (upd (fun _ => 0) 0 (hi 0)))) la (aI G 3 (upd (upd (fun _ => 0) 0 (lo 0)) 1 (lo 1)))) ha (aI G 3 (upd (upd (fun _ => 0) 0 (hi 0)) 1 (hi 1)))) la (aI G 3 (upd (upd (upd (fun _ => 0) 0 (lo 0)) 1 (lo 1)) 2 (lo 2)))) ha (aI G 3 (upd (upd (upd (fun _ => 0) 0 (hi 0)) 1 (hi 1)) 2 (hi 2)))) la (aI G 3 lo)) q = some (oB 12 [.int dm, .int dp, .ref la, .ref ha, .null, .null]) := (mU_n (g_neoa m_60 m_61)).trans m_60
  have m_68 : (mU (mU (mU (mU (mU (mU (mU (mU (mU M108 q (oB 12 [.int dm, .int 0, .ref la, .ref ha, .null, .null])) q (oB 12 [.int dm, .int dp, .ref la, .ref ha, .null, .null])) la (aI G 3 (upd (fun _ => 0) 0 (lo 0)))) ha (aI G 3 (upd (fun _ => 0) 0 (hi 0)))) la (aI G 3 (upd (upd (fun _ => 0) 0 (lo 0)) 1 (lo 1)))) ha (aI G 3 (upd (upd (fun _ => 0) 0 (hi 0)) 1 (hi 1)))) la (aI G 3 (upd (upd (upd (fun _ => 0) 0 (lo 0)) 1 (lo 1)) 2 (lo 2)))) ha (aI G 3 (upd (upd (upd (fun _ => 0) 0 (hi 0)) 1 (hi 1)) 2 (hi 2)))) la (aI G 3 lo)) la = some (aI G 3 lo) := mU_s
  have m_69 : (mU (mU (mU (mU (mU (mU (mU (mU (mU M108 q (oB 12 [.int dm, .int 0, .ref la, .ref ha, .null, .null])) q (oB 12 [.int dm, .int dp, .ref la, .ref ha, .null, .null])) la (aI G 3 (upd (fun _ => 0) 0 (lo 0)))) ha (aI G 3 (upd (fun _ => 0) 0 (hi 0)))) la (aI G 3 (upd (upd (fun _ => 0) 0 (lo 0)) 1 (lo 1)))) ha (aI G 3 (upd (upd (fun _ => 0) 0 (hi 0)) 1 (hi 1)))) la (aI G 3 (upd (upd (upd (fun _ => 0) 0 (lo 0)) 1 (lo 1)) 2 (lo 2)))) ha (aI G 3 (upd (upd (upd (fun _ => 0) 0 (hi 0)) 1 (hi 1)) 2 (hi 2)))) la (aI G 3 lo)) ha = some (aI G 3 (upd (upd (upd (fun _ => 0) 0 (hi 0)) 1 (hi 1)) 2 (hi 2))) := (mU_n (Ne.symm (llaha))).trans m_62
  refine q_arrI (g := hi) m_69 (fun i hi9 => by rcases (show i = 0 ∨ i = 1 ∨ i = 2 by omega) with rfl | rfl | rfl <;> simp [upd]) ?_
  have m_70 : (mU (mU (mU (mU (mU (mU (mU (mU (mU (mU M108 q (oB 12 [.int dm, .int 0, .ref la, .ref ha, .null, .null])) q (oB 12 [.int dm, .int dp, .ref la, .ref ha, .null, .null])) la (aI G 3 (upd (fun _ => 0) 0 (lo 0)))) ha (aI G 3 (upd (fun _ => 0) 0 (hi 0)))) la (aI G 3 (upd (upd (fun _ => 0) 0 (lo 0)) 1 (lo 1)))) ha (aI G 3 (upd (upd (fun _ => 0) 0 (hi 0)) 1 (hi 1)))) la (aI G 3 (upd (upd (upd (fun _ => 0) 0 (lo 0)) 1 (lo 1)) 2 (lo 2)))) ha (aI G 3 (upd (upd (upd (fun _ => 0) 0 (hi 0)) 1 (hi 1)) 2 (hi 2)))) la (aI G 3 lo)) ha (aI G 3 hi)) a = some (oB 12 [.int dm, w1, .ref la0, .ref ha0, w4, w5]) := (mU_n (g_neoa m_64 m_69)).trans m_64
  have m_71 : (mU (mU (mU (mU (mU (mU (mU (mU (mU (mU M108 q (oB 12 [.int dm, .int 0, .ref la, .ref ha, .null, .null])) q (oB 12 [.int dm, .int dp, .ref la, .ref ha, .null, .null])) la (aI G 3 (upd (fun _ => 0) 0 (lo 0)))) ha (aI G 3 (upd (fun _ => 0) 0 (hi 0)))) la (aI G 3 (upd (upd (fun _ => 0) 0 (lo 0)) 1 (lo 1)))) ha (aI G 3 (upd (upd (fun _ => 0) 0 (hi 0)) 1 (hi 1)))) la (aI G 3 (upd (upd (upd (fun _ => 0) 0 (lo 0)) 1 (lo 1)) 2 (lo 2)))) ha (aI G 3 (upd (upd (upd (fun _ => 0) 0 (hi 0)) 1 (hi 1)) 2 (hi 2)))) la (aI G 3 lo)) ha (aI G 3 hi)) la0 = some (aI G 3 lo) := (mU_n (g_nef m_4 nha)).trans m_65
  have m_72 : (mU (mU (mU (mU (mU (mU (mU (mU (mU (mU M108 q (oB 12 [.int dm, .int 0, .ref la, .ref ha, .null, .null])) q (oB 12 [.int dm, .int dp, .ref la, .ref ha, .null, .null])) la (aI G 3 (upd (fun _ => 0) 0 (lo 0)))) ha (aI G 3 (upd (fun _ => 0) 0 (hi 0)))) la (aI G 3 (upd (upd (fun _ => 0) 0 (lo 0)) 1 (lo 1)))) ha (aI G 3 (upd (upd (fun _ => 0) 0 (hi 0)) 1 (hi 1)))) la (aI G 3 (upd (upd (upd (fun _ => 0) 0 (lo 0)) 1 (lo 1)) 2 (lo 2)))) ha (aI G 3 (upd (upd (upd (fun _ => 0) 0 (hi 0)) 1 (hi 1)) 2 (hi 2)))) la (aI G 3 lo)) ha (aI G 3 hi)) ha0 = some (aI G 3 hi) := (mU_n (g_nef m_6 nha)).trans m_66
  have m_73 : (mU (mU (mU (mU (mU (mU (mU (mU (mU (mU M108 q (oB 12 [.int dm, .int 0, .ref la, .ref ha, .null, .null])) q (oB 12 [.int dm, .int dp, .ref la, .ref ha, .null, .null])) la (aI G 3 (upd (fun _ => 0) 0 (lo 0)))) ha (aI G 3 (upd (fun _ => 0) 0 (hi 0)))) la (aI G 3 (upd (upd (fun _ => 0) 0 (lo 0)) 1 (lo 1)))) ha (aI G 3 (upd (upd (fun _ => 0) 0 (hi 0)) 1 (hi 1)))) la (aI G 3 (upd (upd (upd (fun _ => 0) 0 (lo 0)) 1 (lo 1)) 2 (lo 2)))) ha (aI G 3 (upd (upd (upd (fun _ => 0) 0 (hi 0)) 1 (hi 1)) 2 (hi 2)))) la (aI G 3 lo)) ha (aI G 3 hi)) q = some (oB 12 [.int dm, .int dp, .ref la, .ref ha, .null, .null]) := (mU_n (g_neoa m_67 m_69)).trans m_67
  have m_74 : (mU (mU (mU (mU (mU (mU (mU (mU (mU (mU M108 q (oB 12 [.int dm, .int 0, .ref la, .ref ha, .null, .null])) q (oB 12 [.int dm, .int dp, .ref la, .ref ha, .null, .null])) la (aI G 3 (upd (fun _ => 0) 0 (lo 0)))) ha (aI G 3 (upd (fun _ => 0) 0 (hi 0)))) la (aI G 3 (upd (upd (fun _ => 0) 0 (lo 0)) 1 (lo 1)))) ha (aI G 3 (upd (upd (fun _ => 0) 0 (hi 0)) 1 (hi 1)))) la (aI G 3 (upd (upd (upd (fun _ => 0) 0 (lo 0)) 1 (lo 1)) 2 (lo 2)))) ha (aI G 3 (upd (upd (upd (fun _ => 0) 0 (hi 0)) 1 (hi 1)) 2 (hi 2)))) la (aI G 3 lo)) ha (aI G 3 hi)) la = some (aI G 3 lo) := (mU_n (llaha)).trans m_68
  have m_75 : (mU (mU (mU (mU (mU (mU (mU (mU (mU (mU M108 q (oB 12 [.int dm, .int 0, .ref la, .ref ha, .null, .null])) q (oB 12 [.int dm, .int dp, .ref la, .ref ha, .null, .null])) la (aI G 3 (upd (fun _ => 0) 0 (lo 0)))) ha (aI G 3 (upd (fun _ => 0) 0 (hi 0)))) la (aI G 3 (upd (upd (fun _ => 0) 0 (lo 0)) 1 (lo 1)))) ha (aI G 3 (upd (upd (fun _ => 0) 0 (hi 0)) 1 (hi 1)))) la (aI G 3 (upd (upd (upd (fun _ => 0) 0 (lo 0)) 1 (lo 1)) 2 (lo 2)))) ha (aI G 3 (upd (upd (upd (fun _ => 0) 0 (hi 0)) 1 (hi 1)) 2 (hi 2)))) la (aI G 3 lo)) ha (aI G 3 hi)) ha = some (aI G 3 hi) := mU_s
  refine q_aload_n X dX13_like_58 1 rfl ?_
  exact q_aret X hr (Or.inl ⟨_, rfl⟩) dX13_like_59 (⟨q, la, ha, rfl, fq9, nla9, nha9, llaha, llaq, lhaq, m_73, m_74, m_75, (fun x hx => by
      have w1 : x ≠ q := fun z => hx (z ▸ fq9)
      have w2 : x ≠ la := fun z => hx (z ▸ nla9)
      have w3 : x ≠ ha := fun z => hx (z ▸ nha9)
      have e1 := eq x (by rw [mU_n w1]; exact hx)
      have e : (mU (mU (mU (mU (mU (mU (mU (mU (mU (mU M108 q (oB 12 [.int dm, .int 0, .ref la, .ref ha, .null, .null])) q (oB 12 [.int dm, .int dp, .ref la, .ref ha, .null, .null])) la (aI G 3 (upd (fun _ => 0) 0 (lo 0)))) ha (aI G 3 (upd (fun _ => 0) 0 (hi 0)))) la (aI G 3 (upd (upd (fun _ => 0) 0 (lo 0)) 1 (lo 1)))) ha (aI G 3 (upd (upd (fun _ => 0) 0 (hi 0)) 1 (hi 1)))) la (aI G 3 (upd (upd (upd (fun _ => 0) 0 (lo 0)) 1 (lo 1)) 2 (lo 2)))) ha (aI G 3 (upd (upd (upd (fun _ => 0) 0 (hi 0)) 1 (hi 1)) 2 (hi 2)))) la (aI G 3 lo)) ha (aI G 3 hi)) x = M x := by simp only [mU, w1, w2, w3, if_false]; exact (e1.2 w1).trans (mU_n w1)
      exact ⟨by rw [e]; exact hx, fun _ => e⟩)⟩)
