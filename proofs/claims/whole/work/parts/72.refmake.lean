/-! less, from, large, copied, made -/

set_option maxRecDepth 20000 in
theorem c_less_20 {l : Launch} {G : gV} {M : gMem} {a la0 ha0 dpn : Nat} {w4 w5 : Value} {lo hi : Nat → Int32} (hA : M a = some (oB 12 [.int (nI 2), .int (nI dpn), .ref la0, .ref ha0, w4, w5])) (h1 : M la0 = some (aI G 3 lo)) (h2 : M ha0 = some (aI G 3 hi)) (hz : lo 2 = 0 ∧ hi 2 = 0) : qC l G yX13_less cX13_less 5 (some (.object "GridVaultModel$Grid")) 2 3 12 [.ref a, .int 0] M (lkP G M (nI 1) (nI (dpn + 1)) (dr3 lo 0 3) (dr3 hi 0 3)) := by
  refine qC_of (by decide +kernel) (Nat.le_of_ble_eq_true rfl) (fun F hF X hr hn => ?_)
  subst hF
  have X : qX G F cX13_less 5 RX13 2 := X
  show qJ G F _ 5 M 3 12 0 [(0, .ref a), (1, .int 0)] []
  refine q_new X (ci := 12) rfl in_RX12 tyX12 tyX12_ok tw_1145 tw_1151 tw_15 (fs0 := [.int 0, .int 0, .null, .null, .null, .null]) (fun j hj => by rcases (show j = 0 ∨ j = 1 ∨ j = 2 ∨ j = 3 ∨ j = 4 ∨ j = 5 by omega) with rfl | rfl | rfl | rfl | rfl | rfl <;> rfl) (rc' := 2) (rs' := 6) (by omega) (by omega) dX13_less_0 (fun q fq => ?_)
  have n_1 : a ≠ q := g_nef hA fq
  have m_2 : (mU M q (oB 12 [.int 0, .int 0, .null, .null, .null, .null])) a = some (oB 12 [.int (nI 2), .int (nI dpn), .ref la0, .ref ha0, w4, w5]) := (mU_n n_1).trans hA
  have n_3 : la0 ≠ q := g_nef h1 fq
  have m_4 : (mU M q (oB 12 [.int 0, .int 0, .null, .null, .null, .null])) la0 = some (aI G 3 lo) := (mU_n n_3).trans h1
  have n_5 : ha0 ≠ q := g_nef h2 fq
  have m_6 : (mU M q (oB 12 [.int 0, .int 0, .null, .null, .null, .null])) ha0 = some (aI G 3 hi) := (mU_n n_5).trans h2
  have m_7 : (mU M q (oB 12 [.int 0, .int 0, .null, .null, .null, .null])) q = some (oB 12 [.int 0, .int 0, .null, .null, .null, .null]) := mU_s
  have n9a : ¬ a = q := g_nef hA fq
  have n9la0 : ¬ la0 = q := g_nef h1 fq
  have n9ha0 : ¬ ha0 = q := g_nef h2 fq
  refine q_dup X dX13_less_3 rfl ?_
  refine q_callIN X (c_X12_init mU_s) Y_X12_init tn_1152 tw_1153 rfl (by omega) rfl rfl (Nat.le_of_ble_eq_true rfl) (rc' := 0) (rs' := 0) (by omega) (by omega) dX13_less_4 (fun v M' hp _ => ?_)
  obtain ⟨rfl, la, ha, nla, nha, llaha, llaq, lhaq, hq, hla, hha, eq⟩ := hp
  generalize M' = M108 at *
  have m_9 : M108 a = some (oB 12 [.int (nI 2), .int (nI dpn), .ref la0, .ref ha0, w4, w5]) := eq.keep m_2 n9a
  have m_10 : M108 la0 = some (aI G 3 lo) := eq.keep m_4 n9la0
  have m_11 : M108 ha0 = some (aI G 3 hi) := eq.keep m_6 n9ha0
  show qJ G F _ 5 M108 0 0 7 [(0, .ref a), (1, .int 0)] [.ref q]
  have fq9 := fq
  have nla9 : M la = none := (mEv_new (K := fun _ => False) fq).none nla
  have nha9 : M ha = none := (mEv_new (K := fun _ => False) fq).none nha
  refine q_astore_n (lv' := [(2, .ref q), (0, .ref a), (1, .int 0)]) X dX13_less_7 (by decide) rfl ?_
  refine q_aload_n X dX13_less_8 0 rfl ?_
  refine q_aload_n X dX13_less_9 1 rfl ?_
  refine q_get X m_9 rfl in_RX12 0 (by decide) tw_1156 rfl rfl dX13_less_10 ?_
  refine q_iconst (v := 1) X dX13_less_13 (by decide) ?_
  refine q_isub X dX13_less_14 ?_
  rw [show nI 2 - 1 = nI 1 from by decide]
  refine q_put X hq rfl in_RX12 tyX12 tyX12_ok nmX12 0 (by decide) tw_1156 rfl rfl rfl rfl rfl (Nat.le_of_ble_eq_true rfl) (fs1 := [.int (nI 1), .int 0, .ref la, .ref ha, .null, .null]) rfl dX13_less_15 ?_
  have m_12 : (mU M108 q (oB 12 [.int (nI 1), .int 0, .ref la, .ref ha, .null, .null])) a = some (oB 12 [.int (nI 2), .int (nI dpn), .ref la0, .ref ha0, w4, w5]) := (mU_n (n_1)).trans m_9
  have m_13 : (mU M108 q (oB 12 [.int (nI 1), .int 0, .ref la, .ref ha, .null, .null])) la0 = some (aI G 3 lo) := (mU_n (n_3)).trans m_10
  have m_14 : (mU M108 q (oB 12 [.int (nI 1), .int 0, .ref la, .ref ha, .null, .null])) ha0 = some (aI G 3 hi) := (mU_n (n_5)).trans m_11
  have m_15 : (mU M108 q (oB 12 [.int (nI 1), .int 0, .ref la, .ref ha, .null, .null])) q = some (oB 12 [.int (nI 1), .int 0, .ref la, .ref ha, .null, .null]) := mU_s
  have m_16 : (mU M108 q (oB 12 [.int (nI 1), .int 0, .ref la, .ref ha, .null, .null])) la = some (aI G 3 (fun _ => 0)) := (mU_n (Ne.symm (g_neoa hq hla))).trans hla
  have m_17 : (mU M108 q (oB 12 [.int (nI 1), .int 0, .ref la, .ref ha, .null, .null])) ha = some (aI G 3 (fun _ => 0)) := (mU_n (Ne.symm (g_neoa hq hha))).trans hha
  refine q_aload_n X dX13_less_18 0 rfl ?_
  refine q_aload_n X dX13_less_19 1 rfl ?_
  refine q_get X m_12 rfl in_RX12 1 (by decide) tw_1157 rfl rfl dX13_less_20 ?_
  refine q_iconst (v := 1) X dX13_less_23 (by decide) ?_
  refine q_iadd X dX13_less_24 ?_
  rw [nI_1]
  refine q_put X m_15 rfl in_RX12 tyX12 tyX12_ok nmX12 1 (by decide) tw_1157 rfl rfl rfl rfl rfl (Nat.le_of_ble_eq_true rfl) (fs1 := [.int (nI 1), .int (nI (dpn + 1)), .ref la, .ref ha, .null, .null]) rfl dX13_less_25 ?_
  have m_18 : (mU (mU M108 q (oB 12 [.int (nI 1), .int 0, .ref la, .ref ha, .null, .null])) q (oB 12 [.int (nI 1), .int (nI (dpn + 1)), .ref la, .ref ha, .null, .null])) a = some (oB 12 [.int (nI 2), .int (nI dpn), .ref la0, .ref ha0, w4, w5]) := (mU_n (n_1)).trans m_12
  have m_19 : (mU (mU M108 q (oB 12 [.int (nI 1), .int 0, .ref la, .ref ha, .null, .null])) q (oB 12 [.int (nI 1), .int (nI (dpn + 1)), .ref la, .ref ha, .null, .null])) la0 = some (aI G 3 lo) := (mU_n (n_3)).trans m_13
  have m_20 : (mU (mU M108 q (oB 12 [.int (nI 1), .int 0, .ref la, .ref ha, .null, .null])) q (oB 12 [.int (nI 1), .int (nI (dpn + 1)), .ref la, .ref ha, .null, .null])) ha0 = some (aI G 3 hi) := (mU_n (n_5)).trans m_14
  have m_21 : (mU (mU M108 q (oB 12 [.int (nI 1), .int 0, .ref la, .ref ha, .null, .null])) q (oB 12 [.int (nI 1), .int (nI (dpn + 1)), .ref la, .ref ha, .null, .null])) q = some (oB 12 [.int (nI 1), .int (nI (dpn + 1)), .ref la, .ref ha, .null, .null]) := mU_s
  have m_22 : (mU (mU M108 q (oB 12 [.int (nI 1), .int 0, .ref la, .ref ha, .null, .null])) q (oB 12 [.int (nI 1), .int (nI (dpn + 1)), .ref la, .ref ha, .null, .null])) la = some (aI G 3 (fun _ => 0)) := (mU_n (Ne.symm (g_neoa m_15 m_16))).trans m_16
  have m_23 : (mU (mU M108 q (oB 12 [.int (nI 1), .int 0, .ref la, .ref ha, .null, .null])) q (oB 12 [.int (nI 1), .int (nI (dpn + 1)), .ref la, .ref ha, .null, .null])) ha = some (aI G 3 (fun _ => 0)) := (mU_n (Ne.symm (g_neoa m_15 m_17))).trans m_17
  refine q_iconst (v := 0) X dX13_less_28 (by decide) ?_
  refine q_istore_n (lv' := [(3, .int 0), (2, .ref q), (0, .ref a), (1, .int 0)]) X dX13_less_29 (by decide) rfl ?_
  refine q_iconst (v := 0) X dX13_less_30 (by decide) ?_
  refine q_istore (lv' := [(4, .int 0), (3, .int 0), (2, .ref q), (0, .ref a), (1, .int 0)]) X dX13_less_31 (by decide) rfl ?_
  refine q_iload X dX13_less_33 0 rfl ?_
  refine q_aload_n X dX13_less_35 3 rfl ?_
  refine q_get X m_18 rfl in_RX12 0 (by decide) tw_1156 rfl rfl dX13_less_36 ?_
  refine q_icmp_ge X 83 dX13_less_39 (by decide) (fun c_24 => absurd c_24 (by decide)) (fun c_24 => ?_)
  refine q_iload X dX13_less_42 0 rfl ?_
  refine q_iload_n X dX13_less_44 4 rfl ?_
  refine q_icmp_eq X 77 dX13_less_45 (by decide) (fun c_25 => ?_) (fun c_25 => absurd (by decide) c_25)
  refine q_iinc (v := 1) (lv' := [(4, .int 1), (3, .int 0), (2, .ref q), (0, .ref a), (1, .int 0)]) X dX13_less_77 0 rfl (by decide) (by decide) rfl ?_
  refine q_goto X 33 dX13_less_80 (by decide) ?_
  refine q_iload X dX13_less_33 0 rfl ?_
  refine q_aload_n X dX13_less_35 3 rfl ?_
  refine q_get X m_18 rfl in_RX12 0 (by decide) tw_1156 rfl rfl dX13_less_36 ?_
  refine q_icmp_ge X 83 dX13_less_39 (by decide) (fun c_26 => absurd c_26 (by decide)) (fun c_26 => ?_)
  refine q_iload X dX13_less_42 0 rfl ?_
  refine q_iload_n X dX13_less_44 4 rfl ?_
  refine q_icmp_eq X 77 dX13_less_45 (by decide) (fun c_27 => absurd c_27 (by decide)) (fun c_27 => ?_)
  refine q_aload_n X dX13_less_48 2 rfl ?_
  refine q_get X m_21 rfl in_RX12 2 (by decide) tw_1159 rfl rfl dX13_less_49 ?_
  refine q_iload_n X dX13_less_52 1 rfl ?_
  refine q_aload_n X dX13_less_53 3 rfl ?_
  refine q_get X m_18 rfl in_RX12 2 (by decide) tw_1159 rfl rfl dX13_less_54 ?_
  refine q_iload X dX13_less_57 0 rfl ?_
  refine q_ialdN X 1 m_19 (rfl) (by decide) (by decide) dX13_less_59 ?_
  refine q_iastN X 0 m_22 (rfl) (by decide) (by decide) dX13_less_60 ?_
  have m_28 : (mU (mU (mU M108 q (oB 12 [.int (nI 1), .int 0, .ref la, .ref ha, .null, .null])) q (oB 12 [.int (nI 1), .int (nI (dpn + 1)), .ref la, .ref ha, .null, .null])) la (aI G 3 (upd (fun _ => 0) 0 (lo 1)))) a = some (oB 12 [.int (nI 2), .int (nI dpn), .ref la0, .ref ha0, w4, w5]) := (mU_n (g_neoa m_18 m_22)).trans m_18
  have m_29 : (mU (mU (mU M108 q (oB 12 [.int (nI 1), .int 0, .ref la, .ref ha, .null, .null])) q (oB 12 [.int (nI 1), .int (nI (dpn + 1)), .ref la, .ref ha, .null, .null])) la (aI G 3 (upd (fun _ => 0) 0 (lo 1)))) la0 = some (aI G 3 lo) := (mU_n (g_nef m_4 nla)).trans m_19
  have m_30 : (mU (mU (mU M108 q (oB 12 [.int (nI 1), .int 0, .ref la, .ref ha, .null, .null])) q (oB 12 [.int (nI 1), .int (nI (dpn + 1)), .ref la, .ref ha, .null, .null])) la (aI G 3 (upd (fun _ => 0) 0 (lo 1)))) ha0 = some (aI G 3 hi) := (mU_n (g_nef m_6 nla)).trans m_20
  have m_31 : (mU (mU (mU M108 q (oB 12 [.int (nI 1), .int 0, .ref la, .ref ha, .null, .null])) q (oB 12 [.int (nI 1), .int (nI (dpn + 1)), .ref la, .ref ha, .null, .null])) la (aI G 3 (upd (fun _ => 0) 0 (lo 1)))) q = some (oB 12 [.int (nI 1), .int (nI (dpn + 1)), .ref la, .ref ha, .null, .null]) := (mU_n (g_neoa m_21 m_22)).trans m_21
  have m_32 : (mU (mU (mU M108 q (oB 12 [.int (nI 1), .int 0, .ref la, .ref ha, .null, .null])) q (oB 12 [.int (nI 1), .int (nI (dpn + 1)), .ref la, .ref ha, .null, .null])) la (aI G 3 (upd (fun _ => 0) 0 (lo 1)))) la = some (aI G 3 (upd (fun _ => 0) 0 (lo 1))) := mU_s
  have m_33 : (mU (mU (mU M108 q (oB 12 [.int (nI 1), .int 0, .ref la, .ref ha, .null, .null])) q (oB 12 [.int (nI 1), .int (nI (dpn + 1)), .ref la, .ref ha, .null, .null])) la (aI G 3 (upd (fun _ => 0) 0 (lo 1)))) ha = some (aI G 3 (fun _ => 0)) := (mU_n (Ne.symm (llaha))).trans m_23
  refine q_aload_n X dX13_less_61 2 rfl ?_
  refine q_get X m_31 rfl in_RX12 3 (by decide) tw_1161 rfl rfl dX13_less_62 ?_
  refine q_iload_n X dX13_less_65 1 rfl ?_
  refine q_iinc (v := 1) (lv' := [(3, .int 1), (4, .int 1), (2, .ref q), (0, .ref a), (1, .int 0)]) X dX13_less_66 1 rfl (by decide) (by decide) rfl ?_
  refine q_aload_n X dX13_less_69 3 rfl ?_
  refine q_get X m_28 rfl in_RX12 3 (by decide) tw_1161 rfl rfl dX13_less_70 ?_
  refine q_iload X dX13_less_73 1 rfl ?_
  refine q_ialdN X 1 m_30 (rfl) (by decide) (by decide) dX13_less_75 ?_
  refine q_iastN X 0 m_33 (rfl) (by decide) (by decide) dX13_less_76 ?_
  have m_34 : (mU (mU (mU (mU M108 q (oB 12 [.int (nI 1), .int 0, .ref la, .ref ha, .null, .null])) q (oB 12 [.int (nI 1), .int (nI (dpn + 1)), .ref la, .ref ha, .null, .null])) la (aI G 3 (upd (fun _ => 0) 0 (lo 1)))) ha (aI G 3 (upd (fun _ => 0) 0 (hi 1)))) a = some (oB 12 [.int (nI 2), .int (nI dpn), .ref la0, .ref ha0, w4, w5]) := (mU_n (g_neoa m_28 m_33)).trans m_28
  have m_35 : (mU (mU (mU (mU M108 q (oB 12 [.int (nI 1), .int 0, .ref la, .ref ha, .null, .null])) q (oB 12 [.int (nI 1), .int (nI (dpn + 1)), .ref la, .ref ha, .null, .null])) la (aI G 3 (upd (fun _ => 0) 0 (lo 1)))) ha (aI G 3 (upd (fun _ => 0) 0 (hi 1)))) la0 = some (aI G 3 lo) := (mU_n (g_nef m_4 nha)).trans m_29
  have m_36 : (mU (mU (mU (mU M108 q (oB 12 [.int (nI 1), .int 0, .ref la, .ref ha, .null, .null])) q (oB 12 [.int (nI 1), .int (nI (dpn + 1)), .ref la, .ref ha, .null, .null])) la (aI G 3 (upd (fun _ => 0) 0 (lo 1)))) ha (aI G 3 (upd (fun _ => 0) 0 (hi 1)))) ha0 = some (aI G 3 hi) := (mU_n (g_nef m_6 nha)).trans m_30
  have m_37 : (mU (mU (mU (mU M108 q (oB 12 [.int (nI 1), .int 0, .ref la, .ref ha, .null, .null])) q (oB 12 [.int (nI 1), .int (nI (dpn + 1)), .ref la, .ref ha, .null, .null])) la (aI G 3 (upd (fun _ => 0) 0 (lo 1)))) ha (aI G 3 (upd (fun _ => 0) 0 (hi 1)))) q = some (oB 12 [.int (nI 1), .int (nI (dpn + 1)), .ref la, .ref ha, .null, .null]) := (mU_n (g_neoa m_31 m_33)).trans m_31
  have m_38 : (mU (mU (mU (mU M108 q (oB 12 [.int (nI 1), .int 0, .ref la, .ref ha, .null, .null])) q (oB 12 [.int (nI 1), .int (nI (dpn + 1)), .ref la, .ref ha, .null, .null])) la (aI G 3 (upd (fun _ => 0) 0 (lo 1)))) ha (aI G 3 (upd (fun _ => 0) 0 (hi 1)))) la = some (aI G 3 (upd (fun _ => 0) 0 (lo 1))) := (mU_n (llaha)).trans m_32
  have m_39 : (mU (mU (mU (mU M108 q (oB 12 [.int (nI 1), .int 0, .ref la, .ref ha, .null, .null])) q (oB 12 [.int (nI 1), .int (nI (dpn + 1)), .ref la, .ref ha, .null, .null])) la (aI G 3 (upd (fun _ => 0) 0 (lo 1)))) ha (aI G 3 (upd (fun _ => 0) 0 (hi 1)))) ha = some (aI G 3 (upd (fun _ => 0) 0 (hi 1))) := mU_s
  refine q_iinc (v := 2) (lv' := [(4, .int 2), (3, .int 1), (2, .ref q), (0, .ref a), (1, .int 0)]) X dX13_less_77 1 rfl (by decide) (by decide) rfl ?_
  refine q_goto X 33 dX13_less_80 (by decide) ?_
  refine q_iload X dX13_less_33 0 rfl ?_
  refine q_aload_n X dX13_less_35 3 rfl ?_
  refine q_get X m_34 rfl in_RX12 0 (by decide) tw_1156 rfl rfl dX13_less_36 ?_
  refine q_icmp_ge X 83 dX13_less_39 (by decide) (fun c_40 => ?_) (fun c_40 => absurd (by decide) c_40)
  refine q_arrI (g := (dr3 lo 0 3)) m_38 (fun i hi9 => by rcases (show i = 0 ∨ i = 1 ∨ i = 2 by omega) with rfl | rfl | rfl <;> simp [upd, dr3, hz.1]) ?_
  have m_41 : (mU (mU (mU (mU (mU M108 q (oB 12 [.int (nI 1), .int 0, .ref la, .ref ha, .null, .null])) q (oB 12 [.int (nI 1), .int (nI (dpn + 1)), .ref la, .ref ha, .null, .null])) la (aI G 3 (upd (fun _ => 0) 0 (lo 1)))) ha (aI G 3 (upd (fun _ => 0) 0 (hi 1)))) la (aI G 3 (dr3 lo 0 3))) a = some (oB 12 [.int (nI 2), .int (nI dpn), .ref la0, .ref ha0, w4, w5]) := (mU_n (g_neoa m_34 m_38)).trans m_34
  have m_42 : (mU (mU (mU (mU (mU M108 q (oB 12 [.int (nI 1), .int 0, .ref la, .ref ha, .null, .null])) q (oB 12 [.int (nI 1), .int (nI (dpn + 1)), .ref la, .ref ha, .null, .null])) la (aI G 3 (upd (fun _ => 0) 0 (lo 1)))) ha (aI G 3 (upd (fun _ => 0) 0 (hi 1)))) la (aI G 3 (dr3 lo 0 3))) la0 = some (aI G 3 lo) := (mU_n (g_nef m_4 nla)).trans m_35
  have m_43 : (mU (mU (mU (mU (mU M108 q (oB 12 [.int (nI 1), .int 0, .ref la, .ref ha, .null, .null])) q (oB 12 [.int (nI 1), .int (nI (dpn + 1)), .ref la, .ref ha, .null, .null])) la (aI G 3 (upd (fun _ => 0) 0 (lo 1)))) ha (aI G 3 (upd (fun _ => 0) 0 (hi 1)))) la (aI G 3 (dr3 lo 0 3))) ha0 = some (aI G 3 hi) := (mU_n (g_nef m_6 nla)).trans m_36
  have m_44 : (mU (mU (mU (mU (mU M108 q (oB 12 [.int (nI 1), .int 0, .ref la, .ref ha, .null, .null])) q (oB 12 [.int (nI 1), .int (nI (dpn + 1)), .ref la, .ref ha, .null, .null])) la (aI G 3 (upd (fun _ => 0) 0 (lo 1)))) ha (aI G 3 (upd (fun _ => 0) 0 (hi 1)))) la (aI G 3 (dr3 lo 0 3))) q = some (oB 12 [.int (nI 1), .int (nI (dpn + 1)), .ref la, .ref ha, .null, .null]) := (mU_n (g_neoa m_37 m_38)).trans m_37
  have m_45 : (mU (mU (mU (mU (mU M108 q (oB 12 [.int (nI 1), .int 0, .ref la, .ref ha, .null, .null])) q (oB 12 [.int (nI 1), .int (nI (dpn + 1)), .ref la, .ref ha, .null, .null])) la (aI G 3 (upd (fun _ => 0) 0 (lo 1)))) ha (aI G 3 (upd (fun _ => 0) 0 (hi 1)))) la (aI G 3 (dr3 lo 0 3))) la = some (aI G 3 (dr3 lo 0 3)) := mU_s
  have m_46 : (mU (mU (mU (mU (mU M108 q (oB 12 [.int (nI 1), .int 0, .ref la, .ref ha, .null, .null])) q (oB 12 [.int (nI 1), .int (nI (dpn + 1)), .ref la, .ref ha, .null, .null])) la (aI G 3 (upd (fun _ => 0) 0 (lo 1)))) ha (aI G 3 (upd (fun _ => 0) 0 (hi 1)))) la (aI G 3 (dr3 lo 0 3))) ha = some (aI G 3 (upd (fun _ => 0) 0 (hi 1))) := (mU_n (Ne.symm (llaha))).trans m_39
  refine q_arrI (g := (dr3 hi 0 3)) m_46 (fun i hi9 => by rcases (show i = 0 ∨ i = 1 ∨ i = 2 by omega) with rfl | rfl | rfl <;> simp [upd, dr3, hz.2]) ?_
  have m_47 : (mU (mU (mU (mU (mU (mU M108 q (oB 12 [.int (nI 1), .int 0, .ref la, .ref ha, .null, .null])) q (oB 12 [.int (nI 1), .int (nI (dpn + 1)), .ref la, .ref ha, .null, .null])) la (aI G 3 (upd (fun _ => 0) 0 (lo 1)))) ha (aI G 3 (upd (fun _ => 0) 0 (hi 1)))) la (aI G 3 (dr3 lo 0 3))) ha (aI G 3 (dr3 hi 0 3))) a = some (oB 12 [.int (nI 2), .int (nI dpn), .ref la0, .ref ha0, w4, w5]) := (mU_n (g_neoa m_41 m_46)).trans m_41
  have m_48 : (mU (mU (mU (mU (mU (mU M108 q (oB 12 [.int (nI 1), .int 0, .ref la, .ref ha, .null, .null])) q (oB 12 [.int (nI 1), .int (nI (dpn + 1)), .ref la, .ref ha, .null, .null])) la (aI G 3 (upd (fun _ => 0) 0 (lo 1)))) ha (aI G 3 (upd (fun _ => 0) 0 (hi 1)))) la (aI G 3 (dr3 lo 0 3))) ha (aI G 3 (dr3 hi 0 3))) la0 = some (aI G 3 lo) := (mU_n (g_nef m_4 nha)).trans m_42
  have m_49 : (mU (mU (mU (mU (mU (mU M108 q (oB 12 [.int (nI 1), .int 0, .ref la, .ref ha, .null, .null])) q (oB 12 [.int (nI 1), .int (nI (dpn + 1)), .ref la, .ref ha, .null, .null])) la (aI G 3 (upd (fun _ => 0) 0 (lo 1)))) ha (aI G 3 (upd (fun _ => 0) 0 (hi 1)))) la (aI G 3 (dr3 lo 0 3))) ha (aI G 3 (dr3 hi 0 3))) ha0 = some (aI G 3 hi) := (mU_n (g_nef m_6 nha)).trans m_43
  have m_50 : (mU (mU (mU (mU (mU (mU M108 q (oB 12 [.int (nI 1), .int 0, .ref la, .ref ha, .null, .null])) q (oB 12 [.int (nI 1), .int (nI (dpn + 1)), .ref la, .ref ha, .null, .null])) la (aI G 3 (upd (fun _ => 0) 0 (lo 1)))) ha (aI G 3 (upd (fun _ => 0) 0 (hi 1)))) la (aI G 3 (dr3 lo 0 3))) ha (aI G 3 (dr3 hi 0 3))) q = some (oB 12 [.int (nI 1), .int (nI (dpn + 1)), .ref la, .ref ha, .null, .null]) := (mU_n (g_neoa m_44 m_46)).trans m_44
  have m_51 : (mU (mU (mU (mU (mU (mU M108 q (oB 12 [.int (nI 1), .int 0, .ref la, .ref ha, .null, .null])) q (oB 12 [.int (nI 1), .int (nI (dpn + 1)), .ref la, .ref ha, .null, .null])) la (aI G 3 (upd (fun _ => 0) 0 (lo 1)))) ha (aI G 3 (upd (fun _ => 0) 0 (hi 1)))) la (aI G 3 (dr3 lo 0 3))) ha (aI G 3 (dr3 hi 0 3))) la = some (aI G 3 (dr3 lo 0 3)) := (mU_n (llaha)).trans m_45
  have m_52 : (mU (mU (mU (mU (mU (mU M108 q (oB 12 [.int (nI 1), .int 0, .ref la, .ref ha, .null, .null])) q (oB 12 [.int (nI 1), .int (nI (dpn + 1)), .ref la, .ref ha, .null, .null])) la (aI G 3 (upd (fun _ => 0) 0 (lo 1)))) ha (aI G 3 (upd (fun _ => 0) 0 (hi 1)))) la (aI G 3 (dr3 lo 0 3))) ha (aI G 3 (dr3 hi 0 3))) ha = some (aI G 3 (dr3 hi 0 3)) := mU_s
  refine q_aload_n X dX13_less_83 2 rfl ?_
  exact q_aret X hr (Or.inl ⟨_, rfl⟩) dX13_less_84 (⟨q, la, ha, rfl, fq9, nla9, nha9, llaha, llaq, lhaq, m_50, m_51, m_52, (fun x hx => by
      have w1 : x ≠ q := fun z => hx (z ▸ fq9)
      have w2 : x ≠ la := fun z => hx (z ▸ nla9)
      have w3 : x ≠ ha := fun z => hx (z ▸ nha9)
      have e1 := eq x (by rw [mU_n w1]; exact hx)
      have e : (mU (mU (mU (mU (mU (mU M108 q (oB 12 [.int (nI 1), .int 0, .ref la, .ref ha, .null, .null])) q (oB 12 [.int (nI 1), .int (nI (dpn + 1)), .ref la, .ref ha, .null, .null])) la (aI G 3 (upd (fun _ => 0) 0 (lo 1)))) ha (aI G 3 (upd (fun _ => 0) 0 (hi 1)))) la (aI G 3 (dr3 lo 0 3))) ha (aI G 3 (dr3 hi 0 3))) x = M x := by simp only [mU, w1, w2, w3, if_false]; exact (e1.2 w1).trans (mU_n w1)
      exact ⟨by rw [e]; exact hx, fun _ => e⟩)⟩)

set_option maxRecDepth 20000 in
theorem c_less_21 {l : Launch} {G : gV} {M : gMem} {a la0 ha0 dpn : Nat} {w4 w5 : Value} {lo hi : Nat → Int32} (hA : M a = some (oB 12 [.int (nI 2), .int (nI dpn), .ref la0, .ref ha0, w4, w5])) (h1 : M la0 = some (aI G 3 lo)) (h2 : M ha0 = some (aI G 3 hi)) (hz : lo 2 = 0 ∧ hi 2 = 0) : qC l G yX13_less cX13_less 5 (some (.object "GridVaultModel$Grid")) 2 3 12 [.ref a, .int 1] M (lkP G M (nI 1) (nI (dpn + 1)) (dr3 lo 1 3) (dr3 hi 1 3)) := by
  refine qC_of (by decide +kernel) (Nat.le_of_ble_eq_true rfl) (fun F hF X hr hn => ?_)
  subst hF
  have X : qX G F cX13_less 5 RX13 2 := X
  show qJ G F _ 5 M 3 12 0 [(0, .ref a), (1, .int 1)] []
  refine q_new X (ci := 12) rfl in_RX12 tyX12 tyX12_ok tw_1145 tw_1151 tw_15 (fs0 := [.int 0, .int 0, .null, .null, .null, .null]) (fun j hj => by rcases (show j = 0 ∨ j = 1 ∨ j = 2 ∨ j = 3 ∨ j = 4 ∨ j = 5 by omega) with rfl | rfl | rfl | rfl | rfl | rfl <;> rfl) (rc' := 2) (rs' := 6) (by omega) (by omega) dX13_less_0 (fun q fq => ?_)
  have n_1 : a ≠ q := g_nef hA fq
  have m_2 : (mU M q (oB 12 [.int 0, .int 0, .null, .null, .null, .null])) a = some (oB 12 [.int (nI 2), .int (nI dpn), .ref la0, .ref ha0, w4, w5]) := (mU_n n_1).trans hA
  have n_3 : la0 ≠ q := g_nef h1 fq
  have m_4 : (mU M q (oB 12 [.int 0, .int 0, .null, .null, .null, .null])) la0 = some (aI G 3 lo) := (mU_n n_3).trans h1
  have n_5 : ha0 ≠ q := g_nef h2 fq
  have m_6 : (mU M q (oB 12 [.int 0, .int 0, .null, .null, .null, .null])) ha0 = some (aI G 3 hi) := (mU_n n_5).trans h2
  have m_7 : (mU M q (oB 12 [.int 0, .int 0, .null, .null, .null, .null])) q = some (oB 12 [.int 0, .int 0, .null, .null, .null, .null]) := mU_s
  have n9a : ¬ a = q := g_nef hA fq
  have n9la0 : ¬ la0 = q := g_nef h1 fq
  have n9ha0 : ¬ ha0 = q := g_nef h2 fq
  refine q_dup X dX13_less_3 rfl ?_
  refine q_callIN X (c_X12_init mU_s) Y_X12_init tn_1152 tw_1153 rfl (by omega) rfl rfl (Nat.le_of_ble_eq_true rfl) (rc' := 0) (rs' := 0) (by omega) (by omega) dX13_less_4 (fun v M' hp _ => ?_)
  obtain ⟨rfl, la, ha, nla, nha, llaha, llaq, lhaq, hq, hla, hha, eq⟩ := hp
  generalize M' = M108 at *
  have m_9 : M108 a = some (oB 12 [.int (nI 2), .int (nI dpn), .ref la0, .ref ha0, w4, w5]) := eq.keep m_2 n9a
  have m_10 : M108 la0 = some (aI G 3 lo) := eq.keep m_4 n9la0
  have m_11 : M108 ha0 = some (aI G 3 hi) := eq.keep m_6 n9ha0
  show qJ G F _ 5 M108 0 0 7 [(0, .ref a), (1, .int 1)] [.ref q]
  have fq9 := fq
  have nla9 : M la = none := (mEv_new (K := fun _ => False) fq).none nla
  have nha9 : M ha = none := (mEv_new (K := fun _ => False) fq).none nha
  refine q_astore_n (lv' := [(2, .ref q), (0, .ref a), (1, .int 1)]) X dX13_less_7 (by decide) rfl ?_
  refine q_aload_n X dX13_less_8 0 rfl ?_
  refine q_aload_n X dX13_less_9 1 rfl ?_
  refine q_get X m_9 rfl in_RX12 0 (by decide) tw_1156 rfl rfl dX13_less_10 ?_
  refine q_iconst (v := 1) X dX13_less_13 (by decide) ?_
  refine q_isub X dX13_less_14 ?_
  rw [show nI 2 - 1 = nI 1 from by decide]
  refine q_put X hq rfl in_RX12 tyX12 tyX12_ok nmX12 0 (by decide) tw_1156 rfl rfl rfl rfl rfl (Nat.le_of_ble_eq_true rfl) (fs1 := [.int (nI 1), .int 0, .ref la, .ref ha, .null, .null]) rfl dX13_less_15 ?_
  have m_12 : (mU M108 q (oB 12 [.int (nI 1), .int 0, .ref la, .ref ha, .null, .null])) a = some (oB 12 [.int (nI 2), .int (nI dpn), .ref la0, .ref ha0, w4, w5]) := (mU_n (n_1)).trans m_9
  have m_13 : (mU M108 q (oB 12 [.int (nI 1), .int 0, .ref la, .ref ha, .null, .null])) la0 = some (aI G 3 lo) := (mU_n (n_3)).trans m_10
  have m_14 : (mU M108 q (oB 12 [.int (nI 1), .int 0, .ref la, .ref ha, .null, .null])) ha0 = some (aI G 3 hi) := (mU_n (n_5)).trans m_11
  have m_15 : (mU M108 q (oB 12 [.int (nI 1), .int 0, .ref la, .ref ha, .null, .null])) q = some (oB 12 [.int (nI 1), .int 0, .ref la, .ref ha, .null, .null]) := mU_s
  have m_16 : (mU M108 q (oB 12 [.int (nI 1), .int 0, .ref la, .ref ha, .null, .null])) la = some (aI G 3 (fun _ => 0)) := (mU_n (Ne.symm (g_neoa hq hla))).trans hla
  have m_17 : (mU M108 q (oB 12 [.int (nI 1), .int 0, .ref la, .ref ha, .null, .null])) ha = some (aI G 3 (fun _ => 0)) := (mU_n (Ne.symm (g_neoa hq hha))).trans hha
  refine q_aload_n X dX13_less_18 0 rfl ?_
  refine q_aload_n X dX13_less_19 1 rfl ?_
  refine q_get X m_12 rfl in_RX12 1 (by decide) tw_1157 rfl rfl dX13_less_20 ?_
  refine q_iconst (v := 1) X dX13_less_23 (by decide) ?_
  refine q_iadd X dX13_less_24 ?_
  rw [nI_1]
  refine q_put X m_15 rfl in_RX12 tyX12 tyX12_ok nmX12 1 (by decide) tw_1157 rfl rfl rfl rfl rfl (Nat.le_of_ble_eq_true rfl) (fs1 := [.int (nI 1), .int (nI (dpn + 1)), .ref la, .ref ha, .null, .null]) rfl dX13_less_25 ?_
  have m_18 : (mU (mU M108 q (oB 12 [.int (nI 1), .int 0, .ref la, .ref ha, .null, .null])) q (oB 12 [.int (nI 1), .int (nI (dpn + 1)), .ref la, .ref ha, .null, .null])) a = some (oB 12 [.int (nI 2), .int (nI dpn), .ref la0, .ref ha0, w4, w5]) := (mU_n (n_1)).trans m_12
  have m_19 : (mU (mU M108 q (oB 12 [.int (nI 1), .int 0, .ref la, .ref ha, .null, .null])) q (oB 12 [.int (nI 1), .int (nI (dpn + 1)), .ref la, .ref ha, .null, .null])) la0 = some (aI G 3 lo) := (mU_n (n_3)).trans m_13
  have m_20 : (mU (mU M108 q (oB 12 [.int (nI 1), .int 0, .ref la, .ref ha, .null, .null])) q (oB 12 [.int (nI 1), .int (nI (dpn + 1)), .ref la, .ref ha, .null, .null])) ha0 = some (aI G 3 hi) := (mU_n (n_5)).trans m_14
  have m_21 : (mU (mU M108 q (oB 12 [.int (nI 1), .int 0, .ref la, .ref ha, .null, .null])) q (oB 12 [.int (nI 1), .int (nI (dpn + 1)), .ref la, .ref ha, .null, .null])) q = some (oB 12 [.int (nI 1), .int (nI (dpn + 1)), .ref la, .ref ha, .null, .null]) := mU_s
  have m_22 : (mU (mU M108 q (oB 12 [.int (nI 1), .int 0, .ref la, .ref ha, .null, .null])) q (oB 12 [.int (nI 1), .int (nI (dpn + 1)), .ref la, .ref ha, .null, .null])) la = some (aI G 3 (fun _ => 0)) := (mU_n (Ne.symm (g_neoa m_15 m_16))).trans m_16
  have m_23 : (mU (mU M108 q (oB 12 [.int (nI 1), .int 0, .ref la, .ref ha, .null, .null])) q (oB 12 [.int (nI 1), .int (nI (dpn + 1)), .ref la, .ref ha, .null, .null])) ha = some (aI G 3 (fun _ => 0)) := (mU_n (Ne.symm (g_neoa m_15 m_17))).trans m_17
  refine q_iconst (v := 0) X dX13_less_28 (by decide) ?_
  refine q_istore_n (lv' := [(3, .int 0), (2, .ref q), (0, .ref a), (1, .int 1)]) X dX13_less_29 (by decide) rfl ?_
  refine q_iconst (v := 0) X dX13_less_30 (by decide) ?_
  refine q_istore (lv' := [(4, .int 0), (3, .int 0), (2, .ref q), (0, .ref a), (1, .int 1)]) X dX13_less_31 (by decide) rfl ?_
  refine q_iload X dX13_less_33 0 rfl ?_
  refine q_aload_n X dX13_less_35 3 rfl ?_
  refine q_get X m_18 rfl in_RX12 0 (by decide) tw_1156 rfl rfl dX13_less_36 ?_
  refine q_icmp_ge X 83 dX13_less_39 (by decide) (fun c_24 => absurd c_24 (by decide)) (fun c_24 => ?_)
  refine q_iload X dX13_less_42 0 rfl ?_
  refine q_iload_n X dX13_less_44 4 rfl ?_
  refine q_icmp_eq X 77 dX13_less_45 (by decide) (fun c_25 => absurd c_25 (by decide)) (fun c_25 => ?_)
  refine q_aload_n X dX13_less_48 2 rfl ?_
  refine q_get X m_21 rfl in_RX12 2 (by decide) tw_1159 rfl rfl dX13_less_49 ?_
  refine q_iload_n X dX13_less_52 1 rfl ?_
  refine q_aload_n X dX13_less_53 3 rfl ?_
  refine q_get X m_18 rfl in_RX12 2 (by decide) tw_1159 rfl rfl dX13_less_54 ?_
  refine q_iload X dX13_less_57 0 rfl ?_
  refine q_ialdN X 0 m_19 (rfl) (by decide) (by decide) dX13_less_59 ?_
  refine q_iastN X 0 m_22 (rfl) (by decide) (by decide) dX13_less_60 ?_
  have m_26 : (mU (mU (mU M108 q (oB 12 [.int (nI 1), .int 0, .ref la, .ref ha, .null, .null])) q (oB 12 [.int (nI 1), .int (nI (dpn + 1)), .ref la, .ref ha, .null, .null])) la (aI G 3 (upd (fun _ => 0) 0 (lo 0)))) a = some (oB 12 [.int (nI 2), .int (nI dpn), .ref la0, .ref ha0, w4, w5]) := (mU_n (g_neoa m_18 m_22)).trans m_18
  have m_27 : (mU (mU (mU M108 q (oB 12 [.int (nI 1), .int 0, .ref la, .ref ha, .null, .null])) q (oB 12 [.int (nI 1), .int (nI (dpn + 1)), .ref la, .ref ha, .null, .null])) la (aI G 3 (upd (fun _ => 0) 0 (lo 0)))) la0 = some (aI G 3 lo) := (mU_n (g_nef m_4 nla)).trans m_19
  have m_28 : (mU (mU (mU M108 q (oB 12 [.int (nI 1), .int 0, .ref la, .ref ha, .null, .null])) q (oB 12 [.int (nI 1), .int (nI (dpn + 1)), .ref la, .ref ha, .null, .null])) la (aI G 3 (upd (fun _ => 0) 0 (lo 0)))) ha0 = some (aI G 3 hi) := (mU_n (g_nef m_6 nla)).trans m_20
  have m_29 : (mU (mU (mU M108 q (oB 12 [.int (nI 1), .int 0, .ref la, .ref ha, .null, .null])) q (oB 12 [.int (nI 1), .int (nI (dpn + 1)), .ref la, .ref ha, .null, .null])) la (aI G 3 (upd (fun _ => 0) 0 (lo 0)))) q = some (oB 12 [.int (nI 1), .int (nI (dpn + 1)), .ref la, .ref ha, .null, .null]) := (mU_n (g_neoa m_21 m_22)).trans m_21
  have m_30 : (mU (mU (mU M108 q (oB 12 [.int (nI 1), .int 0, .ref la, .ref ha, .null, .null])) q (oB 12 [.int (nI 1), .int (nI (dpn + 1)), .ref la, .ref ha, .null, .null])) la (aI G 3 (upd (fun _ => 0) 0 (lo 0)))) la = some (aI G 3 (upd (fun _ => 0) 0 (lo 0))) := mU_s
  have m_31 : (mU (mU (mU M108 q (oB 12 [.int (nI 1), .int 0, .ref la, .ref ha, .null, .null])) q (oB 12 [.int (nI 1), .int (nI (dpn + 1)), .ref la, .ref ha, .null, .null])) la (aI G 3 (upd (fun _ => 0) 0 (lo 0)))) ha = some (aI G 3 (fun _ => 0)) := (mU_n (Ne.symm (llaha))).trans m_23
  refine q_aload_n X dX13_less_61 2 rfl ?_
  refine q_get X m_29 rfl in_RX12 3 (by decide) tw_1161 rfl rfl dX13_less_62 ?_
  refine q_iload_n X dX13_less_65 1 rfl ?_
  refine q_iinc (v := 1) (lv' := [(3, .int 1), (4, .int 0), (2, .ref q), (0, .ref a), (1, .int 1)]) X dX13_less_66 1 rfl (by decide) (by decide) rfl ?_
  refine q_aload_n X dX13_less_69 3 rfl ?_
  refine q_get X m_26 rfl in_RX12 3 (by decide) tw_1161 rfl rfl dX13_less_70 ?_
  refine q_iload X dX13_less_73 1 rfl ?_
  refine q_ialdN X 0 m_28 (rfl) (by decide) (by decide) dX13_less_75 ?_
  refine q_iastN X 0 m_31 (rfl) (by decide) (by decide) dX13_less_76 ?_
  have m_32 : (mU (mU (mU (mU M108 q (oB 12 [.int (nI 1), .int 0, .ref la, .ref ha, .null, .null])) q (oB 12 [.int (nI 1), .int (nI (dpn + 1)), .ref la, .ref ha, .null, .null])) la (aI G 3 (upd (fun _ => 0) 0 (lo 0)))) ha (aI G 3 (upd (fun _ => 0) 0 (hi 0)))) a = some (oB 12 [.int (nI 2), .int (nI dpn), .ref la0, .ref ha0, w4, w5]) := (mU_n (g_neoa m_26 m_31)).trans m_26
  have m_33 : (mU (mU (mU (mU M108 q (oB 12 [.int (nI 1), .int 0, .ref la, .ref ha, .null, .null])) q (oB 12 [.int (nI 1), .int (nI (dpn + 1)), .ref la, .ref ha, .null, .null])) la (aI G 3 (upd (fun _ => 0) 0 (lo 0)))) ha (aI G 3 (upd (fun _ => 0) 0 (hi 0)))) la0 = some (aI G 3 lo) := (mU_n (g_nef m_4 nha)).trans m_27
  have m_34 : (mU (mU (mU (mU M108 q (oB 12 [.int (nI 1), .int 0, .ref la, .ref ha, .null, .null])) q (oB 12 [.int (nI 1), .int (nI (dpn + 1)), .ref la, .ref ha, .null, .null])) la (aI G 3 (upd (fun _ => 0) 0 (lo 0)))) ha (aI G 3 (upd (fun _ => 0) 0 (hi 0)))) ha0 = some (aI G 3 hi) := (mU_n (g_nef m_6 nha)).trans m_28
  have m_35 : (mU (mU (mU (mU M108 q (oB 12 [.int (nI 1), .int 0, .ref la, .ref ha, .null, .null])) q (oB 12 [.int (nI 1), .int (nI (dpn + 1)), .ref la, .ref ha, .null, .null])) la (aI G 3 (upd (fun _ => 0) 0 (lo 0)))) ha (aI G 3 (upd (fun _ => 0) 0 (hi 0)))) q = some (oB 12 [.int (nI 1), .int (nI (dpn + 1)), .ref la, .ref ha, .null, .null]) := (mU_n (g_neoa m_29 m_31)).trans m_29
  have m_36 : (mU (mU (mU (mU M108 q (oB 12 [.int (nI 1), .int 0, .ref la, .ref ha, .null, .null])) q (oB 12 [.int (nI 1), .int (nI (dpn + 1)), .ref la, .ref ha, .null, .null])) la (aI G 3 (upd (fun _ => 0) 0 (lo 0)))) ha (aI G 3 (upd (fun _ => 0) 0 (hi 0)))) la = some (aI G 3 (upd (fun _ => 0) 0 (lo 0))) := (mU_n (llaha)).trans m_30
  have m_37 : (mU (mU (mU (mU M108 q (oB 12 [.int (nI 1), .int 0, .ref la, .ref ha, .null, .null])) q (oB 12 [.int (nI 1), .int (nI (dpn + 1)), .ref la, .ref ha, .null, .null])) la (aI G 3 (upd (fun _ => 0) 0 (lo 0)))) ha (aI G 3 (upd (fun _ => 0) 0 (hi 0)))) ha = some (aI G 3 (upd (fun _ => 0) 0 (hi 0))) := mU_s
  refine q_iinc (v := 1) (lv' := [(4, .int 1), (3, .int 1), (2, .ref q), (0, .ref a), (1, .int 1)]) X dX13_less_77 1 rfl (by decide) (by decide) rfl ?_
  refine q_goto X 33 dX13_less_80 (by decide) ?_
  refine q_iload X dX13_less_33 0 rfl ?_
  refine q_aload_n X dX13_less_35 3 rfl ?_
  refine q_get X m_32 rfl in_RX12 0 (by decide) tw_1156 rfl rfl dX13_less_36 ?_
  refine q_icmp_ge X 83 dX13_less_39 (by decide) (fun c_38 => absurd c_38 (by decide)) (fun c_38 => ?_)
  refine q_iload X dX13_less_42 0 rfl ?_
  refine q_iload_n X dX13_less_44 4 rfl ?_
  refine q_icmp_eq X 77 dX13_less_45 (by decide) (fun c_39 => ?_) (fun c_39 => absurd (by decide) c_39)
  refine q_iinc (v := 2) (lv' := [(4, .int 2), (3, .int 1), (2, .ref q), (0, .ref a), (1, .int 1)]) X dX13_less_77 0 rfl (by decide) (by decide) rfl ?_
  refine q_goto X 33 dX13_less_80 (by decide) ?_
  refine q_iload X dX13_less_33 0 rfl ?_
  refine q_aload_n X dX13_less_35 3 rfl ?_
  refine q_get X m_32 rfl in_RX12 0 (by decide) tw_1156 rfl rfl dX13_less_36 ?_
  refine q_icmp_ge X 83 dX13_less_39 (by decide) (fun c_40 => ?_) (fun c_40 => absurd (by decide) c_40)
  refine q_arrI (g := (dr3 lo 1 3)) m_36 (fun i hi9 => by rcases (show i = 0 ∨ i = 1 ∨ i = 2 by omega) with rfl | rfl | rfl <;> simp [upd, dr3, hz.1]) ?_
  have m_41 : (mU (mU (mU (mU (mU M108 q (oB 12 [.int (nI 1), .int 0, .ref la, .ref ha, .null, .null])) q (oB 12 [.int (nI 1), .int (nI (dpn + 1)), .ref la, .ref ha, .null, .null])) la (aI G 3 (upd (fun _ => 0) 0 (lo 0)))) ha (aI G 3 (upd (fun _ => 0) 0 (hi 0)))) la (aI G 3 (dr3 lo 1 3))) a = some (oB 12 [.int (nI 2), .int (nI dpn), .ref la0, .ref ha0, w4, w5]) := (mU_n (g_neoa m_32 m_36)).trans m_32
  have m_42 : (mU (mU (mU (mU (mU M108 q (oB 12 [.int (nI 1), .int 0, .ref la, .ref ha, .null, .null])) q (oB 12 [.int (nI 1), .int (nI (dpn + 1)), .ref la, .ref ha, .null, .null])) la (aI G 3 (upd (fun _ => 0) 0 (lo 0)))) ha (aI G 3 (upd (fun _ => 0) 0 (hi 0)))) la (aI G 3 (dr3 lo 1 3))) la0 = some (aI G 3 lo) := (mU_n (g_nef m_4 nla)).trans m_33
  have m_43 : (mU (mU (mU (mU (mU M108 q (oB 12 [.int (nI 1), .int 0, .ref la, .ref ha, .null, .null])) q (oB 12 [.int (nI 1), .int (nI (dpn + 1)), .ref la, .ref ha, .null, .null])) la (aI G 3 (upd (fun _ => 0) 0 (lo 0)))) ha (aI G 3 (upd (fun _ => 0) 0 (hi 0)))) la (aI G 3 (dr3 lo 1 3))) ha0 = some (aI G 3 hi) := (mU_n (g_nef m_6 nla)).trans m_34
  have m_44 : (mU (mU (mU (mU (mU M108 q (oB 12 [.int (nI 1), .int 0, .ref la, .ref ha, .null, .null])) q (oB 12 [.int (nI 1), .int (nI (dpn + 1)), .ref la, .ref ha, .null, .null])) la (aI G 3 (upd (fun _ => 0) 0 (lo 0)))) ha (aI G 3 (upd (fun _ => 0) 0 (hi 0)))) la (aI G 3 (dr3 lo 1 3))) q = some (oB 12 [.int (nI 1), .int (nI (dpn + 1)), .ref la, .ref ha, .null, .null]) := (mU_n (g_neoa m_35 m_36)).trans m_35
  have m_45 : (mU (mU (mU (mU (mU M108 q (oB 12 [.int (nI 1), .int 0, .ref la, .ref ha, .null, .null])) q (oB 12 [.int (nI 1), .int (nI (dpn + 1)), .ref la, .ref ha, .null, .null])) la (aI G 3 (upd (fun _ => 0) 0 (lo 0)))) ha (aI G 3 (upd (fun _ => 0) 0 (hi 0)))) la (aI G 3 (dr3 lo 1 3))) la = some (aI G 3 (dr3 lo 1 3)) := mU_s
  have m_46 : (mU (mU (mU (mU (mU M108 q (oB 12 [.int (nI 1), .int 0, .ref la, .ref ha, .null, .null])) q (oB 12 [.int (nI 1), .int (nI (dpn + 1)), .ref la, .ref ha, .null, .null])) la (aI G 3 (upd (fun _ => 0) 0 (lo 0)))) ha (aI G 3 (upd (fun _ => 0) 0 (hi 0)))) la (aI G 3 (dr3 lo 1 3))) ha = some (aI G 3 (upd (fun _ => 0) 0 (hi 0))) := (mU_n (Ne.symm (llaha))).trans m_37
  refine q_arrI (g := (dr3 hi 1 3)) m_46 (fun i hi9 => by rcases (show i = 0 ∨ i = 1 ∨ i = 2 by omega) with rfl | rfl | rfl <;> simp [upd, dr3, hz.2]) ?_
  have m_47 : (mU (mU (mU (mU (mU (mU M108 q (oB 12 [.int (nI 1), .int 0, .ref la, .ref ha, .null, .null])) q (oB 12 [.int (nI 1), .int (nI (dpn + 1)), .ref la, .ref ha, .null, .null])) la (aI G 3 (upd (fun _ => 0) 0 (lo 0)))) ha (aI G 3 (upd (fun _ => 0) 0 (hi 0)))) la (aI G 3 (dr3 lo 1 3))) ha (aI G 3 (dr3 hi 1 3))) a = some (oB 12 [.int (nI 2), .int (nI dpn), .ref la0, .ref ha0, w4, w5]) := (mU_n (g_neoa m_41 m_46)).trans m_41
  have m_48 : (mU (mU (mU (mU (mU (mU M108 q (oB 12 [.int (nI 1), .int 0, .ref la, .ref ha, .null, .null])) q (oB 12 [.int (nI 1), .int (nI (dpn + 1)), .ref la, .ref ha, .null, .null])) la (aI G 3 (upd (fun _ => 0) 0 (lo 0)))) ha (aI G 3 (upd (fun _ => 0) 0 (hi 0)))) la (aI G 3 (dr3 lo 1 3))) ha (aI G 3 (dr3 hi 1 3))) la0 = some (aI G 3 lo) := (mU_n (g_nef m_4 nha)).trans m_42
  have m_49 : (mU (mU (mU (mU (mU (mU M108 q (oB 12 [.int (nI 1), .int 0, .ref la, .ref ha, .null, .null])) q (oB 12 [.int (nI 1), .int (nI (dpn + 1)), .ref la, .ref ha, .null, .null])) la (aI G 3 (upd (fun _ => 0) 0 (lo 0)))) ha (aI G 3 (upd (fun _ => 0) 0 (hi 0)))) la (aI G 3 (dr3 lo 1 3))) ha (aI G 3 (dr3 hi 1 3))) ha0 = some (aI G 3 hi) := (mU_n (g_nef m_6 nha)).trans m_43
  have m_50 : (mU (mU (mU (mU (mU (mU M108 q (oB 12 [.int (nI 1), .int 0, .ref la, .ref ha, .null, .null])) q (oB 12 [.int (nI 1), .int (nI (dpn + 1)), .ref la, .ref ha, .null, .null])) la (aI G 3 (upd (fun _ => 0) 0 (lo 0)))) ha (aI G 3 (upd (fun _ => 0) 0 (hi 0)))) la (aI G 3 (dr3 lo 1 3))) ha (aI G 3 (dr3 hi 1 3))) q = some (oB 12 [.int (nI 1), .int (nI (dpn + 1)), .ref la, .ref ha, .null, .null]) := (mU_n (g_neoa m_44 m_46)).trans m_44
  have m_51 : (mU (mU (mU (mU (mU (mU M108 q (oB 12 [.int (nI 1), .int 0, .ref la, .ref ha, .null, .null])) q (oB 12 [.int (nI 1), .int (nI (dpn + 1)), .ref la, .ref ha, .null, .null])) la (aI G 3 (upd (fun _ => 0) 0 (lo 0)))) ha (aI G 3 (upd (fun _ => 0) 0 (hi 0)))) la (aI G 3 (dr3 lo 1 3))) ha (aI G 3 (dr3 hi 1 3))) la = some (aI G 3 (dr3 lo 1 3)) := (mU_n (llaha)).trans m_45
  have m_52 : (mU (mU (mU (mU (mU (mU M108 q (oB 12 [.int (nI 1), .int 0, .ref la, .ref ha, .null, .null])) q (oB 12 [.int (nI 1), .int (nI (dpn + 1)), .ref la, .ref ha, .null, .null])) la (aI G 3 (upd (fun _ => 0) 0 (lo 0)))) ha (aI G 3 (upd (fun _ => 0) 0 (hi 0)))) la (aI G 3 (dr3 lo 1 3))) ha (aI G 3 (dr3 hi 1 3))) ha = some (aI G 3 (dr3 hi 1 3)) := mU_s
  refine q_aload_n X dX13_less_83 2 rfl ?_
  exact q_aret X hr (Or.inl ⟨_, rfl⟩) dX13_less_84 (⟨q, la, ha, rfl, fq9, nla9, nha9, llaha, llaq, lhaq, m_50, m_51, m_52, (fun x hx => by
      have w1 : x ≠ q := fun z => hx (z ▸ fq9)
      have w2 : x ≠ la := fun z => hx (z ▸ nla9)
      have w3 : x ≠ ha := fun z => hx (z ▸ nha9)
      have e1 := eq x (by rw [mU_n w1]; exact hx)
      have e : (mU (mU (mU (mU (mU (mU M108 q (oB 12 [.int (nI 1), .int 0, .ref la, .ref ha, .null, .null])) q (oB 12 [.int (nI 1), .int (nI (dpn + 1)), .ref la, .ref ha, .null, .null])) la (aI G 3 (upd (fun _ => 0) 0 (lo 0)))) ha (aI G 3 (upd (fun _ => 0) 0 (hi 0)))) la (aI G 3 (dr3 lo 1 3))) ha (aI G 3 (dr3 hi 1 3))) x = M x := by simp only [mU, w1, w2, w3, if_false]; exact (e1.2 w1).trans (mU_n w1)
      exact ⟨by rw [e]; exact hx, fun _ => e⟩)⟩)

set_option maxRecDepth 20000 in
theorem c_less_30 {l : Launch} {G : gV} {M : gMem} {a la0 ha0 dpn : Nat} {w4 w5 : Value} {lo hi : Nat → Int32} (hA : M a = some (oB 12 [.int (nI 3), .int (nI dpn), .ref la0, .ref ha0, w4, w5])) (h1 : M la0 = some (aI G 3 lo)) (h2 : M ha0 = some (aI G 3 hi)) : qC l G yX13_less cX13_less 5 (some (.object "GridVaultModel$Grid")) 2 3 12 [.ref a, .int 0] M (lkP G M (nI 2) (nI (dpn + 1)) (dr3 lo 0 3) (dr3 hi 0 3)) := by
  refine qC_of (by decide +kernel) (Nat.le_of_ble_eq_true rfl) (fun F hF X hr hn => ?_)
  subst hF
  have X : qX G F cX13_less 5 RX13 2 := X
  show qJ G F _ 5 M 3 12 0 [(0, .ref a), (1, .int 0)] []
  refine q_new X (ci := 12) rfl in_RX12 tyX12 tyX12_ok tw_1145 tw_1151 tw_15 (fs0 := [.int 0, .int 0, .null, .null, .null, .null]) (fun j hj => by rcases (show j = 0 ∨ j = 1 ∨ j = 2 ∨ j = 3 ∨ j = 4 ∨ j = 5 by omega) with rfl | rfl | rfl | rfl | rfl | rfl <;> rfl) (rc' := 2) (rs' := 6) (by omega) (by omega) dX13_less_0 (fun q fq => ?_)
  have n_1 : a ≠ q := g_nef hA fq
  have m_2 : (mU M q (oB 12 [.int 0, .int 0, .null, .null, .null, .null])) a = some (oB 12 [.int (nI 3), .int (nI dpn), .ref la0, .ref ha0, w4, w5]) := (mU_n n_1).trans hA
  have n_3 : la0 ≠ q := g_nef h1 fq
  have m_4 : (mU M q (oB 12 [.int 0, .int 0, .null, .null, .null, .null])) la0 = some (aI G 3 lo) := (mU_n n_3).trans h1
  have n_5 : ha0 ≠ q := g_nef h2 fq
  have m_6 : (mU M q (oB 12 [.int 0, .int 0, .null, .null, .null, .null])) ha0 = some (aI G 3 hi) := (mU_n n_5).trans h2
  have m_7 : (mU M q (oB 12 [.int 0, .int 0, .null, .null, .null, .null])) q = some (oB 12 [.int 0, .int 0, .null, .null, .null, .null]) := mU_s
  have n9a : ¬ a = q := g_nef hA fq
  have n9la0 : ¬ la0 = q := g_nef h1 fq
  have n9ha0 : ¬ ha0 = q := g_nef h2 fq
  refine q_dup X dX13_less_3 rfl ?_
  refine q_callIN X (c_X12_init mU_s) Y_X12_init tn_1152 tw_1153 rfl (by omega) rfl rfl (Nat.le_of_ble_eq_true rfl) (rc' := 0) (rs' := 0) (by omega) (by omega) dX13_less_4 (fun v M' hp _ => ?_)
  obtain ⟨rfl, la, ha, nla, nha, llaha, llaq, lhaq, hq, hla, hha, eq⟩ := hp
  generalize M' = M108 at *
  have m_9 : M108 a = some (oB 12 [.int (nI 3), .int (nI dpn), .ref la0, .ref ha0, w4, w5]) := eq.keep m_2 n9a
  have m_10 : M108 la0 = some (aI G 3 lo) := eq.keep m_4 n9la0
  have m_11 : M108 ha0 = some (aI G 3 hi) := eq.keep m_6 n9ha0
  show qJ G F _ 5 M108 0 0 7 [(0, .ref a), (1, .int 0)] [.ref q]
  have fq9 := fq
  have nla9 : M la = none := (mEv_new (K := fun _ => False) fq).none nla
  have nha9 : M ha = none := (mEv_new (K := fun _ => False) fq).none nha
  refine q_astore_n (lv' := [(2, .ref q), (0, .ref a), (1, .int 0)]) X dX13_less_7 (by decide) rfl ?_
  refine q_aload_n X dX13_less_8 0 rfl ?_
  refine q_aload_n X dX13_less_9 1 rfl ?_
  refine q_get X m_9 rfl in_RX12 0 (by decide) tw_1156 rfl rfl dX13_less_10 ?_
  refine q_iconst (v := 1) X dX13_less_13 (by decide) ?_
  refine q_isub X dX13_less_14 ?_
  rw [show nI 3 - 1 = nI 2 from by decide]
  refine q_put X hq rfl in_RX12 tyX12 tyX12_ok nmX12 0 (by decide) tw_1156 rfl rfl rfl rfl rfl (Nat.le_of_ble_eq_true rfl) (fs1 := [.int (nI 2), .int 0, .ref la, .ref ha, .null, .null]) rfl dX13_less_15 ?_
  have m_12 : (mU M108 q (oB 12 [.int (nI 2), .int 0, .ref la, .ref ha, .null, .null])) a = some (oB 12 [.int (nI 3), .int (nI dpn), .ref la0, .ref ha0, w4, w5]) := (mU_n (n_1)).trans m_9
  have m_13 : (mU M108 q (oB 12 [.int (nI 2), .int 0, .ref la, .ref ha, .null, .null])) la0 = some (aI G 3 lo) := (mU_n (n_3)).trans m_10
  have m_14 : (mU M108 q (oB 12 [.int (nI 2), .int 0, .ref la, .ref ha, .null, .null])) ha0 = some (aI G 3 hi) := (mU_n (n_5)).trans m_11
  have m_15 : (mU M108 q (oB 12 [.int (nI 2), .int 0, .ref la, .ref ha, .null, .null])) q = some (oB 12 [.int (nI 2), .int 0, .ref la, .ref ha, .null, .null]) := mU_s
  have m_16 : (mU M108 q (oB 12 [.int (nI 2), .int 0, .ref la, .ref ha, .null, .null])) la = some (aI G 3 (fun _ => 0)) := (mU_n (Ne.symm (g_neoa hq hla))).trans hla
  have m_17 : (mU M108 q (oB 12 [.int (nI 2), .int 0, .ref la, .ref ha, .null, .null])) ha = some (aI G 3 (fun _ => 0)) := (mU_n (Ne.symm (g_neoa hq hha))).trans hha
  refine q_aload_n X dX13_less_18 0 rfl ?_
  refine q_aload_n X dX13_less_19 1 rfl ?_
  refine q_get X m_12 rfl in_RX12 1 (by decide) tw_1157 rfl rfl dX13_less_20 ?_
  refine q_iconst (v := 1) X dX13_less_23 (by decide) ?_
  refine q_iadd X dX13_less_24 ?_
  rw [nI_1]
  refine q_put X m_15 rfl in_RX12 tyX12 tyX12_ok nmX12 1 (by decide) tw_1157 rfl rfl rfl rfl rfl (Nat.le_of_ble_eq_true rfl) (fs1 := [.int (nI 2), .int (nI (dpn + 1)), .ref la, .ref ha, .null, .null]) rfl dX13_less_25 ?_
  have m_18 : (mU (mU M108 q (oB 12 [.int (nI 2), .int 0, .ref la, .ref ha, .null, .null])) q (oB 12 [.int (nI 2), .int (nI (dpn + 1)), .ref la, .ref ha, .null, .null])) a = some (oB 12 [.int (nI 3), .int (nI dpn), .ref la0, .ref ha0, w4, w5]) := (mU_n (n_1)).trans m_12
  have m_19 : (mU (mU M108 q (oB 12 [.int (nI 2), .int 0, .ref la, .ref ha, .null, .null])) q (oB 12 [.int (nI 2), .int (nI (dpn + 1)), .ref la, .ref ha, .null, .null])) la0 = some (aI G 3 lo) := (mU_n (n_3)).trans m_13
  have m_20 : (mU (mU M108 q (oB 12 [.int (nI 2), .int 0, .ref la, .ref ha, .null, .null])) q (oB 12 [.int (nI 2), .int (nI (dpn + 1)), .ref la, .ref ha, .null, .null])) ha0 = some (aI G 3 hi) := (mU_n (n_5)).trans m_14
  have m_21 : (mU (mU M108 q (oB 12 [.int (nI 2), .int 0, .ref la, .ref ha, .null, .null])) q (oB 12 [.int (nI 2), .int (nI (dpn + 1)), .ref la, .ref ha, .null, .null])) q = some (oB 12 [.int (nI 2), .int (nI (dpn + 1)), .ref la, .ref ha, .null, .null]) := mU_s
  have m_22 : (mU (mU M108 q (oB 12 [.int (nI 2), .int 0, .ref la, .ref ha, .null, .null])) q (oB 12 [.int (nI 2), .int (nI (dpn + 1)), .ref la, .ref ha, .null, .null])) la = some (aI G 3 (fun _ => 0)) := (mU_n (Ne.symm (g_neoa m_15 m_16))).trans m_16
  have m_23 : (mU (mU M108 q (oB 12 [.int (nI 2), .int 0, .ref la, .ref ha, .null, .null])) q (oB 12 [.int (nI 2), .int (nI (dpn + 1)), .ref la, .ref ha, .null, .null])) ha = some (aI G 3 (fun _ => 0)) := (mU_n (Ne.symm (g_neoa m_15 m_17))).trans m_17
  refine q_iconst (v := 0) X dX13_less_28 (by decide) ?_
  refine q_istore_n (lv' := [(3, .int 0), (2, .ref q), (0, .ref a), (1, .int 0)]) X dX13_less_29 (by decide) rfl ?_
  refine q_iconst (v := 0) X dX13_less_30 (by decide) ?_
  refine q_istore (lv' := [(4, .int 0), (3, .int 0), (2, .ref q), (0, .ref a), (1, .int 0)]) X dX13_less_31 (by decide) rfl ?_
  refine q_iload X dX13_less_33 0 rfl ?_
  refine q_aload_n X dX13_less_35 3 rfl ?_
  refine q_get X m_18 rfl in_RX12 0 (by decide) tw_1156 rfl rfl dX13_less_36 ?_
  refine q_icmp_ge X 83 dX13_less_39 (by decide) (fun c_24 => absurd c_24 (by decide)) (fun c_24 => ?_)
  refine q_iload X dX13_less_42 0 rfl ?_
  refine q_iload_n X dX13_less_44 4 rfl ?_
  refine q_icmp_eq X 77 dX13_less_45 (by decide) (fun c_25 => ?_) (fun c_25 => absurd (by decide) c_25)
  refine q_iinc (v := 1) (lv' := [(4, .int 1), (3, .int 0), (2, .ref q), (0, .ref a), (1, .int 0)]) X dX13_less_77 0 rfl (by decide) (by decide) rfl ?_
  refine q_goto X 33 dX13_less_80 (by decide) ?_
  refine q_iload X dX13_less_33 0 rfl ?_
  refine q_aload_n X dX13_less_35 3 rfl ?_
  refine q_get X m_18 rfl in_RX12 0 (by decide) tw_1156 rfl rfl dX13_less_36 ?_
  refine q_icmp_ge X 83 dX13_less_39 (by decide) (fun c_26 => absurd c_26 (by decide)) (fun c_26 => ?_)
  refine q_iload X dX13_less_42 0 rfl ?_
  refine q_iload_n X dX13_less_44 4 rfl ?_
  refine q_icmp_eq X 77 dX13_less_45 (by decide) (fun c_27 => absurd c_27 (by decide)) (fun c_27 => ?_)
  refine q_aload_n X dX13_less_48 2 rfl ?_
  refine q_get X m_21 rfl in_RX12 2 (by decide) tw_1159 rfl rfl dX13_less_49 ?_
  refine q_iload_n X dX13_less_52 1 rfl ?_
  refine q_aload_n X dX13_less_53 3 rfl ?_
  refine q_get X m_18 rfl in_RX12 2 (by decide) tw_1159 rfl rfl dX13_less_54 ?_
  refine q_iload X dX13_less_57 0 rfl ?_
  refine q_ialdN X 1 m_19 (rfl) (by decide) (by decide) dX13_less_59 ?_
  refine q_iastN X 0 m_22 (rfl) (by decide) (by decide) dX13_less_60 ?_
  have m_28 : (mU (mU (mU M108 q (oB 12 [.int (nI 2), .int 0, .ref la, .ref ha, .null, .null])) q (oB 12 [.int (nI 2), .int (nI (dpn + 1)), .ref la, .ref ha, .null, .null])) la (aI G 3 (upd (fun _ => 0) 0 (lo 1)))) a = some (oB 12 [.int (nI 3), .int (nI dpn), .ref la0, .ref ha0, w4, w5]) := (mU_n (g_neoa m_18 m_22)).trans m_18
  have m_29 : (mU (mU (mU M108 q (oB 12 [.int (nI 2), .int 0, .ref la, .ref ha, .null, .null])) q (oB 12 [.int (nI 2), .int (nI (dpn + 1)), .ref la, .ref ha, .null, .null])) la (aI G 3 (upd (fun _ => 0) 0 (lo 1)))) la0 = some (aI G 3 lo) := (mU_n (g_nef m_4 nla)).trans m_19
  have m_30 : (mU (mU (mU M108 q (oB 12 [.int (nI 2), .int 0, .ref la, .ref ha, .null, .null])) q (oB 12 [.int (nI 2), .int (nI (dpn + 1)), .ref la, .ref ha, .null, .null])) la (aI G 3 (upd (fun _ => 0) 0 (lo 1)))) ha0 = some (aI G 3 hi) := (mU_n (g_nef m_6 nla)).trans m_20
  have m_31 : (mU (mU (mU M108 q (oB 12 [.int (nI 2), .int 0, .ref la, .ref ha, .null, .null])) q (oB 12 [.int (nI 2), .int (nI (dpn + 1)), .ref la, .ref ha, .null, .null])) la (aI G 3 (upd (fun _ => 0) 0 (lo 1)))) q = some (oB 12 [.int (nI 2), .int (nI (dpn + 1)), .ref la, .ref ha, .null, .null]) := (mU_n (g_neoa m_21 m_22)).trans m_21
  have m_32 : (mU (mU (mU M108 q (oB 12 [.int (nI 2), .int 0, .ref la, .ref ha, .null, .null])) q (oB 12 [.int (nI 2), .int (nI (dpn + 1)), .ref la, .ref ha, .null, .null])) la (aI G 3 (upd (fun _ => 0) 0 (lo 1)))) la = some (aI G 3 (upd (fun _ => 0) 0 (lo 1))) := mU_s
  have m_33 : (mU (mU (mU M108 q (oB 12 [.int (nI 2), .int 0, .ref la, .ref ha, .null, .null])) q (oB 12 [.int (nI 2), .int (nI (dpn + 1)), .ref la, .ref ha, .null, .null])) la (aI G 3 (upd (fun _ => 0) 0 (lo 1)))) ha = some (aI G 3 (fun _ => 0)) := (mU_n (Ne.symm (llaha))).trans m_23
  refine q_aload_n X dX13_less_61 2 rfl ?_
  refine q_get X m_31 rfl in_RX12 3 (by decide) tw_1161 rfl rfl dX13_less_62 ?_
  refine q_iload_n X dX13_less_65 1 rfl ?_
  refine q_iinc (v := 1) (lv' := [(3, .int 1), (4, .int 1), (2, .ref q), (0, .ref a), (1, .int 0)]) X dX13_less_66 1 rfl (by decide) (by decide) rfl ?_
  refine q_aload_n X dX13_less_69 3 rfl ?_
  refine q_get X m_28 rfl in_RX12 3 (by decide) tw_1161 rfl rfl dX13_less_70 ?_
  refine q_iload X dX13_less_73 1 rfl ?_
  refine q_ialdN X 1 m_30 (rfl) (by decide) (by decide) dX13_less_75 ?_
  refine q_iastN X 0 m_33 (rfl) (by decide) (by decide) dX13_less_76 ?_
  have m_34 : (mU (mU (mU (mU M108 q (oB 12 [.int (nI 2), .int 0, .ref la, .ref ha, .null, .null])) q (oB 12 [.int (nI 2), .int (nI (dpn + 1)), .ref la, .ref ha, .null, .null])) la (aI G 3 (upd (fun _ => 0) 0 (lo 1)))) ha (aI G 3 (upd (fun _ => 0) 0 (hi 1)))) a = some (oB 12 [.int (nI 3), .int (nI dpn), .ref la0, .ref ha0, w4, w5]) := (mU_n (g_neoa m_28 m_33)).trans m_28
  have m_35 : (mU (mU (mU (mU M108 q (oB 12 [.int (nI 2), .int 0, .ref la, .ref ha, .null, .null])) q (oB 12 [.int (nI 2), .int (nI (dpn + 1)), .ref la, .ref ha, .null, .null])) la (aI G 3 (upd (fun _ => 0) 0 (lo 1)))) ha (aI G 3 (upd (fun _ => 0) 0 (hi 1)))) la0 = some (aI G 3 lo) := (mU_n (g_nef m_4 nha)).trans m_29
  have m_36 : (mU (mU (mU (mU M108 q (oB 12 [.int (nI 2), .int 0, .ref la, .ref ha, .null, .null])) q (oB 12 [.int (nI 2), .int (nI (dpn + 1)), .ref la, .ref ha, .null, .null])) la (aI G 3 (upd (fun _ => 0) 0 (lo 1)))) ha (aI G 3 (upd (fun _ => 0) 0 (hi 1)))) ha0 = some (aI G 3 hi) := (mU_n (g_nef m_6 nha)).trans m_30
  have m_37 : (mU (mU (mU (mU M108 q (oB 12 [.int (nI 2), .int 0, .ref la, .ref ha, .null, .null])) q (oB 12 [.int (nI 2), .int (nI (dpn + 1)), .ref la, .ref ha, .null, .null])) la (aI G 3 (upd (fun _ => 0) 0 (lo 1)))) ha (aI G 3 (upd (fun _ => 0) 0 (hi 1)))) q = some (oB 12 [.int (nI 2), .int (nI (dpn + 1)), .ref la, .ref ha, .null, .null]) := (mU_n (g_neoa m_31 m_33)).trans m_31
  have m_38 : (mU (mU (mU (mU M108 q (oB 12 [.int (nI 2), .int 0, .ref la, .ref ha, .null, .null])) q (oB 12 [.int (nI 2), .int (nI (dpn + 1)), .ref la, .ref ha, .null, .null])) la (aI G 3 (upd (fun _ => 0) 0 (lo 1)))) ha (aI G 3 (upd (fun _ => 0) 0 (hi 1)))) la = some (aI G 3 (upd (fun _ => 0) 0 (lo 1))) := (mU_n (llaha)).trans m_32
  have m_39 : (mU (mU (mU (mU M108 q (oB 12 [.int (nI 2), .int 0, .ref la, .ref ha, .null, .null])) q (oB 12 [.int (nI 2), .int (nI (dpn + 1)), .ref la, .ref ha, .null, .null])) la (aI G 3 (upd (fun _ => 0) 0 (lo 1)))) ha (aI G 3 (upd (fun _ => 0) 0 (hi 1)))) ha = some (aI G 3 (upd (fun _ => 0) 0 (hi 1))) := mU_s
  refine q_iinc (v := 2) (lv' := [(4, .int 2), (3, .int 1), (2, .ref q), (0, .ref a), (1, .int 0)]) X dX13_less_77 1 rfl (by decide) (by decide) rfl ?_
  refine q_goto X 33 dX13_less_80 (by decide) ?_
  refine q_iload X dX13_less_33 0 rfl ?_
  refine q_aload_n X dX13_less_35 3 rfl ?_
  refine q_get X m_34 rfl in_RX12 0 (by decide) tw_1156 rfl rfl dX13_less_36 ?_
  refine q_icmp_ge X 83 dX13_less_39 (by decide) (fun c_40 => absurd c_40 (by decide)) (fun c_40 => ?_)
  refine q_iload X dX13_less_42 0 rfl ?_
  refine q_iload_n X dX13_less_44 4 rfl ?_
  refine q_icmp_eq X 77 dX13_less_45 (by decide) (fun c_41 => absurd c_41 (by decide)) (fun c_41 => ?_)
  refine q_aload_n X dX13_less_48 2 rfl ?_
  refine q_get X m_37 rfl in_RX12 2 (by decide) tw_1159 rfl rfl dX13_less_49 ?_
  refine q_iload_n X dX13_less_52 1 rfl ?_
  refine q_aload_n X dX13_less_53 3 rfl ?_
  refine q_get X m_34 rfl in_RX12 2 (by decide) tw_1159 rfl rfl dX13_less_54 ?_
  refine q_iload X dX13_less_57 0 rfl ?_
  refine q_ialdN X 2 m_35 (rfl) (by decide) (by decide) dX13_less_59 ?_
  refine q_iastN X 1 m_38 (rfl) (by decide) (by decide) dX13_less_60 ?_
  have m_42 : (mU (mU (mU (mU (mU M108 q (oB 12 [.int (nI 2), .int 0, .ref la, .ref ha, .null, .null])) q (oB 12 [.int (nI 2), .int (nI (dpn + 1)), .ref la, .ref ha, .null, .null])) la (aI G 3 (upd (fun _ => 0) 0 (lo 1)))) ha (aI G 3 (upd (fun _ => 0) 0 (hi 1)))) la (aI G 3 (upd (upd (fun _ => 0) 0 (lo 1)) 1 (lo 2)))) a = some (oB 12 [.int (nI 3), .int (nI dpn), .ref la0, .ref ha0, w4, w5]) := (mU_n (g_neoa m_34 m_38)).trans m_34
  have m_43 : (mU (mU (mU (mU (mU M108 q (oB 12 [.int (nI 2), .int 0, .ref la, .ref ha, .null, .null])) q (oB 12 [.int (nI 2), .int (nI (dpn + 1)), .ref la, .ref ha, .null, .null])) la (aI G 3 (upd (fun _ => 0) 0 (lo 1)))) ha (aI G 3 (upd (fun _ => 0) 0 (hi 1)))) la (aI G 3 (upd (upd (fun _ => 0) 0 (lo 1)) 1 (lo 2)))) la0 = some (aI G 3 lo) := (mU_n (g_nef m_4 nla)).trans m_35
  have m_44 : (mU (mU (mU (mU (mU M108 q (oB 12 [.int (nI 2), .int 0, .ref la, .ref ha, .null, .null])) q (oB 12 [.int (nI 2), .int (nI (dpn + 1)), .ref la, .ref ha, .null, .null])) la (aI G 3 (upd (fun _ => 0) 0 (lo 1)))) ha (aI G 3 (upd (fun _ => 0) 0 (hi 1)))) la (aI G 3 (upd (upd (fun _ => 0) 0 (lo 1)) 1 (lo 2)))) ha0 = some (aI G 3 hi) := (mU_n (g_nef m_6 nla)).trans m_36
  have m_45 : (mU (mU (mU (mU (mU M108 q (oB 12 [.int (nI 2), .int 0, .ref la, .ref ha, .null, .null])) q (oB 12 [.int (nI 2), .int (nI (dpn + 1)), .ref la, .ref ha, .null, .null])) la (aI G 3 (upd (fun _ => 0) 0 (lo 1)))) ha (aI G 3 (upd (fun _ => 0) 0 (hi 1)))) la (aI G 3 (upd (upd (fun _ => 0) 0 (lo 1)) 1 (lo 2)))) q = some (oB 12 [.int (nI 2), .int (nI (dpn + 1)), .ref la, .ref ha, .null, .null]) := (mU_n (g_neoa m_37 m_38)).trans m_37
  have m_46 : (mU (mU (mU (mU (mU M108 q (oB 12 [.int (nI 2), .int 0, .ref la, .ref ha, .null, .null])) q (oB 12 [.int (nI 2), .int (nI (dpn + 1)), .ref la, .ref ha, .null, .null])) la (aI G 3 (upd (fun _ => 0) 0 (lo 1)))) ha (aI G 3 (upd (fun _ => 0) 0 (hi 1)))) la (aI G 3 (upd (upd (fun _ => 0) 0 (lo 1)) 1 (lo 2)))) la = some (aI G 3 (upd (upd (fun _ => 0) 0 (lo 1)) 1 (lo 2))) := mU_s
  have m_47 : (mU (mU (mU (mU (mU M108 q (oB 12 [.int (nI 2), .int 0, .ref la, .ref ha, .null, .null])) q (oB 12 [.int (nI 2), .int (nI (dpn + 1)), .ref la, .ref ha, .null, .null])) la (aI G 3 (upd (fun _ => 0) 0 (lo 1)))) ha (aI G 3 (upd (fun _ => 0) 0 (hi 1)))) la (aI G 3 (upd (upd (fun _ => 0) 0 (lo 1)) 1 (lo 2)))) ha = some (aI G 3 (upd (fun _ => 0) 0 (hi 1))) := (mU_n (Ne.symm (llaha))).trans m_39
  refine q_aload_n X dX13_less_61 2 rfl ?_
  refine q_get X m_45 rfl in_RX12 3 (by decide) tw_1161 rfl rfl dX13_less_62 ?_
  refine q_iload_n X dX13_less_65 1 rfl ?_
  refine q_iinc (v := 2) (lv' := [(3, .int 2), (4, .int 2), (2, .ref q), (0, .ref a), (1, .int 0)]) X dX13_less_66 1 rfl (by decide) (by decide) rfl ?_
  refine q_aload_n X dX13_less_69 3 rfl ?_
  refine q_get X m_42 rfl in_RX12 3 (by decide) tw_1161 rfl rfl dX13_less_70 ?_
  refine q_iload X dX13_less_73 1 rfl ?_
  refine q_ialdN X 2 m_44 (rfl) (by decide) (by decide) dX13_less_75 ?_
  refine q_iastN X 1 m_47 (rfl) (by decide) (by decide) dX13_less_76 ?_
  have m_48 : (mU (mU (mU (mU (mU (mU M108 q (oB 12 [.int (nI 2), .int 0, .ref la, .ref ha, .null, .null])) q (oB 12 [.int (nI 2), .int (nI (dpn + 1)), .ref la, .ref ha, .null, .null])) la (aI G 3 (upd (fun _ => 0) 0 (lo 1)))) ha (aI G 3 (upd (fun _ => 0) 0 (hi 1)))) la (aI G 3 (upd (upd (fun _ => 0) 0 (lo 1)) 1 (lo 2)))) ha (aI G 3 (upd (upd (fun _ => 0) 0 (hi 1)) 1 (hi 2)))) a = some (oB 12 [.int (nI 3), .int (nI dpn), .ref la0, .ref ha0, w4, w5]) := (mU_n (g_neoa m_42 m_47)).trans m_42
  have m_49 : (mU (mU (mU (mU (mU (mU M108 q (oB 12 [.int (nI 2), .int 0, .ref la, .ref ha, .null, .null])) q (oB 12 [.int (nI 2), .int (nI (dpn + 1)), .ref la, .ref ha, .null, .null])) la (aI G 3 (upd (fun _ => 0) 0 (lo 1)))) ha (aI G 3 (upd (fun _ => 0) 0 (hi 1)))) la (aI G 3 (upd (upd (fun _ => 0) 0 (lo 1)) 1 (lo 2)))) ha (aI G 3 (upd (upd (fun _ => 0) 0 (hi 1)) 1 (hi 2)))) la0 = some (aI G 3 lo) := (mU_n (g_nef m_4 nha)).trans m_43
  have m_50 : (mU (mU (mU (mU (mU (mU M108 q (oB 12 [.int (nI 2), .int 0, .ref la, .ref ha, .null, .null])) q (oB 12 [.int (nI 2), .int (nI (dpn + 1)), .ref la, .ref ha, .null, .null])) la (aI G 3 (upd (fun _ => 0) 0 (lo 1)))) ha (aI G 3 (upd (fun _ => 0) 0 (hi 1)))) la (aI G 3 (upd (upd (fun _ => 0) 0 (lo 1)) 1 (lo 2)))) ha (aI G 3 (upd (upd (fun _ => 0) 0 (hi 1)) 1 (hi 2)))) ha0 = some (aI G 3 hi) := (mU_n (g_nef m_6 nha)).trans m_44
  have m_51 : (mU (mU (mU (mU (mU (mU M108 q (oB 12 [.int (nI 2), .int 0, .ref la, .ref ha, .null, .null])) q (oB 12 [.int (nI 2), .int (nI (dpn + 1)), .ref la, .ref ha, .null, .null])) la (aI G 3 (upd (fun _ => 0) 0 (lo 1)))) ha (aI G 3 (upd (fun _ => 0) 0 (hi 1)))) la (aI G 3 (upd (upd (fun _ => 0) 0 (lo 1)) 1 (lo 2)))) ha (aI G 3 (upd (upd (fun _ => 0) 0 (hi 1)) 1 (hi 2)))) q = some (oB 12 [.int (nI 2), .int (nI (dpn + 1)), .ref la, .ref ha, .null, .null]) := (mU_n (g_neoa m_45 m_47)).trans m_45
  have m_52 : (mU (mU (mU (mU (mU (mU M108 q (oB 12 [.int (nI 2), .int 0, .ref la, .ref ha, .null, .null])) q (oB 12 [.int (nI 2), .int (nI (dpn + 1)), .ref la, .ref ha, .null, .null])) la (aI G 3 (upd (fun _ => 0) 0 (lo 1)))) ha (aI G 3 (upd (fun _ => 0) 0 (hi 1)))) la (aI G 3 (upd (upd (fun _ => 0) 0 (lo 1)) 1 (lo 2)))) ha (aI G 3 (upd (upd (fun _ => 0) 0 (hi 1)) 1 (hi 2)))) la = some (aI G 3 (upd (upd (fun _ => 0) 0 (lo 1)) 1 (lo 2))) := (mU_n (llaha)).trans m_46
  have m_53 : (mU (mU (mU (mU (mU (mU M108 q (oB 12 [.int (nI 2), .int 0, .ref la, .ref ha, .null, .null])) q (oB 12 [.int (nI 2), .int (nI (dpn + 1)), .ref la, .ref ha, .null, .null])) la (aI G 3 (upd (fun _ => 0) 0 (lo 1)))) ha (aI G 3 (upd (fun _ => 0) 0 (hi 1)))) la (aI G 3 (upd (upd (fun _ => 0) 0 (lo 1)) 1 (lo 2)))) ha (aI G 3 (upd (upd (fun _ => 0) 0 (hi 1)) 1 (hi 2)))) ha = some (aI G 3 (upd (upd (fun _ => 0) 0 (hi 1)) 1 (hi 2))) := mU_s
  refine q_iinc (v := 3) (lv' := [(4, .int 3), (3, .int 2), (2, .ref q), (0, .ref a), (1, .int 0)]) X dX13_less_77 1 rfl (by decide) (by decide) rfl ?_
  refine q_goto X 33 dX13_less_80 (by decide) ?_
  refine q_iload X dX13_less_33 0 rfl ?_
  refine q_aload_n X dX13_less_35 3 rfl ?_
  refine q_get X m_48 rfl in_RX12 0 (by decide) tw_1156 rfl rfl dX13_less_36 ?_
  refine q_icmp_ge X 83 dX13_less_39 (by decide) (fun c_54 => ?_) (fun c_54 => absurd (by decide) c_54)
  refine q_arrI (g := (dr3 lo 0 3)) m_52 (fun i hi9 => by rcases (show i = 0 ∨ i = 1 ∨ i = 2 by omega) with rfl | rfl | rfl <;> simp [upd, dr3]) ?_
  have m_55 : (mU (mU (mU (mU (mU (mU (mU M108 q (oB 12 [.int (nI 2), .int 0, .ref la, .ref ha, .null, .null])) q (oB 12 [.int (nI 2), .int (nI (dpn + 1)), .ref la, .ref ha, .null, .null])) la (aI G 3 (upd (fun _ => 0) 0 (lo 1)))) ha (aI G 3 (upd (fun _ => 0) 0 (hi 1)))) la (aI G 3 (upd (upd (fun _ => 0) 0 (lo 1)) 1 (lo 2)))) ha (aI G 3 (upd (upd (fun _ => 0) 0 (hi 1)) 1 (hi 2)))) la (aI G 3 (dr3 lo 0 3))) a = some (oB 12 [.int (nI 3), .int (nI dpn), .ref la0, .ref ha0, w4, w5]) := (mU_n (g_neoa m_48 m_52)).trans m_48
  have m_56 : (mU (mU (mU (mU (mU (mU (mU M108 q (oB 12 [.int (nI 2), .int 0, .ref la, .ref ha, .null, .null])) q (oB 12 [.int (nI 2), .int (nI (dpn + 1)), .ref la, .ref ha, .null, .null])) la (aI G 3 (upd (fun _ => 0) 0 (lo 1)))) ha (aI G 3 (upd (fun _ => 0) 0 (hi 1)))) la (aI G 3 (upd (upd (fun _ => 0) 0 (lo 1)) 1 (lo 2)))) ha (aI G 3 (upd (upd (fun _ => 0) 0 (hi 1)) 1 (hi 2)))) la (aI G 3 (dr3 lo 0 3))) la0 = some (aI G 3 lo) := (mU_n (g_nef m_4 nla)).trans m_49
  have m_57 : (mU (mU (mU (mU (mU (mU (mU M108 q (oB 12 [.int (nI 2), .int 0, .ref la, .ref ha, .null, .null])) q (oB 12 [.int (nI 2), .int (nI (dpn + 1)), .ref la, .ref ha, .null, .null])) la (aI G 3 (upd (fun _ => 0) 0 (lo 1)))) ha (aI G 3 (upd (fun _ => 0) 0 (hi 1)))) la (aI G 3 (upd (upd (fun _ => 0) 0 (lo 1)) 1 (lo 2)))) ha (aI G 3 (upd (upd (fun _ => 0) 0 (hi 1)) 1 (hi 2)))) la (aI G 3 (dr3 lo 0 3))) ha0 = some (aI G 3 hi) := (mU_n (g_nef m_6 nla)).trans m_50
  have m_58 : (mU (mU (mU (mU (mU (mU (mU M108 q (oB 12 [.int (nI 2), .int 0, .ref la, .ref ha, .null, .null])) q (oB 12 [.int (nI 2), .int (nI (dpn + 1)), .ref la, .ref ha, .null, .null])) la (aI G 3 (upd (fun _ => 0) 0 (lo 1)))) ha (aI G 3 (upd (fun _ => 0) 0 (hi 1)))) la (aI G 3 (upd (upd (fun _ => 0) 0 (lo 1)) 1 (lo 2)))) ha (aI G 3 (upd (upd (fun _ => 0) 0 (hi 1)) 1 (hi 2)))) la (aI G 3 (dr3 lo 0 3))) q = some (oB 12 [.int (nI 2), .int (nI (dpn + 1)), .ref la, .ref ha, .null, .null]) := (mU_n (g_neoa m_51 m_52)).trans m_51
  have m_59 : (mU (mU (mU (mU (mU (mU (mU M108 q (oB 12 [.int (nI 2), .int 0, .ref la, .ref ha, .null, .null])) q (oB 12 [.int (nI 2), .int (nI (dpn + 1)), .ref la, .ref ha, .null, .null])) la (aI G 3 (upd (fun _ => 0) 0 (lo 1)))) ha (aI G 3 (upd (fun _ => 0) 0 (hi 1)))) la (aI G 3 (upd (upd (fun _ => 0) 0 (lo 1)) 1 (lo 2)))) ha (aI G 3 (upd (upd (fun _ => 0) 0 (hi 1)) 1 (hi 2)))) la (aI G 3 (dr3 lo 0 3))) la = some (aI G 3 (dr3 lo 0 3)) := mU_s
  have m_60 : (mU (mU (mU (mU (mU (mU (mU M108 q (oB 12 [.int (nI 2), .int 0, .ref la, .ref ha, .null, .null])) q (oB 12 [.int (nI 2), .int (nI (dpn + 1)), .ref la, .ref ha, .null, .null])) la (aI G 3 (upd (fun _ => 0) 0 (lo 1)))) ha (aI G 3 (upd (fun _ => 0) 0 (hi 1)))) la (aI G 3 (upd (upd (fun _ => 0) 0 (lo 1)) 1 (lo 2)))) ha (aI G 3 (upd (upd (fun _ => 0) 0 (hi 1)) 1 (hi 2)))) la (aI G 3 (dr3 lo 0 3))) ha = some (aI G 3 (upd (upd (fun _ => 0) 0 (hi 1)) 1 (hi 2))) := (mU_n (Ne.symm (llaha))).trans m_53
  refine q_arrI (g := (dr3 hi 0 3)) m_60 (fun i hi9 => by rcases (show i = 0 ∨ i = 1 ∨ i = 2 by omega) with rfl | rfl | rfl <;> simp [upd, dr3]) ?_
  have m_61 : (mU (mU (mU (mU (mU (mU (mU (mU M108 q (oB 12 [.int (nI 2), .int 0, .ref la, .ref ha, .null, .null])) q (oB 12 [.int (nI 2), .int (nI (dpn + 1)), .ref la, .ref ha, .null, .null])) la (aI G 3 (upd (fun _ => 0) 0 (lo 1)))) ha (aI G 3 (upd (fun _ => 0) 0 (hi 1)))) la (aI G 3 (upd (upd (fun _ => 0) 0 (lo 1)) 1 (lo 2)))) ha (aI G 3 (upd (upd (fun _ => 0) 0 (hi 1)) 1 (hi 2)))) la (aI G 3 (dr3 lo 0 3))) ha (aI G 3 (dr3 hi 0 3))) a = some (oB 12 [.int (nI 3), .int (nI dpn), .ref la0, .ref ha0, w4, w5]) := (mU_n (g_neoa m_55 m_60)).trans m_55
  have m_62 : (mU (mU (mU (mU (mU (mU (mU (mU M108 q (oB 12 [.int (nI 2), .int 0, .ref la, .ref ha, .null, .null])) q (oB 12 [.int (nI 2), .int (nI (dpn + 1)), .ref la, .ref ha, .null, .null])) la (aI G 3 (upd (fun _ => 0) 0 (lo 1)))) ha (aI G 3 (upd (fun _ => 0) 0 (hi 1)))) la (aI G 3 (upd (upd (fun _ => 0) 0 (lo 1)) 1 (lo 2)))) ha (aI G 3 (upd (upd (fun _ => 0) 0 (hi 1)) 1 (hi 2)))) la (aI G 3 (dr3 lo 0 3))) ha (aI G 3 (dr3 hi 0 3))) la0 = some (aI G 3 lo) := (mU_n (g_nef m_4 nha)).trans m_56
  have m_63 : (mU (mU (mU (mU (mU (mU (mU (mU M108 q (oB 12 [.int (nI 2), .int 0, .ref la, .ref ha, .null, .null])) q (oB 12 [.int (nI 2), .int (nI (dpn + 1)), .ref la, .ref ha, .null, .null])) la (aI G 3 (upd (fun _ => 0) 0 (lo 1)))) ha (aI G 3 (upd (fun _ => 0) 0 (hi 1)))) la (aI G 3 (upd (upd (fun _ => 0) 0 (lo 1)) 1 (lo 2)))) ha (aI G 3 (upd (upd (fun _ => 0) 0 (hi 1)) 1 (hi 2)))) la (aI G 3 (dr3 lo 0 3))) ha (aI G 3 (dr3 hi 0 3))) ha0 = some (aI G 3 hi) := (mU_n (g_nef m_6 nha)).trans m_57
  have m_64 : (mU (mU (mU (mU (mU (mU (mU (mU M108 q (oB 12 [.int (nI 2), .int 0, .ref la, .ref ha, .null, .null])) q (oB 12 [.int (nI 2), .int (nI (dpn + 1)), .ref la, .ref ha, .null, .null])) la (aI G 3 (upd (fun _ => 0) 0 (lo 1)))) ha (aI G 3 (upd (fun _ => 0) 0 (hi 1)))) la (aI G 3 (upd (upd (fun _ => 0) 0 (lo 1)) 1 (lo 2)))) ha (aI G 3 (upd (upd (fun _ => 0) 0 (hi 1)) 1 (hi 2)))) la (aI G 3 (dr3 lo 0 3))) ha (aI G 3 (dr3 hi 0 3))) q = some (oB 12 [.int (nI 2), .int (nI (dpn + 1)), .ref la, .ref ha, .null, .null]) := (mU_n (g_neoa m_58 m_60)).trans m_58
  have m_65 : (mU (mU (mU (mU (mU (mU (mU (mU M108 q (oB 12 [.int (nI 2), .int 0, .ref la, .ref ha, .null, .null])) q (oB 12 [.int (nI 2), .int (nI (dpn + 1)), .ref la, .ref ha, .null, .null])) la (aI G 3 (upd (fun _ => 0) 0 (lo 1)))) ha (aI G 3 (upd (fun _ => 0) 0 (hi 1)))) la (aI G 3 (upd (upd (fun _ => 0) 0 (lo 1)) 1 (lo 2)))) ha (aI G 3 (upd (upd (fun _ => 0) 0 (hi 1)) 1 (hi 2)))) la (aI G 3 (dr3 lo 0 3))) ha (aI G 3 (dr3 hi 0 3))) la = some (aI G 3 (dr3 lo 0 3)) := (mU_n (llaha)).trans m_59
  have m_66 : (mU (mU (mU (mU (mU (mU (mU (mU M108 q (oB 12 [.int (nI 2), .int 0, .ref la, .ref ha, .null, .null])) q (oB 12 [.int (nI 2), .int (nI (dpn + 1)), .ref la, .ref ha, .null, .null])) la (aI G 3 (upd (fun _ => 0) 0 (lo 1)))) ha (aI G 3 (upd (fun _ => 0) 0 (hi 1)))) la (aI G 3 (upd (upd (fun _ => 0) 0 (lo 1)) 1 (lo 2)))) ha (aI G 3 (upd (upd (fun _ => 0) 0 (hi 1)) 1 (hi 2)))) la (aI G 3 (dr3 lo 0 3))) ha (aI G 3 (dr3 hi 0 3))) ha = some (aI G 3 (dr3 hi 0 3)) := mU_s
  refine q_aload_n X dX13_less_83 2 rfl ?_
  exact q_aret X hr (Or.inl ⟨_, rfl⟩) dX13_less_84 (⟨q, la, ha, rfl, fq9, nla9, nha9, llaha, llaq, lhaq, m_64, m_65, m_66, (fun x hx => by
      have w1 : x ≠ q := fun z => hx (z ▸ fq9)
      have w2 : x ≠ la := fun z => hx (z ▸ nla9)
      have w3 : x ≠ ha := fun z => hx (z ▸ nha9)
      have e1 := eq x (by rw [mU_n w1]; exact hx)
      have e : (mU (mU (mU (mU (mU (mU (mU (mU M108 q (oB 12 [.int (nI 2), .int 0, .ref la, .ref ha, .null, .null])) q (oB 12 [.int (nI 2), .int (nI (dpn + 1)), .ref la, .ref ha, .null, .null])) la (aI G 3 (upd (fun _ => 0) 0 (lo 1)))) ha (aI G 3 (upd (fun _ => 0) 0 (hi 1)))) la (aI G 3 (upd (upd (fun _ => 0) 0 (lo 1)) 1 (lo 2)))) ha (aI G 3 (upd (upd (fun _ => 0) 0 (hi 1)) 1 (hi 2)))) la (aI G 3 (dr3 lo 0 3))) ha (aI G 3 (dr3 hi 0 3))) x = M x := by simp only [mU, w1, w2, w3, if_false]; exact (e1.2 w1).trans (mU_n w1)
      exact ⟨by rw [e]; exact hx, fun _ => e⟩)⟩)

set_option maxRecDepth 20000 in
theorem c_less_31 {l : Launch} {G : gV} {M : gMem} {a la0 ha0 dpn : Nat} {w4 w5 : Value} {lo hi : Nat → Int32} (hA : M a = some (oB 12 [.int (nI 3), .int (nI dpn), .ref la0, .ref ha0, w4, w5])) (h1 : M la0 = some (aI G 3 lo)) (h2 : M ha0 = some (aI G 3 hi)) : qC l G yX13_less cX13_less 5 (some (.object "GridVaultModel$Grid")) 2 3 12 [.ref a, .int 1] M (lkP G M (nI 2) (nI (dpn + 1)) (dr3 lo 1 3) (dr3 hi 1 3)) := by
  refine qC_of (by decide +kernel) (Nat.le_of_ble_eq_true rfl) (fun F hF X hr hn => ?_)
  subst hF
  have X : qX G F cX13_less 5 RX13 2 := X
  show qJ G F _ 5 M 3 12 0 [(0, .ref a), (1, .int 1)] []
  refine q_new X (ci := 12) rfl in_RX12 tyX12 tyX12_ok tw_1145 tw_1151 tw_15 (fs0 := [.int 0, .int 0, .null, .null, .null, .null]) (fun j hj => by rcases (show j = 0 ∨ j = 1 ∨ j = 2 ∨ j = 3 ∨ j = 4 ∨ j = 5 by omega) with rfl | rfl | rfl | rfl | rfl | rfl <;> rfl) (rc' := 2) (rs' := 6) (by omega) (by omega) dX13_less_0 (fun q fq => ?_)
  have n_1 : a ≠ q := g_nef hA fq
  have m_2 : (mU M q (oB 12 [.int 0, .int 0, .null, .null, .null, .null])) a = some (oB 12 [.int (nI 3), .int (nI dpn), .ref la0, .ref ha0, w4, w5]) := (mU_n n_1).trans hA
  have n_3 : la0 ≠ q := g_nef h1 fq
  have m_4 : (mU M q (oB 12 [.int 0, .int 0, .null, .null, .null, .null])) la0 = some (aI G 3 lo) := (mU_n n_3).trans h1
  have n_5 : ha0 ≠ q := g_nef h2 fq
  have m_6 : (mU M q (oB 12 [.int 0, .int 0, .null, .null, .null, .null])) ha0 = some (aI G 3 hi) := (mU_n n_5).trans h2
  have m_7 : (mU M q (oB 12 [.int 0, .int 0, .null, .null, .null, .null])) q = some (oB 12 [.int 0, .int 0, .null, .null, .null, .null]) := mU_s
  have n9a : ¬ a = q := g_nef hA fq
  have n9la0 : ¬ la0 = q := g_nef h1 fq
  have n9ha0 : ¬ ha0 = q := g_nef h2 fq
  refine q_dup X dX13_less_3 rfl ?_
  refine q_callIN X (c_X12_init mU_s) Y_X12_init tn_1152 tw_1153 rfl (by omega) rfl rfl (Nat.le_of_ble_eq_true rfl) (rc' := 0) (rs' := 0) (by omega) (by omega) dX13_less_4 (fun v M' hp _ => ?_)
  obtain ⟨rfl, la, ha, nla, nha, llaha, llaq, lhaq, hq, hla, hha, eq⟩ := hp
  generalize M' = M108 at *
  have m_9 : M108 a = some (oB 12 [.int (nI 3), .int (nI dpn), .ref la0, .ref ha0, w4, w5]) := eq.keep m_2 n9a
  have m_10 : M108 la0 = some (aI G 3 lo) := eq.keep m_4 n9la0
  have m_11 : M108 ha0 = some (aI G 3 hi) := eq.keep m_6 n9ha0
  show qJ G F _ 5 M108 0 0 7 [(0, .ref a), (1, .int 1)] [.ref q]
  have fq9 := fq
  have nla9 : M la = none := (mEv_new (K := fun _ => False) fq).none nla
  have nha9 : M ha = none := (mEv_new (K := fun _ => False) fq).none nha
  refine q_astore_n (lv' := [(2, .ref q), (0, .ref a), (1, .int 1)]) X dX13_less_7 (by decide) rfl ?_
  refine q_aload_n X dX13_less_8 0 rfl ?_
  refine q_aload_n X dX13_less_9 1 rfl ?_
  refine q_get X m_9 rfl in_RX12 0 (by decide) tw_1156 rfl rfl dX13_less_10 ?_
  refine q_iconst (v := 1) X dX13_less_13 (by decide) ?_
  refine q_isub X dX13_less_14 ?_
  rw [show nI 3 - 1 = nI 2 from by decide]
  refine q_put X hq rfl in_RX12 tyX12 tyX12_ok nmX12 0 (by decide) tw_1156 rfl rfl rfl rfl rfl (Nat.le_of_ble_eq_true rfl) (fs1 := [.int (nI 2), .int 0, .ref la, .ref ha, .null, .null]) rfl dX13_less_15 ?_
  have m_12 : (mU M108 q (oB 12 [.int (nI 2), .int 0, .ref la, .ref ha, .null, .null])) a = some (oB 12 [.int (nI 3), .int (nI dpn), .ref la0, .ref ha0, w4, w5]) := (mU_n (n_1)).trans m_9
  have m_13 : (mU M108 q (oB 12 [.int (nI 2), .int 0, .ref la, .ref ha, .null, .null])) la0 = some (aI G 3 lo) := (mU_n (n_3)).trans m_10
  have m_14 : (mU M108 q (oB 12 [.int (nI 2), .int 0, .ref la, .ref ha, .null, .null])) ha0 = some (aI G 3 hi) := (mU_n (n_5)).trans m_11
  have m_15 : (mU M108 q (oB 12 [.int (nI 2), .int 0, .ref la, .ref ha, .null, .null])) q = some (oB 12 [.int (nI 2), .int 0, .ref la, .ref ha, .null, .null]) := mU_s
  have m_16 : (mU M108 q (oB 12 [.int (nI 2), .int 0, .ref la, .ref ha, .null, .null])) la = some (aI G 3 (fun _ => 0)) := (mU_n (Ne.symm (g_neoa hq hla))).trans hla
  have m_17 : (mU M108 q (oB 12 [.int (nI 2), .int 0, .ref la, .ref ha, .null, .null])) ha = some (aI G 3 (fun _ => 0)) := (mU_n (Ne.symm (g_neoa hq hha))).trans hha
  refine q_aload_n X dX13_less_18 0 rfl ?_
  refine q_aload_n X dX13_less_19 1 rfl ?_
  refine q_get X m_12 rfl in_RX12 1 (by decide) tw_1157 rfl rfl dX13_less_20 ?_
  refine q_iconst (v := 1) X dX13_less_23 (by decide) ?_
  refine q_iadd X dX13_less_24 ?_
  rw [nI_1]
  refine q_put X m_15 rfl in_RX12 tyX12 tyX12_ok nmX12 1 (by decide) tw_1157 rfl rfl rfl rfl rfl (Nat.le_of_ble_eq_true rfl) (fs1 := [.int (nI 2), .int (nI (dpn + 1)), .ref la, .ref ha, .null, .null]) rfl dX13_less_25 ?_
  have m_18 : (mU (mU M108 q (oB 12 [.int (nI 2), .int 0, .ref la, .ref ha, .null, .null])) q (oB 12 [.int (nI 2), .int (nI (dpn + 1)), .ref la, .ref ha, .null, .null])) a = some (oB 12 [.int (nI 3), .int (nI dpn), .ref la0, .ref ha0, w4, w5]) := (mU_n (n_1)).trans m_12
  have m_19 : (mU (mU M108 q (oB 12 [.int (nI 2), .int 0, .ref la, .ref ha, .null, .null])) q (oB 12 [.int (nI 2), .int (nI (dpn + 1)), .ref la, .ref ha, .null, .null])) la0 = some (aI G 3 lo) := (mU_n (n_3)).trans m_13
  have m_20 : (mU (mU M108 q (oB 12 [.int (nI 2), .int 0, .ref la, .ref ha, .null, .null])) q (oB 12 [.int (nI 2), .int (nI (dpn + 1)), .ref la, .ref ha, .null, .null])) ha0 = some (aI G 3 hi) := (mU_n (n_5)).trans m_14
  have m_21 : (mU (mU M108 q (oB 12 [.int (nI 2), .int 0, .ref la, .ref ha, .null, .null])) q (oB 12 [.int (nI 2), .int (nI (dpn + 1)), .ref la, .ref ha, .null, .null])) q = some (oB 12 [.int (nI 2), .int (nI (dpn + 1)), .ref la, .ref ha, .null, .null]) := mU_s
  have m_22 : (mU (mU M108 q (oB 12 [.int (nI 2), .int 0, .ref la, .ref ha, .null, .null])) q (oB 12 [.int (nI 2), .int (nI (dpn + 1)), .ref la, .ref ha, .null, .null])) la = some (aI G 3 (fun _ => 0)) := (mU_n (Ne.symm (g_neoa m_15 m_16))).trans m_16
  have m_23 : (mU (mU M108 q (oB 12 [.int (nI 2), .int 0, .ref la, .ref ha, .null, .null])) q (oB 12 [.int (nI 2), .int (nI (dpn + 1)), .ref la, .ref ha, .null, .null])) ha = some (aI G 3 (fun _ => 0)) := (mU_n (Ne.symm (g_neoa m_15 m_17))).trans m_17
  refine q_iconst (v := 0) X dX13_less_28 (by decide) ?_
  refine q_istore_n (lv' := [(3, .int 0), (2, .ref q), (0, .ref a), (1, .int 1)]) X dX13_less_29 (by decide) rfl ?_
  refine q_iconst (v := 0) X dX13_less_30 (by decide) ?_
  refine q_istore (lv' := [(4, .int 0), (3, .int 0), (2, .ref q), (0, .ref a), (1, .int 1)]) X dX13_less_31 (by decide) rfl ?_
  refine q_iload X dX13_less_33 0 rfl ?_
  refine q_aload_n X dX13_less_35 3 rfl ?_
  refine q_get X m_18 rfl in_RX12 0 (by decide) tw_1156 rfl rfl dX13_less_36 ?_
  refine q_icmp_ge X 83 dX13_less_39 (by decide) (fun c_24 => absurd c_24 (by decide)) (fun c_24 => ?_)
  refine q_iload X dX13_less_42 0 rfl ?_
  refine q_iload_n X dX13_less_44 4 rfl ?_
  refine q_icmp_eq X 77 dX13_less_45 (by decide) (fun c_25 => absurd c_25 (by decide)) (fun c_25 => ?_)
  refine q_aload_n X dX13_less_48 2 rfl ?_
  refine q_get X m_21 rfl in_RX12 2 (by decide) tw_1159 rfl rfl dX13_less_49 ?_
  refine q_iload_n X dX13_less_52 1 rfl ?_
  refine q_aload_n X dX13_less_53 3 rfl ?_
  refine q_get X m_18 rfl in_RX12 2 (by decide) tw_1159 rfl rfl dX13_less_54 ?_
  refine q_iload X dX13_less_57 0 rfl ?_
  refine q_ialdN X 0 m_19 (rfl) (by decide) (by decide) dX13_less_59 ?_
  refine q_iastN X 0 m_22 (rfl) (by decide) (by decide) dX13_less_60 ?_
  have m_26 : (mU (mU (mU M108 q (oB 12 [.int (nI 2), .int 0, .ref la, .ref ha, .null, .null])) q (oB 12 [.int (nI 2), .int (nI (dpn + 1)), .ref la, .ref ha, .null, .null])) la (aI G 3 (upd (fun _ => 0) 0 (lo 0)))) a = some (oB 12 [.int (nI 3), .int (nI dpn), .ref la0, .ref ha0, w4, w5]) := (mU_n (g_neoa m_18 m_22)).trans m_18
  have m_27 : (mU (mU (mU M108 q (oB 12 [.int (nI 2), .int 0, .ref la, .ref ha, .null, .null])) q (oB 12 [.int (nI 2), .int (nI (dpn + 1)), .ref la, .ref ha, .null, .null])) la (aI G 3 (upd (fun _ => 0) 0 (lo 0)))) la0 = some (aI G 3 lo) := (mU_n (g_nef m_4 nla)).trans m_19
  have m_28 : (mU (mU (mU M108 q (oB 12 [.int (nI 2), .int 0, .ref la, .ref ha, .null, .null])) q (oB 12 [.int (nI 2), .int (nI (dpn + 1)), .ref la, .ref ha, .null, .null])) la (aI G 3 (upd (fun _ => 0) 0 (lo 0)))) ha0 = some (aI G 3 hi) := (mU_n (g_nef m_6 nla)).trans m_20
  have m_29 : (mU (mU (mU M108 q (oB 12 [.int (nI 2), .int 0, .ref la, .ref ha, .null, .null])) q (oB 12 [.int (nI 2), .int (nI (dpn + 1)), .ref la, .ref ha, .null, .null])) la (aI G 3 (upd (fun _ => 0) 0 (lo 0)))) q = some (oB 12 [.int (nI 2), .int (nI (dpn + 1)), .ref la, .ref ha, .null, .null]) := (mU_n (g_neoa m_21 m_22)).trans m_21
  have m_30 : (mU (mU (mU M108 q (oB 12 [.int (nI 2), .int 0, .ref la, .ref ha, .null, .null])) q (oB 12 [.int (nI 2), .int (nI (dpn + 1)), .ref la, .ref ha, .null, .null])) la (aI G 3 (upd (fun _ => 0) 0 (lo 0)))) la = some (aI G 3 (upd (fun _ => 0) 0 (lo 0))) := mU_s
  have m_31 : (mU (mU (mU M108 q (oB 12 [.int (nI 2), .int 0, .ref la, .ref ha, .null, .null])) q (oB 12 [.int (nI 2), .int (nI (dpn + 1)), .ref la, .ref ha, .null, .null])) la (aI G 3 (upd (fun _ => 0) 0 (lo 0)))) ha = some (aI G 3 (fun _ => 0)) := (mU_n (Ne.symm (llaha))).trans m_23
  refine q_aload_n X dX13_less_61 2 rfl ?_
  refine q_get X m_29 rfl in_RX12 3 (by decide) tw_1161 rfl rfl dX13_less_62 ?_
  refine q_iload_n X dX13_less_65 1 rfl ?_
  refine q_iinc (v := 1) (lv' := [(3, .int 1), (4, .int 0), (2, .ref q), (0, .ref a), (1, .int 1)]) X dX13_less_66 1 rfl (by decide) (by decide) rfl ?_
  refine q_aload_n X dX13_less_69 3 rfl ?_
  refine q_get X m_26 rfl in_RX12 3 (by decide) tw_1161 rfl rfl dX13_less_70 ?_
  refine q_iload X dX13_less_73 1 rfl ?_
  refine q_ialdN X 0 m_28 (rfl) (by decide) (by decide) dX13_less_75 ?_
  refine q_iastN X 0 m_31 (rfl) (by decide) (by decide) dX13_less_76 ?_
  have m_32 : (mU (mU (mU (mU M108 q (oB 12 [.int (nI 2), .int 0, .ref la, .ref ha, .null, .null])) q (oB 12 [.int (nI 2), .int (nI (dpn + 1)), .ref la, .ref ha, .null, .null])) la (aI G 3 (upd (fun _ => 0) 0 (lo 0)))) ha (aI G 3 (upd (fun _ => 0) 0 (hi 0)))) a = some (oB 12 [.int (nI 3), .int (nI dpn), .ref la0, .ref ha0, w4, w5]) := (mU_n (g_neoa m_26 m_31)).trans m_26
  have m_33 : (mU (mU (mU (mU M108 q (oB 12 [.int (nI 2), .int 0, .ref la, .ref ha, .null, .null])) q (oB 12 [.int (nI 2), .int (nI (dpn + 1)), .ref la, .ref ha, .null, .null])) la (aI G 3 (upd (fun _ => 0) 0 (lo 0)))) ha (aI G 3 (upd (fun _ => 0) 0 (hi 0)))) la0 = some (aI G 3 lo) := (mU_n (g_nef m_4 nha)).trans m_27
  have m_34 : (mU (mU (mU (mU M108 q (oB 12 [.int (nI 2), .int 0, .ref la, .ref ha, .null, .null])) q (oB 12 [.int (nI 2), .int (nI (dpn + 1)), .ref la, .ref ha, .null, .null])) la (aI G 3 (upd (fun _ => 0) 0 (lo 0)))) ha (aI G 3 (upd (fun _ => 0) 0 (hi 0)))) ha0 = some (aI G 3 hi) := (mU_n (g_nef m_6 nha)).trans m_28
  have m_35 : (mU (mU (mU (mU M108 q (oB 12 [.int (nI 2), .int 0, .ref la, .ref ha, .null, .null])) q (oB 12 [.int (nI 2), .int (nI (dpn + 1)), .ref la, .ref ha, .null, .null])) la (aI G 3 (upd (fun _ => 0) 0 (lo 0)))) ha (aI G 3 (upd (fun _ => 0) 0 (hi 0)))) q = some (oB 12 [.int (nI 2), .int (nI (dpn + 1)), .ref la, .ref ha, .null, .null]) := (mU_n (g_neoa m_29 m_31)).trans m_29
  have m_36 : (mU (mU (mU (mU M108 q (oB 12 [.int (nI 2), .int 0, .ref la, .ref ha, .null, .null])) q (oB 12 [.int (nI 2), .int (nI (dpn + 1)), .ref la, .ref ha, .null, .null])) la (aI G 3 (upd (fun _ => 0) 0 (lo 0)))) ha (aI G 3 (upd (fun _ => 0) 0 (hi 0)))) la = some (aI G 3 (upd (fun _ => 0) 0 (lo 0))) := (mU_n (llaha)).trans m_30
  have m_37 : (mU (mU (mU (mU M108 q (oB 12 [.int (nI 2), .int 0, .ref la, .ref ha, .null, .null])) q (oB 12 [.int (nI 2), .int (nI (dpn + 1)), .ref la, .ref ha, .null, .null])) la (aI G 3 (upd (fun _ => 0) 0 (lo 0)))) ha (aI G 3 (upd (fun _ => 0) 0 (hi 0)))) ha = some (aI G 3 (upd (fun _ => 0) 0 (hi 0))) := mU_s
  refine q_iinc (v := 1) (lv' := [(4, .int 1), (3, .int 1), (2, .ref q), (0, .ref a), (1, .int 1)]) X dX13_less_77 1 rfl (by decide) (by decide) rfl ?_
  refine q_goto X 33 dX13_less_80 (by decide) ?_
  refine q_iload X dX13_less_33 0 rfl ?_
  refine q_aload_n X dX13_less_35 3 rfl ?_
  refine q_get X m_32 rfl in_RX12 0 (by decide) tw_1156 rfl rfl dX13_less_36 ?_
  refine q_icmp_ge X 83 dX13_less_39 (by decide) (fun c_38 => absurd c_38 (by decide)) (fun c_38 => ?_)
  refine q_iload X dX13_less_42 0 rfl ?_
  refine q_iload_n X dX13_less_44 4 rfl ?_
  refine q_icmp_eq X 77 dX13_less_45 (by decide) (fun c_39 => ?_) (fun c_39 => absurd (by decide) c_39)
  refine q_iinc (v := 2) (lv' := [(4, .int 2), (3, .int 1), (2, .ref q), (0, .ref a), (1, .int 1)]) X dX13_less_77 0 rfl (by decide) (by decide) rfl ?_
  refine q_goto X 33 dX13_less_80 (by decide) ?_
  refine q_iload X dX13_less_33 0 rfl ?_
  refine q_aload_n X dX13_less_35 3 rfl ?_
  refine q_get X m_32 rfl in_RX12 0 (by decide) tw_1156 rfl rfl dX13_less_36 ?_
  refine q_icmp_ge X 83 dX13_less_39 (by decide) (fun c_40 => absurd c_40 (by decide)) (fun c_40 => ?_)
  refine q_iload X dX13_less_42 0 rfl ?_
  refine q_iload_n X dX13_less_44 4 rfl ?_
  refine q_icmp_eq X 77 dX13_less_45 (by decide) (fun c_41 => absurd c_41 (by decide)) (fun c_41 => ?_)
  refine q_aload_n X dX13_less_48 2 rfl ?_
  refine q_get X m_35 rfl in_RX12 2 (by decide) tw_1159 rfl rfl dX13_less_49 ?_
  refine q_iload_n X dX13_less_52 1 rfl ?_
  refine q_aload_n X dX13_less_53 3 rfl ?_
  refine q_get X m_32 rfl in_RX12 2 (by decide) tw_1159 rfl rfl dX13_less_54 ?_
  refine q_iload X dX13_less_57 0 rfl ?_
  refine q_ialdN X 2 m_33 (rfl) (by decide) (by decide) dX13_less_59 ?_
  refine q_iastN X 1 m_36 (rfl) (by decide) (by decide) dX13_less_60 ?_
  have m_42 : (mU (mU (mU (mU (mU M108 q (oB 12 [.int (nI 2), .int 0, .ref la, .ref ha, .null, .null])) q (oB 12 [.int (nI 2), .int (nI (dpn + 1)), .ref la, .ref ha, .null, .null])) la (aI G 3 (upd (fun _ => 0) 0 (lo 0)))) ha (aI G 3 (upd (fun _ => 0) 0 (hi 0)))) la (aI G 3 (upd (upd (fun _ => 0) 0 (lo 0)) 1 (lo 2)))) a = some (oB 12 [.int (nI 3), .int (nI dpn), .ref la0, .ref ha0, w4, w5]) := (mU_n (g_neoa m_32 m_36)).trans m_32
  have m_43 : (mU (mU (mU (mU (mU M108 q (oB 12 [.int (nI 2), .int 0, .ref la, .ref ha, .null, .null])) q (oB 12 [.int (nI 2), .int (nI (dpn + 1)), .ref la, .ref ha, .null, .null])) la (aI G 3 (upd (fun _ => 0) 0 (lo 0)))) ha (aI G 3 (upd (fun _ => 0) 0 (hi 0)))) la (aI G 3 (upd (upd (fun _ => 0) 0 (lo 0)) 1 (lo 2)))) la0 = some (aI G 3 lo) := (mU_n (g_nef m_4 nla)).trans m_33
  have m_44 : (mU (mU (mU (mU (mU M108 q (oB 12 [.int (nI 2), .int 0, .ref la, .ref ha, .null, .null])) q (oB 12 [.int (nI 2), .int (nI (dpn + 1)), .ref la, .ref ha, .null, .null])) la (aI G 3 (upd (fun _ => 0) 0 (lo 0)))) ha (aI G 3 (upd (fun _ => 0) 0 (hi 0)))) la (aI G 3 (upd (upd (fun _ => 0) 0 (lo 0)) 1 (lo 2)))) ha0 = some (aI G 3 hi) := (mU_n (g_nef m_6 nla)).trans m_34
  have m_45 : (mU (mU (mU (mU (mU M108 q (oB 12 [.int (nI 2), .int 0, .ref la, .ref ha, .null, .null])) q (oB 12 [.int (nI 2), .int (nI (dpn + 1)), .ref la, .ref ha, .null, .null])) la (aI G 3 (upd (fun _ => 0) 0 (lo 0)))) ha (aI G 3 (upd (fun _ => 0) 0 (hi 0)))) la (aI G 3 (upd (upd (fun _ => 0) 0 (lo 0)) 1 (lo 2)))) q = some (oB 12 [.int (nI 2), .int (nI (dpn + 1)), .ref la, .ref ha, .null, .null]) := (mU_n (g_neoa m_35 m_36)).trans m_35
  have m_46 : (mU (mU (mU (mU (mU M108 q (oB 12 [.int (nI 2), .int 0, .ref la, .ref ha, .null, .null])) q (oB 12 [.int (nI 2), .int (nI (dpn + 1)), .ref la, .ref ha, .null, .null])) la (aI G 3 (upd (fun _ => 0) 0 (lo 0)))) ha (aI G 3 (upd (fun _ => 0) 0 (hi 0)))) la (aI G 3 (upd (upd (fun _ => 0) 0 (lo 0)) 1 (lo 2)))) la = some (aI G 3 (upd (upd (fun _ => 0) 0 (lo 0)) 1 (lo 2))) := mU_s
  have m_47 : (mU (mU (mU (mU (mU M108 q (oB 12 [.int (nI 2), .int 0, .ref la, .ref ha, .null, .null])) q (oB 12 [.int (nI 2), .int (nI (dpn + 1)), .ref la, .ref ha, .null, .null])) la (aI G 3 (upd (fun _ => 0) 0 (lo 0)))) ha (aI G 3 (upd (fun _ => 0) 0 (hi 0)))) la (aI G 3 (upd (upd (fun _ => 0) 0 (lo 0)) 1 (lo 2)))) ha = some (aI G 3 (upd (fun _ => 0) 0 (hi 0))) := (mU_n (Ne.symm (llaha))).trans m_37
  refine q_aload_n X dX13_less_61 2 rfl ?_
  refine q_get X m_45 rfl in_RX12 3 (by decide) tw_1161 rfl rfl dX13_less_62 ?_
  refine q_iload_n X dX13_less_65 1 rfl ?_
  refine q_iinc (v := 2) (lv' := [(3, .int 2), (4, .int 2), (2, .ref q), (0, .ref a), (1, .int 1)]) X dX13_less_66 1 rfl (by decide) (by decide) rfl ?_
  refine q_aload_n X dX13_less_69 3 rfl ?_
  refine q_get X m_42 rfl in_RX12 3 (by decide) tw_1161 rfl rfl dX13_less_70 ?_
  refine q_iload X dX13_less_73 1 rfl ?_
  refine q_ialdN X 2 m_44 (rfl) (by decide) (by decide) dX13_less_75 ?_
  refine q_iastN X 1 m_47 (rfl) (by decide) (by decide) dX13_less_76 ?_
  have m_48 : (mU (mU (mU (mU (mU (mU M108 q (oB 12 [.int (nI 2), .int 0, .ref la, .ref ha, .null, .null])) q (oB 12 [.int (nI 2), .int (nI (dpn + 1)), .ref la, .ref ha, .null, .null])) la (aI G 3 (upd (fun _ => 0) 0 (lo 0)))) ha (aI G 3 (upd (fun _ => 0) 0 (hi 0)))) la (aI G 3 (upd (upd (fun _ => 0) 0 (lo 0)) 1 (lo 2)))) ha (aI G 3 (upd (upd (fun _ => 0) 0 (hi 0)) 1 (hi 2)))) a = some (oB 12 [.int (nI 3), .int (nI dpn), .ref la0, .ref ha0, w4, w5]) := (mU_n (g_neoa m_42 m_47)).trans m_42
  have m_49 : (mU (mU (mU (mU (mU (mU M108 q (oB 12 [.int (nI 2), .int 0, .ref la, .ref ha, .null, .null])) q (oB 12 [.int (nI 2), .int (nI (dpn + 1)), .ref la, .ref ha, .null, .null])) la (aI G 3 (upd (fun _ => 0) 0 (lo 0)))) ha (aI G 3 (upd (fun _ => 0) 0 (hi 0)))) la (aI G 3 (upd (upd (fun _ => 0) 0 (lo 0)) 1 (lo 2)))) ha (aI G 3 (upd (upd (fun _ => 0) 0 (hi 0)) 1 (hi 2)))) la0 = some (aI G 3 lo) := (mU_n (g_nef m_4 nha)).trans m_43
  have m_50 : (mU (mU (mU (mU (mU (mU M108 q (oB 12 [.int (nI 2), .int 0, .ref la, .ref ha, .null, .null])) q (oB 12 [.int (nI 2), .int (nI (dpn + 1)), .ref la, .ref ha, .null, .null])) la (aI G 3 (upd (fun _ => 0) 0 (lo 0)))) ha (aI G 3 (upd (fun _ => 0) 0 (hi 0)))) la (aI G 3 (upd (upd (fun _ => 0) 0 (lo 0)) 1 (lo 2)))) ha (aI G 3 (upd (upd (fun _ => 0) 0 (hi 0)) 1 (hi 2)))) ha0 = some (aI G 3 hi) := (mU_n (g_nef m_6 nha)).trans m_44
  have m_51 : (mU (mU (mU (mU (mU (mU M108 q (oB 12 [.int (nI 2), .int 0, .ref la, .ref ha, .null, .null])) q (oB 12 [.int (nI 2), .int (nI (dpn + 1)), .ref la, .ref ha, .null, .null])) la (aI G 3 (upd (fun _ => 0) 0 (lo 0)))) ha (aI G 3 (upd (fun _ => 0) 0 (hi 0)))) la (aI G 3 (upd (upd (fun _ => 0) 0 (lo 0)) 1 (lo 2)))) ha (aI G 3 (upd (upd (fun _ => 0) 0 (hi 0)) 1 (hi 2)))) q = some (oB 12 [.int (nI 2), .int (nI (dpn + 1)), .ref la, .ref ha, .null, .null]) := (mU_n (g_neoa m_45 m_47)).trans m_45
  have m_52 : (mU (mU (mU (mU (mU (mU M108 q (oB 12 [.int (nI 2), .int 0, .ref la, .ref ha, .null, .null])) q (oB 12 [.int (nI 2), .int (nI (dpn + 1)), .ref la, .ref ha, .null, .null])) la (aI G 3 (upd (fun _ => 0) 0 (lo 0)))) ha (aI G 3 (upd (fun _ => 0) 0 (hi 0)))) la (aI G 3 (upd (upd (fun _ => 0) 0 (lo 0)) 1 (lo 2)))) ha (aI G 3 (upd (upd (fun _ => 0) 0 (hi 0)) 1 (hi 2)))) la = some (aI G 3 (upd (upd (fun _ => 0) 0 (lo 0)) 1 (lo 2))) := (mU_n (llaha)).trans m_46
  have m_53 : (mU (mU (mU (mU (mU (mU M108 q (oB 12 [.int (nI 2), .int 0, .ref la, .ref ha, .null, .null])) q (oB 12 [.int (nI 2), .int (nI (dpn + 1)), .ref la, .ref ha, .null, .null])) la (aI G 3 (upd (fun _ => 0) 0 (lo 0)))) ha (aI G 3 (upd (fun _ => 0) 0 (hi 0)))) la (aI G 3 (upd (upd (fun _ => 0) 0 (lo 0)) 1 (lo 2)))) ha (aI G 3 (upd (upd (fun _ => 0) 0 (hi 0)) 1 (hi 2)))) ha = some (aI G 3 (upd (upd (fun _ => 0) 0 (hi 0)) 1 (hi 2))) := mU_s
  refine q_iinc (v := 3) (lv' := [(4, .int 3), (3, .int 2), (2, .ref q), (0, .ref a), (1, .int 1)]) X dX13_less_77 1 rfl (by decide) (by decide) rfl ?_
  refine q_goto X 33 dX13_less_80 (by decide) ?_
  refine q_iload X dX13_less_33 0 rfl ?_
  refine q_aload_n X dX13_less_35 3 rfl ?_
  refine q_get X m_48 rfl in_RX12 0 (by decide) tw_1156 rfl rfl dX13_less_36 ?_
  refine q_icmp_ge X 83 dX13_less_39 (by decide) (fun c_54 => ?_) (fun c_54 => absurd (by decide) c_54)
  refine q_arrI (g := (dr3 lo 1 3)) m_52 (fun i hi9 => by rcases (show i = 0 ∨ i = 1 ∨ i = 2 by omega) with rfl | rfl | rfl <;> simp [upd, dr3]) ?_
  have m_55 : (mU (mU (mU (mU (mU (mU (mU M108 q (oB 12 [.int (nI 2), .int 0, .ref la, .ref ha, .null, .null])) q (oB 12 [.int (nI 2), .int (nI (dpn + 1)), .ref la, .ref ha, .null, .null])) la (aI G 3 (upd (fun _ => 0) 0 (lo 0)))) ha (aI G 3 (upd (fun _ => 0) 0 (hi 0)))) la (aI G 3 (upd (upd (fun _ => 0) 0 (lo 0)) 1 (lo 2)))) ha (aI G 3 (upd (upd (fun _ => 0) 0 (hi 0)) 1 (hi 2)))) la (aI G 3 (dr3 lo 1 3))) a = some (oB 12 [.int (nI 3), .int (nI dpn), .ref la0, .ref ha0, w4, w5]) := (mU_n (g_neoa m_48 m_52)).trans m_48
  have m_56 : (mU (mU (mU (mU (mU (mU (mU M108 q (oB 12 [.int (nI 2), .int 0, .ref la, .ref ha, .null, .null])) q (oB 12 [.int (nI 2), .int (nI (dpn + 1)), .ref la, .ref ha, .null, .null])) la (aI G 3 (upd (fun _ => 0) 0 (lo 0)))) ha (aI G 3 (upd (fun _ => 0) 0 (hi 0)))) la (aI G 3 (upd (upd (fun _ => 0) 0 (lo 0)) 1 (lo 2)))) ha (aI G 3 (upd (upd (fun _ => 0) 0 (hi 0)) 1 (hi 2)))) la (aI G 3 (dr3 lo 1 3))) la0 = some (aI G 3 lo) := (mU_n (g_nef m_4 nla)).trans m_49
  have m_57 : (mU (mU (mU (mU (mU (mU (mU M108 q (oB 12 [.int (nI 2), .int 0, .ref la, .ref ha, .null, .null])) q (oB 12 [.int (nI 2), .int (nI (dpn + 1)), .ref la, .ref ha, .null, .null])) la (aI G 3 (upd (fun _ => 0) 0 (lo 0)))) ha (aI G 3 (upd (fun _ => 0) 0 (hi 0)))) la (aI G 3 (upd (upd (fun _ => 0) 0 (lo 0)) 1 (lo 2)))) ha (aI G 3 (upd (upd (fun _ => 0) 0 (hi 0)) 1 (hi 2)))) la (aI G 3 (dr3 lo 1 3))) ha0 = some (aI G 3 hi) := (mU_n (g_nef m_6 nla)).trans m_50
  have m_58 : (mU (mU (mU (mU (mU (mU (mU M108 q (oB 12 [.int (nI 2), .int 0, .ref la, .ref ha, .null, .null])) q (oB 12 [.int (nI 2), .int (nI (dpn + 1)), .ref la, .ref ha, .null, .null])) la (aI G 3 (upd (fun _ => 0) 0 (lo 0)))) ha (aI G 3 (upd (fun _ => 0) 0 (hi 0)))) la (aI G 3 (upd (upd (fun _ => 0) 0 (lo 0)) 1 (lo 2)))) ha (aI G 3 (upd (upd (fun _ => 0) 0 (hi 0)) 1 (hi 2)))) la (aI G 3 (dr3 lo 1 3))) q = some (oB 12 [.int (nI 2), .int (nI (dpn + 1)), .ref la, .ref ha, .null, .null]) := (mU_n (g_neoa m_51 m_52)).trans m_51
  have m_59 : (mU (mU (mU (mU (mU (mU (mU M108 q (oB 12 [.int (nI 2), .int 0, .ref la, .ref ha, .null, .null])) q (oB 12 [.int (nI 2), .int (nI (dpn + 1)), .ref la, .ref ha, .null, .null])) la (aI G 3 (upd (fun _ => 0) 0 (lo 0)))) ha (aI G 3 (upd (fun _ => 0) 0 (hi 0)))) la (aI G 3 (upd (upd (fun _ => 0) 0 (lo 0)) 1 (lo 2)))) ha (aI G 3 (upd (upd (fun _ => 0) 0 (hi 0)) 1 (hi 2)))) la (aI G 3 (dr3 lo 1 3))) la = some (aI G 3 (dr3 lo 1 3)) := mU_s
  have m_60 : (mU (mU (mU (mU (mU (mU (mU M108 q (oB 12 [.int (nI 2), .int 0, .ref la, .ref ha, .null, .null])) q (oB 12 [.int (nI 2), .int (nI (dpn + 1)), .ref la, .ref ha, .null, .null])) la (aI G 3 (upd (fun _ => 0) 0 (lo 0)))) ha (aI G 3 (upd (fun _ => 0) 0 (hi 0)))) la (aI G 3 (upd (upd (fun _ => 0) 0 (lo 0)) 1 (lo 2)))) ha (aI G 3 (upd (upd (fun _ => 0) 0 (hi 0)) 1 (hi 2)))) la (aI G 3 (dr3 lo 1 3))) ha = some (aI G 3 (upd (upd (fun _ => 0) 0 (hi 0)) 1 (hi 2))) := (mU_n (Ne.symm (llaha))).trans m_53
  refine q_arrI (g := (dr3 hi 1 3)) m_60 (fun i hi9 => by rcases (show i = 0 ∨ i = 1 ∨ i = 2 by omega) with rfl | rfl | rfl <;> simp [upd, dr3]) ?_
  have m_61 : (mU (mU (mU (mU (mU (mU (mU (mU M108 q (oB 12 [.int (nI 2), .int 0, .ref la, .ref ha, .null, .null])) q (oB 12 [.int (nI 2), .int (nI (dpn + 1)), .ref la, .ref ha, .null, .null])) la (aI G 3 (upd (fun _ => 0) 0 (lo 0)))) ha (aI G 3 (upd (fun _ => 0) 0 (hi 0)))) la (aI G 3 (upd (upd (fun _ => 0) 0 (lo 0)) 1 (lo 2)))) ha (aI G 3 (upd (upd (fun _ => 0) 0 (hi 0)) 1 (hi 2)))) la (aI G 3 (dr3 lo 1 3))) ha (aI G 3 (dr3 hi 1 3))) a = some (oB 12 [.int (nI 3), .int (nI dpn), .ref la0, .ref ha0, w4, w5]) := (mU_n (g_neoa m_55 m_60)).trans m_55
  have m_62 : (mU (mU (mU (mU (mU (mU (mU (mU M108 q (oB 12 [.int (nI 2), .int 0, .ref la, .ref ha, .null, .null])) q (oB 12 [.int (nI 2), .int (nI (dpn + 1)), .ref la, .ref ha, .null, .null])) la (aI G 3 (upd (fun _ => 0) 0 (lo 0)))) ha (aI G 3 (upd (fun _ => 0) 0 (hi 0)))) la (aI G 3 (upd (upd (fun _ => 0) 0 (lo 0)) 1 (lo 2)))) ha (aI G 3 (upd (upd (fun _ => 0) 0 (hi 0)) 1 (hi 2)))) la (aI G 3 (dr3 lo 1 3))) ha (aI G 3 (dr3 hi 1 3))) la0 = some (aI G 3 lo) := (mU_n (g_nef m_4 nha)).trans m_56
  have m_63 : (mU (mU (mU (mU (mU (mU (mU (mU M108 q (oB 12 [.int (nI 2), .int 0, .ref la, .ref ha, .null, .null])) q (oB 12 [.int (nI 2), .int (nI (dpn + 1)), .ref la, .ref ha, .null, .null])) la (aI G 3 (upd (fun _ => 0) 0 (lo 0)))) ha (aI G 3 (upd (fun _ => 0) 0 (hi 0)))) la (aI G 3 (upd (upd (fun _ => 0) 0 (lo 0)) 1 (lo 2)))) ha (aI G 3 (upd (upd (fun _ => 0) 0 (hi 0)) 1 (hi 2)))) la (aI G 3 (dr3 lo 1 3))) ha (aI G 3 (dr3 hi 1 3))) ha0 = some (aI G 3 hi) := (mU_n (g_nef m_6 nha)).trans m_57
  have m_64 : (mU (mU (mU (mU (mU (mU (mU (mU M108 q (oB 12 [.int (nI 2), .int 0, .ref la, .ref ha, .null, .null])) q (oB 12 [.int (nI 2), .int (nI (dpn + 1)), .ref la, .ref ha, .null, .null])) la (aI G 3 (upd (fun _ => 0) 0 (lo 0)))) ha (aI G 3 (upd (fun _ => 0) 0 (hi 0)))) la (aI G 3 (upd (upd (fun _ => 0) 0 (lo 0)) 1 (lo 2)))) ha (aI G 3 (upd (upd (fun _ => 0) 0 (hi 0)) 1 (hi 2)))) la (aI G 3 (dr3 lo 1 3))) ha (aI G 3 (dr3 hi 1 3))) q = some (oB 12 [.int (nI 2), .int (nI (dpn + 1)), .ref la, .ref ha, .null, .null]) := (mU_n (g_neoa m_58 m_60)).trans m_58
  have m_65 : (mU (mU (mU (mU (mU (mU (mU (mU M108 q (oB 12 [.int (nI 2), .int 0, .ref la, .ref ha, .null, .null])) q (oB 12 [.int (nI 2), .int (nI (dpn + 1)), .ref la, .ref ha, .null, .null])) la (aI G 3 (upd (fun _ => 0) 0 (lo 0)))) ha (aI G 3 (upd (fun _ => 0) 0 (hi 0)))) la (aI G 3 (upd (upd (fun _ => 0) 0 (lo 0)) 1 (lo 2)))) ha (aI G 3 (upd (upd (fun _ => 0) 0 (hi 0)) 1 (hi 2)))) la (aI G 3 (dr3 lo 1 3))) ha (aI G 3 (dr3 hi 1 3))) la = some (aI G 3 (dr3 lo 1 3)) := (mU_n (llaha)).trans m_59
  have m_66 : (mU (mU (mU (mU (mU (mU (mU (mU M108 q (oB 12 [.int (nI 2), .int 0, .ref la, .ref ha, .null, .null])) q (oB 12 [.int (nI 2), .int (nI (dpn + 1)), .ref la, .ref ha, .null, .null])) la (aI G 3 (upd (fun _ => 0) 0 (lo 0)))) ha (aI G 3 (upd (fun _ => 0) 0 (hi 0)))) la (aI G 3 (upd (upd (fun _ => 0) 0 (lo 0)) 1 (lo 2)))) ha (aI G 3 (upd (upd (fun _ => 0) 0 (hi 0)) 1 (hi 2)))) la (aI G 3 (dr3 lo 1 3))) ha (aI G 3 (dr3 hi 1 3))) ha = some (aI G 3 (dr3 hi 1 3)) := mU_s
  refine q_aload_n X dX13_less_83 2 rfl ?_
  exact q_aret X hr (Or.inl ⟨_, rfl⟩) dX13_less_84 (⟨q, la, ha, rfl, fq9, nla9, nha9, llaha, llaq, lhaq, m_64, m_65, m_66, (fun x hx => by
      have w1 : x ≠ q := fun z => hx (z ▸ fq9)
      have w2 : x ≠ la := fun z => hx (z ▸ nla9)
      have w3 : x ≠ ha := fun z => hx (z ▸ nha9)
      have e1 := eq x (by rw [mU_n w1]; exact hx)
      have e : (mU (mU (mU (mU (mU (mU (mU (mU M108 q (oB 12 [.int (nI 2), .int 0, .ref la, .ref ha, .null, .null])) q (oB 12 [.int (nI 2), .int (nI (dpn + 1)), .ref la, .ref ha, .null, .null])) la (aI G 3 (upd (fun _ => 0) 0 (lo 0)))) ha (aI G 3 (upd (fun _ => 0) 0 (hi 0)))) la (aI G 3 (upd (upd (fun _ => 0) 0 (lo 0)) 1 (lo 2)))) ha (aI G 3 (upd (upd (fun _ => 0) 0 (hi 0)) 1 (hi 2)))) la (aI G 3 (dr3 lo 1 3))) ha (aI G 3 (dr3 hi 1 3))) x = M x := by simp only [mU, w1, w2, w3, if_false]; exact (e1.2 w1).trans (mU_n w1)
      exact ⟨by rw [e]; exact hx, fun _ => e⟩)⟩)

set_option maxRecDepth 20000 in
theorem c_less_32 {l : Launch} {G : gV} {M : gMem} {a la0 ha0 dpn : Nat} {w4 w5 : Value} {lo hi : Nat → Int32} (hA : M a = some (oB 12 [.int (nI 3), .int (nI dpn), .ref la0, .ref ha0, w4, w5])) (h1 : M la0 = some (aI G 3 lo)) (h2 : M ha0 = some (aI G 3 hi)) : qC l G yX13_less cX13_less 5 (some (.object "GridVaultModel$Grid")) 2 3 12 [.ref a, .int 2] M (lkP G M (nI 2) (nI (dpn + 1)) (dr3 lo 2 3) (dr3 hi 2 3)) := by
  refine qC_of (by decide +kernel) (Nat.le_of_ble_eq_true rfl) (fun F hF X hr hn => ?_)
  subst hF
  have X : qX G F cX13_less 5 RX13 2 := X
  show qJ G F _ 5 M 3 12 0 [(0, .ref a), (1, .int 2)] []
  refine q_new X (ci := 12) rfl in_RX12 tyX12 tyX12_ok tw_1145 tw_1151 tw_15 (fs0 := [.int 0, .int 0, .null, .null, .null, .null]) (fun j hj => by rcases (show j = 0 ∨ j = 1 ∨ j = 2 ∨ j = 3 ∨ j = 4 ∨ j = 5 by omega) with rfl | rfl | rfl | rfl | rfl | rfl <;> rfl) (rc' := 2) (rs' := 6) (by omega) (by omega) dX13_less_0 (fun q fq => ?_)
  have n_1 : a ≠ q := g_nef hA fq
  have m_2 : (mU M q (oB 12 [.int 0, .int 0, .null, .null, .null, .null])) a = some (oB 12 [.int (nI 3), .int (nI dpn), .ref la0, .ref ha0, w4, w5]) := (mU_n n_1).trans hA
  have n_3 : la0 ≠ q := g_nef h1 fq
  have m_4 : (mU M q (oB 12 [.int 0, .int 0, .null, .null, .null, .null])) la0 = some (aI G 3 lo) := (mU_n n_3).trans h1
  have n_5 : ha0 ≠ q := g_nef h2 fq
  have m_6 : (mU M q (oB 12 [.int 0, .int 0, .null, .null, .null, .null])) ha0 = some (aI G 3 hi) := (mU_n n_5).trans h2
  have m_7 : (mU M q (oB 12 [.int 0, .int 0, .null, .null, .null, .null])) q = some (oB 12 [.int 0, .int 0, .null, .null, .null, .null]) := mU_s
  have n9a : ¬ a = q := g_nef hA fq
  have n9la0 : ¬ la0 = q := g_nef h1 fq
  have n9ha0 : ¬ ha0 = q := g_nef h2 fq
  refine q_dup X dX13_less_3 rfl ?_
  refine q_callIN X (c_X12_init mU_s) Y_X12_init tn_1152 tw_1153 rfl (by omega) rfl rfl (Nat.le_of_ble_eq_true rfl) (rc' := 0) (rs' := 0) (by omega) (by omega) dX13_less_4 (fun v M' hp _ => ?_)
  obtain ⟨rfl, la, ha, nla, nha, llaha, llaq, lhaq, hq, hla, hha, eq⟩ := hp
  generalize M' = M108 at *
  have m_9 : M108 a = some (oB 12 [.int (nI 3), .int (nI dpn), .ref la0, .ref ha0, w4, w5]) := eq.keep m_2 n9a
  have m_10 : M108 la0 = some (aI G 3 lo) := eq.keep m_4 n9la0
  have m_11 : M108 ha0 = some (aI G 3 hi) := eq.keep m_6 n9ha0
  show qJ G F _ 5 M108 0 0 7 [(0, .ref a), (1, .int 2)] [.ref q]
  have fq9 := fq
  have nla9 : M la = none := (mEv_new (K := fun _ => False) fq).none nla
  have nha9 : M ha = none := (mEv_new (K := fun _ => False) fq).none nha
  refine q_astore_n (lv' := [(2, .ref q), (0, .ref a), (1, .int 2)]) X dX13_less_7 (by decide) rfl ?_
  refine q_aload_n X dX13_less_8 0 rfl ?_
  refine q_aload_n X dX13_less_9 1 rfl ?_
  refine q_get X m_9 rfl in_RX12 0 (by decide) tw_1156 rfl rfl dX13_less_10 ?_
  refine q_iconst (v := 1) X dX13_less_13 (by decide) ?_
  refine q_isub X dX13_less_14 ?_
  rw [show nI 3 - 1 = nI 2 from by decide]
  refine q_put X hq rfl in_RX12 tyX12 tyX12_ok nmX12 0 (by decide) tw_1156 rfl rfl rfl rfl rfl (Nat.le_of_ble_eq_true rfl) (fs1 := [.int (nI 2), .int 0, .ref la, .ref ha, .null, .null]) rfl dX13_less_15 ?_
  have m_12 : (mU M108 q (oB 12 [.int (nI 2), .int 0, .ref la, .ref ha, .null, .null])) a = some (oB 12 [.int (nI 3), .int (nI dpn), .ref la0, .ref ha0, w4, w5]) := (mU_n (n_1)).trans m_9
  have m_13 : (mU M108 q (oB 12 [.int (nI 2), .int 0, .ref la, .ref ha, .null, .null])) la0 = some (aI G 3 lo) := (mU_n (n_3)).trans m_10
  have m_14 : (mU M108 q (oB 12 [.int (nI 2), .int 0, .ref la, .ref ha, .null, .null])) ha0 = some (aI G 3 hi) := (mU_n (n_5)).trans m_11
  have m_15 : (mU M108 q (oB 12 [.int (nI 2), .int 0, .ref la, .ref ha, .null, .null])) q = some (oB 12 [.int (nI 2), .int 0, .ref la, .ref ha, .null, .null]) := mU_s
  have m_16 : (mU M108 q (oB 12 [.int (nI 2), .int 0, .ref la, .ref ha, .null, .null])) la = some (aI G 3 (fun _ => 0)) := (mU_n (Ne.symm (g_neoa hq hla))).trans hla
  have m_17 : (mU M108 q (oB 12 [.int (nI 2), .int 0, .ref la, .ref ha, .null, .null])) ha = some (aI G 3 (fun _ => 0)) := (mU_n (Ne.symm (g_neoa hq hha))).trans hha
  refine q_aload_n X dX13_less_18 0 rfl ?_
  refine q_aload_n X dX13_less_19 1 rfl ?_
  refine q_get X m_12 rfl in_RX12 1 (by decide) tw_1157 rfl rfl dX13_less_20 ?_
  refine q_iconst (v := 1) X dX13_less_23 (by decide) ?_
  refine q_iadd X dX13_less_24 ?_
  rw [nI_1]
  refine q_put X m_15 rfl in_RX12 tyX12 tyX12_ok nmX12 1 (by decide) tw_1157 rfl rfl rfl rfl rfl (Nat.le_of_ble_eq_true rfl) (fs1 := [.int (nI 2), .int (nI (dpn + 1)), .ref la, .ref ha, .null, .null]) rfl dX13_less_25 ?_
  have m_18 : (mU (mU M108 q (oB 12 [.int (nI 2), .int 0, .ref la, .ref ha, .null, .null])) q (oB 12 [.int (nI 2), .int (nI (dpn + 1)), .ref la, .ref ha, .null, .null])) a = some (oB 12 [.int (nI 3), .int (nI dpn), .ref la0, .ref ha0, w4, w5]) := (mU_n (n_1)).trans m_12
  have m_19 : (mU (mU M108 q (oB 12 [.int (nI 2), .int 0, .ref la, .ref ha, .null, .null])) q (oB 12 [.int (nI 2), .int (nI (dpn + 1)), .ref la, .ref ha, .null, .null])) la0 = some (aI G 3 lo) := (mU_n (n_3)).trans m_13
  have m_20 : (mU (mU M108 q (oB 12 [.int (nI 2), .int 0, .ref la, .ref ha, .null, .null])) q (oB 12 [.int (nI 2), .int (nI (dpn + 1)), .ref la, .ref ha, .null, .null])) ha0 = some (aI G 3 hi) := (mU_n (n_5)).trans m_14
  have m_21 : (mU (mU M108 q (oB 12 [.int (nI 2), .int 0, .ref la, .ref ha, .null, .null])) q (oB 12 [.int (nI 2), .int (nI (dpn + 1)), .ref la, .ref ha, .null, .null])) q = some (oB 12 [.int (nI 2), .int (nI (dpn + 1)), .ref la, .ref ha, .null, .null]) := mU_s
  have m_22 : (mU (mU M108 q (oB 12 [.int (nI 2), .int 0, .ref la, .ref ha, .null, .null])) q (oB 12 [.int (nI 2), .int (nI (dpn + 1)), .ref la, .ref ha, .null, .null])) la = some (aI G 3 (fun _ => 0)) := (mU_n (Ne.symm (g_neoa m_15 m_16))).trans m_16
  have m_23 : (mU (mU M108 q (oB 12 [.int (nI 2), .int 0, .ref la, .ref ha, .null, .null])) q (oB 12 [.int (nI 2), .int (nI (dpn + 1)), .ref la, .ref ha, .null, .null])) ha = some (aI G 3 (fun _ => 0)) := (mU_n (Ne.symm (g_neoa m_15 m_17))).trans m_17
  refine q_iconst (v := 0) X dX13_less_28 (by decide) ?_
  refine q_istore_n (lv' := [(3, .int 0), (2, .ref q), (0, .ref a), (1, .int 2)]) X dX13_less_29 (by decide) rfl ?_
  refine q_iconst (v := 0) X dX13_less_30 (by decide) ?_
  refine q_istore (lv' := [(4, .int 0), (3, .int 0), (2, .ref q), (0, .ref a), (1, .int 2)]) X dX13_less_31 (by decide) rfl ?_
  refine q_iload X dX13_less_33 0 rfl ?_
  refine q_aload_n X dX13_less_35 3 rfl ?_
  refine q_get X m_18 rfl in_RX12 0 (by decide) tw_1156 rfl rfl dX13_less_36 ?_
  refine q_icmp_ge X 83 dX13_less_39 (by decide) (fun c_24 => absurd c_24 (by decide)) (fun c_24 => ?_)
  refine q_iload X dX13_less_42 0 rfl ?_
  refine q_iload_n X dX13_less_44 4 rfl ?_
  refine q_icmp_eq X 77 dX13_less_45 (by decide) (fun c_25 => absurd c_25 (by decide)) (fun c_25 => ?_)
  refine q_aload_n X dX13_less_48 2 rfl ?_
  refine q_get X m_21 rfl in_RX12 2 (by decide) tw_1159 rfl rfl dX13_less_49 ?_
  refine q_iload_n X dX13_less_52 1 rfl ?_
  refine q_aload_n X dX13_less_53 3 rfl ?_
  refine q_get X m_18 rfl in_RX12 2 (by decide) tw_1159 rfl rfl dX13_less_54 ?_
  refine q_iload X dX13_less_57 0 rfl ?_
  refine q_ialdN X 0 m_19 (rfl) (by decide) (by decide) dX13_less_59 ?_
  refine q_iastN X 0 m_22 (rfl) (by decide) (by decide) dX13_less_60 ?_
  have m_26 : (mU (mU (mU M108 q (oB 12 [.int (nI 2), .int 0, .ref la, .ref ha, .null, .null])) q (oB 12 [.int (nI 2), .int (nI (dpn + 1)), .ref la, .ref ha, .null, .null])) la (aI G 3 (upd (fun _ => 0) 0 (lo 0)))) a = some (oB 12 [.int (nI 3), .int (nI dpn), .ref la0, .ref ha0, w4, w5]) := (mU_n (g_neoa m_18 m_22)).trans m_18
  have m_27 : (mU (mU (mU M108 q (oB 12 [.int (nI 2), .int 0, .ref la, .ref ha, .null, .null])) q (oB 12 [.int (nI 2), .int (nI (dpn + 1)), .ref la, .ref ha, .null, .null])) la (aI G 3 (upd (fun _ => 0) 0 (lo 0)))) la0 = some (aI G 3 lo) := (mU_n (g_nef m_4 nla)).trans m_19
  have m_28 : (mU (mU (mU M108 q (oB 12 [.int (nI 2), .int 0, .ref la, .ref ha, .null, .null])) q (oB 12 [.int (nI 2), .int (nI (dpn + 1)), .ref la, .ref ha, .null, .null])) la (aI G 3 (upd (fun _ => 0) 0 (lo 0)))) ha0 = some (aI G 3 hi) := (mU_n (g_nef m_6 nla)).trans m_20
  have m_29 : (mU (mU (mU M108 q (oB 12 [.int (nI 2), .int 0, .ref la, .ref ha, .null, .null])) q (oB 12 [.int (nI 2), .int (nI (dpn + 1)), .ref la, .ref ha, .null, .null])) la (aI G 3 (upd (fun _ => 0) 0 (lo 0)))) q = some (oB 12 [.int (nI 2), .int (nI (dpn + 1)), .ref la, .ref ha, .null, .null]) := (mU_n (g_neoa m_21 m_22)).trans m_21
  have m_30 : (mU (mU (mU M108 q (oB 12 [.int (nI 2), .int 0, .ref la, .ref ha, .null, .null])) q (oB 12 [.int (nI 2), .int (nI (dpn + 1)), .ref la, .ref ha, .null, .null])) la (aI G 3 (upd (fun _ => 0) 0 (lo 0)))) la = some (aI G 3 (upd (fun _ => 0) 0 (lo 0))) := mU_s
  have m_31 : (mU (mU (mU M108 q (oB 12 [.int (nI 2), .int 0, .ref la, .ref ha, .null, .null])) q (oB 12 [.int (nI 2), .int (nI (dpn + 1)), .ref la, .ref ha, .null, .null])) la (aI G 3 (upd (fun _ => 0) 0 (lo 0)))) ha = some (aI G 3 (fun _ => 0)) := (mU_n (Ne.symm (llaha))).trans m_23
  refine q_aload_n X dX13_less_61 2 rfl ?_
  refine q_get X m_29 rfl in_RX12 3 (by decide) tw_1161 rfl rfl dX13_less_62 ?_
  refine q_iload_n X dX13_less_65 1 rfl ?_
  refine q_iinc (v := 1) (lv' := [(3, .int 1), (4, .int 0), (2, .ref q), (0, .ref a), (1, .int 2)]) X dX13_less_66 1 rfl (by decide) (by decide) rfl ?_
  refine q_aload_n X dX13_less_69 3 rfl ?_
  refine q_get X m_26 rfl in_RX12 3 (by decide) tw_1161 rfl rfl dX13_less_70 ?_
  refine q_iload X dX13_less_73 1 rfl ?_
  refine q_ialdN X 0 m_28 (rfl) (by decide) (by decide) dX13_less_75 ?_
  refine q_iastN X 0 m_31 (rfl) (by decide) (by decide) dX13_less_76 ?_
  have m_32 : (mU (mU (mU (mU M108 q (oB 12 [.int (nI 2), .int 0, .ref la, .ref ha, .null, .null])) q (oB 12 [.int (nI 2), .int (nI (dpn + 1)), .ref la, .ref ha, .null, .null])) la (aI G 3 (upd (fun _ => 0) 0 (lo 0)))) ha (aI G 3 (upd (fun _ => 0) 0 (hi 0)))) a = some (oB 12 [.int (nI 3), .int (nI dpn), .ref la0, .ref ha0, w4, w5]) := (mU_n (g_neoa m_26 m_31)).trans m_26
  have m_33 : (mU (mU (mU (mU M108 q (oB 12 [.int (nI 2), .int 0, .ref la, .ref ha, .null, .null])) q (oB 12 [.int (nI 2), .int (nI (dpn + 1)), .ref la, .ref ha, .null, .null])) la (aI G 3 (upd (fun _ => 0) 0 (lo 0)))) ha (aI G 3 (upd (fun _ => 0) 0 (hi 0)))) la0 = some (aI G 3 lo) := (mU_n (g_nef m_4 nha)).trans m_27
  have m_34 : (mU (mU (mU (mU M108 q (oB 12 [.int (nI 2), .int 0, .ref la, .ref ha, .null, .null])) q (oB 12 [.int (nI 2), .int (nI (dpn + 1)), .ref la, .ref ha, .null, .null])) la (aI G 3 (upd (fun _ => 0) 0 (lo 0)))) ha (aI G 3 (upd (fun _ => 0) 0 (hi 0)))) ha0 = some (aI G 3 hi) := (mU_n (g_nef m_6 nha)).trans m_28
  have m_35 : (mU (mU (mU (mU M108 q (oB 12 [.int (nI 2), .int 0, .ref la, .ref ha, .null, .null])) q (oB 12 [.int (nI 2), .int (nI (dpn + 1)), .ref la, .ref ha, .null, .null])) la (aI G 3 (upd (fun _ => 0) 0 (lo 0)))) ha (aI G 3 (upd (fun _ => 0) 0 (hi 0)))) q = some (oB 12 [.int (nI 2), .int (nI (dpn + 1)), .ref la, .ref ha, .null, .null]) := (mU_n (g_neoa m_29 m_31)).trans m_29
  have m_36 : (mU (mU (mU (mU M108 q (oB 12 [.int (nI 2), .int 0, .ref la, .ref ha, .null, .null])) q (oB 12 [.int (nI 2), .int (nI (dpn + 1)), .ref la, .ref ha, .null, .null])) la (aI G 3 (upd (fun _ => 0) 0 (lo 0)))) ha (aI G 3 (upd (fun _ => 0) 0 (hi 0)))) la = some (aI G 3 (upd (fun _ => 0) 0 (lo 0))) := (mU_n (llaha)).trans m_30
  have m_37 : (mU (mU (mU (mU M108 q (oB 12 [.int (nI 2), .int 0, .ref la, .ref ha, .null, .null])) q (oB 12 [.int (nI 2), .int (nI (dpn + 1)), .ref la, .ref ha, .null, .null])) la (aI G 3 (upd (fun _ => 0) 0 (lo 0)))) ha (aI G 3 (upd (fun _ => 0) 0 (hi 0)))) ha = some (aI G 3 (upd (fun _ => 0) 0 (hi 0))) := mU_s
  refine q_iinc (v := 1) (lv' := [(4, .int 1), (3, .int 1), (2, .ref q), (0, .ref a), (1, .int 2)]) X dX13_less_77 1 rfl (by decide) (by decide) rfl ?_
  refine q_goto X 33 dX13_less_80 (by decide) ?_
  refine q_iload X dX13_less_33 0 rfl ?_
  refine q_aload_n X dX13_less_35 3 rfl ?_
  refine q_get X m_32 rfl in_RX12 0 (by decide) tw_1156 rfl rfl dX13_less_36 ?_
  refine q_icmp_ge X 83 dX13_less_39 (by decide) (fun c_38 => absurd c_38 (by decide)) (fun c_38 => ?_)
  refine q_iload X dX13_less_42 0 rfl ?_
  refine q_iload_n X dX13_less_44 4 rfl ?_
  refine q_icmp_eq X 77 dX13_less_45 (by decide) (fun c_39 => absurd c_39 (by decide)) (fun c_39 => ?_)
  refine q_aload_n X dX13_less_48 2 rfl ?_
  refine q_get X m_35 rfl in_RX12 2 (by decide) tw_1159 rfl rfl dX13_less_49 ?_
  refine q_iload_n X dX13_less_52 1 rfl ?_
  refine q_aload_n X dX13_less_53 3 rfl ?_
  refine q_get X m_32 rfl in_RX12 2 (by decide) tw_1159 rfl rfl dX13_less_54 ?_
  refine q_iload X dX13_less_57 0 rfl ?_
  refine q_ialdN X 1 m_33 (rfl) (by decide) (by decide) dX13_less_59 ?_
  refine q_iastN X 1 m_36 (rfl) (by decide) (by decide) dX13_less_60 ?_
  have m_40 : (mU (mU (mU (mU (mU M108 q (oB 12 [.int (nI 2), .int 0, .ref la, .ref ha, .null, .null])) q (oB 12 [.int (nI 2), .int (nI (dpn + 1)), .ref la, .ref ha, .null, .null])) la (aI G 3 (upd (fun _ => 0) 0 (lo 0)))) ha (aI G 3 (upd (fun _ => 0) 0 (hi 0)))) la (aI G 3 (upd (upd (fun _ => 0) 0 (lo 0)) 1 (lo 1)))) a = some (oB 12 [.int (nI 3), .int (nI dpn), .ref la0, .ref ha0, w4, w5]) := (mU_n (g_neoa m_32 m_36)).trans m_32
  have m_41 : (mU (mU (mU (mU (mU M108 q (oB 12 [.int (nI 2), .int 0, .ref la, .ref ha, .null, .null])) q (oB 12 [.int (nI 2), .int (nI (dpn + 1)), .ref la, .ref ha, .null, .null])) la (aI G 3 (upd (fun _ => 0) 0 (lo 0)))) ha (aI G 3 (upd (fun _ => 0) 0 (hi 0)))) la (aI G 3 (upd (upd (fun _ => 0) 0 (lo 0)) 1 (lo 1)))) la0 = some (aI G 3 lo) := (mU_n (g_nef m_4 nla)).trans m_33
  have m_42 : (mU (mU (mU (mU (mU M108 q (oB 12 [.int (nI 2), .int 0, .ref la, .ref ha, .null, .null])) q (oB 12 [.int (nI 2), .int (nI (dpn + 1)), .ref la, .ref ha, .null, .null])) la (aI G 3 (upd (fun _ => 0) 0 (lo 0)))) ha (aI G 3 (upd (fun _ => 0) 0 (hi 0)))) la (aI G 3 (upd (upd (fun _ => 0) 0 (lo 0)) 1 (lo 1)))) ha0 = some (aI G 3 hi) := (mU_n (g_nef m_6 nla)).trans m_34
  have m_43 : (mU (mU (mU (mU (mU M108 q (oB 12 [.int (nI 2), .int 0, .ref la, .ref ha, .null, .null])) q (oB 12 [.int (nI 2), .int (nI (dpn + 1)), .ref la, .ref ha, .null, .null])) la (aI G 3 (upd (fun _ => 0) 0 (lo 0)))) ha (aI G 3 (upd (fun _ => 0) 0 (hi 0)))) la (aI G 3 (upd (upd (fun _ => 0) 0 (lo 0)) 1 (lo 1)))) q = some (oB 12 [.int (nI 2), .int (nI (dpn + 1)), .ref la, .ref ha, .null, .null]) := (mU_n (g_neoa m_35 m_36)).trans m_35
  have m_44 : (mU (mU (mU (mU (mU M108 q (oB 12 [.int (nI 2), .int 0, .ref la, .ref ha, .null, .null])) q (oB 12 [.int (nI 2), .int (nI (dpn + 1)), .ref la, .ref ha, .null, .null])) la (aI G 3 (upd (fun _ => 0) 0 (lo 0)))) ha (aI G 3 (upd (fun _ => 0) 0 (hi 0)))) la (aI G 3 (upd (upd (fun _ => 0) 0 (lo 0)) 1 (lo 1)))) la = some (aI G 3 (upd (upd (fun _ => 0) 0 (lo 0)) 1 (lo 1))) := mU_s
  have m_45 : (mU (mU (mU (mU (mU M108 q (oB 12 [.int (nI 2), .int 0, .ref la, .ref ha, .null, .null])) q (oB 12 [.int (nI 2), .int (nI (dpn + 1)), .ref la, .ref ha, .null, .null])) la (aI G 3 (upd (fun _ => 0) 0 (lo 0)))) ha (aI G 3 (upd (fun _ => 0) 0 (hi 0)))) la (aI G 3 (upd (upd (fun _ => 0) 0 (lo 0)) 1 (lo 1)))) ha = some (aI G 3 (upd (fun _ => 0) 0 (hi 0))) := (mU_n (Ne.symm (llaha))).trans m_37
  refine q_aload_n X dX13_less_61 2 rfl ?_
  refine q_get X m_43 rfl in_RX12 3 (by decide) tw_1161 rfl rfl dX13_less_62 ?_
  refine q_iload_n X dX13_less_65 1 rfl ?_
  refine q_iinc (v := 2) (lv' := [(3, .int 2), (4, .int 1), (2, .ref q), (0, .ref a), (1, .int 2)]) X dX13_less_66 1 rfl (by decide) (by decide) rfl ?_
  refine q_aload_n X dX13_less_69 3 rfl ?_
  refine q_get X m_40 rfl in_RX12 3 (by decide) tw_1161 rfl rfl dX13_less_70 ?_
  refine q_iload X dX13_less_73 1 rfl ?_
  refine q_ialdN X 1 m_42 (rfl) (by decide) (by decide) dX13_less_75 ?_
  refine q_iastN X 1 m_45 (rfl) (by decide) (by decide) dX13_less_76 ?_
  have m_46 : (mU (mU (mU (mU (mU (mU M108 q (oB 12 [.int (nI 2), .int 0, .ref la, .ref ha, .null, .null])) q (oB 12 [.int (nI 2), .int (nI (dpn + 1)), .ref la, .ref ha, .null, .null])) la (aI G 3 (upd (fun _ => 0) 0 (lo 0)))) ha (aI G 3 (upd (fun _ => 0) 0 (hi 0)))) la (aI G 3 (upd (upd (fun _ => 0) 0 (lo 0)) 1 (lo 1)))) ha (aI G 3 (upd (upd (fun _ => 0) 0 (hi 0)) 1 (hi 1)))) a = some (oB 12 [.int (nI 3), .int (nI dpn), .ref la0, .ref ha0, w4, w5]) := (mU_n (g_neoa m_40 m_45)).trans m_40
  have m_47 : (mU (mU (mU (mU (mU (mU M108 q (oB 12 [.int (nI 2), .int 0, .ref la, .ref ha, .null, .null])) q (oB 12 [.int (nI 2), .int (nI (dpn + 1)), .ref la, .ref ha, .null, .null])) la (aI G 3 (upd (fun _ => 0) 0 (lo 0)))) ha (aI G 3 (upd (fun _ => 0) 0 (hi 0)))) la (aI G 3 (upd (upd (fun _ => 0) 0 (lo 0)) 1 (lo 1)))) ha (aI G 3 (upd (upd (fun _ => 0) 0 (hi 0)) 1 (hi 1)))) la0 = some (aI G 3 lo) := (mU_n (g_nef m_4 nha)).trans m_41
  have m_48 : (mU (mU (mU (mU (mU (mU M108 q (oB 12 [.int (nI 2), .int 0, .ref la, .ref ha, .null, .null])) q (oB 12 [.int (nI 2), .int (nI (dpn + 1)), .ref la, .ref ha, .null, .null])) la (aI G 3 (upd (fun _ => 0) 0 (lo 0)))) ha (aI G 3 (upd (fun _ => 0) 0 (hi 0)))) la (aI G 3 (upd (upd (fun _ => 0) 0 (lo 0)) 1 (lo 1)))) ha (aI G 3 (upd (upd (fun _ => 0) 0 (hi 0)) 1 (hi 1)))) ha0 = some (aI G 3 hi) := (mU_n (g_nef m_6 nha)).trans m_42
  have m_49 : (mU (mU (mU (mU (mU (mU M108 q (oB 12 [.int (nI 2), .int 0, .ref la, .ref ha, .null, .null])) q (oB 12 [.int (nI 2), .int (nI (dpn + 1)), .ref la, .ref ha, .null, .null])) la (aI G 3 (upd (fun _ => 0) 0 (lo 0)))) ha (aI G 3 (upd (fun _ => 0) 0 (hi 0)))) la (aI G 3 (upd (upd (fun _ => 0) 0 (lo 0)) 1 (lo 1)))) ha (aI G 3 (upd (upd (fun _ => 0) 0 (hi 0)) 1 (hi 1)))) q = some (oB 12 [.int (nI 2), .int (nI (dpn + 1)), .ref la, .ref ha, .null, .null]) := (mU_n (g_neoa m_43 m_45)).trans m_43
  have m_50 : (mU (mU (mU (mU (mU (mU M108 q (oB 12 [.int (nI 2), .int 0, .ref la, .ref ha, .null, .null])) q (oB 12 [.int (nI 2), .int (nI (dpn + 1)), .ref la, .ref ha, .null, .null])) la (aI G 3 (upd (fun _ => 0) 0 (lo 0)))) ha (aI G 3 (upd (fun _ => 0) 0 (hi 0)))) la (aI G 3 (upd (upd (fun _ => 0) 0 (lo 0)) 1 (lo 1)))) ha (aI G 3 (upd (upd (fun _ => 0) 0 (hi 0)) 1 (hi 1)))) la = some (aI G 3 (upd (upd (fun _ => 0) 0 (lo 0)) 1 (lo 1))) := (mU_n (llaha)).trans m_44
  have m_51 : (mU (mU (mU (mU (mU (mU M108 q (oB 12 [.int (nI 2), .int 0, .ref la, .ref ha, .null, .null])) q (oB 12 [.int (nI 2), .int (nI (dpn + 1)), .ref la, .ref ha, .null, .null])) la (aI G 3 (upd (fun _ => 0) 0 (lo 0)))) ha (aI G 3 (upd (fun _ => 0) 0 (hi 0)))) la (aI G 3 (upd (upd (fun _ => 0) 0 (lo 0)) 1 (lo 1)))) ha (aI G 3 (upd (upd (fun _ => 0) 0 (hi 0)) 1 (hi 1)))) ha = some (aI G 3 (upd (upd (fun _ => 0) 0 (hi 0)) 1 (hi 1))) := mU_s
  refine q_iinc (v := 2) (lv' := [(4, .int 2), (3, .int 2), (2, .ref q), (0, .ref a), (1, .int 2)]) X dX13_less_77 1 rfl (by decide) (by decide) rfl ?_
  refine q_goto X 33 dX13_less_80 (by decide) ?_
  refine q_iload X dX13_less_33 0 rfl ?_
  refine q_aload_n X dX13_less_35 3 rfl ?_
  refine q_get X m_46 rfl in_RX12 0 (by decide) tw_1156 rfl rfl dX13_less_36 ?_
  refine q_icmp_ge X 83 dX13_less_39 (by decide) (fun c_52 => absurd c_52 (by decide)) (fun c_52 => ?_)
  refine q_iload X dX13_less_42 0 rfl ?_
  refine q_iload_n X dX13_less_44 4 rfl ?_
  refine q_icmp_eq X 77 dX13_less_45 (by decide) (fun c_53 => ?_) (fun c_53 => absurd (by decide) c_53)
  refine q_iinc (v := 3) (lv' := [(4, .int 3), (3, .int 2), (2, .ref q), (0, .ref a), (1, .int 2)]) X dX13_less_77 0 rfl (by decide) (by decide) rfl ?_
  refine q_goto X 33 dX13_less_80 (by decide) ?_
  refine q_iload X dX13_less_33 0 rfl ?_
  refine q_aload_n X dX13_less_35 3 rfl ?_
  refine q_get X m_46 rfl in_RX12 0 (by decide) tw_1156 rfl rfl dX13_less_36 ?_
  refine q_icmp_ge X 83 dX13_less_39 (by decide) (fun c_54 => ?_) (fun c_54 => absurd (by decide) c_54)
  refine q_arrI (g := (dr3 lo 2 3)) m_50 (fun i hi9 => by rcases (show i = 0 ∨ i = 1 ∨ i = 2 by omega) with rfl | rfl | rfl <;> simp [upd, dr3]) ?_
  have m_55 : (mU (mU (mU (mU (mU (mU (mU M108 q (oB 12 [.int (nI 2), .int 0, .ref la, .ref ha, .null, .null])) q (oB 12 [.int (nI 2), .int (nI (dpn + 1)), .ref la, .ref ha, .null, .null])) la (aI G 3 (upd (fun _ => 0) 0 (lo 0)))) ha (aI G 3 (upd (fun _ => 0) 0 (hi 0)))) la (aI G 3 (upd (upd (fun _ => 0) 0 (lo 0)) 1 (lo 1)))) ha (aI G 3 (upd (upd (fun _ => 0) 0 (hi 0)) 1 (hi 1)))) la (aI G 3 (dr3 lo 2 3))) a = some (oB 12 [.int (nI 3), .int (nI dpn), .ref la0, .ref ha0, w4, w5]) := (mU_n (g_neoa m_46 m_50)).trans m_46
  have m_56 : (mU (mU (mU (mU (mU (mU (mU M108 q (oB 12 [.int (nI 2), .int 0, .ref la, .ref ha, .null, .null])) q (oB 12 [.int (nI 2), .int (nI (dpn + 1)), .ref la, .ref ha, .null, .null])) la (aI G 3 (upd (fun _ => 0) 0 (lo 0)))) ha (aI G 3 (upd (fun _ => 0) 0 (hi 0)))) la (aI G 3 (upd (upd (fun _ => 0) 0 (lo 0)) 1 (lo 1)))) ha (aI G 3 (upd (upd (fun _ => 0) 0 (hi 0)) 1 (hi 1)))) la (aI G 3 (dr3 lo 2 3))) la0 = some (aI G 3 lo) := (mU_n (g_nef m_4 nla)).trans m_47
  have m_57 : (mU (mU (mU (mU (mU (mU (mU M108 q (oB 12 [.int (nI 2), .int 0, .ref la, .ref ha, .null, .null])) q (oB 12 [.int (nI 2), .int (nI (dpn + 1)), .ref la, .ref ha, .null, .null])) la (aI G 3 (upd (fun _ => 0) 0 (lo 0)))) ha (aI G 3 (upd (fun _ => 0) 0 (hi 0)))) la (aI G 3 (upd (upd (fun _ => 0) 0 (lo 0)) 1 (lo 1)))) ha (aI G 3 (upd (upd (fun _ => 0) 0 (hi 0)) 1 (hi 1)))) la (aI G 3 (dr3 lo 2 3))) ha0 = some (aI G 3 hi) := (mU_n (g_nef m_6 nla)).trans m_48
  have m_58 : (mU (mU (mU (mU (mU (mU (mU M108 q (oB 12 [.int (nI 2), .int 0, .ref la, .ref ha, .null, .null])) q (oB 12 [.int (nI 2), .int (nI (dpn + 1)), .ref la, .ref ha, .null, .null])) la (aI G 3 (upd (fun _ => 0) 0 (lo 0)))) ha (aI G 3 (upd (fun _ => 0) 0 (hi 0)))) la (aI G 3 (upd (upd (fun _ => 0) 0 (lo 0)) 1 (lo 1)))) ha (aI G 3 (upd (upd (fun _ => 0) 0 (hi 0)) 1 (hi 1)))) la (aI G 3 (dr3 lo 2 3))) q = some (oB 12 [.int (nI 2), .int (nI (dpn + 1)), .ref la, .ref ha, .null, .null]) := (mU_n (g_neoa m_49 m_50)).trans m_49
  have m_59 : (mU (mU (mU (mU (mU (mU (mU M108 q (oB 12 [.int (nI 2), .int 0, .ref la, .ref ha, .null, .null])) q (oB 12 [.int (nI 2), .int (nI (dpn + 1)), .ref la, .ref ha, .null, .null])) la (aI G 3 (upd (fun _ => 0) 0 (lo 0)))) ha (aI G 3 (upd (fun _ => 0) 0 (hi 0)))) la (aI G 3 (upd (upd (fun _ => 0) 0 (lo 0)) 1 (lo 1)))) ha (aI G 3 (upd (upd (fun _ => 0) 0 (hi 0)) 1 (hi 1)))) la (aI G 3 (dr3 lo 2 3))) la = some (aI G 3 (dr3 lo 2 3)) := mU_s
  have m_60 : (mU (mU (mU (mU (mU (mU (mU M108 q (oB 12 [.int (nI 2), .int 0, .ref la, .ref ha, .null, .null])) q (oB 12 [.int (nI 2), .int (nI (dpn + 1)), .ref la, .ref ha, .null, .null])) la (aI G 3 (upd (fun _ => 0) 0 (lo 0)))) ha (aI G 3 (upd (fun _ => 0) 0 (hi 0)))) la (aI G 3 (upd (upd (fun _ => 0) 0 (lo 0)) 1 (lo 1)))) ha (aI G 3 (upd (upd (fun _ => 0) 0 (hi 0)) 1 (hi 1)))) la (aI G 3 (dr3 lo 2 3))) ha = some (aI G 3 (upd (upd (fun _ => 0) 0 (hi 0)) 1 (hi 1))) := (mU_n (Ne.symm (llaha))).trans m_51
  refine q_arrI (g := (dr3 hi 2 3)) m_60 (fun i hi9 => by rcases (show i = 0 ∨ i = 1 ∨ i = 2 by omega) with rfl | rfl | rfl <;> simp [upd, dr3]) ?_
  have m_61 : (mU (mU (mU (mU (mU (mU (mU (mU M108 q (oB 12 [.int (nI 2), .int 0, .ref la, .ref ha, .null, .null])) q (oB 12 [.int (nI 2), .int (nI (dpn + 1)), .ref la, .ref ha, .null, .null])) la (aI G 3 (upd (fun _ => 0) 0 (lo 0)))) ha (aI G 3 (upd (fun _ => 0) 0 (hi 0)))) la (aI G 3 (upd (upd (fun _ => 0) 0 (lo 0)) 1 (lo 1)))) ha (aI G 3 (upd (upd (fun _ => 0) 0 (hi 0)) 1 (hi 1)))) la (aI G 3 (dr3 lo 2 3))) ha (aI G 3 (dr3 hi 2 3))) a = some (oB 12 [.int (nI 3), .int (nI dpn), .ref la0, .ref ha0, w4, w5]) := (mU_n (g_neoa m_55 m_60)).trans m_55
  have m_62 : (mU (mU (mU (mU (mU (mU (mU (mU M108 q (oB 12 [.int (nI 2), .int 0, .ref la, .ref ha, .null, .null])) q (oB 12 [.int (nI 2), .int (nI (dpn + 1)), .ref la, .ref ha, .null, .null])) la (aI G 3 (upd (fun _ => 0) 0 (lo 0)))) ha (aI G 3 (upd (fun _ => 0) 0 (hi 0)))) la (aI G 3 (upd (upd (fun _ => 0) 0 (lo 0)) 1 (lo 1)))) ha (aI G 3 (upd (upd (fun _ => 0) 0 (hi 0)) 1 (hi 1)))) la (aI G 3 (dr3 lo 2 3))) ha (aI G 3 (dr3 hi 2 3))) la0 = some (aI G 3 lo) := (mU_n (g_nef m_4 nha)).trans m_56
  have m_63 : (mU (mU (mU (mU (mU (mU (mU (mU M108 q (oB 12 [.int (nI 2), .int 0, .ref la, .ref ha, .null, .null])) q (oB 12 [.int (nI 2), .int (nI (dpn + 1)), .ref la, .ref ha, .null, .null])) la (aI G 3 (upd (fun _ => 0) 0 (lo 0)))) ha (aI G 3 (upd (fun _ => 0) 0 (hi 0)))) la (aI G 3 (upd (upd (fun _ => 0) 0 (lo 0)) 1 (lo 1)))) ha (aI G 3 (upd (upd (fun _ => 0) 0 (hi 0)) 1 (hi 1)))) la (aI G 3 (dr3 lo 2 3))) ha (aI G 3 (dr3 hi 2 3))) ha0 = some (aI G 3 hi) := (mU_n (g_nef m_6 nha)).trans m_57
  have m_64 : (mU (mU (mU (mU (mU (mU (mU (mU M108 q (oB 12 [.int (nI 2), .int 0, .ref la, .ref ha, .null, .null])) q (oB 12 [.int (nI 2), .int (nI (dpn + 1)), .ref la, .ref ha, .null, .null])) la (aI G 3 (upd (fun _ => 0) 0 (lo 0)))) ha (aI G 3 (upd (fun _ => 0) 0 (hi 0)))) la (aI G 3 (upd (upd (fun _ => 0) 0 (lo 0)) 1 (lo 1)))) ha (aI G 3 (upd (upd (fun _ => 0) 0 (hi 0)) 1 (hi 1)))) la (aI G 3 (dr3 lo 2 3))) ha (aI G 3 (dr3 hi 2 3))) q = some (oB 12 [.int (nI 2), .int (nI (dpn + 1)), .ref la, .ref ha, .null, .null]) := (mU_n (g_neoa m_58 m_60)).trans m_58
  have m_65 : (mU (mU (mU (mU (mU (mU (mU (mU M108 q (oB 12 [.int (nI 2), .int 0, .ref la, .ref ha, .null, .null])) q (oB 12 [.int (nI 2), .int (nI (dpn + 1)), .ref la, .ref ha, .null, .null])) la (aI G 3 (upd (fun _ => 0) 0 (lo 0)))) ha (aI G 3 (upd (fun _ => 0) 0 (hi 0)))) la (aI G 3 (upd (upd (fun _ => 0) 0 (lo 0)) 1 (lo 1)))) ha (aI G 3 (upd (upd (fun _ => 0) 0 (hi 0)) 1 (hi 1)))) la (aI G 3 (dr3 lo 2 3))) ha (aI G 3 (dr3 hi 2 3))) la = some (aI G 3 (dr3 lo 2 3)) := (mU_n (llaha)).trans m_59
  have m_66 : (mU (mU (mU (mU (mU (mU (mU (mU M108 q (oB 12 [.int (nI 2), .int 0, .ref la, .ref ha, .null, .null])) q (oB 12 [.int (nI 2), .int (nI (dpn + 1)), .ref la, .ref ha, .null, .null])) la (aI G 3 (upd (fun _ => 0) 0 (lo 0)))) ha (aI G 3 (upd (fun _ => 0) 0 (hi 0)))) la (aI G 3 (upd (upd (fun _ => 0) 0 (lo 0)) 1 (lo 1)))) ha (aI G 3 (upd (upd (fun _ => 0) 0 (hi 0)) 1 (hi 1)))) la (aI G 3 (dr3 lo 2 3))) ha (aI G 3 (dr3 hi 2 3))) ha = some (aI G 3 (dr3 hi 2 3)) := mU_s
  refine q_aload_n X dX13_less_83 2 rfl ?_
  exact q_aret X hr (Or.inl ⟨_, rfl⟩) dX13_less_84 (⟨q, la, ha, rfl, fq9, nla9, nha9, llaha, llaq, lhaq, m_64, m_65, m_66, (fun x hx => by
      have w1 : x ≠ q := fun z => hx (z ▸ fq9)
      have w2 : x ≠ la := fun z => hx (z ▸ nla9)
      have w3 : x ≠ ha := fun z => hx (z ▸ nha9)
      have e1 := eq x (by rw [mU_n w1]; exact hx)
      have e : (mU (mU (mU (mU (mU (mU (mU (mU M108 q (oB 12 [.int (nI 2), .int 0, .ref la, .ref ha, .null, .null])) q (oB 12 [.int (nI 2), .int (nI (dpn + 1)), .ref la, .ref ha, .null, .null])) la (aI G 3 (upd (fun _ => 0) 0 (lo 0)))) ha (aI G 3 (upd (fun _ => 0) 0 (hi 0)))) la (aI G 3 (upd (upd (fun _ => 0) 0 (lo 0)) 1 (lo 1)))) ha (aI G 3 (upd (upd (fun _ => 0) 0 (hi 0)) 1 (hi 1)))) la (aI G 3 (dr3 lo 2 3))) ha (aI G 3 (dr3 hi 2 3))) x = M x := by simp only [mU, w1, w2, w3, if_false]; exact (e1.2 w1).trans (mU_n w1)
      exact ⟨by rw [e]; exact hx, fun _ => e⟩)⟩)

theorem c_less {l : Launch} {G : gV} {M : gMem} {a la0 ha0 dpn m j : Nat} {w4 w5 : Value} {lo hi : Nat → Int32} (hO : okS m lo hi) (hm : 2 ≤ m) (hj : j < m) (hA : M a = some (oB 12 [.int (nI m), .int (nI dpn), .ref la0, .ref ha0, w4, w5])) (h1 : M la0 = some (aI G 3 lo)) (h2 : M ha0 = some (aI G 3 hi)) : qC l G yX13_less cX13_less 5 (some (.object "GridVaultModel$Grid")) 2 3 12 [.ref a, .int (nI j)] M (lkP G M (nI (m - 1)) (nI (dpn + 1)) (dr3 lo j 3) (dr3 hi j 3)) := by
  have h3 := hO.2.1
  rcases (show m = 2 ∨ m = 3 by omega) with rfl | rfl
  · have hz := hO.2.2.2 2 (by decide) (by decide)
    rcases (show j = 0 ∨ j = 1 by omega) with rfl | rfl
    · exact c_less_20 hA h1 h2 hz
    · exact c_less_21 hA h1 h2 hz
  · rcases (show j = 0 ∨ j = 1 ∨ j = 2 by omega) with rfl | rfl | rfl
    · exact c_less_30 hA h1 h2
    · exact c_less_31 hA h1 h2
    · exact c_less_32 hA h1 h2

def upL (vf : Nat → Int64) (t : Nat) (r : Option Int64) : Nat → Int64 := match r with
  | none => vf
  | some v => vp_updL vf t v
def upZ (zf : Nat → Int32) (t : Nat) (r : Option Int64) : Nat → Int32 := match r with
  | none => zf
  | some _ => upd zf t 1
theorem frV_in {w : vN} {x y z : Int32} {j : Nat} (h1 : ¬ gIn (vlo w) (vhi w) x y z = 0) (h2 : gAt (vlo w) (vhi w) x y z = nI j) (hj : j < 2 ^ 31) : frV w x y z = vden w j := by
  unfold frV; rw [if_neg h1, h2, nI_nn hj]
theorem frV_no {w : vN} {x y z : Int32} (h1 : gIn (vlo w) (vhi w) x y z = 0) : frV w x y z = none := by unfold frV; rw [if_pos h1]

set_option maxRecDepth 20000 in
theorem c_from {l : Launch} {G : gV} {M : gMem} {o ola oha ova oza : Nat} {ovf : Nat → Int64} {ozf : Nat → Int32} {w : vN} (hw : vOk w) (hO : isGrX G M o ola oha ova oza ovf ozf w) {g va za n t : Nat} {w0 w1 w2 w3 : Value} {vf : Nat → Int64} {zf : Nat → Int32} {x y z : Int32} (hA : M g = some (oB 12 [w0, w1, w2, w3, .ref va, .ref za])) (h1 : M va = some (aJ G n vf)) (h2 : M za = some (aZ G n zf)) (ht : t < n) (hn9 : n ≤ 4096) : qC l G yX13_from cX13_from 6 none 3 0 0 [.ref g, .int (nI t), .ref o, .int x, .int y, .int z] M (fun v M' => v = none ∧ M' = mU (mU M va (aJ G n (upL vf t (frV w x y z)))) za (aZ G n (upZ zf t (frV w x y z)))) := by
  refine qC_of (by decide +kernel) (Nat.le_of_ble_eq_true rfl) (fun F hF X hr hn => ?_)
  subst hF
  have X : qX G F cX13_from 6 RX13 3 := X
  show qJ G F _ 6 M 0 0 0 [(0, .ref g), (1, .int (nI t)), (2, .ref o), (3, .int x), (4, .int y), (5, .int z)] []
  refine q_aload_n X dX13_from_0 2 rfl ?_
  refine q_iload_n X dX13_from_1 3 rfl ?_
  refine q_iload X dX13_from_2 4 rfl ?_
  refine q_iload X dX13_from_4 5 rfl ?_
  refine q_callVp X (c_X12_in hO.1 hO.2.1 hO.2.2.1) Y_X12_in tw_1261 tw_1262 tw_1263 hO.1 rfl (by omega) rfl rfl (Nat.le_of_ble_eq_true rfl) dX13_from_6 ?_
  refine q_if_eq X 29 dX13_from_9 (by decide) (fun c9 => ?_) (fun c9 => ?_)
  · exact q_vret X hr dX13_from_29 (⟨rfl, by rw [frV_no c9]; exact (by unfold upL upZ; rw [mU_id h1, mU_id h2])⟩)
  · obtain ⟨j, hj, ej⟩ := gAt_lt hw c9
    have hz9 := hw.2.1
    have fe := frV_in c9 ej (show j < 2 ^ 31 by omega)
    have hd := (hO.2.2.2.2.2 j hj)
    refine q_aload_n X dX13_from_12 2 rfl ?_
    refine q_get X hO.1 rfl in_RX12 5 (by decide) tw_1165 rfl rfl dX13_from_13 ?_
    refine q_aload_n X dX13_from_16 2 rfl ?_
    refine q_iload_n X dX13_from_17 3 rfl ?_
    refine q_iload X dX13_from_18 4 rfl ?_
    refine q_iload X dX13_from_20 5 rfl ?_
    refine q_callVp X (c_X12_at hO.1 hO.2.1 hO.2.2.1) Y_X12_at tw_1269 tw_1270 tw_1271 hO.1 rfl (by omega) rfl rfl (Nat.le_of_ble_eq_true rfl) dX13_from_22 ?_
    rw [ej]
    refine q_zaldN X j hO.2.2.2.2.1 (rfl) (hj) (by omega) dX13_from_25 ?_
    refine q_if_ne X 30 dX13_from_26 (by decide) (fun k1 => ?_) (fun k1 => ?_)
    · refine q_aload_n X dX13_from_30 0 rfl ?_
      refine q_get X hA rfl in_RX12 4 (by decide) tw_1163 rfl rfl dX13_from_31 ?_
      refine q_iload_n X dX13_from_34 1 rfl ?_
      refine q_aload_n X dX13_from_35 2 rfl ?_
      refine q_get X hO.1 rfl in_RX12 4 (by decide) tw_1163 rfl rfl dX13_from_36 ?_
      refine q_aload_n X dX13_from_39 2 rfl ?_
      refine q_iload_n X dX13_from_40 3 rfl ?_
      refine q_iload X dX13_from_41 4 rfl ?_
      refine q_iload X dX13_from_43 5 rfl ?_
      refine q_callVp X (c_X12_at hO.1 hO.2.1 hO.2.2.1) Y_X12_at tw_1269 tw_1270 tw_1271 hO.1 rfl (by omega) rfl rfl (Nat.le_of_ble_eq_true rfl) dX13_from_45 ?_
      rw [ej]
      refine q_laldN X j hO.2.2.2.1 (rfl) (hj) (by omega) dX13_from_48 ?_
      refine q_lastN X t h1 (rfl) (ht) (by omega) dX13_from_49 ?_
      have m_1 : (mU M va (aJ G n (vp_updL vf t (ovf j)))) g = some (oB 12 [w0, w1, w2, w3, .ref va, .ref za]) := (mU_n (g_neoa hA h1)).trans hA
      have m_2 : (mU M va (aJ G n (vp_updL vf t (ovf j)))) va = some (aJ G n (vp_updL vf t (ovf j))) := mU_s
      have m_3 : (mU M va (aJ G n (vp_updL vf t (ovf j)))) za = some (aZ G n zf) := (mU_n (g_neaa h2 h1 (fun z => by simp at z))).trans h2
      refine q_aload_n X dX13_from_50 0 rfl ?_
      refine q_get X m_1 rfl in_RX12 5 (by decide) tw_1165 rfl rfl dX13_from_51 ?_
      refine q_iload_n X dX13_from_54 1 rfl ?_
      refine q_iconst (v := 1) X dX13_from_55 (by decide) ?_
      refine q_zastN X t m_3 (rfl) (ht) (by omega) (Or.inr rfl) dX13_from_56 ?_
      have m_4 : (mU (mU M va (aJ G n (vp_updL vf t (ovf j)))) za (aZ G n (upd zf t 1))) g = some (oB 12 [w0, w1, w2, w3, .ref va, .ref za]) := (mU_n (g_neoa m_1 m_3)).trans m_1
      have m_5 : (mU (mU M va (aJ G n (vp_updL vf t (ovf j)))) za (aZ G n (upd zf t 1))) va = some (aJ G n (vp_updL vf t (ovf j))) := (mU_n (g_neaa m_2 m_3 (fun z => by simp at z))).trans m_2
      have m_6 : (mU (mU M va (aJ G n (vp_updL vf t (ovf j)))) za (aZ G n (upd zf t 1))) za = some (aZ G n (upd zf t 1)) := mU_s
      exact q_vret X hr dX13_from_57 (⟨rfl, by rw [fe]; have q : vden w j = some (ovf j) := (by rw [hd.1] at k1; cases hv : vden w j with | none => rw [hv] at k1; exact absurd rfl k1 | some v9 => rw [hd.2 v9 hv]); rw [q]; rfl⟩)
    · exact q_vret X hr dX13_from_29 (⟨rfl, by rw [fe]; have q : vden w j = none := (by rw [hd.1, bI_0] at k1; cases hv : vden w j with | none => rfl | some v9 => rw [hv] at k1; cases k1); rw [q]; exact (by unfold upL upZ; rw [mU_id h1, mU_id h2])⟩)

theorem l2048 : (2048 : Int64) = 2048 := rfl
theorem lg_big {lo hi : Nat → Int32} {m : Nat} (h : okS m lo hi) (k0 : ¬ 40 < sL lo hi 0) (k1 : ¬ 40 < sL lo hi 1) (k2 : ¬ 40 < sL lo hi 2) : (1 * (sL lo hi 0).toInt64 * (sL lo hi 1).toInt64 * (sL lo hi 2).toInt64 ≤ 2048) ↔ ¬ 2048 < sL lo hi 0 * sL lo hi 1 * sL lo hi 2 := by
  have e40 : (40 : Int32).toInt = 40 := by decide
  have e2k : (2048 : Int32).toInt = 2048 := by decide
  have e2j : (2048 : Int64).toInt = 2048 := by decide
  have e1j : (1 : Int64).toInt = 1 := by decide
  have t : ∀ d, d < 3 → (sL lo hi d).toInt = sN lo hi d := fun d hd => by
    have := h.N hd; rw [h.L hd, nI_toInt (by omega)]
  rw [Int32.lt_iff_toInt_lt, e40, t 0 (by decide)] at k0
  rw [Int32.lt_iff_toInt_lt, e40, t 1 (by decide)] at k1
  rw [Int32.lt_iff_toInt_lt, e40, t 2 (by decide)] at k2
  have q : sN lo hi 0 ≤ 40 ∧ sN lo hi 1 ≤ 40 ∧ sN lo hi 2 ≤ 40 := by omega
  have z1 : sN lo hi 0 * sN lo hi 1 ≤ 1600 := Nat.mul_le_mul q.1 q.2.1
  have z2 : sz3 lo hi ≤ 64000 := Nat.mul_le_mul z1 q.2.2
  have j : ∀ d, d < 3 → (sL lo hi d).toInt64.toInt = sN lo hi d := fun d hd => by rw [Int32.toInt_toInt64, t d hd]
  have lm : ∀ {x y : Int64} {a b : Nat}, x.toInt = a → y.toInt = b → a * b < 2 ^ 31 → (x * y).toInt = (a * b : Nat) := fun {x y a b} hx hy hb => by
    rw [Int64.toInt_mul, hx, hy]
    have : ((a : Int) * (b : Int)) = ((a * b : Nat) : Int) := by simp
    rw [this]
    exact Int.bmod_eq_of_le (by omega) (by omega)
  have a0 : (1 * (sL lo hi 0).toInt64 : Int64) = (sL lo hi 0).toInt64 := Int64.one_mul _
  rw [a0]
  have a1 := lm (j 0 (by decide)) (j 1 (by decide)) (by omega)
  have a2 := lm a1 (j 2 (by decide)) (by show sz3 lo hi < _; omega)
  rw [Int64.le_iff_toInt_le, a2, e2j, h.size, Int32.lt_iff_toInt_lt, e2k, nI_toInt (by omega)]
  show ((sz3 lo hi : Nat) : Int) ≤ 2048 ↔ _
  omega

theorem dp_le {dp : Nat} (hd : dp ≤ 40) : nI (dp + 1) ≤ 40 ↔ nI dp < 40 := by
  rw [Int32.le_iff_toInt_le, Int32.lt_iff_toInt_lt, nI_toInt (by omega), nI_toInt (by omega)]
  have : (40 : Int32).toInt = 40 := by decide
  omega
theorem sW_parts {lo hi : Nat → Int32} (h : ¬ sWithin lo hi = 0) : ¬ 40 < sL lo hi 0 ∧ ¬ 40 < sL lo hi 1 ∧ ¬ 40 < sL lo hi 2 ∧ ¬ 2048 < sL lo hi 0 * sL lo hi 1 * sL lo hi 2 := by
  unfold sWithin at h
  by_cases c0 : 40 < sL lo hi 0
  · rw [if_pos c0] at h; exact absurd rfl h
  rw [if_neg c0] at h
  by_cases c1 : 40 < sL lo hi 1
  · rw [if_pos c1] at h; exact absurd rfl h
  rw [if_neg c1] at h
  by_cases c2 : 40 < sL lo hi 2
  · rw [if_pos c2] at h; exact absurd rfl h
  rw [if_neg c2] at h
  by_cases c3 : 2048 < sL lo hi 0 * sL lo hi 1 * sL lo hi 2
  · rw [if_pos c3] at h; exact absurd rfl h
  exact ⟨c0, c1, c2, c3⟩
theorem sW_all {lo hi : Nat → Int32} (c0 : ¬ 40 < sL lo hi 0) (c1 : ¬ 40 < sL lo hi 1) (c2 : ¬ 40 < sL lo hi 2) (c3 : ¬ 2048 < sL lo hi 0 * sL lo hi 1 * sL lo hi 2) : ¬ sWithin lo hi = 0 := by
  unfold sWithin; rw [if_neg c0, if_neg c1, if_neg c2, if_neg c3]; decide

set_option maxRecDepth 20000 in
theorem c_large_y {l : Launch} {G : gV} {M : gMem} {r : Nat} {e : Int32} {σ : sA} {vA nA pA plA dg dla dha dva dza : Nat} {dvf : Nat → Int64} {dzf : Nat → Int32} {vf nf : Nat → Option Nat} {pf : Nat → Int32} {tk : Int32} {su le gr : Int64} (hB : rfB G M r e σ vA nA pA plA dg dla dha dva dza dvf dzf vf nf pf tk su le gr) {q la ha m dp : Nat} {w4 w5 : Value} {lo hi : Nat → Int32} (hO : okS m lo hi) (hd : dp ≤ 40) (hA : M q = some (oB 12 [.int (nI m), .int (nI (dp + 1)), .ref la, .ref ha, w4, w5])) (h1 : M la = some (aI G 3 lo)) (h2 : M ha = some (aI G 3 hi)) (hq : ¬ sWithin lo hi = 0 ∧ nI dp < 40) : qC l G yX13_large cX13_large 6 (some .boolean) 3 0 0 [.ref r, .ref q] M (fun v M' => v = some (.int 0) ∧ M' = mU M r (rfO 0 vA nA pA plA dg σ tk su le gr)) := by
  refine qC_of (by decide +kernel) (Nat.le_of_ble_eq_true rfl) (fun F hF X hr hn => ?_)
  subst hF
  have X : qX G F cX13_large 6 RX13 3 := X
  have hs := sW_parts hq.1
  show qJ G F _ 6 M 0 0 0 [(0, .ref r), (1, .ref q)] []
  refine q_lconst (v := 1) X dX13_large_0 (by decide) ?_
  refine q_lstore_n (lv' := [(2, .long 1), (0, .ref r), (1, .ref q)]) X dX13_large_1 (by decide) rfl ?_
  refine q_aload_n X dX13_large_2 2 rfl ?_
  refine q_get X hA rfl in_RX12 1 (by decide) tw_1157 rfl rfl dX13_large_3 ?_
  refine q_bipush (v := 40) X dX13_large_6 (by decide) ?_
  refine q_icmp_le X 15 dX13_large_8 (by decide) (fun c_1 => ?_) (fun c_1 => absurd ((dp_le hd).mpr hq.2) c_1)
  refine q_iconst (v := 0) X dX13_large_15 (by decide) ?_
  refine q_istore (lv' := [(4, .int 0), (2, .long 1), (0, .ref r), (1, .ref q)]) X dX13_large_16 (by decide) rfl ?_
  refine q_iconst (v := 0) X dX13_large_18 (by decide) ?_
  refine q_istore (lv' := [(5, .int 0), (4, .int 0), (2, .long 1), (0, .ref r), (1, .ref q)]) X dX13_large_19 (by decide) rfl ?_
  refine q_iload X dX13_large_21 0 rfl ?_
  refine q_iconst (v := 3) X dX13_large_23 (by decide) ?_
  refine q_icmp_ge X 57 dX13_large_24 (by decide) (fun c_2 => absurd c_2 (by decide)) (fun c_2 => ?_)
  refine q_aload_n X dX13_large_27 4 rfl ?_
  refine q_iload X dX13_large_28 0 rfl ?_
  refine q_callVp X (c_X12_size hA h1 h2 0 (by decide) (by decide)) Y_X12_size tw_1314 tw_1188 tw_1189 hA rfl (by omega) rfl rfl (Nat.le_of_ble_eq_true rfl) dX13_large_30 ?_
  refine q_bipush (v := 40) X dX13_large_33 (by decide) ?_
  refine q_icmp_le X 41 dX13_large_35 (by decide) (fun c_3 => ?_) (fun c_3 => absurd (Int32.not_lt.mp hs.1) c_3)
  refine q_lload_n X dX13_large_41 2 rfl ?_
  refine q_aload_n X dX13_large_42 4 rfl ?_
  refine q_iload X dX13_large_43 0 rfl ?_
  refine q_callVp X (c_X12_size hA h1 h2 0 (by decide) (by decide)) Y_X12_size tw_1314 tw_1188 tw_1189 hA rfl (by omega) rfl rfl (Nat.le_of_ble_eq_true rfl) dX13_large_45 ?_
  refine q_i2l X dX13_large_48 ?_
  refine q_lmul X dX13_large_49 ?_
  refine q_lstore_n (lv' := [(2, .long (1 * ((sL lo hi 0).toInt64))), (5, .int 0), (4, .int 0), (0, .ref r), (1, .ref q)]) X dX13_large_50 (by decide) rfl ?_
  refine q_iinc (v := 1) (lv' := [(5, .int 1), (2, .long (1 * ((sL lo hi 0).toInt64))), (4, .int 0), (0, .ref r), (1, .ref q)]) X dX13_large_51 1 rfl (by decide) (by decide) rfl ?_
  refine q_goto X 21 dX13_large_54 (by decide) ?_
  refine q_iload X dX13_large_21 0 rfl ?_
  refine q_iconst (v := 3) X dX13_large_23 (by decide) ?_
  refine q_icmp_ge X 57 dX13_large_24 (by decide) (fun c_4 => absurd c_4 (by decide)) (fun c_4 => ?_)
  refine q_aload_n X dX13_large_27 4 rfl ?_
  refine q_iload X dX13_large_28 0 rfl ?_
  refine q_callVp X (c_X12_size hA h1 h2 1 (by decide) (by decide)) Y_X12_size tw_1314 tw_1188 tw_1189 hA rfl (by omega) rfl rfl (Nat.le_of_ble_eq_true rfl) dX13_large_30 ?_
  refine q_bipush (v := 40) X dX13_large_33 (by decide) ?_
  refine q_icmp_le X 41 dX13_large_35 (by decide) (fun c_5 => ?_) (fun c_5 => absurd (Int32.not_lt.mp hs.2.1) c_5)
  refine q_lload_n X dX13_large_41 1 rfl ?_
  refine q_aload_n X dX13_large_42 4 rfl ?_
  refine q_iload X dX13_large_43 0 rfl ?_
  refine q_callVp X (c_X12_size hA h1 h2 1 (by decide) (by decide)) Y_X12_size tw_1314 tw_1188 tw_1189 hA rfl (by omega) rfl rfl (Nat.le_of_ble_eq_true rfl) dX13_large_45 ?_
  refine q_i2l X dX13_large_48 ?_
  refine q_lmul X dX13_large_49 ?_
  refine q_lstore_n (lv' := [(2, .long ((1 * ((sL lo hi 0).toInt64)) * ((sL lo hi 1).toInt64))), (5, .int 1), (4, .int 0), (0, .ref r), (1, .ref q)]) X dX13_large_50 (by decide) rfl ?_
  refine q_iinc (v := 2) (lv' := [(5, .int 2), (2, .long ((1 * ((sL lo hi 0).toInt64)) * ((sL lo hi 1).toInt64))), (4, .int 0), (0, .ref r), (1, .ref q)]) X dX13_large_51 1 rfl (by decide) (by decide) rfl ?_
  refine q_goto X 21 dX13_large_54 (by decide) ?_
  refine q_iload X dX13_large_21 0 rfl ?_
  refine q_iconst (v := 3) X dX13_large_23 (by decide) ?_
  refine q_icmp_ge X 57 dX13_large_24 (by decide) (fun c_6 => absurd c_6 (by decide)) (fun c_6 => ?_)
  refine q_aload_n X dX13_large_27 4 rfl ?_
  refine q_iload X dX13_large_28 0 rfl ?_
  refine q_callVp X (c_X12_size hA h1 h2 2 (by decide) (by decide)) Y_X12_size tw_1314 tw_1188 tw_1189 hA rfl (by omega) rfl rfl (Nat.le_of_ble_eq_true rfl) dX13_large_30 ?_
  refine q_bipush (v := 40) X dX13_large_33 (by decide) ?_
  refine q_icmp_le X 41 dX13_large_35 (by decide) (fun c_7 => ?_) (fun c_7 => absurd (Int32.not_lt.mp hs.2.2.1) c_7)
  refine q_lload_n X dX13_large_41 1 rfl ?_
  refine q_aload_n X dX13_large_42 4 rfl ?_
  refine q_iload X dX13_large_43 0 rfl ?_
  refine q_callVp X (c_X12_size hA h1 h2 2 (by decide) (by decide)) Y_X12_size tw_1314 tw_1188 tw_1189 hA rfl (by omega) rfl rfl (Nat.le_of_ble_eq_true rfl) dX13_large_45 ?_
  refine q_i2l X dX13_large_48 ?_
  refine q_lmul X dX13_large_49 ?_
  refine q_lstore_n (lv' := [(2, .long (((1 * ((sL lo hi 0).toInt64)) * ((sL lo hi 1).toInt64)) * ((sL lo hi 2).toInt64))), (5, .int 2), (4, .int 0), (0, .ref r), (1, .ref q)]) X dX13_large_50 (by decide) rfl ?_
  refine q_iinc (v := 3) (lv' := [(5, .int 3), (2, .long (((1 * ((sL lo hi 0).toInt64)) * ((sL lo hi 1).toInt64)) * ((sL lo hi 2).toInt64))), (4, .int 0), (0, .ref r), (1, .ref q)]) X dX13_large_51 1 rfl (by decide) (by decide) rfl ?_
  refine q_goto X 21 dX13_large_54 (by decide) ?_
  refine q_iload X dX13_large_21 0 rfl ?_
  refine q_iconst (v := 3) X dX13_large_23 (by decide) ?_
  refine q_icmp_ge X 57 dX13_large_24 (by decide) (fun c_8 => ?_) (fun c_8 => absurd (by decide) c_8)
  refine q_aload_n X dX13_large_57 3 rfl ?_
  refine q_iload X dX13_large_58 2 rfl ?_
  refine q_if_ne X 71 dX13_large_60 (by decide) (fun c_9 => absurd (by decide) c_9) (fun c_9 => ?_)
  refine q_lload_n X dX13_large_63 1 rfl ?_
  refine q_ldc2 (v := 2048) X dX13_large_64 tw_1363 ?_
  refine q_lcmp X dX13_large_67 ?_
  refine q_if_le X 75 dX13_large_68 (by decide) (fun c_10 => ?_) (fun c_10 => absurd (by rw [lg_cmp_le]; exact (lg_big hO hs.1 hs.2.1 hs.2.2.1).mpr hs.2.2.2) c_10)
  refine q_iconst (v := 0) X dX13_large_75 (by decide) ?_
  refine q_iconst (v := 3) X dX13_large_76 (by decide) ?_
  refine q_callV X (c_fails0 (why := 3) hB.1) Y_X13_fails tw_1246 tw_1248 sel_23 hB.1 rfl (by omega) rfl rfl (Nat.le_of_ble_eq_true rfl) (rc' := 0) (rs' := 0) (by omega) (by omega) dX13_large_77 (fun v M' hp _ => ?_)
  obtain ⟨rfl, eM⟩ := hp
  rw [eM]
  clear eM
  show qJ G F _ 6 (mU M r (rfO 0 vA nA pA plA dg σ tk su le gr)) 0 0 80 [(5, .int 3), (2, .long (((1 * ((sL lo hi 0).toInt64)) * ((sL lo hi 1).toInt64)) * ((sL lo hi 2).toInt64))), (4, .int 0), (0, .ref r), (1, .ref q)] [.int 0]
  exact q_zret X hr (by decide) dX13_large_80 (⟨rfl, rfl⟩)
