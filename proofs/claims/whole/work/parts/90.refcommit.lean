/-! the reference: copied, commit -/
def cyP (G : gV) (M : gMem) (dm : Int32) (lo hi : Nat → Int32) (n : Nat) (vf : Nat → Int64) (zf : Nat → Int32) : Option Value → gMem → Prop := fun v M' => ∃ q la ha va za : Nat, v = some (.ref q) ∧ M q = none ∧ M la = none ∧ M ha = none ∧ M va = none ∧ M za = none ∧ M' q = some (oB 12 [.int dm, .int 0, .ref la, .ref ha, .ref va, .ref za]) ∧ M' la = some (aI G 3 lo) ∧ M' ha = some (aI G 3 hi) ∧ M' va = some (aJ G n (cpJ vf (fun _ => 0) n)) ∧ M' za = some (aZ G n (cpZ zf (fun _ => 0) n)) ∧ mEv (fun _ => False) M M'

section
variable {G : gV} {F : gF} {Q : State → Prop} {nL : Nat} {M : gMem} {rc rs pc : Nat} {lv : List (Nat × Value)} {st : List Value}
/-- less room is enough -/
theorem q_room {rc' rs' : Nat} (h1 : rc' ≤ rc) (h2 : rs' ≤ rs) (kk : qJ G F Q nL M rc' rs' pc lv st) : qJ G F Q nL M rc rs pc lv st := fun H locs ls cells slots a b c d => kk H locs ls cells slots a b (by omega) (by omega)
end

set_option maxRecDepth 20000 in
theorem c_copied {l : Launch} {G : gV} {M : gMem} {a la0 ha0 va0 za0 n : Nat} {w1 : Value} {dm : Int32} {lo hi : Nat → Int32} {vf : Nat → Int64} {zf : Nat → Int32} (hA : M a = some (oB 12 [.int dm, w1, .ref la0, .ref ha0, .ref va0, .ref za0])) (h1 : M la0 = some (aI G 3 lo)) (h2 : M ha0 = some (aI G 3 hi)) (h3 : M va0 = some (aJ G n vf)) (h4 : M za0 = some (aZ G n zf)) (hn8 : sL lo hi 0 * sL lo hi 1 * sL lo hi 2 = nI n) (hn9 : n ≤ 4096) (h01 : ∀ i, i < n → zf i = 0 ∨ zf i = 1) : qC l G yX13_copied cX13_copied 3 (some (.object "GridVaultModel$Grid")) 4 5 8204 [.ref a] M (cyP G M dm lo hi n vf zf) := by
  refine qC_of (by decide +kernel) (Nat.le_of_ble_eq_true rfl) (fun F hF X hr hn => ?_)
  subst hF
  have X : qX G F cX13_copied 3 RX13 4 := X
  show qJ G F _ 3 M 5 8204 0 [(0, .ref a)] []
  refine q_new X (ci := 12) rfl in_RX12 tyX12 tyX12_ok tw_1145 tw_1151 tw_15 (fs0 := [.int 0, .int 0, .null, .null, .null, .null]) (fun j hj => by rcases (show j = 0 ∨ j = 1 ∨ j = 2 ∨ j = 3 ∨ j = 4 ∨ j = 5 by omega) with rfl | rfl | rfl | rfl | rfl | rfl <;> rfl) (rc' := 4) (rs' := 8198) (by omega) (by omega) dX13_copied_0 (fun q fq => ?_)
  have n_1 : a ≠ q := g_nef hA fq
  have m_2 : (mU M q (oB 12 [.int 0, .int 0, .null, .null, .null, .null])) a = some (oB 12 [.int dm, w1, .ref la0, .ref ha0, .ref va0, .ref za0]) := (mU_n n_1).trans hA
  have n_3 : la0 ≠ q := g_nef h1 fq
  have m_4 : (mU M q (oB 12 [.int 0, .int 0, .null, .null, .null, .null])) la0 = some (aI G 3 lo) := (mU_n n_3).trans h1
  have n_5 : ha0 ≠ q := g_nef h2 fq
  have m_6 : (mU M q (oB 12 [.int 0, .int 0, .null, .null, .null, .null])) ha0 = some (aI G 3 hi) := (mU_n n_5).trans h2
  have n_7 : va0 ≠ q := g_nef h3 fq
  have m_8 : (mU M q (oB 12 [.int 0, .int 0, .null, .null, .null, .null])) va0 = some (aJ G n vf) := (mU_n n_7).trans h3
  have n_9 : za0 ≠ q := g_nef h4 fq
  have m_10 : (mU M q (oB 12 [.int 0, .int 0, .null, .null, .null, .null])) za0 = some (aZ G n zf) := (mU_n n_9).trans h4
  have m_11 : (mU M q (oB 12 [.int 0, .int 0, .null, .null, .null, .null])) q = some (oB 12 [.int 0, .int 0, .null, .null, .null, .null]) := mU_s
  have n9a : ¬ a = q := g_nef hA fq
  have n9la0 : ¬ la0 = q := g_nef h1 fq
  have n9ha0 : ¬ ha0 = q := g_nef h2 fq
  have n9va0 : ¬ va0 = q := g_nef h3 fq
  have n9za0 : ¬ za0 = q := g_nef h4 fq
  refine q_dup X dX13_copied_3 rfl ?_
  refine q_callIN X (c_X12_init mU_s) Y_X12_init tn_1152 tw_1153 rfl (by omega) rfl rfl (Nat.le_of_ble_eq_true rfl) (rc' := 2) (rs' := 8192) (by omega) (by omega) dX13_copied_4 (fun v M' hp _ => ?_)
  obtain ⟨rfl, la, ha, nla, nha, llaha, llaq, lhaq, hq, hla, hha, eq⟩ := hp
  generalize M' = M112 at *
  have m_13 : M112 a = some (oB 12 [.int dm, w1, .ref la0, .ref ha0, .ref va0, .ref za0]) := eq.keep m_2 n9a
  have m_14 : M112 la0 = some (aI G 3 lo) := eq.keep m_4 n9la0
  have m_15 : M112 ha0 = some (aI G 3 hi) := eq.keep m_6 n9ha0
  have m_16 : M112 va0 = some (aJ G n vf) := eq.keep m_8 n9va0
  have m_17 : M112 za0 = some (aZ G n zf) := eq.keep m_10 n9za0
  show qJ G F _ 3 M112 2 8192 7 [(0, .ref a)] [.ref q]
  have fq9 := fq
  have nla9 : M la = none := (mEv_new (K := fun _ => False) fq).none nla
  have nha9 : M ha = none := (mEv_new (K := fun _ => False) fq).none nha
  refine q_astore_n (lv' := [(1, .ref q), (0, .ref a)]) X dX13_copied_7 (by decide) rfl ?_
  refine q_aload_n X dX13_copied_8 0 rfl ?_
  refine q_aload_n X dX13_copied_9 1 rfl ?_
  refine q_get X m_13 rfl in_RX12 0 (by decide) tw_1156 rfl rfl dX13_copied_10 ?_
  refine q_put X hq rfl in_RX12 tyX12 tyX12_ok nmX12 0 (by decide) tw_1156 rfl rfl rfl rfl rfl (Nat.le_of_ble_eq_true rfl) (fs1 := [.int dm, .int 0, .ref la, .ref ha, .null, .null]) rfl dX13_copied_13 ?_
  have m_18 : (mU M112 q (oB 12 [.int dm, .int 0, .ref la, .ref ha, .null, .null])) a = some (oB 12 [.int dm, w1, .ref la0, .ref ha0, .ref va0, .ref za0]) := (mU_n (n_1)).trans m_13
  have m_19 : (mU M112 q (oB 12 [.int dm, .int 0, .ref la, .ref ha, .null, .null])) la0 = some (aI G 3 lo) := (mU_n (n_3)).trans m_14
  have m_20 : (mU M112 q (oB 12 [.int dm, .int 0, .ref la, .ref ha, .null, .null])) ha0 = some (aI G 3 hi) := (mU_n (n_5)).trans m_15
  have m_21 : (mU M112 q (oB 12 [.int dm, .int 0, .ref la, .ref ha, .null, .null])) va0 = some (aJ G n vf) := (mU_n (n_7)).trans m_16
  have m_22 : (mU M112 q (oB 12 [.int dm, .int 0, .ref la, .ref ha, .null, .null])) za0 = some (aZ G n zf) := (mU_n (n_9)).trans m_17
  have m_23 : (mU M112 q (oB 12 [.int dm, .int 0, .ref la, .ref ha, .null, .null])) q = some (oB 12 [.int dm, .int 0, .ref la, .ref ha, .null, .null]) := mU_s
  have m_24 : (mU M112 q (oB 12 [.int dm, .int 0, .ref la, .ref ha, .null, .null])) la = some (aI G 3 (fun _ => 0)) := (mU_n (Ne.symm (g_neoa hq hla))).trans hla
  have m_25 : (mU M112 q (oB 12 [.int dm, .int 0, .ref la, .ref ha, .null, .null])) ha = some (aI G 3 (fun _ => 0)) := (mU_n (Ne.symm (g_neoa hq hha))).trans hha
  refine q_iconst (v := 0) X dX13_copied_16 (by decide) ?_
  refine q_istore_n (lv' := [(2, .int 0), (1, .ref q), (0, .ref a)]) X dX13_copied_17 (by decide) rfl ?_
  refine q_iload_n X dX13_copied_18 0 rfl ?_
  refine q_iconst (v := 3) X dX13_copied_19 (by decide) ?_
  refine q_icmp_ge X 53 dX13_copied_20 (by decide) (fun c_26 => absurd c_26 (by decide)) (fun c_26 => ?_)
  refine q_aload_n X dX13_copied_23 1 rfl ?_
  refine q_get X m_23 rfl in_RX12 2 (by decide) tw_1159 rfl rfl dX13_copied_24 ?_
  refine q_iload_n X dX13_copied_27 0 rfl ?_
  refine q_aload_n X dX13_copied_28 2 rfl ?_
  refine q_get X m_18 rfl in_RX12 2 (by decide) tw_1159 rfl rfl dX13_copied_29 ?_
  refine q_iload_n X dX13_copied_32 0 rfl ?_
  refine q_ialdN X 0 m_19 (rfl) (by decide) (by decide) dX13_copied_33 ?_
  refine q_iastN X 0 m_24 (rfl) (by decide) (by decide) dX13_copied_34 ?_
  have m_27 : (mU (mU M112 q (oB 12 [.int dm, .int 0, .ref la, .ref ha, .null, .null])) la (aI G 3 (upd (fun _ => 0) 0 (lo 0)))) a = some (oB 12 [.int dm, w1, .ref la0, .ref ha0, .ref va0, .ref za0]) := (mU_n (g_neoa m_18 m_24)).trans m_18
  have m_28 : (mU (mU M112 q (oB 12 [.int dm, .int 0, .ref la, .ref ha, .null, .null])) la (aI G 3 (upd (fun _ => 0) 0 (lo 0)))) la0 = some (aI G 3 lo) := (mU_n (g_nef m_4 nla)).trans m_19
  have m_29 : (mU (mU M112 q (oB 12 [.int dm, .int 0, .ref la, .ref ha, .null, .null])) la (aI G 3 (upd (fun _ => 0) 0 (lo 0)))) ha0 = some (aI G 3 hi) := (mU_n (g_nef m_6 nla)).trans m_20
  have m_30 : (mU (mU M112 q (oB 12 [.int dm, .int 0, .ref la, .ref ha, .null, .null])) la (aI G 3 (upd (fun _ => 0) 0 (lo 0)))) va0 = some (aJ G n vf) := (mU_n (g_nef m_8 nla)).trans m_21
  have m_31 : (mU (mU M112 q (oB 12 [.int dm, .int 0, .ref la, .ref ha, .null, .null])) la (aI G 3 (upd (fun _ => 0) 0 (lo 0)))) za0 = some (aZ G n zf) := (mU_n (g_nef m_10 nla)).trans m_22
  have m_32 : (mU (mU M112 q (oB 12 [.int dm, .int 0, .ref la, .ref ha, .null, .null])) la (aI G 3 (upd (fun _ => 0) 0 (lo 0)))) q = some (oB 12 [.int dm, .int 0, .ref la, .ref ha, .null, .null]) := (mU_n (g_neoa m_23 m_24)).trans m_23
  have m_33 : (mU (mU M112 q (oB 12 [.int dm, .int 0, .ref la, .ref ha, .null, .null])) la (aI G 3 (upd (fun _ => 0) 0 (lo 0)))) la = some (aI G 3 (upd (fun _ => 0) 0 (lo 0))) := mU_s
  have m_34 : (mU (mU M112 q (oB 12 [.int dm, .int 0, .ref la, .ref ha, .null, .null])) la (aI G 3 (upd (fun _ => 0) 0 (lo 0)))) ha = some (aI G 3 (fun _ => 0)) := (mU_n (Ne.symm (llaha))).trans m_25
  refine q_aload_n X dX13_copied_35 1 rfl ?_
  refine q_get X m_32 rfl in_RX12 3 (by decide) tw_1161 rfl rfl dX13_copied_36 ?_
  refine q_iload_n X dX13_copied_39 0 rfl ?_
  refine q_aload_n X dX13_copied_40 2 rfl ?_
  refine q_get X m_27 rfl in_RX12 3 (by decide) tw_1161 rfl rfl dX13_copied_41 ?_
  refine q_iload_n X dX13_copied_44 0 rfl ?_
  refine q_ialdN X 0 m_29 (rfl) (by decide) (by decide) dX13_copied_45 ?_
  refine q_iastN X 0 m_34 (rfl) (by decide) (by decide) dX13_copied_46 ?_
  have m_35 : (mU (mU (mU M112 q (oB 12 [.int dm, .int 0, .ref la, .ref ha, .null, .null])) la (aI G 3 (upd (fun _ => 0) 0 (lo 0)))) ha (aI G 3 (upd (fun _ => 0) 0 (hi 0)))) a = some (oB 12 [.int dm, w1, .ref la0, .ref ha0, .ref va0, .ref za0]) := (mU_n (g_neoa m_27 m_34)).trans m_27
  have m_36 : (mU (mU (mU M112 q (oB 12 [.int dm, .int 0, .ref la, .ref ha, .null, .null])) la (aI G 3 (upd (fun _ => 0) 0 (lo 0)))) ha (aI G 3 (upd (fun _ => 0) 0 (hi 0)))) la0 = some (aI G 3 lo) := (mU_n (g_nef m_4 nha)).trans m_28
  have m_37 : (mU (mU (mU M112 q (oB 12 [.int dm, .int 0, .ref la, .ref ha, .null, .null])) la (aI G 3 (upd (fun _ => 0) 0 (lo 0)))) ha (aI G 3 (upd (fun _ => 0) 0 (hi 0)))) ha0 = some (aI G 3 hi) := (mU_n (g_nef m_6 nha)).trans m_29
  have m_38 : (mU (mU (mU M112 q (oB 12 [.int dm, .int 0, .ref la, .ref ha, .null, .null])) la (aI G 3 (upd (fun _ => 0) 0 (lo 0)))) ha (aI G 3 (upd (fun _ => 0) 0 (hi 0)))) va0 = some (aJ G n vf) := (mU_n (g_nef m_8 nha)).trans m_30
  have m_39 : (mU (mU (mU M112 q (oB 12 [.int dm, .int 0, .ref la, .ref ha, .null, .null])) la (aI G 3 (upd (fun _ => 0) 0 (lo 0)))) ha (aI G 3 (upd (fun _ => 0) 0 (hi 0)))) za0 = some (aZ G n zf) := (mU_n (g_nef m_10 nha)).trans m_31
  have m_40 : (mU (mU (mU M112 q (oB 12 [.int dm, .int 0, .ref la, .ref ha, .null, .null])) la (aI G 3 (upd (fun _ => 0) 0 (lo 0)))) ha (aI G 3 (upd (fun _ => 0) 0 (hi 0)))) q = some (oB 12 [.int dm, .int 0, .ref la, .ref ha, .null, .null]) := (mU_n (g_neoa m_32 m_34)).trans m_32
  have m_41 : (mU (mU (mU M112 q (oB 12 [.int dm, .int 0, .ref la, .ref ha, .null, .null])) la (aI G 3 (upd (fun _ => 0) 0 (lo 0)))) ha (aI G 3 (upd (fun _ => 0) 0 (hi 0)))) la = some (aI G 3 (upd (fun _ => 0) 0 (lo 0))) := (mU_n (llaha)).trans m_33
  have m_42 : (mU (mU (mU M112 q (oB 12 [.int dm, .int 0, .ref la, .ref ha, .null, .null])) la (aI G 3 (upd (fun _ => 0) 0 (lo 0)))) ha (aI G 3 (upd (fun _ => 0) 0 (hi 0)))) ha = some (aI G 3 (upd (fun _ => 0) 0 (hi 0))) := mU_s
  refine q_iinc (v := 1) (lv' := [(2, .int 1), (1, .ref q), (0, .ref a)]) X dX13_copied_47 0 rfl (by decide) (by decide) rfl ?_
  refine q_goto X 18 dX13_copied_50 (by decide) ?_
  refine q_iload_n X dX13_copied_18 0 rfl ?_
  refine q_iconst (v := 3) X dX13_copied_19 (by decide) ?_
  refine q_icmp_ge X 53 dX13_copied_20 (by decide) (fun c_43 => absurd c_43 (by decide)) (fun c_43 => ?_)
  refine q_aload_n X dX13_copied_23 1 rfl ?_
  refine q_get X m_40 rfl in_RX12 2 (by decide) tw_1159 rfl rfl dX13_copied_24 ?_
  refine q_iload_n X dX13_copied_27 0 rfl ?_
  refine q_aload_n X dX13_copied_28 2 rfl ?_
  refine q_get X m_35 rfl in_RX12 2 (by decide) tw_1159 rfl rfl dX13_copied_29 ?_
  refine q_iload_n X dX13_copied_32 0 rfl ?_
  refine q_ialdN X 1 m_36 (rfl) (by decide) (by decide) dX13_copied_33 ?_
  refine q_iastN X 1 m_41 (rfl) (by decide) (by decide) dX13_copied_34 ?_
  have m_44 : (mU (mU (mU (mU M112 q (oB 12 [.int dm, .int 0, .ref la, .ref ha, .null, .null])) la (aI G 3 (upd (fun _ => 0) 0 (lo 0)))) ha (aI G 3 (upd (fun _ => 0) 0 (hi 0)))) la (aI G 3 (upd (upd (fun _ => 0) 0 (lo 0)) 1 (lo 1)))) a = some (oB 12 [.int dm, w1, .ref la0, .ref ha0, .ref va0, .ref za0]) := (mU_n (g_neoa m_35 m_41)).trans m_35
  have m_45 : (mU (mU (mU (mU M112 q (oB 12 [.int dm, .int 0, .ref la, .ref ha, .null, .null])) la (aI G 3 (upd (fun _ => 0) 0 (lo 0)))) ha (aI G 3 (upd (fun _ => 0) 0 (hi 0)))) la (aI G 3 (upd (upd (fun _ => 0) 0 (lo 0)) 1 (lo 1)))) la0 = some (aI G 3 lo) := (mU_n (g_nef m_4 nla)).trans m_36
  have m_46 : (mU (mU (mU (mU M112 q (oB 12 [.int dm, .int 0, .ref la, .ref ha, .null, .null])) la (aI G 3 (upd (fun _ => 0) 0 (lo 0)))) ha (aI G 3 (upd (fun _ => 0) 0 (hi 0)))) la (aI G 3 (upd (upd (fun _ => 0) 0 (lo 0)) 1 (lo 1)))) ha0 = some (aI G 3 hi) := (mU_n (g_nef m_6 nla)).trans m_37
  have m_47 : (mU (mU (mU (mU M112 q (oB 12 [.int dm, .int 0, .ref la, .ref ha, .null, .null])) la (aI G 3 (upd (fun _ => 0) 0 (lo 0)))) ha (aI G 3 (upd (fun _ => 0) 0 (hi 0)))) la (aI G 3 (upd (upd (fun _ => 0) 0 (lo 0)) 1 (lo 1)))) va0 = some (aJ G n vf) := (mU_n (g_nef m_8 nla)).trans m_38
  have m_48 : (mU (mU (mU (mU M112 q (oB 12 [.int dm, .int 0, .ref la, .ref ha, .null, .null])) la (aI G 3 (upd (fun _ => 0) 0 (lo 0)))) ha (aI G 3 (upd (fun _ => 0) 0 (hi 0)))) la (aI G 3 (upd (upd (fun _ => 0) 0 (lo 0)) 1 (lo 1)))) za0 = some (aZ G n zf) := (mU_n (g_nef m_10 nla)).trans m_39
  have m_49 : (mU (mU (mU (mU M112 q (oB 12 [.int dm, .int 0, .ref la, .ref ha, .null, .null])) la (aI G 3 (upd (fun _ => 0) 0 (lo 0)))) ha (aI G 3 (upd (fun _ => 0) 0 (hi 0)))) la (aI G 3 (upd (upd (fun _ => 0) 0 (lo 0)) 1 (lo 1)))) q = some (oB 12 [.int dm, .int 0, .ref la, .ref ha, .null, .null]) := (mU_n (g_neoa m_40 m_41)).trans m_40
  have m_50 : (mU (mU (mU (mU M112 q (oB 12 [.int dm, .int 0, .ref la, .ref ha, .null, .null])) la (aI G 3 (upd (fun _ => 0) 0 (lo 0)))) ha (aI G 3 (upd (fun _ => 0) 0 (hi 0)))) la (aI G 3 (upd (upd (fun _ => 0) 0 (lo 0)) 1 (lo 1)))) la = some (aI G 3 (upd (upd (fun _ => 0) 0 (lo 0)) 1 (lo 1))) := mU_s
  have m_51 : (mU (mU (mU (mU M112 q (oB 12 [.int dm, .int 0, .ref la, .ref ha, .null, .null])) la (aI G 3 (upd (fun _ => 0) 0 (lo 0)))) ha (aI G 3 (upd (fun _ => 0) 0 (hi 0)))) la (aI G 3 (upd (upd (fun _ => 0) 0 (lo 0)) 1 (lo 1)))) ha = some (aI G 3 (upd (fun _ => 0) 0 (hi 0))) := (mU_n (Ne.symm (llaha))).trans m_42
  refine q_aload_n X dX13_copied_35 1 rfl ?_
  refine q_get X m_49 rfl in_RX12 3 (by decide) tw_1161 rfl rfl dX13_copied_36 ?_
  refine q_iload_n X dX13_copied_39 0 rfl ?_
  refine q_aload_n X dX13_copied_40 2 rfl ?_
  refine q_get X m_44 rfl in_RX12 3 (by decide) tw_1161 rfl rfl dX13_copied_41 ?_
  refine q_iload_n X dX13_copied_44 0 rfl ?_
  refine q_ialdN X 1 m_46 (rfl) (by decide) (by decide) dX13_copied_45 ?_
  refine q_iastN X 1 m_51 (rfl) (by decide) (by decide) dX13_copied_46 ?_
  have m_52 : (mU (mU (mU (mU (mU M112 q (oB 12 [.int dm, .int 0, .ref la, .ref ha, .null, .null])) la (aI G 3 (upd (fun _ => 0) 0 (lo 0)))) ha (aI G 3 (upd (fun _ => 0) 0 (hi 0)))) la (aI G 3 (upd (upd (fun _ => 0) 0 (lo 0)) 1 (lo 1)))) ha (aI G 3 (upd (upd (fun _ => 0) 0 (hi 0)) 1 (hi 1)))) a = some (oB 12 [.int dm, w1, .ref la0, .ref ha0, .ref va0, .ref za0]) := (mU_n (g_neoa m_44 m_51)).trans m_44
  have m_53 : (mU (mU (mU (mU (mU M112 q (oB 12 [.int dm, .int 0, .ref la, .ref ha, .null, .null])) la (aI G 3 (upd (fun _ => 0) 0 (lo 0)))) ha (aI G 3 (upd (fun _ => 0) 0 (hi 0)))) la (aI G 3 (upd (upd (fun _ => 0) 0 (lo 0)) 1 (lo 1)))) ha (aI G 3 (upd (upd (fun _ => 0) 0 (hi 0)) 1 (hi 1)))) la0 = some (aI G 3 lo) := (mU_n (g_nef m_4 nha)).trans m_45
  have m_54 : (mU (mU (mU (mU (mU M112 q (oB 12 [.int dm, .int 0, .ref la, .ref ha, .null, .null])) la (aI G 3 (upd (fun _ => 0) 0 (lo 0)))) ha (aI G 3 (upd (fun _ => 0) 0 (hi 0)))) la (aI G 3 (upd (upd (fun _ => 0) 0 (lo 0)) 1 (lo 1)))) ha (aI G 3 (upd (upd (fun _ => 0) 0 (hi 0)) 1 (hi 1)))) ha0 = some (aI G 3 hi) := (mU_n (g_nef m_6 nha)).trans m_46
  have m_55 : (mU (mU (mU (mU (mU M112 q (oB 12 [.int dm, .int 0, .ref la, .ref ha, .null, .null])) la (aI G 3 (upd (fun _ => 0) 0 (lo 0)))) ha (aI G 3 (upd (fun _ => 0) 0 (hi 0)))) la (aI G 3 (upd (upd (fun _ => 0) 0 (lo 0)) 1 (lo 1)))) ha (aI G 3 (upd (upd (fun _ => 0) 0 (hi 0)) 1 (hi 1)))) va0 = some (aJ G n vf) := (mU_n (g_nef m_8 nha)).trans m_47
  have m_56 : (mU (mU (mU (mU (mU M112 q (oB 12 [.int dm, .int 0, .ref la, .ref ha, .null, .null])) la (aI G 3 (upd (fun _ => 0) 0 (lo 0)))) ha (aI G 3 (upd (fun _ => 0) 0 (hi 0)))) la (aI G 3 (upd (upd (fun _ => 0) 0 (lo 0)) 1 (lo 1)))) ha (aI G 3 (upd (upd (fun _ => 0) 0 (hi 0)) 1 (hi 1)))) za0 = some (aZ G n zf) := (mU_n (g_nef m_10 nha)).trans m_48
  have m_57 : (mU (mU (mU (mU (mU M112 q (oB 12 [.int dm, .int 0, .ref la, .ref ha, .null, .null])) la (aI G 3 (upd (fun _ => 0) 0 (lo 0)))) ha (aI G 3 (upd (fun _ => 0) 0 (hi 0)))) la (aI G 3 (upd (upd (fun _ => 0) 0 (lo 0)) 1 (lo 1)))) ha (aI G 3 (upd (upd (fun _ => 0) 0 (hi 0)) 1 (hi 1)))) q = some (oB 12 [.int dm, .int 0, .ref la, .ref ha, .null, .null]) := (mU_n (g_neoa m_49 m_51)).trans m_49
  have m_58 : (mU (mU (mU (mU (mU M112 q (oB 12 [.int dm, .int 0, .ref la, .ref ha, .null, .null])) la (aI G 3 (upd (fun _ => 0) 0 (lo 0)))) ha (aI G 3 (upd (fun _ => 0) 0 (hi 0)))) la (aI G 3 (upd (upd (fun _ => 0) 0 (lo 0)) 1 (lo 1)))) ha (aI G 3 (upd (upd (fun _ => 0) 0 (hi 0)) 1 (hi 1)))) la = some (aI G 3 (upd (upd (fun _ => 0) 0 (lo 0)) 1 (lo 1))) := (mU_n (llaha)).trans m_50
  have m_59 : (mU (mU (mU (mU (mU M112 q (oB 12 [.int dm, .int 0, .ref la, .ref ha, .null, .null])) la (aI G 3 (upd (fun _ => 0) 0 (lo 0)))) ha (aI G 3 (upd (fun _ => 0) 0 (hi 0)))) la (aI G 3 (upd (upd (fun _ => 0) 0 (lo 0)) 1 (lo 1)))) ha (aI G 3 (upd (upd (fun _ => 0) 0 (hi 0)) 1 (hi 1)))) ha = some (aI G 3 (upd (upd (fun _ => 0) 0 (hi 0)) 1 (hi 1))) := mU_s
  refine q_iinc (v := 2) (lv' := [(2, .int 2), (1, .ref q), (0, .ref a)]) X dX13_copied_47 0 rfl (by decide) (by decide) rfl ?_
  refine q_goto X 18 dX13_copied_50 (by decide) ?_
  refine q_iload_n X dX13_copied_18 0 rfl ?_
  refine q_iconst (v := 3) X dX13_copied_19 (by decide) ?_
  refine q_icmp_ge X 53 dX13_copied_20 (by decide) (fun c_60 => absurd c_60 (by decide)) (fun c_60 => ?_)
  refine q_aload_n X dX13_copied_23 1 rfl ?_
  refine q_get X m_57 rfl in_RX12 2 (by decide) tw_1159 rfl rfl dX13_copied_24 ?_
  refine q_iload_n X dX13_copied_27 0 rfl ?_
  refine q_aload_n X dX13_copied_28 2 rfl ?_
  refine q_get X m_52 rfl in_RX12 2 (by decide) tw_1159 rfl rfl dX13_copied_29 ?_
  refine q_iload_n X dX13_copied_32 0 rfl ?_
  refine q_ialdN X 2 m_53 (rfl) (by decide) (by decide) dX13_copied_33 ?_
  refine q_iastN X 2 m_58 (rfl) (by decide) (by decide) dX13_copied_34 ?_
  have m_61 : (mU (mU (mU (mU (mU (mU M112 q (oB 12 [.int dm, .int 0, .ref la, .ref ha, .null, .null])) la (aI G 3 (upd (fun _ => 0) 0 (lo 0)))) ha (aI G 3 (upd (fun _ => 0) 0 (hi 0)))) la (aI G 3 (upd (upd (fun _ => 0) 0 (lo 0)) 1 (lo 1)))) ha (aI G 3 (upd (upd (fun _ => 0) 0 (hi 0)) 1 (hi 1)))) la (aI G 3 (upd (upd (upd (fun _ => 0) 0 (lo 0)) 1 (lo 1)) 2 (lo 2)))) a = some (oB 12 [.int dm, w1, .ref la0, .ref ha0, .ref va0, .ref za0]) := (mU_n (g_neoa m_52 m_58)).trans m_52
  have m_62 : (mU (mU (mU (mU (mU (mU M112 q (oB 12 [.int dm, .int 0, .ref la, .ref ha, .null, .null])) la (aI G 3 (upd (fun _ => 0) 0 (lo 0)))) ha (aI G 3 (upd (fun _ => 0) 0 (hi 0)))) la (aI G 3 (upd (upd (fun _ => 0) 0 (lo 0)) 1 (lo 1)))) ha (aI G 3 (upd (upd (fun _ => 0) 0 (hi 0)) 1 (hi 1)))) la (aI G 3 (upd (upd (upd (fun _ => 0) 0 (lo 0)) 1 (lo 1)) 2 (lo 2)))) la0 = some (aI G 3 lo) := (mU_n (g_nef m_4 nla)).trans m_53
  have m_63 : (mU (mU (mU (mU (mU (mU M112 q (oB 12 [.int dm, .int 0, .ref la, .ref ha, .null, .null])) la (aI G 3 (upd (fun _ => 0) 0 (lo 0)))) ha (aI G 3 (upd (fun _ => 0) 0 (hi 0)))) la (aI G 3 (upd (upd (fun _ => 0) 0 (lo 0)) 1 (lo 1)))) ha (aI G 3 (upd (upd (fun _ => 0) 0 (hi 0)) 1 (hi 1)))) la (aI G 3 (upd (upd (upd (fun _ => 0) 0 (lo 0)) 1 (lo 1)) 2 (lo 2)))) ha0 = some (aI G 3 hi) := (mU_n (g_nef m_6 nla)).trans m_54
  have m_64 : (mU (mU (mU (mU (mU (mU M112 q (oB 12 [.int dm, .int 0, .ref la, .ref ha, .null, .null])) la (aI G 3 (upd (fun _ => 0) 0 (lo 0)))) ha (aI G 3 (upd (fun _ => 0) 0 (hi 0)))) la (aI G 3 (upd (upd (fun _ => 0) 0 (lo 0)) 1 (lo 1)))) ha (aI G 3 (upd (upd (fun _ => 0) 0 (hi 0)) 1 (hi 1)))) la (aI G 3 (upd (upd (upd (fun _ => 0) 0 (lo 0)) 1 (lo 1)) 2 (lo 2)))) va0 = some (aJ G n vf) := (mU_n (g_nef m_8 nla)).trans m_55
  have m_65 : (mU (mU (mU (mU (mU (mU M112 q (oB 12 [.int dm, .int 0, .ref la, .ref ha, .null, .null])) la (aI G 3 (upd (fun _ => 0) 0 (lo 0)))) ha (aI G 3 (upd (fun _ => 0) 0 (hi 0)))) la (aI G 3 (upd (upd (fun _ => 0) 0 (lo 0)) 1 (lo 1)))) ha (aI G 3 (upd (upd (fun _ => 0) 0 (hi 0)) 1 (hi 1)))) la (aI G 3 (upd (upd (upd (fun _ => 0) 0 (lo 0)) 1 (lo 1)) 2 (lo 2)))) za0 = some (aZ G n zf) := (mU_n (g_nef m_10 nla)).trans m_56
  have m_66 : (mU (mU (mU (mU (mU (mU M112 q (oB 12 [.int dm, .int 0, .ref la, .ref ha, .null, .null])) la (aI G 3 (upd (fun _ => 0) 0 (lo 0)))) ha (aI G 3 (upd (fun _ => 0) 0 (hi 0)))) la (aI G 3 (upd (upd (fun _ => 0) 0 (lo 0)) 1 (lo 1)))) ha (aI G 3 (upd (upd (fun _ => 0) 0 (hi 0)) 1 (hi 1)))) la (aI G 3 (upd (upd (upd (fun _ => 0) 0 (lo 0)) 1 (lo 1)) 2 (lo 2)))) q = some (oB 12 [.int dm, .int 0, .ref la, .ref ha, .null, .null]) := (mU_n (g_neoa m_57 m_58)).trans m_57
  have m_67 : (mU (mU (mU (mU (mU (mU M112 q (oB 12 [.int dm, .int 0, .ref la, .ref ha, .null, .null])) la (aI G 3 (upd (fun _ => 0) 0 (lo 0)))) ha (aI G 3 (upd (fun _ => 0) 0 (hi 0)))) la (aI G 3 (upd (upd (fun _ => 0) 0 (lo 0)) 1 (lo 1)))) ha (aI G 3 (upd (upd (fun _ => 0) 0 (hi 0)) 1 (hi 1)))) la (aI G 3 (upd (upd (upd (fun _ => 0) 0 (lo 0)) 1 (lo 1)) 2 (lo 2)))) la = some (aI G 3 (upd (upd (upd (fun _ => 0) 0 (lo 0)) 1 (lo 1)) 2 (lo 2))) := mU_s
  have m_68 : (mU (mU (mU (mU (mU (mU M112 q (oB 12 [.int dm, .int 0, .ref la, .ref ha, .null, .null])) la (aI G 3 (upd (fun _ => 0) 0 (lo 0)))) ha (aI G 3 (upd (fun _ => 0) 0 (hi 0)))) la (aI G 3 (upd (upd (fun _ => 0) 0 (lo 0)) 1 (lo 1)))) ha (aI G 3 (upd (upd (fun _ => 0) 0 (hi 0)) 1 (hi 1)))) la (aI G 3 (upd (upd (upd (fun _ => 0) 0 (lo 0)) 1 (lo 1)) 2 (lo 2)))) ha = some (aI G 3 (upd (upd (fun _ => 0) 0 (hi 0)) 1 (hi 1))) := (mU_n (Ne.symm (llaha))).trans m_59
  refine q_aload_n X dX13_copied_35 1 rfl ?_
  refine q_get X m_66 rfl in_RX12 3 (by decide) tw_1161 rfl rfl dX13_copied_36 ?_
  refine q_iload_n X dX13_copied_39 0 rfl ?_
  refine q_aload_n X dX13_copied_40 2 rfl ?_
  refine q_get X m_61 rfl in_RX12 3 (by decide) tw_1161 rfl rfl dX13_copied_41 ?_
  refine q_iload_n X dX13_copied_44 0 rfl ?_
  refine q_ialdN X 2 m_63 (rfl) (by decide) (by decide) dX13_copied_45 ?_
  refine q_iastN X 2 m_68 (rfl) (by decide) (by decide) dX13_copied_46 ?_
  have m_69 : (mU (mU (mU (mU (mU (mU (mU M112 q (oB 12 [.int dm, .int 0, .ref la, .ref ha, .null, .null])) la (aI G 3 (upd (fun _ => 0) 0 (lo 0)))) ha (aI G 3 (upd (fun _ => 0) 0 (hi 0)))) la (aI G 3 (upd (upd (fun _ => 0) 0 (lo 0)) 1 (lo 1)))) ha (aI G 3 (upd (upd (fun _ => 0) 0 (hi 0)) 1 (hi 1)))) la (aI G 3 (upd (upd (upd (fun _ => 0) 0 (lo 0)) 1 (lo 1)) 2 (lo 2)))) ha (aI G 3 (upd (upd (upd (fun _ => 0) 0 (hi 0)) 1 (hi 1)) 2 (hi 2)))) a = some (oB 12 [.int dm, w1, .ref la0, .ref ha0, .ref va0, .ref za0]) := (mU_n (g_neoa m_61 m_68)).trans m_61
  have m_70 : (mU (mU (mU (mU (mU (mU (mU M112 q (oB 12 [.int dm, .int 0, .ref la, .ref ha, .null, .null])) la (aI G 3 (upd (fun _ => 0) 0 (lo 0)))) ha (aI G 3 (upd (fun _ => 0) 0 (hi 0)))) la (aI G 3 (upd (upd (fun _ => 0) 0 (lo 0)) 1 (lo 1)))) ha (aI G 3 (upd (upd (fun _ => 0) 0 (hi 0)) 1 (hi 1)))) la (aI G 3 (upd (upd (upd (fun _ => 0) 0 (lo 0)) 1 (lo 1)) 2 (lo 2)))) ha (aI G 3 (upd (upd (upd (fun _ => 0) 0 (hi 0)) 1 (hi 1)) 2 (hi 2)))) la0 = some (aI G 3 lo) := (mU_n (g_nef m_4 nha)).trans m_62
  have m_71 : (mU (mU (mU (mU (mU (mU (mU M112 q (oB 12 [.int dm, .int 0, .ref la, .ref ha, .null, .null])) la (aI G 3 (upd (fun _ => 0) 0 (lo 0)))) ha (aI G 3 (upd (fun _ => 0) 0 (hi 0)))) la (aI G 3 (upd (upd (fun _ => 0) 0 (lo 0)) 1 (lo 1)))) ha (aI G 3 (upd (upd (fun _ => 0) 0 (hi 0)) 1 (hi 1)))) la (aI G 3 (upd (upd (upd (fun _ => 0) 0 (lo 0)) 1 (lo 1)) 2 (lo 2)))) ha (aI G 3 (upd (upd (upd (fun _ => 0) 0 (hi 0)) 1 (hi 1)) 2 (hi 2)))) ha0 = some (aI G 3 hi) := (mU_n (g_nef m_6 nha)).trans m_63
  have m_72 : (mU (mU (mU (mU (mU (mU (mU M112 q (oB 12 [.int dm, .int 0, .ref la, .ref ha, .null, .null])) la (aI G 3 (upd (fun _ => 0) 0 (lo 0)))) ha (aI G 3 (upd (fun _ => 0) 0 (hi 0)))) la (aI G 3 (upd (upd (fun _ => 0) 0 (lo 0)) 1 (lo 1)))) ha (aI G 3 (upd (upd (fun _ => 0) 0 (hi 0)) 1 (hi 1)))) la (aI G 3 (upd (upd (upd (fun _ => 0) 0 (lo 0)) 1 (lo 1)) 2 (lo 2)))) ha (aI G 3 (upd (upd (upd (fun _ => 0) 0 (hi 0)) 1 (hi 1)) 2 (hi 2)))) va0 = some (aJ G n vf) := (mU_n (g_nef m_8 nha)).trans m_64
  have m_73 : (mU (mU (mU (mU (mU (mU (mU M112 q (oB 12 [.int dm, .int 0, .ref la, .ref ha, .null, .null])) la (aI G 3 (upd (fun _ => 0) 0 (lo 0)))) ha (aI G 3 (upd (fun _ => 0) 0 (hi 0)))) la (aI G 3 (upd (upd (fun _ => 0) 0 (lo 0)) 1 (lo 1)))) ha (aI G 3 (upd (upd (fun _ => 0) 0 (hi 0)) 1 (hi 1)))) la (aI G 3 (upd (upd (upd (fun _ => 0) 0 (lo 0)) 1 (lo 1)) 2 (lo 2)))) ha (aI G 3 (upd (upd (upd (fun _ => 0) 0 (hi 0)) 1 (hi 1)) 2 (hi 2)))) za0 = some (aZ G n zf) := (mU_n (g_nef m_10 nha)).trans m_65
  have m_74 : (mU (mU (mU (mU (mU (mU (mU M112 q (oB 12 [.int dm, .int 0, .ref la, .ref ha, .null, .null])) la (aI G 3 (upd (fun _ => 0) 0 (lo 0)))) ha (aI G 3 (upd (fun _ => 0) 0 (hi 0)))) la (aI G 3 (upd (upd (fun _ => 0) 0 (lo 0)) 1 (lo 1)))) ha (aI G 3 (upd (upd (fun _ => 0) 0 (hi 0)) 1 (hi 1)))) la (aI G 3 (upd (upd (upd (fun _ => 0) 0 (lo 0)) 1 (lo 1)) 2 (lo 2)))) ha (aI G 3 (upd (upd (upd (fun _ => 0) 0 (hi 0)) 1 (hi 1)) 2 (hi 2)))) q = some (oB 12 [.int dm, .int 0, .ref la, .ref ha, .null, .null]) := (mU_n (g_neoa m_66 m_68)).trans m_66
  have m_75 : (mU (mU (mU (mU (mU (mU (mU M112 q (oB 12 [.int dm, .int 0, .ref la, .ref ha, .null, .null])) la (aI G 3 (upd (fun _ => 0) 0 (lo 0)))) ha (aI G 3 (upd (fun _ => 0) 0 (hi 0)))) la (aI G 3 (upd (upd (fun _ => 0) 0 (lo 0)) 1 (lo 1)))) ha (aI G 3 (upd (upd (fun _ => 0) 0 (hi 0)) 1 (hi 1)))) la (aI G 3 (upd (upd (upd (fun _ => 0) 0 (lo 0)) 1 (lo 1)) 2 (lo 2)))) ha (aI G 3 (upd (upd (upd (fun _ => 0) 0 (hi 0)) 1 (hi 1)) 2 (hi 2)))) la = some (aI G 3 (upd (upd (upd (fun _ => 0) 0 (lo 0)) 1 (lo 1)) 2 (lo 2))) := (mU_n (llaha)).trans m_67
  have m_76 : (mU (mU (mU (mU (mU (mU (mU M112 q (oB 12 [.int dm, .int 0, .ref la, .ref ha, .null, .null])) la (aI G 3 (upd (fun _ => 0) 0 (lo 0)))) ha (aI G 3 (upd (fun _ => 0) 0 (hi 0)))) la (aI G 3 (upd (upd (fun _ => 0) 0 (lo 0)) 1 (lo 1)))) ha (aI G 3 (upd (upd (fun _ => 0) 0 (hi 0)) 1 (hi 1)))) la (aI G 3 (upd (upd (upd (fun _ => 0) 0 (lo 0)) 1 (lo 1)) 2 (lo 2)))) ha (aI G 3 (upd (upd (upd (fun _ => 0) 0 (hi 0)) 1 (hi 1)) 2 (hi 2)))) ha = some (aI G 3 (upd (upd (upd (fun _ => 0) 0 (hi 0)) 1 (hi 1)) 2 (hi 2))) := mU_s
  refine q_iinc (v := 3) (lv' := [(2, .int 3), (1, .ref q), (0, .ref a)]) X dX13_copied_47 0 rfl (by decide) (by decide) rfl ?_
  refine q_goto X 18 dX13_copied_50 (by decide) ?_
  refine q_iload_n X dX13_copied_18 0 rfl ?_
  refine q_iconst (v := 3) X dX13_copied_19 (by decide) ?_
  refine q_icmp_ge X 53 dX13_copied_20 (by decide) (fun c_77 => ?_) (fun c_77 => absurd (by decide) c_77)
  refine q_arrI (g := lo) m_75 (fun i hi9 => by rcases (show i = 0 ∨ i = 1 ∨ i = 2 by omega) with rfl | rfl | rfl <;> simp [upd]) ?_
  have m_78 : (mU (mU (mU (mU (mU (mU (mU (mU M112 q (oB 12 [.int dm, .int 0, .ref la, .ref ha, .null, .null])) la (aI G 3 (upd (fun _ => 0) 0 (lo 0)))) ha (aI G 3 (upd (fun _ => 0) 0 (hi 0)))) la (aI G 3 (upd (upd (fun _ => 0) 0 (lo 0)) 1 (lo 1)))) ha (aI G 3 (upd (upd (fun _ => 0) 0 (hi 0)) 1 (hi 1)))) la (aI G 3 (upd (upd (upd (fun _ => 0) 0 (lo 0)) 1 (lo 1)) 2 (lo 2)))) ha (aI G 3 (upd (upd (upd (fun _ => 0) 0 (hi 0)) 1 (hi 1)) 2 (hi 2)))) la (aI G 3 lo)) a = some (oB 12 [.int dm, w1, .ref la0, .ref ha0, .ref va0, .ref za0]) := (mU_n (g_neoa m_69 m_75)).trans m_69
  have m_79 : (mU (mU (mU (mU (mU (mU (mU (mU M112 q (oB 12 [.int dm, .int 0, .ref la, .ref ha, .null, .null])) la (aI G 3 (upd (fun _ => 0) 0 (lo 0)))) ha (aI G 3 (upd (fun _ => 0) 0 (hi 0)))) la (aI G 3 (upd (upd (fun _ => 0) 0 (lo 0)) 1 (lo 1)))) ha (aI G 3 (upd (upd (fun _ => 0) 0 (hi 0)) 1 (hi 1)))) la (aI G 3 (upd (upd (upd (fun _ => 0) 0 (lo 0)) 1 (lo 1)) 2 (lo 2)))) ha (aI G 3 (upd (upd (upd (fun _ => 0) 0 (hi 0)) 1 (hi 1)) 2 (hi 2)))) la (aI G 3 lo)) la0 = some (aI G 3 lo) := (mU_n (g_nef m_4 nla)).trans m_70
  have m_80 : (mU (mU (mU (mU (mU (mU (mU (mU M112 q (oB 12 [.int dm, .int 0, .ref la, .ref ha, .null, .null])) la (aI G 3 (upd (fun _ => 0) 0 (lo 0)))) ha (aI G 3 (upd (fun _ => 0) 0 (hi 0)))) la (aI G 3 (upd (upd (fun _ => 0) 0 (lo 0)) 1 (lo 1)))) ha (aI G 3 (upd (upd (fun _ => 0) 0 (hi 0)) 1 (hi 1)))) la (aI G 3 (upd (upd (upd (fun _ => 0) 0 (lo 0)) 1 (lo 1)) 2 (lo 2)))) ha (aI G 3 (upd (upd (upd (fun _ => 0) 0 (hi 0)) 1 (hi 1)) 2 (hi 2)))) la (aI G 3 lo)) ha0 = some (aI G 3 hi) := (mU_n (g_nef m_6 nla)).trans m_71
  have m_81 : (mU (mU (mU (mU (mU (mU (mU (mU M112 q (oB 12 [.int dm, .int 0, .ref la, .ref ha, .null, .null])) la (aI G 3 (upd (fun _ => 0) 0 (lo 0)))) ha (aI G 3 (upd (fun _ => 0) 0 (hi 0)))) la (aI G 3 (upd (upd (fun _ => 0) 0 (lo 0)) 1 (lo 1)))) ha (aI G 3 (upd (upd (fun _ => 0) 0 (hi 0)) 1 (hi 1)))) la (aI G 3 (upd (upd (upd (fun _ => 0) 0 (lo 0)) 1 (lo 1)) 2 (lo 2)))) ha (aI G 3 (upd (upd (upd (fun _ => 0) 0 (hi 0)) 1 (hi 1)) 2 (hi 2)))) la (aI G 3 lo)) va0 = some (aJ G n vf) := (mU_n (g_nef m_8 nla)).trans m_72
  have m_82 : (mU (mU (mU (mU (mU (mU (mU (mU M112 q (oB 12 [.int dm, .int 0, .ref la, .ref ha, .null, .null])) la (aI G 3 (upd (fun _ => 0) 0 (lo 0)))) ha (aI G 3 (upd (fun _ => 0) 0 (hi 0)))) la (aI G 3 (upd (upd (fun _ => 0) 0 (lo 0)) 1 (lo 1)))) ha (aI G 3 (upd (upd (fun _ => 0) 0 (hi 0)) 1 (hi 1)))) la (aI G 3 (upd (upd (upd (fun _ => 0) 0 (lo 0)) 1 (lo 1)) 2 (lo 2)))) ha (aI G 3 (upd (upd (upd (fun _ => 0) 0 (hi 0)) 1 (hi 1)) 2 (hi 2)))) la (aI G 3 lo)) za0 = some (aZ G n zf) := (mU_n (g_nef m_10 nla)).trans m_73
  have m_83 : (mU (mU (mU (mU (mU (mU (mU (mU M112 q (oB 12 [.int dm, .int 0, .ref la, .ref ha, .null, .null])) la (aI G 3 (upd (fun _ => 0) 0 (lo 0)))) ha (aI G 3 (upd (fun _ => 0) 0 (hi 0)))) la (aI G 3 (upd (upd (fun _ => 0) 0 (lo 0)) 1 (lo 1)))) ha (aI G 3 (upd (upd (fun _ => 0) 0 (hi 0)) 1 (hi 1)))) la (aI G 3 (upd (upd (upd (fun _ => 0) 0 (lo 0)) 1 (lo 1)) 2 (lo 2)))) ha (aI G 3 (upd (upd (upd (fun _ => 0) 0 (hi 0)) 1 (hi 1)) 2 (hi 2)))) la (aI G 3 lo)) q = some (oB 12 [.int dm, .int 0, .ref la, .ref ha, .null, .null]) := (mU_n (g_neoa m_74 m_75)).trans m_74
  have m_84 : (mU (mU (mU (mU (mU (mU (mU (mU M112 q (oB 12 [.int dm, .int 0, .ref la, .ref ha, .null, .null])) la (aI G 3 (upd (fun _ => 0) 0 (lo 0)))) ha (aI G 3 (upd (fun _ => 0) 0 (hi 0)))) la (aI G 3 (upd (upd (fun _ => 0) 0 (lo 0)) 1 (lo 1)))) ha (aI G 3 (upd (upd (fun _ => 0) 0 (hi 0)) 1 (hi 1)))) la (aI G 3 (upd (upd (upd (fun _ => 0) 0 (lo 0)) 1 (lo 1)) 2 (lo 2)))) ha (aI G 3 (upd (upd (upd (fun _ => 0) 0 (hi 0)) 1 (hi 1)) 2 (hi 2)))) la (aI G 3 lo)) la = some (aI G 3 lo) := mU_s
  have m_85 : (mU (mU (mU (mU (mU (mU (mU (mU M112 q (oB 12 [.int dm, .int 0, .ref la, .ref ha, .null, .null])) la (aI G 3 (upd (fun _ => 0) 0 (lo 0)))) ha (aI G 3 (upd (fun _ => 0) 0 (hi 0)))) la (aI G 3 (upd (upd (fun _ => 0) 0 (lo 0)) 1 (lo 1)))) ha (aI G 3 (upd (upd (fun _ => 0) 0 (hi 0)) 1 (hi 1)))) la (aI G 3 (upd (upd (upd (fun _ => 0) 0 (lo 0)) 1 (lo 1)) 2 (lo 2)))) ha (aI G 3 (upd (upd (upd (fun _ => 0) 0 (hi 0)) 1 (hi 1)) 2 (hi 2)))) la (aI G 3 lo)) ha = some (aI G 3 (upd (upd (upd (fun _ => 0) 0 (hi 0)) 1 (hi 1)) 2 (hi 2))) := (mU_n (Ne.symm (llaha))).trans m_76
  refine q_arrI (g := hi) m_85 (fun i hi9 => by rcases (show i = 0 ∨ i = 1 ∨ i = 2 by omega) with rfl | rfl | rfl <;> simp [upd]) ?_
  have m_86 : (mU (mU (mU (mU (mU (mU (mU (mU (mU M112 q (oB 12 [.int dm, .int 0, .ref la, .ref ha, .null, .null])) la (aI G 3 (upd (fun _ => 0) 0 (lo 0)))) ha (aI G 3 (upd (fun _ => 0) 0 (hi 0)))) la (aI G 3 (upd (upd (fun _ => 0) 0 (lo 0)) 1 (lo 1)))) ha (aI G 3 (upd (upd (fun _ => 0) 0 (hi 0)) 1 (hi 1)))) la (aI G 3 (upd (upd (upd (fun _ => 0) 0 (lo 0)) 1 (lo 1)) 2 (lo 2)))) ha (aI G 3 (upd (upd (upd (fun _ => 0) 0 (hi 0)) 1 (hi 1)) 2 (hi 2)))) la (aI G 3 lo)) ha (aI G 3 hi)) a = some (oB 12 [.int dm, w1, .ref la0, .ref ha0, .ref va0, .ref za0]) := (mU_n (g_neoa m_78 m_85)).trans m_78
  have m_87 : (mU (mU (mU (mU (mU (mU (mU (mU (mU M112 q (oB 12 [.int dm, .int 0, .ref la, .ref ha, .null, .null])) la (aI G 3 (upd (fun _ => 0) 0 (lo 0)))) ha (aI G 3 (upd (fun _ => 0) 0 (hi 0)))) la (aI G 3 (upd (upd (fun _ => 0) 0 (lo 0)) 1 (lo 1)))) ha (aI G 3 (upd (upd (fun _ => 0) 0 (hi 0)) 1 (hi 1)))) la (aI G 3 (upd (upd (upd (fun _ => 0) 0 (lo 0)) 1 (lo 1)) 2 (lo 2)))) ha (aI G 3 (upd (upd (upd (fun _ => 0) 0 (hi 0)) 1 (hi 1)) 2 (hi 2)))) la (aI G 3 lo)) ha (aI G 3 hi)) la0 = some (aI G 3 lo) := (mU_n (g_nef m_4 nha)).trans m_79
  have m_88 : (mU (mU (mU (mU (mU (mU (mU (mU (mU M112 q (oB 12 [.int dm, .int 0, .ref la, .ref ha, .null, .null])) la (aI G 3 (upd (fun _ => 0) 0 (lo 0)))) ha (aI G 3 (upd (fun _ => 0) 0 (hi 0)))) la (aI G 3 (upd (upd (fun _ => 0) 0 (lo 0)) 1 (lo 1)))) ha (aI G 3 (upd (upd (fun _ => 0) 0 (hi 0)) 1 (hi 1)))) la (aI G 3 (upd (upd (upd (fun _ => 0) 0 (lo 0)) 1 (lo 1)) 2 (lo 2)))) ha (aI G 3 (upd (upd (upd (fun _ => 0) 0 (hi 0)) 1 (hi 1)) 2 (hi 2)))) la (aI G 3 lo)) ha (aI G 3 hi)) ha0 = some (aI G 3 hi) := (mU_n (g_nef m_6 nha)).trans m_80
  have m_89 : (mU (mU (mU (mU (mU (mU (mU (mU (mU M112 q (oB 12 [.int dm, .int 0, .ref la, .ref ha, .null, .null])) la (aI G 3 (upd (fun _ => 0) 0 (lo 0)))) ha (aI G 3 (upd (fun _ => 0) 0 (hi 0)))) la (aI G 3 (upd (upd (fun _ => 0) 0 (lo 0)) 1 (lo 1)))) ha (aI G 3 (upd (upd (fun _ => 0) 0 (hi 0)) 1 (hi 1)))) la (aI G 3 (upd (upd (upd (fun _ => 0) 0 (lo 0)) 1 (lo 1)) 2 (lo 2)))) ha (aI G 3 (upd (upd (upd (fun _ => 0) 0 (hi 0)) 1 (hi 1)) 2 (hi 2)))) la (aI G 3 lo)) ha (aI G 3 hi)) va0 = some (aJ G n vf) := (mU_n (g_nef m_8 nha)).trans m_81
  have m_90 : (mU (mU (mU (mU (mU (mU (mU (mU (mU M112 q (oB 12 [.int dm, .int 0, .ref la, .ref ha, .null, .null])) la (aI G 3 (upd (fun _ => 0) 0 (lo 0)))) ha (aI G 3 (upd (fun _ => 0) 0 (hi 0)))) la (aI G 3 (upd (upd (fun _ => 0) 0 (lo 0)) 1 (lo 1)))) ha (aI G 3 (upd (upd (fun _ => 0) 0 (hi 0)) 1 (hi 1)))) la (aI G 3 (upd (upd (upd (fun _ => 0) 0 (lo 0)) 1 (lo 1)) 2 (lo 2)))) ha (aI G 3 (upd (upd (upd (fun _ => 0) 0 (hi 0)) 1 (hi 1)) 2 (hi 2)))) la (aI G 3 lo)) ha (aI G 3 hi)) za0 = some (aZ G n zf) := (mU_n (g_nef m_10 nha)).trans m_82
  have m_91 : (mU (mU (mU (mU (mU (mU (mU (mU (mU M112 q (oB 12 [.int dm, .int 0, .ref la, .ref ha, .null, .null])) la (aI G 3 (upd (fun _ => 0) 0 (lo 0)))) ha (aI G 3 (upd (fun _ => 0) 0 (hi 0)))) la (aI G 3 (upd (upd (fun _ => 0) 0 (lo 0)) 1 (lo 1)))) ha (aI G 3 (upd (upd (fun _ => 0) 0 (hi 0)) 1 (hi 1)))) la (aI G 3 (upd (upd (upd (fun _ => 0) 0 (lo 0)) 1 (lo 1)) 2 (lo 2)))) ha (aI G 3 (upd (upd (upd (fun _ => 0) 0 (hi 0)) 1 (hi 1)) 2 (hi 2)))) la (aI G 3 lo)) ha (aI G 3 hi)) q = some (oB 12 [.int dm, .int 0, .ref la, .ref ha, .null, .null]) := (mU_n (g_neoa m_83 m_85)).trans m_83
  have m_92 : (mU (mU (mU (mU (mU (mU (mU (mU (mU M112 q (oB 12 [.int dm, .int 0, .ref la, .ref ha, .null, .null])) la (aI G 3 (upd (fun _ => 0) 0 (lo 0)))) ha (aI G 3 (upd (fun _ => 0) 0 (hi 0)))) la (aI G 3 (upd (upd (fun _ => 0) 0 (lo 0)) 1 (lo 1)))) ha (aI G 3 (upd (upd (fun _ => 0) 0 (hi 0)) 1 (hi 1)))) la (aI G 3 (upd (upd (upd (fun _ => 0) 0 (lo 0)) 1 (lo 1)) 2 (lo 2)))) ha (aI G 3 (upd (upd (upd (fun _ => 0) 0 (hi 0)) 1 (hi 1)) 2 (hi 2)))) la (aI G 3 lo)) ha (aI G 3 hi)) la = some (aI G 3 lo) := (mU_n (llaha)).trans m_84
  have m_93 : (mU (mU (mU (mU (mU (mU (mU (mU (mU M112 q (oB 12 [.int dm, .int 0, .ref la, .ref ha, .null, .null])) la (aI G 3 (upd (fun _ => 0) 0 (lo 0)))) ha (aI G 3 (upd (fun _ => 0) 0 (hi 0)))) la (aI G 3 (upd (upd (fun _ => 0) 0 (lo 0)) 1 (lo 1)))) ha (aI G 3 (upd (upd (fun _ => 0) 0 (hi 0)) 1 (hi 1)))) la (aI G 3 (upd (upd (upd (fun _ => 0) 0 (lo 0)) 1 (lo 1)) 2 (lo 2)))) ha (aI G 3 (upd (upd (upd (fun _ => 0) 0 (hi 0)) 1 (hi 1)) 2 (hi 2)))) la (aI G 3 lo)) ha (aI G 3 hi)) ha = some (aI G 3 hi) := mU_s
  have ev2 : mEv (fun _ => False) M (mU (mU (mU (mU (mU (mU (mU (mU (mU M112 q (oB 12 [.int dm, .int 0, .ref la, .ref ha, .null, .null])) la (aI G 3 (upd (fun _ => 0) 0 (lo 0)))) ha (aI G 3 (upd (fun _ => 0) 0 (hi 0)))) la (aI G 3 (upd (upd (fun _ => 0) 0 (lo 0)) 1 (lo 1)))) ha (aI G 3 (upd (upd (fun _ => 0) 0 (hi 0)) 1 (hi 1)))) la (aI G 3 (upd (upd (upd (fun _ => 0) 0 (lo 0)) 1 (lo 1)) 2 (lo 2)))) ha (aI G 3 (upd (upd (upd (fun _ => 0) 0 (hi 0)) 1 (hi 1)) 2 (hi 2)))) la (aI G 3 lo)) ha (aI G 3 hi)) := (fun x hx => by
      have w1 : x ≠ q := fun z => hx (z ▸ fq9)
      have w2 : x ≠ la := fun z => hx (z ▸ nla9)
      have w3 : x ≠ ha := fun z => hx (z ▸ nha9)
      have e1 := eq x (by rw [mU_n w1]; exact hx)
      have e : (mU (mU (mU (mU (mU (mU (mU (mU (mU M112 q (oB 12 [.int dm, .int 0, .ref la, .ref ha, .null, .null])) la (aI G 3 (upd (fun _ => 0) 0 (lo 0)))) ha (aI G 3 (upd (fun _ => 0) 0 (hi 0)))) la (aI G 3 (upd (upd (fun _ => 0) 0 (lo 0)) 1 (lo 1)))) ha (aI G 3 (upd (upd (fun _ => 0) 0 (hi 0)) 1 (hi 1)))) la (aI G 3 (upd (upd (upd (fun _ => 0) 0 (lo 0)) 1 (lo 1)) 2 (lo 2)))) ha (aI G 3 (upd (upd (upd (fun _ => 0) 0 (hi 0)) 1 (hi 1)) 2 (hi 2)))) la (aI G 3 lo)) ha (aI G 3 hi)) x = M x := by simp only [mU, w1, w2, w3, if_false]; exact (e1.2 w1).trans (mU_n w1)
      exact ⟨by rw [e]; exact hx, fun _ => e⟩)
  generalize mU (mU (mU (mU (mU (mU (mU (mU (mU M112 q (oB 12 [.int dm, .int 0, .ref la, .ref ha, .null, .null])) la (aI G 3 (upd (fun _ => 0) 0 (lo 0)))) ha (aI G 3 (upd (fun _ => 0) 0 (hi 0)))) la (aI G 3 (upd (upd (fun _ => 0) 0 (lo 0)) 1 (lo 1)))) ha (aI G 3 (upd (upd (fun _ => 0) 0 (hi 0)) 1 (hi 1)))) la (aI G 3 (upd (upd (upd (fun _ => 0) 0 (lo 0)) 1 (lo 1)) 2 (lo 2)))) ha (aI G 3 (upd (upd (upd (fun _ => 0) 0 (hi 0)) 1 (hi 1)) 2 (hi 2)))) la (aI G 3 lo)) ha (aI G 3 hi) = M2 at *
  refine q_aload_n X dX13_copied_53 1 rfl ?_
  refine q_callV X (c_X12_make (n := n) m_91 m_92 m_93 hn8 hn9) Y_X12_make tw_1179 tw_1180 tw_1181 m_91 rfl (by omega) rfl rfl (Nat.le_of_ble_eq_true rfl) (rc' := 0) (rs' := 0) (by omega) (by omega) dX13_copied_54 (fun v M' hp _ => ?_)
  obtain ⟨rfl, va, za, fva2, fza2, lvz, hq3, hva3, hza3, ev3⟩ := hp
  generalize M' = M3 at *
  have fva : M va = none := ev2.none fva2
  have fza : M za = none := ev2.none fza2
  have m_94 : M3 a = some (oB 12 [.int dm, w1, .ref la0, .ref ha0, .ref va0, .ref za0]) := ev3.keep m_86 (n_1)
  have m_95 : M3 la0 = some (aI G 3 lo) := ev3.keep m_87 (n_3)
  have m_96 : M3 ha0 = some (aI G 3 hi) := ev3.keep m_88 (n_5)
  have m_97 : M3 va0 = some (aJ G n vf) := ev3.keep m_89 (n_7)
  have m_98 : M3 za0 = some (aZ G n zf) := ev3.keep m_90 (n_9)
  have m_99 : M3 la = some (aI G 3 lo) := ev3.keep m_92 (Ne.symm (g_neoa m_91 m_92))
  have m_100 : M3 ha = some (aI G 3 hi) := ev3.keep m_93 (Ne.symm (g_neoa m_91 m_93))
  show qJ G F _ 3 M3 0 0 57 [(2, .int 3), (1, .ref q), (0, .ref a)] []
  have kv : ∀ {x : Nat} {e : va_E}, M3 x = some e → x ≠ va → x ≠ za → ∀ t8 : Nat, (mU (mU M3 va (aJ G n (cpJ vf (fun _ => 0) (t8)))) za (aZ G n (cpZ zf (fun _ => 0) (t8)))) x = some e := fun h a1 a2 _ => (mU_n a2).trans ((mU_n a1).trans h)
  have ka : ∀ t8 : Nat, (mU (mU M3 va (aJ G n (cpJ vf (fun _ => 0) (t8)))) za (aZ G n (cpZ zf (fun _ => 0) (t8)))) a = some (oB 12 [.int dm, w1, .ref la0, .ref ha0, .ref va0, .ref za0]) := kv m_94 (g_nef m_86 fva2) (g_nef m_86 fza2)
  have kva0 : ∀ t8 : Nat, (mU (mU M3 va (aJ G n (cpJ vf (fun _ => 0) (t8)))) za (aZ G n (cpZ zf (fun _ => 0) (t8)))) va0 = some (aJ G n vf) := kv m_97 (g_nef m_89 fva2) (g_nef m_89 fza2)
  have kza0 : ∀ t8 : Nat, (mU (mU M3 va (aJ G n (cpJ vf (fun _ => 0) (t8)))) za (aZ G n (cpZ zf (fun _ => 0) (t8)))) za0 = some (aZ G n zf) := kv m_98 (g_nef m_90 fva2) (g_nef m_90 fza2)
  have kq : ∀ t8 : Nat, (mU (mU M3 va (aJ G n (cpJ vf (fun _ => 0) (t8)))) za (aZ G n (cpZ zf (fun _ => 0) (t8)))) q = some (oB 12 [.int dm, .int 0, .ref la, .ref ha, .ref va, .ref za]) := kv hq3 (g_nef m_91 fva2) (g_nef m_91 fza2)
  have kla : ∀ t8 : Nat, (mU (mU M3 va (aJ G n (cpJ vf (fun _ => 0) (t8)))) za (aZ G n (cpZ zf (fun _ => 0) (t8)))) la = some (aI G 3 lo) := kv m_99 (g_nef m_92 fva2) (g_nef m_92 fza2)
  have kha : ∀ t8 : Nat, (mU (mU M3 va (aJ G n (cpJ vf (fun _ => 0) (t8)))) za (aZ G n (cpZ zf (fun _ => 0) (t8)))) ha = some (aI G 3 hi) := kv m_100 (g_nef m_93 fva2) (g_nef m_93 fza2)
  have kva : ∀ t8 : Nat, (mU (mU M3 va (aJ G n (cpJ vf (fun _ => 0) (t8)))) za (aZ G n (cpZ zf (fun _ => 0) (t8)))) va = some (aJ G n (cpJ vf (fun _ => 0) t8)) := fun _ => (mU_n lvz).trans mU_s
  have kza : ∀ t8 : Nat, (mU (mU M3 va (aJ G n (cpJ vf (fun _ => 0) (t8)))) za (aZ G n (cpZ zf (fun _ => 0) (t8)))) za = some (aZ G n (cpZ zf (fun _ => 0) t8)) := fun _ => mU_s
  have hfin : qJ G F (qQ G F (cyP G M dm lo hi n vf zf)) 3 (mU (mU M3 va (aJ G n (cpJ vf (fun _ => 0) (n)))) za (aZ G n (cpZ zf (fun _ => 0) (n)))) 0 0 98 [(0, .ref a), (1, .ref q)] [] := by
    have evz : mEv (fun _ => False) M (mU (mU M3 va (aJ G n (cpJ vf (fun _ => 0) (n)))) za (aZ G n (cpZ zf (fun _ => 0) (n)))) := fun x hx => by
      have w1 : x ≠ va := fun z => hx (z ▸ fva)
      have w2 : x ≠ za := fun z => hx (z ▸ fza)
      have w3 : x ≠ q := fun z => hx (z ▸ fq9)
      have e1 := ev2 x hx
      have e2 := ev3 x e1.1
      have e : (mU (mU M3 va (aJ G n (cpJ vf (fun _ => 0) (n)))) za (aZ G n (cpZ zf (fun _ => 0) (n)))) x = M3 x := (mU_n w2).trans (mU_n w1)
      exact ⟨by rw [e]; exact e2.1, fun k => e.trans ((e2.2 w3).trans (e1.2 k))⟩
    refine q_aload_n X dX13_copied_98 1 rfl ?_
    exact q_aret X hr (Or.inl ⟨_, rfl⟩) dX13_copied_99 (⟨q, la, ha, va, za, rfl, fq9, nla9, nha9, fva, fza, kq n, kla n, kha n, kva n, kza n, evz⟩)
  have L0 : ∀ (kk : qJ G F (qQ G F (cyP G M dm lo hi n vf zf)) 3 (mU (mU M3 va (aJ G n (cpJ vf (fun _ => 0) (n)))) za (aZ G n (cpZ zf (fun _ => 0) (n)))) 0 0 98 [(0, .ref a), (1, .ref q)] []) (t t9 : Nat), t9 + t = n → qJ G F (qQ G F (cyP G M dm lo hi n vf zf)) 3 (mU (mU M3 va (aJ G n (cpJ vf (fun _ => 0) (t9)))) za (aZ G n (cpZ zf (fun _ => 0) (t9)))) 0 0 59 [(0, .ref a), (1, .ref q), (2, .int (nI (t9)))] [] := by
    intro  kk t
    induction t with
    | zero =>
      intro t9 ht90
      obtain rfl : t9 = n := by omega
      refine q_iload_n X dX13_copied_59 2 rfl ?_
      refine q_aload_n X dX13_copied_60 0 rfl ?_
      refine q_get X (ka (t9)) rfl in_RX12 4 (by decide) tw_1163 rfl rfl dX13_copied_61 ?_
      refine q_alen X 1 (kva0 (t9)) rfl dX13_copied_64 ?_
      refine q_icmp_ge X 98 dX13_copied_65 (by decide) (fun c_101 => ?_) (fun c_101 => absurd (Int32.le_refl _) c_101)
      refine q_sub [0, 1] rfl ?_
      exact kk
    | succ t ih =>
      intro t9 ht90
      have ht9 : t9 < n := by omega
      refine q_iload_n X dX13_copied_59 2 rfl ?_
      refine q_aload_n X dX13_copied_60 0 rfl ?_
      refine q_get X (ka (t9)) rfl in_RX12 4 (by decide) tw_1163 rfl rfl dX13_copied_61 ?_
      refine q_alen X 1 (kva0 (t9)) rfl dX13_copied_64 ?_
      refine q_icmp_ge X 98 dX13_copied_65 (by decide) (fun c_102 => absurd c_102 (nI_ge ht9 (by omega))) (fun c_102 => ?_)
      refine q_aload_n X dX13_copied_68 1 rfl ?_
      refine q_get X (kq (t9)) rfl in_RX12 4 (by decide) tw_1163 rfl rfl dX13_copied_69 ?_
      refine q_iload_n X dX13_copied_72 2 rfl ?_
      refine q_aload_n X dX13_copied_73 0 rfl ?_
      refine q_get X (ka (t9)) rfl in_RX12 4 (by decide) tw_1163 rfl rfl dX13_copied_74 ?_
      refine q_iload_n X dX13_copied_77 2 rfl ?_
      refine q_laldN X t9 (kva0 (t9)) (rfl) (ht9) (by omega) dX13_copied_78 ?_
      refine q_lastN X t9 (kva (t9)) (rfl) (ht9) (by omega) dX13_copied_79 ?_
      have m_103 : (mU (mU (mU M3 va (aJ G n (cpJ vf (fun _ => 0) (t9)))) za (aZ G n (cpZ zf (fun _ => 0) (t9)))) va (aJ G n (vp_updL (cpJ vf (fun _ => 0) (t9)) t9 (vf t9)))) a = some (oB 12 [.int dm, w1, .ref la0, .ref ha0, .ref va0, .ref za0]) := (mU_n (g_neoa (ka (t9)) (kva (t9)))).trans (ka (t9))
      have m_104 : (mU (mU (mU M3 va (aJ G n (cpJ vf (fun _ => 0) (t9)))) za (aZ G n (cpZ zf (fun _ => 0) (t9)))) va (aJ G n (vp_updL (cpJ vf (fun _ => 0) (t9)) t9 (vf t9)))) va0 = some (aJ G n vf) := (mU_n ((g_nef m_89 fva2))).trans (kva0 (t9))
      have m_105 : (mU (mU (mU M3 va (aJ G n (cpJ vf (fun _ => 0) (t9)))) za (aZ G n (cpZ zf (fun _ => 0) (t9)))) va (aJ G n (vp_updL (cpJ vf (fun _ => 0) (t9)) t9 (vf t9)))) za0 = some (aZ G n zf) := (mU_n (g_neaa (kza0 (t9)) (kva (t9)) (fun z => by simp at z))).trans (kza0 (t9))
      have m_106 : (mU (mU (mU M3 va (aJ G n (cpJ vf (fun _ => 0) (t9)))) za (aZ G n (cpZ zf (fun _ => 0) (t9)))) va (aJ G n (vp_updL (cpJ vf (fun _ => 0) (t9)) t9 (vf t9)))) q = some (oB 12 [.int dm, .int 0, .ref la, .ref ha, .ref va, .ref za]) := (mU_n (g_neoa (kq (t9)) (kva (t9)))).trans (kq (t9))
      have m_107 : (mU (mU (mU M3 va (aJ G n (cpJ vf (fun _ => 0) (t9)))) za (aZ G n (cpZ zf (fun _ => 0) (t9)))) va (aJ G n (vp_updL (cpJ vf (fun _ => 0) (t9)) t9 (vf t9)))) va = some (aJ G n (vp_updL (cpJ vf (fun _ => 0) (t9)) t9 (vf t9))) := mU_s
      have m_108 : (mU (mU (mU M3 va (aJ G n (cpJ vf (fun _ => 0) (t9)))) za (aZ G n (cpZ zf (fun _ => 0) (t9)))) va (aJ G n (vp_updL (cpJ vf (fun _ => 0) (t9)) t9 (vf t9)))) za = some (aZ G n (cpZ zf (fun _ => 0) (t9))) := (mU_n (Ne.symm (lvz))).trans (kza (t9))
      refine q_aload_n X dX13_copied_80 1 rfl ?_
      refine q_get X m_106 rfl in_RX12 5 (by decide) tw_1165 rfl rfl dX13_copied_81 ?_
      refine q_iload_n X dX13_copied_84 2 rfl ?_
      refine q_aload_n X dX13_copied_85 0 rfl ?_
      refine q_get X m_103 rfl in_RX12 5 (by decide) tw_1165 rfl rfl dX13_copied_86 ?_
      refine q_iload_n X dX13_copied_89 2 rfl ?_
      refine q_zaldN X t9 m_105 (rfl) (ht9) (by omega) dX13_copied_90 ?_
      refine q_zastN X t9 m_108 (rfl) (ht9) (by omega) (h01 t9 ht9) dX13_copied_91 ?_
      have m_109 : (mU (mU (mU (mU M3 va (aJ G n (cpJ vf (fun _ => 0) (t9)))) za (aZ G n (cpZ zf (fun _ => 0) (t9)))) va (aJ G n (vp_updL (cpJ vf (fun _ => 0) (t9)) t9 (vf t9)))) za (aZ G n (upd (cpZ zf (fun _ => 0) (t9)) t9 (zf t9)))) a = some (oB 12 [.int dm, w1, .ref la0, .ref ha0, .ref va0, .ref za0]) := (mU_n (g_neoa m_103 m_108)).trans m_103
      have m_110 : (mU (mU (mU (mU M3 va (aJ G n (cpJ vf (fun _ => 0) (t9)))) za (aZ G n (cpZ zf (fun _ => 0) (t9)))) va (aJ G n (vp_updL (cpJ vf (fun _ => 0) (t9)) t9 (vf t9)))) za (aZ G n (upd (cpZ zf (fun _ => 0) (t9)) t9 (zf t9)))) va0 = some (aJ G n vf) := (mU_n (g_neaa m_104 m_108 (fun z => by simp at z))).trans m_104
      have m_111 : (mU (mU (mU (mU M3 va (aJ G n (cpJ vf (fun _ => 0) (t9)))) za (aZ G n (cpZ zf (fun _ => 0) (t9)))) va (aJ G n (vp_updL (cpJ vf (fun _ => 0) (t9)) t9 (vf t9)))) za (aZ G n (upd (cpZ zf (fun _ => 0) (t9)) t9 (zf t9)))) za0 = some (aZ G n zf) := (mU_n ((g_nef m_90 fza2))).trans m_105
      have m_112 : (mU (mU (mU (mU M3 va (aJ G n (cpJ vf (fun _ => 0) (t9)))) za (aZ G n (cpZ zf (fun _ => 0) (t9)))) va (aJ G n (vp_updL (cpJ vf (fun _ => 0) (t9)) t9 (vf t9)))) za (aZ G n (upd (cpZ zf (fun _ => 0) (t9)) t9 (zf t9)))) q = some (oB 12 [.int dm, .int 0, .ref la, .ref ha, .ref va, .ref za]) := (mU_n (g_neoa m_106 m_108)).trans m_106
      have m_113 : (mU (mU (mU (mU M3 va (aJ G n (cpJ vf (fun _ => 0) (t9)))) za (aZ G n (cpZ zf (fun _ => 0) (t9)))) va (aJ G n (vp_updL (cpJ vf (fun _ => 0) (t9)) t9 (vf t9)))) za (aZ G n (upd (cpZ zf (fun _ => 0) (t9)) t9 (zf t9)))) va = some (aJ G n (vp_updL (cpJ vf (fun _ => 0) (t9)) t9 (vf t9))) := (mU_n (lvz)).trans m_107
      have m_114 : (mU (mU (mU (mU M3 va (aJ G n (cpJ vf (fun _ => 0) (t9)))) za (aZ G n (cpZ zf (fun _ => 0) (t9)))) va (aJ G n (vp_updL (cpJ vf (fun _ => 0) (t9)) t9 (vf t9)))) za (aZ G n (upd (cpZ zf (fun _ => 0) (t9)) t9 (zf t9)))) za = some (aZ G n (upd (cpZ zf (fun _ => 0) (t9)) t9 (zf t9))) := mU_s
      refine q_iinc (v := (nI (t9 + 1))) (lv' := [(2, .int (nI (t9 + 1))), (0, .ref a), (1, .ref q)]) X dX13_copied_92 2 rfl (nI_1 t9) (by decide) rfl ?_
      refine q_goto X 59 dX13_copied_95 (by decide) ?_
      refine q_sub [1, 2, 0] rfl ?_
      refine q_memE (M' := mU (mU M3 va (aJ G n (cpJ vf (fun _ => 0) (t9 + 1)))) za (aZ G n (cpZ zf (fun _ => 0) (t9 + 1)))) (by rw [← cpJ_s, ← cpZ_s]; exact mU_4 lvz) ?_
      exact ih (t9 + 1) (by omega)
  refine q_iconst (v := 0) X dX13_copied_57 (by decide) ?_
  refine q_istore_n (lv' := [(2, .int 0), (1, .ref q), (0, .ref a)]) X dX13_copied_58 (by decide) rfl ?_
  refine q_sub [2, 1, 0] rfl ?_
  refine q_memE (M' := mU (mU M3 va (aJ G n (cpJ vf (fun _ => 0) (0)))) za (aZ G n (cpZ zf (fun _ => 0) (0)))) (by rw [cpJ_0, cpZ_0, mU_id hva3, mU_id hza3]) ?_
  refine q_room (Nat.zero_le _) (Nat.zero_le _) ?_
  exact L0 hfin n 0 (Nat.zero_add _)

section
variable {G : gV} {M : gMem} {r : Nat} {e : Int32} {σ : sA} {vA nA pA plA dg dla dha dva dza : Nat} {dvf : Nat → Int64} {dzf : Nat → Int32} {vf nf : Nat → Option Nat} {pf : Nat → Int32} {tk : Int32} {su le gr : Int64}
def aPushC (σ : sA) : sA := (σ.1, σ.2.1, aV σ ++ [(aD σ, aOf σ)], σ.2.2.2.1, (aV σ).length, σ.2.2.2.2.2)
theorem rfB.pushV (h : rfB G M r e σ vA nA pA plA dg dla dha dva dza dvf dzf vf nf pf tk su le gr) (h1v : 1 ≤ (aV σ).length) {q : Nat} (hg : isGrd G M (rBad plA pA dva dza) q (veV σ (aD σ, aOf σ))) {M' : gMem} (hM : M' = mU (mU (mU M vA (aG G 41 (gUp vf (aV σ).length q))) pA (aI G 41 (upd pf (aV σ).length (nI (aOf σ))))) r (rfO e vA nA pA plA dg (aPushC σ) tk su le gr)) : isRF G M' r e (aPushC σ) := by
  subst hM
  obtain ⟨h0, h1⟩ := h
  have hb := h1.nb
  obtain ⟨c1, c2, c3, ⟨xx, c4⟩, c5, c6, c7, c8, c9, c10⟩ := h1
  generalize hM' : mU (mU (mU M vA (aG G 41 (gUp vf (aV σ).length q))) pA (aI G 41 (upd pf (aV σ).length (nI (aOf σ))))) r (rfO e vA nA pA plA dg (aPushC σ) tk su le gr) = M'
  have rv : vA ≠ r := fun z => by rw [z, h0] at c1; cases c1
  have rp : pA ≠ r := fun z => by rw [z, h0] at c3; cases c3
  have vp : vA ≠ pA := g_neaa c1 c3 (fun z => by simp at z)
  have kp : ∀ x y, M x = some y → (∀ fs, y ≠ oB 13 fs) → x ≠ vA → x ≠ pA → M' x = some y := fun x y hx hy hn hn2 => by
    have xr : x ≠ r := fun z => by rw [z, h0] at hx; cases hx; exact hy _ rfl
    rw [← hM', mU_n xr, mU_n hn2, mU_n hn]; exact hx
  have nn : ∀ x y, M x = some y → (∀ n f, y ≠ aG G n f) → x ≠ vA := fun x y hx hy z => by rw [z, c1] at hx; cases hx; exact hy _ _ rfl
  have np : ∀ x y, M x = some y → (∀ n f, y ≠ aI G n f) → x ≠ pA := fun x y hx hy z => by rw [z, c3] at hx; cases hx; exact hy _ _ rfl
  have gm : ∀ {a w}, isGrd G M (rBad plA pA dva dza) a w → isGrd G M' (rBad plA pA dva dza) a w := fun hg => by
    obtain ⟨la, ha, va, za, f1, f2, ⟨g0, g1, g2, g3, g4, g5⟩, b1, b2, b3, b4⟩ := hg
    have bp : ∀ {x}, ¬ rBad plA pA dva dza x → x ≠ pA := fun hx z => hx (Or.inr (Or.inl z))
    exact ⟨la, ha, va, za, f1, f2, ⟨kp _ _ g0 (fun _ z => by cases z) (nn _ _ g0 (fun _ _ z => by cases z)) (np _ _ g0 (fun _ _ z => by cases z)), kp _ _ g1 (fun _ z => by cases z) (nn _ _ g1 (fun _ _ z => by simp at z)) (bp b1), kp _ _ g2 (fun _ z => by cases z) (nn _ _ g2 (fun _ _ z => by simp at z)) (bp b2), kp _ _ g3 (fun _ z => by cases z) (nn _ _ g3 (fun _ _ z => by simp at z)) (bp b3), kp _ _ g4 (fun _ z => by cases z) (nn _ _ g4 (fun _ _ z => by simp at z)) (bp b4), g5⟩, b1, b2, b3, b4⟩
  obtain ⟨d0, d1, d2, d3, d4, d5⟩ := c5
  refine ⟨vA, nA, pA, plA, dg, dla, dha, dva, dza, dvf, dzf, gUp vf (aV σ).length q, nf, upd pf (aV σ).length (nI (aOf σ)), tk, su, le, gr, by rw [← hM']; exact mU_s, by rw [← hM', mU_n rv, mU_n vp]; exact mU_s, kp _ _ c2 (fun _ z => by cases z) (Ne.symm c10) (g_neaa c2 c3 (fun z => by simp at z)), by rw [← hM', mU_n rp]; exact mU_s, ⟨xx, kp _ _ c4 (fun _ z => by cases z) (nn _ _ c4 (fun _ _ z => by simp at z)) (Ne.symm c9)⟩, ⟨kp _ _ d0 (fun _ z => by cases z) (nn _ _ d0 (fun _ _ z => by cases z)) (np _ _ d0 (fun _ _ z => by cases z)), kp _ _ d1 (fun _ z => by cases z) (nn _ _ d1 (fun _ _ z => by simp at z)) c6.2.1, kp _ _ d2 (fun _ z => by cases z) (nn _ _ d2 (fun _ _ z => by simp at z)) c6.2.2.2.1, kp _ _ d3 (fun _ z => by cases z) (nn _ _ d3 (fun _ _ z => by simp at z)) (np _ _ d3 (fun _ _ z => by simp at z)), kp _ _ d4 (fun _ z => by cases z) (nn _ _ d4 (fun _ _ z => by simp at z)) c6.2.2.2.2.2, d5⟩, c6, fun i c hc => ?_, fun i u hu => ?_, c9, c10⟩
  · have hc2 : (aV σ ++ [(aD σ, aOf σ)])[i]? = some c := hc
    rcases lst_end hc2 with h3 | ⟨rfl, rfl⟩
    · obtain ⟨a, q1, q2, q3⟩ := c7 i c h3
      have hi := (List.getElem?_eq_some_iff.mp h3).1
      exact ⟨a, (gUp_n (by omega)).trans q1, gm q2, (if_neg (by omega)).trans q3⟩
    · exact ⟨q, gUp_s, gm hg, by unfold upd aPar; rw [if_pos rfl, if_neg (by omega)]⟩
  · obtain ⟨a, q1, q2⟩ := c8 i u hu
    exact ⟨a, q1, gm q2⟩
end

set_option maxRecDepth 20000 in
theorem r_commit {l : Launch} {G : gV} {M : gMem} {r : Nat} {e : Int32} {σ : sA} (hW : gvW σ) (hR : isRF G M r e σ) : qC l G yX13_commit cX13_commit 1 (some .int) 6 5 8204 [.ref r] M (rfP G r cOne (some (.int 0)) (sp_commit σ)) := by
  refine qC_of (by decide +kernel) (Nat.le_of_ble_eq_true rfl) (fun F hF X hr hn => ?_)
  subst hF
  have X : qX G F cX13_commit 1 RX13 6 := X
  obtain ⟨vA, nA, pA, plA, dg, dla, dha, dva, dza, dvf, dzf, vf, nf, pf, tk, su, le, gr, hB⟩ := hR
  have hl150 := hW.1.2.2.2.2.1
  have hz := hW.1.sz
  have hcI := cI_ne X
  have hl41 := hW.1.2.2.2.1
  show qJ G F _ 1 M 5 8204 0 [(0, .ref r)] []
  refine q_aload_n X dX13_commit_0 0 rfl ?_
  refine q_aload_n X dX13_commit_1 0 rfl ?_
  refine q_get X hB.1 rfl in_RX13 6 (by decide) tw_1200 rfl rfl dX13_commit_2 ?_
  refine q_bipush (v := 41) X dX13_commit_5 (by decide) ?_
  refine q_icmp_ne X 14 dX13_commit_7 (by decide) (fun c7 => ?_) (fun c7 => ?_)
  · refine q_iconst (v := 0) X dX13_commit_14 (by decide) ?_
    refine q_iconst (v := 1) X dX13_commit_15 (by decide) ?_
    refine q_callV X (c_fails0 (why := 1) hB.1) Y_X13_fails tw_1246 tw_1248 sel_23 hB.1 rfl (by omega) rfl rfl (Nat.le_of_ble_eq_true rfl) (rc' := 5) (rs' := 8204) (by omega) (by omega) dX13_commit_16 (fun v M' hp _ => ?_)
    obtain ⟨rfl, eM⟩ := hp
    have hB101 : rfB G M' r 0 σ vA nA pA plA dg dla dha dva dza dvf dzf vf nf pf tk su le gr := by rw [eM]; exact hB.ro
    clear eM
    generalize M' = M101 at *
    show qJ G F _ 1 M101 5 8204 19 [(0, .ref r)] [.int 0]
    obtain ⟨z_2r, z_21, z_22, z_23, ⟨z_2x, z_24⟩, z_25, z_26, z_27, z_28, z_29, z_210⟩ := id hB101
    refine q_if_eq X 24 dX13_commit_19 (by decide) (fun c_3 => ?_) (fun c_3 => absurd (by decide) c_3)
    have hlt : (aV σ).length < 41 := by have h9 : ¬ (aV σ).length = 41 := fun z => c7 ((nI_eq41 (by omega)).mpr z); omega
    have hv1 := hW.1.2.2.1
    have hl9 : (aV (aPushC σ)).length = (aV σ).length + 1 := by show (aV σ ++ [(aD σ, aOf σ)]).length = _; simp
    have k5 : M101 dg = some (oB 12 [.int (nI (aM σ)), .int (nI 0), .ref dla, .ref dha, .ref dva, .ref dza]) := hB101.2.2.2.2.2.1.1
    have k6 : M101 dla = some (aI G 3 (aLo σ)) := hB101.2.2.2.2.2.1.2.1
    have k7 : M101 dha = some (aI G 3 (aHi σ)) := hB101.2.2.2.2.2.1.2.2.1
    have k8 : M101 dva = some (aJ G (aSz σ) dvf) := hB101.2.2.2.2.2.1.2.2.2.1
    have k9 : M101 dza = some (aZ G (aSz σ) dzf) := hB101.2.2.2.2.2.1.2.2.2.2.1
    refine q_aload_n X dX13_commit_24 0 rfl ?_
    refine q_get X z_2r rfl in_RX13 1 (by decide) tw_1195 rfl rfl dX13_commit_25 ?_
    refine q_aload_n X dX13_commit_28 0 rfl ?_
    refine q_get X z_2r rfl in_RX13 6 (by decide) tw_1200 rfl rfl dX13_commit_29 ?_
    refine q_aload_n X dX13_commit_32 0 rfl ?_
    refine q_get X z_2r rfl in_RX13 5 (by decide) tw_1199 rfl rfl dX13_commit_33 ?_
    refine q_callS X (c_copied k5 k6 k7 k8 k9 hW.1.1.size hz (fun i hi => by rw [(hB101.2.2.2.2.2.1.2.2.2.2.2 i hi).1]; exact bI_01 _)) Y_X13_copied tw_1191 tw_1192 (by omega) rfl rfl (Nat.le_of_ble_eq_true rfl) (rc' := 0) (rs' := 0) (by omega) (by omega) dX13_commit_36 (fun v M' hp _ => ?_)
    obtain ⟨q, la, ha, va, za, rfl, fq, fla, fha, fva, fza, hq7, hla7, hha7, hva7, hza7, ev7⟩ := hp
    generalize M' = M7 at *
    have hB7 := hB101.ev ev7
    have m_4 : M7 r = some (oB 13 [.int 0, .ref vA, .ref nA, .ref pA, .ref plA, .ref dg, .int (nI (aV σ).length), .int (nI (aN σ).length), .int (nI (aOf σ)), .int (nI (aBg σ)), .int tk, .long su, .long le, .long gr]) := ev7.keep z_2r id
    have m_5 : M7 vA = some (aG G 41 vf) := ev7.keep z_21 id
    have m_6 : M7 pA = some (aI G 41 pf) := ev7.keep z_23 id
    have nb : ∀ {x : Nat}, M101 x = none → ¬ rBad plA pA dva dza x := fun h z => by
      rcases z with z | z | z | z
      · obtain ⟨pl0, hpl0⟩ := hB101.2.2.2.2.1; rw [z, hpl0] at h; cases h
      · rw [z, hB101.2.2.2.1] at h; cases h
      · rw [z, k8] at h; cases h
      · rw [z, k9] at h; cases h
    have hg : isGrd G M7 (rBad plA pA dva dza) q (veV σ (aD σ, aOf σ)) := ⟨la, ha, va, za, _, _, ⟨hq7, hla7, hha7, hva7, hza7, gCt_cp hB101.2.2.2.2.2.1.2.2.2.2.2⟩, nb fla, nb fha, nb fva, nb fza⟩
    show qJ G F _ 1 M7 0 0 39 [(0, .ref r)] [.ref q, .int (nI (aV σ).length), .ref vA]
    refine q_gast X ((aV σ).length) m_5 (rfl) (hlt) (by decide) hq7 dX13_commit_39 ?_
    have m_7 : (mU M7 vA (aG G 41 (gUp vf ((aV σ).length) q))) r = some (oB 13 [.int 0, .ref vA, .ref nA, .ref pA, .ref plA, .ref dg, .int (nI (aV σ).length), .int (nI (aN σ).length), .int (nI (aOf σ)), .int (nI (aBg σ)), .int tk, .long su, .long le, .long gr]) := (mU_n (g_neoa m_4 m_5)).trans m_4
    have m_8 : (mU M7 vA (aG G 41 (gUp vf ((aV σ).length) q))) vA = some (aG G 41 (gUp vf ((aV σ).length) q)) := mU_s
    have m_9 : (mU M7 vA (aG G 41 (gUp vf ((aV σ).length) q))) pA = some (aI G 41 pf) := (mU_n (g_neaa m_6 m_5 (fun z => by simp at z))).trans m_6
    have m_10 : (mU M7 vA (aG G 41 (gUp vf ((aV σ).length) q))) q = some (oB 12 [.int (nI (aM σ)), .int 0, .ref la, .ref ha, .ref va, .ref za]) := (mU_n (g_neoa hq7 m_5)).trans hq7
    refine q_aload_n X dX13_commit_40 0 rfl ?_
    refine q_get X m_7 rfl in_RX13 3 (by decide) tw_1197 rfl rfl dX13_commit_41 ?_
    refine q_aload_n X dX13_commit_44 0 rfl ?_
    refine q_get X m_7 rfl in_RX13 6 (by decide) tw_1200 rfl rfl dX13_commit_45 ?_
    refine q_aload_n X dX13_commit_48 0 rfl ?_
    refine q_get X m_7 rfl in_RX13 8 (by decide) tw_1202 rfl rfl dX13_commit_49 ?_
    refine q_iastN X ((aV σ).length) m_9 (rfl) (hlt) (by decide) dX13_commit_52 ?_
    have m_11 : (mU (mU M7 vA (aG G 41 (gUp vf ((aV σ).length) q))) pA (aI G 41 (upd pf ((aV σ).length) (nI (aOf σ))))) r = some (oB 13 [.int 0, .ref vA, .ref nA, .ref pA, .ref plA, .ref dg, .int (nI (aV σ).length), .int (nI (aN σ).length), .int (nI (aOf σ)), .int (nI (aBg σ)), .int tk, .long su, .long le, .long gr]) := (mU_n (g_neoa m_7 m_9)).trans m_7
    have m_12 : (mU (mU M7 vA (aG G 41 (gUp vf ((aV σ).length) q))) pA (aI G 41 (upd pf ((aV σ).length) (nI (aOf σ))))) vA = some (aG G 41 (gUp vf ((aV σ).length) q)) := (mU_n (g_neaa m_8 m_9 (fun z => by simp at z))).trans m_8
    have m_13 : (mU (mU M7 vA (aG G 41 (gUp vf ((aV σ).length) q))) pA (aI G 41 (upd pf ((aV σ).length) (nI (aOf σ))))) pA = some (aI G 41 (upd pf ((aV σ).length) (nI (aOf σ)))) := mU_s
    have m_14 : (mU (mU M7 vA (aG G 41 (gUp vf ((aV σ).length) q))) pA (aI G 41 (upd pf ((aV σ).length) (nI (aOf σ))))) q = some (oB 12 [.int (nI (aM σ)), .int 0, .ref la, .ref ha, .ref va, .ref za]) := (mU_n (g_neoa m_10 m_9)).trans m_10
    refine q_aload_n X dX13_commit_53 0 rfl ?_
    refine q_aload_n X dX13_commit_54 0 rfl ?_
    refine q_get X m_11 rfl in_RX13 6 (by decide) tw_1200 rfl rfl dX13_commit_55 ?_
    refine q_put X m_11 rfl in_RX13 tyX13 tyX13_ok nmX13 8 (by decide) tw_1202 rfl rfl rfl rfl rfl (Nat.le_of_ble_eq_true rfl) (fs1 := [.int 0, .ref vA, .ref nA, .ref pA, .ref plA, .ref dg, .int (nI (aV σ).length), .int (nI (aN σ).length), .int (nI (aV σ).length), .int (nI (aBg σ)), .int tk, .long su, .long le, .long gr]) rfl dX13_commit_58 ?_
    have m_15 : (mU (mU (mU M7 vA (aG G 41 (gUp vf ((aV σ).length) q))) pA (aI G 41 (upd pf ((aV σ).length) (nI (aOf σ))))) r (oB 13 [.int 0, .ref vA, .ref nA, .ref pA, .ref plA, .ref dg, .int (nI (aV σ).length), .int (nI (aN σ).length), .int (nI (aV σ).length), .int (nI (aBg σ)), .int tk, .long su, .long le, .long gr])) r = some (oB 13 [.int 0, .ref vA, .ref nA, .ref pA, .ref plA, .ref dg, .int (nI (aV σ).length), .int (nI (aN σ).length), .int (nI (aV σ).length), .int (nI (aBg σ)), .int tk, .long su, .long le, .long gr]) := mU_s
    have m_16 : (mU (mU (mU M7 vA (aG G 41 (gUp vf ((aV σ).length) q))) pA (aI G 41 (upd pf ((aV σ).length) (nI (aOf σ))))) r (oB 13 [.int 0, .ref vA, .ref nA, .ref pA, .ref plA, .ref dg, .int (nI (aV σ).length), .int (nI (aN σ).length), .int (nI (aV σ).length), .int (nI (aBg σ)), .int tk, .long su, .long le, .long gr])) vA = some (aG G 41 (gUp vf ((aV σ).length) q)) := (mU_n (Ne.symm (g_neoa m_11 m_12))).trans m_12
    have m_17 : (mU (mU (mU M7 vA (aG G 41 (gUp vf ((aV σ).length) q))) pA (aI G 41 (upd pf ((aV σ).length) (nI (aOf σ))))) r (oB 13 [.int 0, .ref vA, .ref nA, .ref pA, .ref plA, .ref dg, .int (nI (aV σ).length), .int (nI (aN σ).length), .int (nI (aV σ).length), .int (nI (aBg σ)), .int tk, .long su, .long le, .long gr])) pA = some (aI G 41 (upd pf ((aV σ).length) (nI (aOf σ)))) := (mU_n (Ne.symm (g_neoa m_11 m_13))).trans m_13
    have m_18 : (mU (mU (mU M7 vA (aG G 41 (gUp vf ((aV σ).length) q))) pA (aI G 41 (upd pf ((aV σ).length) (nI (aOf σ))))) r (oB 13 [.int 0, .ref vA, .ref nA, .ref pA, .ref plA, .ref dg, .int (nI (aV σ).length), .int (nI (aN σ).length), .int (nI (aV σ).length), .int (nI (aBg σ)), .int tk, .long su, .long le, .long gr])) q = some (oB 12 [.int (nI (aM σ)), .int 0, .ref la, .ref ha, .ref va, .ref za]) := (mU_n (g_neoo m_14 m_11 (by decide))).trans m_14
    refine q_aload_n X dX13_commit_61 0 rfl ?_
    refine q_dup X dX13_commit_62 rfl ?_
    refine q_get X m_15 rfl in_RX13 6 (by decide) tw_1200 rfl rfl dX13_commit_63 ?_
    refine q_dup_x1 X dX13_commit_66 rfl rfl ?_
    refine q_iconst (v := 1) X dX13_commit_67 (by decide) ?_
    refine q_iadd X dX13_commit_68 ?_
    refine q_put X m_15 rfl in_RX13 tyX13 tyX13_ok nmX13 6 (by decide) tw_1200 rfl rfl rfl rfl rfl (Nat.le_of_ble_eq_true rfl) (fs1 := [.int 0, .ref vA, .ref nA, .ref pA, .ref plA, .ref dg, .int ((nI (aV σ).length) + 1), .int (nI (aN σ).length), .int (nI (aV σ).length), .int (nI (aBg σ)), .int tk, .long su, .long le, .long gr]) rfl dX13_commit_69 ?_
    have m_19 : (mU (mU (mU (mU M7 vA (aG G 41 (gUp vf ((aV σ).length) q))) pA (aI G 41 (upd pf ((aV σ).length) (nI (aOf σ))))) r (oB 13 [.int 0, .ref vA, .ref nA, .ref pA, .ref plA, .ref dg, .int (nI (aV σ).length), .int (nI (aN σ).length), .int (nI (aV σ).length), .int (nI (aBg σ)), .int tk, .long su, .long le, .long gr])) r (oB 13 [.int 0, .ref vA, .ref nA, .ref pA, .ref plA, .ref dg, .int ((nI (aV σ).length) + 1), .int (nI (aN σ).length), .int (nI (aV σ).length), .int (nI (aBg σ)), .int tk, .long su, .long le, .long gr])) r = some (oB 13 [.int 0, .ref vA, .ref nA, .ref pA, .ref plA, .ref dg, .int ((nI (aV σ).length) + 1), .int (nI (aN σ).length), .int (nI (aV σ).length), .int (nI (aBg σ)), .int tk, .long su, .long le, .long gr]) := mU_s
    have m_20 : (mU (mU (mU (mU M7 vA (aG G 41 (gUp vf ((aV σ).length) q))) pA (aI G 41 (upd pf ((aV σ).length) (nI (aOf σ))))) r (oB 13 [.int 0, .ref vA, .ref nA, .ref pA, .ref plA, .ref dg, .int (nI (aV σ).length), .int (nI (aN σ).length), .int (nI (aV σ).length), .int (nI (aBg σ)), .int tk, .long su, .long le, .long gr])) r (oB 13 [.int 0, .ref vA, .ref nA, .ref pA, .ref plA, .ref dg, .int ((nI (aV σ).length) + 1), .int (nI (aN σ).length), .int (nI (aV σ).length), .int (nI (aBg σ)), .int tk, .long su, .long le, .long gr])) vA = some (aG G 41 (gUp vf ((aV σ).length) q)) := (mU_n (Ne.symm (g_neoa m_15 m_16))).trans m_16
    have m_21 : (mU (mU (mU (mU M7 vA (aG G 41 (gUp vf ((aV σ).length) q))) pA (aI G 41 (upd pf ((aV σ).length) (nI (aOf σ))))) r (oB 13 [.int 0, .ref vA, .ref nA, .ref pA, .ref plA, .ref dg, .int (nI (aV σ).length), .int (nI (aN σ).length), .int (nI (aV σ).length), .int (nI (aBg σ)), .int tk, .long su, .long le, .long gr])) r (oB 13 [.int 0, .ref vA, .ref nA, .ref pA, .ref plA, .ref dg, .int ((nI (aV σ).length) + 1), .int (nI (aN σ).length), .int (nI (aV σ).length), .int (nI (aBg σ)), .int tk, .long su, .long le, .long gr])) pA = some (aI G 41 (upd pf ((aV σ).length) (nI (aOf σ)))) := (mU_n (Ne.symm (g_neoa m_15 m_17))).trans m_17
    have m_22 : (mU (mU (mU (mU M7 vA (aG G 41 (gUp vf ((aV σ).length) q))) pA (aI G 41 (upd pf ((aV σ).length) (nI (aOf σ))))) r (oB 13 [.int 0, .ref vA, .ref nA, .ref pA, .ref plA, .ref dg, .int (nI (aV σ).length), .int (nI (aN σ).length), .int (nI (aV σ).length), .int (nI (aBg σ)), .int tk, .long su, .long le, .long gr])) r (oB 13 [.int 0, .ref vA, .ref nA, .ref pA, .ref plA, .ref dg, .int ((nI (aV σ).length) + 1), .int (nI (aN σ).length), .int (nI (aV σ).length), .int (nI (aBg σ)), .int tk, .long su, .long le, .long gr])) q = some (oB 12 [.int (nI (aM σ)), .int 0, .ref la, .ref ha, .ref va, .ref za]) := (mU_n (g_neoo m_18 m_15 (by decide))).trans m_18
    exact q_iret X hr dX13_commit_72 (rfP_K (by unfold sp_commit; rw [if_pos hlt]; rfl) (hB7.pushV hv1 hg (by rw [mU_mU, nI_1, ← hl9]; rfl)))
  · refine q_iconst (v := 1) X dX13_commit_10 (by decide) ?_
    refine q_goto X 15 dX13_commit_11 (by decide) ?_
    refine q_iconst (v := 1) X dX13_commit_15 (by decide) ?_
    refine q_callV X (c_fails1 (why := 1) hB.1) Y_X13_fails tw_1246 tw_1248 sel_23 hB.1 rfl (by omega) rfl rfl (Nat.le_of_ble_eq_true rfl) (rc' := 5) (rs' := 8204) (by omega) (by omega) dX13_commit_16 (fun v M' hp _ => ?_)
    obtain ⟨rfl, eM⟩ := hp
    have hB123 : rfB G M' r 1 σ vA nA pA plA dg dla dha dva dza dvf dzf vf nf pf tk su le gr := by rw [eM]; exact hB.ro
    clear eM
    generalize M' = M123 at *
    show qJ G F _ 1 M123 5 8204 19 [(0, .ref r)] [.int 1]
    obtain ⟨z_24r, z_241, z_242, z_243, ⟨z_24x, z_244⟩, z_245, z_246, z_247, z_248, z_249, z_2410⟩ := id hB123
    refine q_if_eq X 24 dX13_commit_19 (by decide) (fun c_25 => absurd c_25 (by decide)) (fun c_25 => ?_)
    refine q_iconst (v := 0) X dX13_commit_22 (by decide) ?_
    exact q_iret X hr dX13_commit_23 (rfP_T (by unfold sp_commit; rw [if_neg (by have := (nI_eq41 (by omega)).mp c7; omega)]) cOne_1 ⟨vA, nA, pA, plA, dg, dla, dha, dva, dza, dvf, dzf, vf, nf, pf, tk, su, le, gr, hB123⟩)
