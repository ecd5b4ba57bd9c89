/-! product: GridVault$Product -/
theorem proR_s {N : gN} {x y : Nat} {p q sp sq : Int32} {k : Nat} {v w : Int64} (h1 : nAt N x (p + nI k * sp) = some v) (h2 : nAt N y (q + nI k * sq) = some w) : proR N x y p q sp sq (k + 1) = (true, (proR N x y p q sp sq k).2 + v * w) := by simp only [proR, h1, h2]
theorem proR_n1 {N : gN} {x y : Nat} {p q sp sq : Int32} {k : Nat} (h1 : nAt N x (p + nI k * sp) = none) : proR N x y p q sp sq (k + 1) = proR N x y p q sp sq k := by simp only [proR, h1]
theorem proR_n2 {N : gN} {x y : Nat} {p q sp sq : Int32} {k : Nat} (h2 : nAt N y (q + nI k * sq) = none) : proR N x y p q sp sq (k + 1) = proR N x y p q sp sq k := by simp only [proR, h2]; split <;> first | rfl | (rename_i e; cases e)
theorem nI_st (p s : Int32) (k : Nat) : p + nI k * s + s = p + nI (k + 1) * s := by rw [← nI_1, Int32.add_mul, Int32.one_mul, Int32.add_assoc]

set_option maxRecDepth 20000 in
theorem c_X6_work {l : Launch} {G : gV} {M : gMem} {N : gN} {P : Nat → Nat → Prop} {a j : Nat} (H : HoldsC l G N (ndp N a)) (h : nInv G M N (pA P a j)) (ha : nS N a) (hj : j < nsz N a) (hask : nAsk G M N a j) (hP0 : ∀ b i, P b i → ndp N a < ndp N b) {s t K : Nat} {fr to p0 q0 sp sq : Int32} (e0 : nci N a = 6) (ex : nex N a = [.ref s, .ref t]) (hs1 : nS N s) (ht1 : nS N t) (hd1 : ndp N s < ndp N a) (hd2 : ndp N t < ndp N a) (hK : K ≤ 4096) (efr : fr = mxI (nlo N s 1) (nlo N t 0)) (eto : to = mnI (nhi N s 1) (nhi N t 0)) (ep0 : p0 = nIdx N s (sPlace (nlo N a) (nhi N a) (nI j) 0) fr 0) (eq0 : q0 = nIdx N t fr (sPlace (nlo N a) (nhi N a) (nI j) 1) 0) (esp : sp = s3 (sp3 (nlo N s) (nhi N s)) 1 1) (esq : sq = s3 (sp3 (nlo N t) (nhi N t)) 1 0) (hin : ∀ k : Nat, k < K → fr + nI k ≤ to) (hout : ¬ fr + nI K ≤ to) (hden : nden N a j = if (proR N s t p0 q0 sp sq K).1 = true then some (proR N s t p0 q0 sp sq K).2 else none) : qC l G yX6_work cX6_work 12 none (9 + 4 * ndp N a) 0 0 [.ref a, .int (nI j)] M (wP G N a M P) := by
  refine qC_of (by decide +kernel) (Nat.le_of_ble_eq_true rfl) (fun F hF X hr hn => ?_)
  subst hF
  have X : qX G F cX6_work 12 RX6 (9 + 4 * ndp N a) := X
  have hPa : ∀ i, ¬ P a i := fun i p => absurd (hP0 a i p) (Nat.lt_irrefl _)
  have h9 : nci N a ≠ 9 := by rw [e0]; decide
  have hsa := (h.1 a ha).1
  have z2 : nsz N a ≤ 4096 := hsa.2.2.2.2.1
  have hss := (h.1 s hs1).1
  have hst := (h.1 t ht1).1
  have hA : M a = some (oB 6 [.ref (nsh N a), .int (nI (ndp N a)), .ref (nca N a), .ref (naa N a), .ref s, .ref t]) := by rw [hsa.2.1, e0, ex]
  have z1 : nsz N s ≤ 4096 := hss.2.2.2.2.1
  have z3 : nsz N t ≤ 4096 := hst.2.2.2.2.1
  obtain ⟨qb, qc, qd, qs, qq, -⟩ := id hss.2.2.1
  obtain ⟨rb, rc, rd, rs, rr, -⟩ := id hst.2.2.1
  obtain ⟨ub, uc, ud, us, u1, -⟩ := id hsa.2.2.1
  have loop : ∀ (u k : Nat) (M1 : gMem) (p q : Int32), k + u = K → p = p0 + nI k * sp → q = q0 + nI k * sq → nInv G M1 N (pA P a j) → nFr G N (ndp N a) M M1 → qJ G F (qQ G F (wP G N a M P)) 12 M1 0 0 116 [(0, .ref a), (1, .int (nI j)), (5, .int to), (6, .int p), (7, .int q), (8, .int (bI (proR N s t p0 q0 sp sq k).1)), (9, .long ((proR N s t p0 q0 sp sq k).2)), (11, .int (fr + nI k))] [] := by
    intro u
    induction u with
    | zero =>
      intro k M1 p q hk ep eq h1 hf1
      obtain rfl : K = k := by omega
      have hss1 := (h1.1 s hs1).1
      have hst1 := (h1.1 t ht1).1
      have hsa1 := (h1.1 a ha).1
      have hA1 : M1 a = some (oB 6 [.ref (nsh N a), .int (nI (ndp N a)), .ref (nca N a), .ref (naa N a), .ref s, .ref t]) := by rw [hsa1.2.1, e0, ex]
      obtain ⟨qb1, qc1, qd1, qs1, qq1, -⟩ := id hss1.2.2.1
      obtain ⟨rb1, rc1, rd1, rs1, rr1, -⟩ := id hst1.2.2.1
      refine q_iload X dX6_work_116 7 rfl ?_
      refine q_iload X dX6_work_118 2 rfl ?_
      refine q_icmp_gt X 212 dX6_work_120 (by decide) (fun c_1 => ?_) (fun c_1 => absurd (Int32.not_lt.mp c_1) hout)
      refine q_iload X dX6_work_212 5 rfl ?_
      refine q_if_eq X 224 dX6_work_214 (by decide) (fun k1 => ?_) (fun k1 => ?_)
      · exact q_vret X hr dX6_work_224 (⟨rfl, nInv_done h1 ha h9 (by rw [hden, bI_fl k1]; rfl) hPa, hf1⟩)
      · refine q_aload_n X dX6_work_217 0 rfl ?_
        refine q_iload_n X dX6_work_218 1 rfl ?_
        refine q_lload X dX6_work_219 6 rfl ?_
        obtain ⟨-, -, cf9, ak9, hc9, -⟩ := h1.1 a ha
        refine q_callU X (x := ⟨"GridVault$Product", "settle", "(IJ)V"⟩) (owner := "GridVault$Node") (ci := 6) (c_X5_settle (v := (proR N s t p0 q0 sp sq K).2) hsa1 hc9 hj) Y_X5_settle tw_1086 tw_1087 (by decide) rfl (g_decl X tn_988) tw_990 ⟨_, rfl, tw_1088⟩ hA1 (by omega) rfl rfl (Nat.le_of_ble_eq_true rfl) (rc' := 0) (rs' := 0) (Nat.le_refl _) (Nat.le_refl _) dX6_work_221 (fun v M' hp _ => ?_)
        obtain ⟨rfl, hC9, hm9⟩ := hp
        have hvv : nden N a j = some (proR N s t p0 q0 sp sq K).2 := by rw [hden, if_pos (bI_ne k1)]
        have G9 := nInv_set h1 ha h9 hj hvv hPa hc9 hC9 hm9 (hf1.2 a ha j hask)
        show qJ G F _ 12 M' 0 0 224 [(0, .ref a), (1, .int (nI j)), (5, .int to), (6, .int p), (7, .int q), (8, .int (bI (proR N s t p0 q0 sp sq K).1)), (9, .long ((proR N s t p0 q0 sp sq K).2)), (11, .int (fr + nI K))] []
        exact q_vret X hr dX6_work_224 (⟨rfl, G9.1, hf1.trans G9.2⟩)
    | succ u ih =>
      intro k M1 p q hk ep eq h1 hf1
      have hkK : k < K := by omega
      have hss1 := (h1.1 s hs1).1
      have hst1 := (h1.1 t ht1).1
      have hsa1 := (h1.1 a ha).1
      have hA1 : M1 a = some (oB 6 [.ref (nsh N a), .int (nI (ndp N a)), .ref (nca N a), .ref (naa N a), .ref s, .ref t]) := by rw [hsa1.2.1, e0, ex]
      obtain ⟨qb1, qc1, qd1, qs1, qq1, -⟩ := id hss1.2.2.1
      obtain ⟨rb1, rc1, rd1, rs1, rr1, -⟩ := id hst1.2.2.1
      refine q_iload X dX6_work_116 7 rfl ?_
      refine q_iload X dX6_work_118 2 rfl ?_
      refine q_icmp_gt X 212 dX6_work_120 (by decide) (fun c_2 => absurd (hin k hkK) (Int32.not_le.mpr c_2)) (fun c_2 => ?_)
      refine q_aload_n X dX6_work_123 0 rfl ?_
      refine q_get X hA1 rfl in_RX6 4 (by decide) tw_925 rfl rfl dX6_work_124 ?_
      refine q_iload X dX6_work_127 3 rfl ?_
      refine q_callU X (x := ⟨"GridVault$Node", "holds", "(I)Z"⟩) (owner := "GridVault$Node") (ci := nci N s) (H s M1 _ p hs1 hd1 h1 (pA_dp hP0 hd1)) Y_X5_holds tw_1083 tw_955 (by decide) rfl (g_declC X tw_954 tw_962) tw_954 (se_X5_holds hss1.1) hss1.2.1 (by omega) rfl rfl (Nat.le_of_ble_eq_true rfl) (rc' := 0) (rs' := 0) (Nat.le_refl _) (Nat.le_refl _) dX6_work_129 (fun v M' hp _ => ?_)
      obtain ⟨rfl, h2, hf2, hq2⟩ := hp
      have hf2 := hf2.mono (Nat.le_of_lt hd1)
      generalize M' = M2 at *
      have hA2 : M2 a = some (oB 6 [.ref (nsh N a), .int (nI (ndp N a)), .ref (nca N a), .ref (naa N a), .ref s, .ref t]) := (hf2.1 a (nAdr_obj h1 hA1 (by decide))).trans hA1
      have hss2 := (h2.1 s hs1).1
      have hst2 := (h2.1 t ht1).1
      have hsa2 := (h2.1 a ha).1
      obtain ⟨qb2, qc2, qd2, qs2, qq2, -⟩ := id hss2.2.2.1
      obtain ⟨rb2, rc2, rd2, rs2, rr2, -⟩ := id hst2.2.2.1
      show qJ G F _ 12 M2 0 0 132 [(0, .ref a), (1, .int (nI j)), (5, .int to), (6, .int p), (7, .int q), (8, .int (bI (proR N s t p0 q0 sp sq k).1)), (9, .long ((proR N s t p0 q0 sp sq k).2)), (11, .int (fr + nI k))] [.int (bI (nAt N s p).isSome)]
      refine q_if_eq X 174 dX6_work_132 (by decide) (fun k1 => ?_) (fun k1 => ?_)
      · refine q_iload X dX6_work_174 3 rfl ?_
        refine q_aload_n X dX6_work_176 0 rfl ?_
        refine q_get X hA2 rfl in_RX6 4 (by decide) tw_925 rfl rfl dX6_work_177 ?_
        refine q_callUp X (x := ⟨"GridVault$Node", "form", "()LGridVault$Shape;"⟩) (owner := "GridVault$Node") (ci := nci N s) (c_X5_form hss2) Y_X5_form tw_1078 tw_630 (by decide) rfl (g_decl X tn_1008) tw_629 (se_X5_form hss2.1) hss2.2.1 (by omega) rfl rfl (Nat.le_of_ble_eq_true rfl) dX6_work_180 ?_
        refine q_iconst (v := 1) X dX6_work_183 (by decide) ?_
        refine q_callVp X (c_X7_step hss2.2.2.1) Y_X7_step tw_1085 tw_85 tw_86 qq2 rfl (by omega) rfl rfl (Nat.le_of_ble_eq_true rfl) dX6_work_184 ?_
        rw [← esp]
        refine q_iadd X dX6_work_187 ?_
        refine q_istore (lv' := [(6, .int (p + sp)), (0, .ref a), (1, .int (nI j)), (5, .int to), (7, .int q), (8, .int (bI (proR N s t p0 q0 sp sq k).1)), (9, .long ((proR N s t p0 q0 sp sq k).2)), (11, .int (fr + nI k))]) X dX6_work_188 (by decide) rfl ?_
        refine q_iload X dX6_work_190 4 rfl ?_
        refine q_aload_n X dX6_work_192 1 rfl ?_
        refine q_get X hA2 rfl in_RX6 5 (by decide) tw_926 rfl rfl dX6_work_193 ?_
        refine q_callUp X (x := ⟨"GridVault$Node", "form", "()LGridVault$Shape;"⟩) (owner := "GridVault$Node") (ci := nci N t) (c_X5_form hst2) Y_X5_form tw_1078 tw_630 (by decide) rfl (g_decl X tn_1008) tw_629 (se_X5_form hst2.1) hst2.2.1 (by omega) rfl rfl (Nat.le_of_ble_eq_true rfl) dX6_work_196 ?_
        refine q_iconst (v := 0) X dX6_work_199 (by decide) ?_
        refine q_callVp X (c_X7_step hst2.2.2.1) Y_X7_step tw_1085 tw_85 tw_86 rr2 rfl (by omega) rfl rfl (Nat.le_of_ble_eq_true rfl) dX6_work_200 ?_
        rw [← esq]
        refine q_iadd X dX6_work_203 ?_
        refine q_istore (lv' := [(7, .int (q + sq)), (6, .int (p + sp)), (0, .ref a), (1, .int (nI j)), (5, .int to), (8, .int (bI (proR N s t p0 q0 sp sq k).1)), (9, .long ((proR N s t p0 q0 sp sq k).2)), (11, .int (fr + nI k))]) X dX6_work_204 (by decide) rfl ?_
        refine q_iinc (v := (fr + nI (k + 1))) (lv' := [(11, .int (fr + nI (k + 1))), (7, .int (q + sq)), (6, .int (p + sp)), (0, .ref a), (1, .int (nI j)), (5, .int to), (8, .int (bI (proR N s t p0 q0 sp sq k).1)), (9, .long ((proR N s t p0 q0 sp sq k).2))]) X dX6_work_206 7 rfl ((Int32.add_assoc _ _ _).trans (congrArg (fun z => fr + z) (nI_1 k))) (by decide) rfl ?_
        refine q_goto X 116 dX6_work_209 (by decide) ?_
        refine q_sub [3, 4, 5, 2, 1, 6, 7, 0] rfl ?_
        have G5 := ih (k + 1) M2 (p + sp) (q + sq) (by omega) (by rw [ep]; exact nI_st _ _ _) (by rw [eq]; exact nI_st _ _ _) h2 (hf1.trans hf2)
        rw [proR_n1 (by rw [← ep]; exact nAt_no k1)] at G5
        exact G5
      · refine q_aload_n X dX6_work_135 0 rfl ?_
        refine q_get X hA2 rfl in_RX6 5 (by decide) tw_926 rfl rfl dX6_work_136 ?_
        refine q_iload X dX6_work_139 4 rfl ?_
        refine q_callU X (x := ⟨"GridVault$Node", "holds", "(I)Z"⟩) (owner := "GridVault$Node") (ci := nci N t) (H t M2 _ q ht1 hd2 h2 (pA_dp hP0 hd2)) Y_X5_holds tw_1083 tw_955 (by decide) rfl (g_declC X tw_954 tw_962) tw_954 (se_X5_holds hst2.1) hst2.2.1 (by omega) rfl rfl (Nat.le_of_ble_eq_true rfl) (rc' := 0) (rs' := 0) (Nat.le_refl _) (Nat.le_refl _) dX6_work_141 (fun v M' hp _ => ?_)
        obtain ⟨rfl, h3, hf3, hq3⟩ := hp
        have hf3 := hf3.mono (Nat.le_of_lt hd2)
        generalize M' = M3 at *
        have hA3 : M3 a = some (oB 6 [.ref (nsh N a), .int (nI (ndp N a)), .ref (nca N a), .ref (naa N a), .ref s, .ref t]) := (hf3.1 a (nAdr_obj h2 hA2 (by decide))).trans hA2
        have hss3 := (h3.1 s hs1).1
        have hst3 := (h3.1 t ht1).1
        have hsa3 := (h3.1 a ha).1
        obtain ⟨qb3, qc3, qd3, qs3, qq3, -⟩ := id hss3.2.2.1
        obtain ⟨rb3, rc3, rd3, rs3, rr3, -⟩ := id hst3.2.2.1
        show qJ G F _ 12 M3 0 0 144 [(0, .ref a), (1, .int (nI j)), (5, .int to), (6, .int p), (7, .int q), (8, .int (bI (proR N s t p0 q0 sp sq k).1)), (9, .long ((proR N s t p0 q0 sp sq k).2)), (11, .int (fr + nI k))] [.int (bI (nAt N t q).isSome)]
        refine q_if_eq X 174 dX6_work_144 (by decide) (fun k2 => ?_) (fun k2 => ?_)
        · refine q_iload X dX6_work_174 3 rfl ?_
          refine q_aload_n X dX6_work_176 0 rfl ?_
          refine q_get X hA3 rfl in_RX6 4 (by decide) tw_925 rfl rfl dX6_work_177 ?_
          refine q_callUp X (x := ⟨"GridVault$Node", "form", "()LGridVault$Shape;"⟩) (owner := "GridVault$Node") (ci := nci N s) (c_X5_form hss3) Y_X5_form tw_1078 tw_630 (by decide) rfl (g_decl X tn_1008) tw_629 (se_X5_form hss3.1) hss3.2.1 (by omega) rfl rfl (Nat.le_of_ble_eq_true rfl) dX6_work_180 ?_
          refine q_iconst (v := 1) X dX6_work_183 (by decide) ?_
          refine q_callVp X (c_X7_step hss3.2.2.1) Y_X7_step tw_1085 tw_85 tw_86 qq3 rfl (by omega) rfl rfl (Nat.le_of_ble_eq_true rfl) dX6_work_184 ?_
          rw [← esp]
          refine q_iadd X dX6_work_187 ?_
          refine q_istore (lv' := [(6, .int (p + sp)), (0, .ref a), (1, .int (nI j)), (5, .int to), (7, .int q), (8, .int (bI (proR N s t p0 q0 sp sq k).1)), (9, .long ((proR N s t p0 q0 sp sq k).2)), (11, .int (fr + nI k))]) X dX6_work_188 (by decide) rfl ?_
          refine q_iload X dX6_work_190 4 rfl ?_
          refine q_aload_n X dX6_work_192 1 rfl ?_
          refine q_get X hA3 rfl in_RX6 5 (by decide) tw_926 rfl rfl dX6_work_193 ?_
          refine q_callUp X (x := ⟨"GridVault$Node", "form", "()LGridVault$Shape;"⟩) (owner := "GridVault$Node") (ci := nci N t) (c_X5_form hst3) Y_X5_form tw_1078 tw_630 (by decide) rfl (g_decl X tn_1008) tw_629 (se_X5_form hst3.1) hst3.2.1 (by omega) rfl rfl (Nat.le_of_ble_eq_true rfl) dX6_work_196 ?_
          refine q_iconst (v := 0) X dX6_work_199 (by decide) ?_
          refine q_callVp X (c_X7_step hst3.2.2.1) Y_X7_step tw_1085 tw_85 tw_86 rr3 rfl (by omega) rfl rfl (Nat.le_of_ble_eq_true rfl) dX6_work_200 ?_
          rw [← esq]
          refine q_iadd X dX6_work_203 ?_
          refine q_istore (lv' := [(7, .int (q + sq)), (6, .int (p + sp)), (0, .ref a), (1, .int (nI j)), (5, .int to), (8, .int (bI (proR N s t p0 q0 sp sq k).1)), (9, .long ((proR N s t p0 q0 sp sq k).2)), (11, .int (fr + nI k))]) X dX6_work_204 (by decide) rfl ?_
          refine q_iinc (v := (fr + nI (k + 1))) (lv' := [(11, .int (fr + nI (k + 1))), (7, .int (q + sq)), (6, .int (p + sp)), (0, .ref a), (1, .int (nI j)), (5, .int to), (8, .int (bI (proR N s t p0 q0 sp sq k).1)), (9, .long ((proR N s t p0 q0 sp sq k).2))]) X dX6_work_206 7 rfl ((Int32.add_assoc _ _ _).trans (congrArg (fun z => fr + z) (nI_1 k))) (by decide) rfl ?_
          refine q_goto X 116 dX6_work_209 (by decide) ?_
          refine q_sub [3, 4, 5, 2, 1, 6, 7, 0] rfl ?_
          have G5 := ih (k + 1) M3 (p + sp) (q + sq) (by omega) (by rw [ep]; exact nI_st _ _ _) (by rw [eq]; exact nI_st _ _ _) h3 ((hf1.trans hf2).trans hf3)
          rw [proR_n2 (by rw [← eq]; exact nAt_no k2)] at G5
          exact G5
        · obtain ⟨p2, v, hj1, e1, hv1, hat1⟩ := nAt_in z1 k1
          obtain ⟨q2, w, hj2, e2, hv2, hat2⟩ := nAt_in z3 k2
          rw [ep] at hat1
          rw [eq] at hat2
          subst e1
          subst e2
          refine q_lload X dX6_work_147 6 rfl ?_
          refine q_aload_n X dX6_work_149 0 rfl ?_
          refine q_get X hA3 rfl in_RX6 4 (by decide) tw_925 rfl rfl dX6_work_150 ?_
          refine q_iload X dX6_work_153 3 rfl ?_
          refine q_callUp X (x := ⟨"GridVault$Node", "number", "(I)J"⟩) (owner := "GridVault$Node") (ci := nci N s) (nNum h3 hs1 hj1 (fun z => hf3.2 s hs1 p2 (hq2 p2 hj1 rfl z)) (pA_no hP0 hd1)) Y_X5_number tw_1084 tw_973 (by decide) rfl (g_declC X tw_972 tw_980) tw_972 (se_X5_number hss3.1) hss3.2.1 (by omega) rfl rfl (Nat.le_of_ble_eq_true rfl) dX6_work_155 ?_
          rw [show (nden N s p2).getD 0 = v by rw [hv1]; rfl]
          refine q_aload_n X dX6_work_158 0 rfl ?_
          refine q_get X hA3 rfl in_RX6 5 (by decide) tw_926 rfl rfl dX6_work_159 ?_
          refine q_iload X dX6_work_162 4 rfl ?_
          refine q_callUp X (x := ⟨"GridVault$Node", "number", "(I)J"⟩) (owner := "GridVault$Node") (ci := nci N t) (nNum h3 ht1 hj2 (hq3 q2 hj2 rfl) (pA_no hP0 hd2)) Y_X5_number tw_1084 tw_973 (by decide) rfl (g_declC X tw_972 tw_980) tw_972 (se_X5_number hst3.1) hst3.2.1 (by omega) rfl rfl (Nat.le_of_ble_eq_true rfl) dX6_work_164 ?_
          rw [show (nden N t q2).getD 0 = w by rw [hv2]; rfl]
          refine q_lmul X dX6_work_167 ?_
          refine q_ladd X dX6_work_168 ?_
          refine q_lstore (lv' := [(9, .long (((proR N s t p0 q0 sp sq k).2) + (v * w))), (0, .ref a), (1, .int (nI j)), (5, .int to), (6, .int (nI p2)), (7, .int (nI q2)), (8, .int (bI (proR N s t p0 q0 sp sq k).1)), (11, .int (fr + nI k))]) X dX6_work_169 (by decide) rfl ?_
          refine q_iconst (v := 1) X dX6_work_171 (by decide) ?_
          refine q_istore (lv' := [(8, .int 1), (9, .long (((proR N s t p0 q0 sp sq k).2) + (v * w))), (0, .ref a), (1, .int (nI j)), (5, .int to), (6, .int (nI p2)), (7, .int (nI q2)), (11, .int (fr + nI k))]) X dX6_work_172 (by decide) rfl ?_
          refine q_iload X dX6_work_174 5 rfl ?_
          refine q_aload_n X dX6_work_176 2 rfl ?_
          refine q_get X hA3 rfl in_RX6 4 (by decide) tw_925 rfl rfl dX6_work_177 ?_
          refine q_callUp X (x := ⟨"GridVault$Node", "form", "()LGridVault$Shape;"⟩) (owner := "GridVault$Node") (ci := nci N s) (c_X5_form hss3) Y_X5_form tw_1078 tw_630 (by decide) rfl (g_decl X tn_1008) tw_629 (se_X5_form hss3.1) hss3.2.1 (by omega) rfl rfl (Nat.le_of_ble_eq_true rfl) dX6_work_180 ?_
          refine q_iconst (v := 1) X dX6_work_183 (by decide) ?_
          refine q_callVp X (c_X7_step hss3.2.2.1) Y_X7_step tw_1085 tw_85 tw_86 qq3 rfl (by omega) rfl rfl (Nat.le_of_ble_eq_true rfl) dX6_work_184 ?_
          rw [← esp]
          refine q_iadd X dX6_work_187 ?_
          refine q_istore (lv' := [(6, .int ((nI p2) + sp)), (8, .int 1), (9, .long (((proR N s t p0 q0 sp sq k).2) + (v * w))), (0, .ref a), (1, .int (nI j)), (5, .int to), (7, .int (nI q2)), (11, .int (fr + nI k))]) X dX6_work_188 (by decide) rfl ?_
          refine q_iload X dX6_work_190 6 rfl ?_
          refine q_aload_n X dX6_work_192 3 rfl ?_
          refine q_get X hA3 rfl in_RX6 5 (by decide) tw_926 rfl rfl dX6_work_193 ?_
          refine q_callUp X (x := ⟨"GridVault$Node", "form", "()LGridVault$Shape;"⟩) (owner := "GridVault$Node") (ci := nci N t) (c_X5_form hst3) Y_X5_form tw_1078 tw_630 (by decide) rfl (g_decl X tn_1008) tw_629 (se_X5_form hst3.1) hst3.2.1 (by omega) rfl rfl (Nat.le_of_ble_eq_true rfl) dX6_work_196 ?_
          refine q_iconst (v := 0) X dX6_work_199 (by decide) ?_
          refine q_callVp X (c_X7_step hst3.2.2.1) Y_X7_step tw_1085 tw_85 tw_86 rr3 rfl (by omega) rfl rfl (Nat.le_of_ble_eq_true rfl) dX6_work_200 ?_
          rw [← esq]
          refine q_iadd X dX6_work_203 ?_
          refine q_istore (lv' := [(7, .int ((nI q2) + sq)), (6, .int ((nI p2) + sp)), (8, .int 1), (9, .long (((proR N s t p0 q0 sp sq k).2) + (v * w))), (0, .ref a), (1, .int (nI j)), (5, .int to), (11, .int (fr + nI k))]) X dX6_work_204 (by decide) rfl ?_
          refine q_iinc (v := (fr + nI (k + 1))) (lv' := [(11, .int (fr + nI (k + 1))), (7, .int ((nI q2) + sq)), (6, .int ((nI p2) + sp)), (8, .int 1), (9, .long (((proR N s t p0 q0 sp sq k).2) + (v * w))), (0, .ref a), (1, .int (nI j)), (5, .int to)]) X dX6_work_206 7 rfl ((Int32.add_assoc _ _ _).trans (congrArg (fun z => fr + z) (nI_1 k))) (by decide) rfl ?_
          refine q_goto X 116 dX6_work_209 (by decide) ?_
          refine q_sub [5, 6, 7, 2, 1, 3, 4, 0] rfl ?_
          have G5 := ih (k + 1) M3 ((nI p2) + sp) ((nI q2) + sq) (by omega) (by rw [ep]; exact nI_st _ _ _) (by rw [eq]; exact nI_st _ _ _) h3 ((hf1.trans hf2).trans hf3)
          rw [proR_s hat1 hat2] at G5
          exact G5
  refine q_aload_n X dX6_work_0 0 rfl ?_
  refine q_callUp X (x := ⟨"GridVault$Product", "form", "()LGridVault$Shape;"⟩) (owner := "GridVault$Node") (ci := 6) (c_X5_form hsa) Y_X5_form tw_1074 tw_1075 (by decide) rfl (g_decl X tn_1008) tw_629 ⟨_, rfl, tw_1076⟩ hA (by omega) rfl rfl (Nat.le_of_ble_eq_true rfl) dX6_work_1 ?_
  refine q_iload_n X dX6_work_4 1 rfl ?_
  refine q_iconst (v := 0) X dX6_work_5 (by decide) ?_
  refine q_callVp X (c_X7_placeOf hsa.2.2.1) Y_X7_placeOf tw_1077 tw_460 tw_461 u1 rfl (by omega) rfl rfl (Nat.le_of_ble_eq_true rfl) dX6_work_6 ?_
  refine q_istore_n (lv' := [(2, .int (sPlace (nlo N a) (nhi N a) (nI j) 0)), (0, .ref a), (1, .int (nI j))]) X dX6_work_9 (by decide) rfl ?_
  refine q_aload_n X dX6_work_10 1 rfl ?_
  refine q_callUp X (x := ⟨"GridVault$Product", "form", "()LGridVault$Shape;"⟩) (owner := "GridVault$Node") (ci := 6) (c_X5_form hsa) Y_X5_form tw_1074 tw_1075 (by decide) rfl (g_decl X tn_1008) tw_629 ⟨_, rfl, tw_1076⟩ hA (by omega) rfl rfl (Nat.le_of_ble_eq_true rfl) dX6_work_11 ?_
  refine q_iload_n X dX6_work_14 2 rfl ?_
  refine q_iconst (v := 1) X dX6_work_15 (by decide) ?_
  refine q_callVp X (c_X7_placeOf hsa.2.2.1) Y_X7_placeOf tw_1077 tw_460 tw_461 u1 rfl (by omega) rfl rfl (Nat.le_of_ble_eq_true rfl) dX6_work_16 ?_
  refine q_istore_n (lv' := [(3, .int (sPlace (nlo N a) (nhi N a) (nI j) 1)), (2, .int (sPlace (nlo N a) (nhi N a) (nI j) 0)), (0, .ref a), (1, .int (nI j))]) X dX6_work_19 (by decide) rfl ?_
  refine q_aload_n X dX6_work_20 2 rfl ?_
  refine q_get X hA rfl in_RX6 4 (by decide) tw_925 rfl rfl dX6_work_21 ?_
  refine q_callUp X (x := ⟨"GridVault$Node", "form", "()LGridVault$Shape;"⟩) (owner := "GridVault$Node") (ci := nci N s) (c_X5_form hss) Y_X5_form tw_1078 tw_630 (by decide) rfl (g_decl X tn_1008) tw_629 (se_X5_form hss.1) hss.2.1 (by omega) rfl rfl (Nat.le_of_ble_eq_true rfl) dX6_work_24 ?_
  refine q_iconst (v := 1) X dX6_work_27 (by decide) ?_
  refine q_callVp X (c_X7_lowN hss.2.2.1.lh 1 (by decide) rfl) Y_X7_low tw_1079 tw_77 tw_78 qq rfl (by omega) rfl rfl (Nat.le_of_ble_eq_true rfl) dX6_work_28 ?_
  refine q_aload_n X dX6_work_31 2 rfl ?_
  refine q_get X hA rfl in_RX6 5 (by decide) tw_926 rfl rfl dX6_work_32 ?_
  refine q_callUp X (x := ⟨"GridVault$Node", "form", "()LGridVault$Shape;"⟩) (owner := "GridVault$Node") (ci := nci N t) (c_X5_form hst) Y_X5_form tw_1078 tw_630 (by decide) rfl (g_decl X tn_1008) tw_629 (se_X5_form hst.1) hst.2.1 (by omega) rfl rfl (Nat.le_of_ble_eq_true rfl) dX6_work_35 ?_
  refine q_iconst (v := 0) X dX6_work_38 (by decide) ?_
  refine q_callVp X (c_X7_lowN hst.2.2.1.lh 0 (by decide) rfl) Y_X7_low tw_1079 tw_77 tw_78 rr rfl (by omega) rfl rfl (Nat.le_of_ble_eq_true rfl) dX6_work_39 ?_
  refine q_callSp X (c_J9_max_7cf53) Y_J9_max_7cf53 tw_923 tw_123 (by omega) rfl rfl (Nat.le_of_ble_eq_true rfl) dX6_work_42 ?_
  rw [← efr]
  refine q_istore (lv' := [(4, .int fr), (3, .int (sPlace (nlo N a) (nhi N a) (nI j) 1)), (2, .int (sPlace (nlo N a) (nhi N a) (nI j) 0)), (0, .ref a), (1, .int (nI j))]) X dX6_work_45 (by decide) rfl ?_
  refine q_aload_n X dX6_work_47 3 rfl ?_
  refine q_get X hA rfl in_RX6 4 (by decide) tw_925 rfl rfl dX6_work_48 ?_
  refine q_callUp X (x := ⟨"GridVault$Node", "form", "()LGridVault$Shape;"⟩) (owner := "GridVault$Node") (ci := nci N s) (c_X5_form hss) Y_X5_form tw_1078 tw_630 (by decide) rfl (g_decl X tn_1008) tw_629 (se_X5_form hss.1) hss.2.1 (by omega) rfl rfl (Nat.le_of_ble_eq_true rfl) dX6_work_51 ?_
  refine q_iconst (v := 1) X dX6_work_54 (by decide) ?_
  refine q_callVp X (c_X7_highN hss.2.2.1.lh 1 (by decide) rfl) Y_X7_high tw_1080 tw_73 tw_74 qq rfl (by omega) rfl rfl (Nat.le_of_ble_eq_true rfl) dX6_work_55 ?_
  refine q_aload_n X dX6_work_58 3 rfl ?_
  refine q_get X hA rfl in_RX6 5 (by decide) tw_926 rfl rfl dX6_work_59 ?_
  refine q_callUp X (x := ⟨"GridVault$Node", "form", "()LGridVault$Shape;"⟩) (owner := "GridVault$Node") (ci := nci N t) (c_X5_form hst) Y_X5_form tw_1078 tw_630 (by decide) rfl (g_decl X tn_1008) tw_629 (se_X5_form hst.1) hst.2.1 (by omega) rfl rfl (Nat.le_of_ble_eq_true rfl) dX6_work_62 ?_
  refine q_iconst (v := 0) X dX6_work_65 (by decide) ?_
  refine q_callVp X (c_X7_highN hst.2.2.1.lh 0 (by decide) rfl) Y_X7_high tw_1080 tw_73 tw_74 rr rfl (by omega) rfl rfl (Nat.le_of_ble_eq_true rfl) dX6_work_66 ?_
  refine q_callSp X (c_J9_min_7cf53) Y_J9_min_7cf53 tw_1081 tw_239 (by omega) rfl rfl (Nat.le_of_ble_eq_true rfl) dX6_work_69 ?_
  rw [← eto]
  refine q_istore (lv' := [(5, .int to), (4, .int fr), (3, .int (sPlace (nlo N a) (nhi N a) (nI j) 1)), (2, .int (sPlace (nlo N a) (nhi N a) (nI j) 0)), (0, .ref a), (1, .int (nI j))]) X dX6_work_72 (by decide) rfl ?_
  refine q_aload_n X dX6_work_74 4 rfl ?_
  refine q_get X hA rfl in_RX6 4 (by decide) tw_925 rfl rfl dX6_work_75 ?_
  refine q_callUp X (x := ⟨"GridVault$Node", "form", "()LGridVault$Shape;"⟩) (owner := "GridVault$Node") (ci := nci N s) (c_X5_form hss) Y_X5_form tw_1078 tw_630 (by decide) rfl (g_decl X tn_1008) tw_629 (se_X5_form hss.1) hss.2.1 (by omega) rfl rfl (Nat.le_of_ble_eq_true rfl) dX6_work_78 ?_
  refine q_iload_n X dX6_work_81 3 rfl ?_
  refine q_iload X dX6_work_82 1 rfl ?_
  refine q_iconst (v := 0) X dX6_work_84 (by decide) ?_
  refine q_callVp X (c_X7_indexOf hss.2.2.1) Y_X7_indexOf tw_1082 tw_262 tw_263 qq rfl (by omega) rfl rfl (Nat.le_of_ble_eq_true rfl) dX6_work_85 ?_
  rw [show sIdx (nI (nm N s)) (nlo N s) (nhi N s) (sPlace (nlo N a) (nhi N a) (nI j) 0) fr 0 = p0 from ep0.symm]
  refine q_istore (lv' := [(6, .int p0), (5, .int to), (4, .int fr), (3, .int (sPlace (nlo N a) (nhi N a) (nI j) 1)), (2, .int (sPlace (nlo N a) (nhi N a) (nI j) 0)), (0, .ref a), (1, .int (nI j))]) X dX6_work_88 (by decide) rfl ?_
  refine q_aload_n X dX6_work_90 5 rfl ?_
  refine q_get X hA rfl in_RX6 5 (by decide) tw_926 rfl rfl dX6_work_91 ?_
  refine q_callUp X (x := ⟨"GridVault$Node", "form", "()LGridVault$Shape;"⟩) (owner := "GridVault$Node") (ci := nci N t) (c_X5_form hst) Y_X5_form tw_1078 tw_630 (by decide) rfl (g_decl X tn_1008) tw_629 (se_X5_form hst.1) hst.2.1 (by omega) rfl rfl (Nat.le_of_ble_eq_true rfl) dX6_work_94 ?_
  refine q_iload X dX6_work_97 2 rfl ?_
  refine q_iload_n X dX6_work_99 3 rfl ?_
  refine q_iconst (v := 0) X dX6_work_100 (by decide) ?_
  refine q_callVp X (c_X7_indexOf hst.2.2.1) Y_X7_indexOf tw_1082 tw_262 tw_263 rr rfl (by omega) rfl rfl (Nat.le_of_ble_eq_true rfl) dX6_work_101 ?_
  rw [show sIdx (nI (nm N t)) (nlo N t) (nhi N t) fr (sPlace (nlo N a) (nhi N a) (nI j) 1) 0 = q0 from eq0.symm]
  refine q_istore (lv' := [(7, .int q0), (6, .int p0), (5, .int to), (4, .int fr), (3, .int (sPlace (nlo N a) (nhi N a) (nI j) 1)), (2, .int (sPlace (nlo N a) (nhi N a) (nI j) 0)), (0, .ref a), (1, .int (nI j))]) X dX6_work_104 (by decide) rfl ?_
  refine q_iconst (v := 0) X dX6_work_106 (by decide) ?_
  refine q_istore (lv' := [(8, .int 0), (7, .int q0), (6, .int p0), (5, .int to), (4, .int fr), (3, .int (sPlace (nlo N a) (nhi N a) (nI j) 1)), (2, .int (sPlace (nlo N a) (nhi N a) (nI j) 0)), (0, .ref a), (1, .int (nI j))]) X dX6_work_107 (by decide) rfl ?_
  refine q_lconst (v := 0) X dX6_work_109 (by decide) ?_
  refine q_lstore (lv' := [(9, .long 0), (8, .int 0), (7, .int q0), (6, .int p0), (5, .int to), (4, .int fr), (3, .int (sPlace (nlo N a) (nhi N a) (nI j) 1)), (2, .int (sPlace (nlo N a) (nhi N a) (nI j) 0)), (0, .ref a), (1, .int (nI j))]) X dX6_work_110 (by decide) rfl ?_
  refine q_iload X dX6_work_112 5 rfl ?_
  refine q_istore (lv' := [(11, .int fr), (9, .long 0), (8, .int 0), (7, .int q0), (6, .int p0), (5, .int to), (4, .int fr), (3, .int (sPlace (nlo N a) (nhi N a) (nI j) 1)), (2, .int (sPlace (nlo N a) (nhi N a) (nI j) 0)), (0, .ref a), (1, .int (nI j))]) X dX6_work_114 (by decide) rfl ?_
  refine q_sub [9, 10, 5, 4, 3, 2, 1, 0] rfl ?_
  have G5 := loop K 0 M p0 q0 (by omega) (by rw [show nI 0 = 0 from rfl, Int32.zero_mul, Int32.add_zero]) (by rw [show nI 0 = 0 from rfl, Int32.zero_mul, Int32.add_zero]) h (nFr.rf _ _ _ _)
  rw [show nI 0 = 0 from rfl, Int32.add_zero] at G5
  exact G5
