/-! shape, cell, all -/
def sp_shape (σ : sA) (a what : Int32) : oc := gNode σ a fun w => gNeed σ (¬ what < 0 ∧ ¬ 8 < what) (if what = 0 then oI (nI (vm w)) σ else if what = 1 then oI (nI (vdp w)) σ else if what = 8 then oI (nI (cntB (fun i => (vden w i).isSome) (sz3 (vlo w) (vhi w)))) σ else if what - what / 2 * 2 = 0 then oI (s3 (vlo w) 0 (what / 2 - 1)) σ else oI (s3 (vhi w) 0 (what / 2 - 1)) σ)
def oL (r : Option Int64) (E : String) (σ : sA) : oc := match r with
  | none => oT E σ
  | some v => oK (some (.long v)) σ
def sp_cell (σ : sA) (a x y z : Int32) : oc := gNode σ a fun w => if 0 ≤ wIx w x y z then oL (wAt w (wIx w x y z)) eUO σ else oT eIO σ
def sp_all (σ : sA) (a what : Int32) : oc := gNode σ a fun w => gNeed σ (¬ tKn what = 0) (oL (talO (talW w what 0 1 (sz3 (vlo w) (vhi w)))) eUO σ)
theorem oL_n {r : Option Int64} {E : String} {σ : sA} (h : r = none) : oL r E σ = oT E σ := by rw [h]; rfl
theorem oL_y {r : Option Int64} {E : String} {σ : sA} {v : Int64} (h : r = some v) : oL r E σ = oK (some (.long v)) σ := by rw [h]; rfl
/-- a cell that was asked for is in the cache -/
theorem cache_at {G : gV} {M : gMem} {N : gN} {a j : Nat} (h : nInv G M N (fun _ _ => False)) (ha : nS N a) (hj : j < nsz N a) (hask : nci N a ≠ 9 → nAsk G M N a j) : ∃ cf, isCells G M (nca N a) (nna N a) (nma N a) (nsz N a) cf ∧ cf j = nden N a j := by
  obtain ⟨-, -, cf, ak, h1, h2, h3⟩ := h.1 a ha
  refine ⟨cf, h1, ?_⟩
  by_cases c : nci N a = 9
  · exact (h3 j hj).1 c
  · obtain ⟨n, ak2, q1, q2⟩ := hask c
    rw [h2] at q1
    simp at q1
    obtain ⟨-, rfl⟩ := q1
    exact ((h3 j hj).2 c).2.2 q2 (fun z => z)

set_option maxRecDepth 20000 in
theorem c_shape {l : Launch} {G : gV} {M : gMem} {g : Nat} {σ : sA} (hl : l.stackTraces = false) (h : isGV G M g σ) {a what : Int32} : xC l G yX11_shape cX11_shape 5 (some .int) 200 2 12 [.ref g, .int a, .int what] M (gzI G g (sp_shape σ a what)) (gzE G g (sp_shape σ a what)) := by
  refine xC_of (by decide +kernel) (Nat.le_of_ble_eq_true rfl) (fun F hF X hN hr hn => ?_)
  subst hF
  have X : qX G F cX11_shape 5 RX11 200 := X
  obtain ⟨vl, nl, kl, fr, dk, dn, dm, ev, en, ek, vs, ns, ks, N, hB⟩ := id h
  obtain ⟨b1, b2, b3, b4, b5, b6, b7, b8, b9, b10, b11, b12⟩ := id hB
  have hG : M g = some (oB 11 [.ref vl, .ref nl, .ref kl, .ref fr, .ref dk, .int (nI (aOf σ)), .int (nI (aBg σ))]) := b1
  obtain ⟨sb, sc, sd, sp, s1, -⟩ := id b2
  obtain ⟨cn1, cm1, d1, d2, d3, -⟩ := id b3
  obtain ⟨mvv, vL1⟩ := id b4.2.1
  obtain ⟨mvn, nL1⟩ := id b5.2.1
  obtain ⟨mvk, kL1⟩ := id b6.2.1
  have hvl : vs.length = (aV σ).length := b9.1
  have hnl : ns.length = (aN σ).length := b10.1
  have hz := b12.sz
  have l41 := b12.2.2.2.1
  have l150 := b12.2.2.2.2.1
  have lof := b12.2.2.2.2.2.1
  show qJ G F _ 5 M 2 12 0 [(0, .ref g), (1, .int a), (2, .int what)] []
  refine q_aload_n X dX11_shape_0 0 rfl ?_
  refine q_iload_n X dX11_shape_1 1 rfl ?_
  refine x_callV X (c_nodeAt hl hG b5 hB.nodO) Y_X11_nodeAt tw_623 tw_625 sel_11 hG rfl (by omega) rfl rfl (Nat.le_of_ble_eq_true rfl) (rc' := 1) (rs' := 6) (by omega) (by omega) dX11_shape_2 (fun v M' hp _ => ?_) (fun E M' hx => t_out X hN (by obtain ⟨rfl, q, eM⟩ := hx; rw [eM]; rw [hnl] at q; exact gzE_T (gNode_n (ndAt_out (by omega) q)) h))
  obtain ⟨j, s, rfl, hxs, rfl, eM⟩ := hp
  rw [eM]
  clear eM
  obtain ⟨hj150, hSs, hns⟩ := hB.nod hxs
  have Ts := (ndAt_in (σ := σ) (show j < 2 ^ 31 by omega)).trans hns
  have hsts := (b8.1 s hSs).1
  obtain ⟨sbs, scs, sds, sps, shs, -⟩ := id hsts.2.2.1
  show qJ G F _ 5 M 1 6 5 [(0, .ref g), (1, .int (nI j)), (2, .int what)] [.ref s]
  have hd40 := hsts.2.2.2.2.2.2.1
  refine q_astore_n (lv' := [(3, .ref s), (0, .ref g), (1, .int (nI j)), (2, .int what)]) X dX11_shape_5 (by decide) rfl ?_
  refine q_iload_n X dX11_shape_6 3 rfl ?_
  refine q_if_lt X 20 dX11_shape_7 (by decide) (fun c1 => ?_) (fun c1 => ?_)
  · refine q_iconst (v := 0) X dX11_shape_20 (by decide) ?_
    exact x_callS X (c_need hl) Y_X11_need tw_377 tw_378 (by omega) rfl rfl (Nat.le_of_ble_eq_true rfl) (rc' := 0) (rs' := 0) (by omega) (by omega) dX11_shape_21 (fun v M' hp _ => absurd rfl hp.2.1) (fun E M' hx => t_out X hN (by obtain ⟨rfl, -, eM⟩ := hx; rw [eM]; exact gzE_T ((gNode_y Ts).trans (gNeed_n (fun z => z.1 c1))) h))
  · refine q_iload_n X dX11_shape_10 3 rfl ?_
    refine q_bipush (v := 8) X dX11_shape_11 (by decide) ?_
    refine q_icmp_gt X 20 dX11_shape_13 (by decide) (fun c2 => ?_) (fun c2 => ?_)
    · refine q_iconst (v := 0) X dX11_shape_20 (by decide) ?_
      exact x_callS X (c_need hl) Y_X11_need tw_377 tw_378 (by omega) rfl rfl (Nat.le_of_ble_eq_true rfl) (rc' := 0) (rs' := 0) (by omega) (by omega) dX11_shape_21 (fun v M' hp _ => absurd rfl hp.2.1) (fun E M' hx => t_out X hN (by obtain ⟨rfl, -, eM⟩ := hx; rw [eM]; exact gzE_T ((gNode_y Ts).trans (gNeed_n (fun z => z.2 c2))) h))
    · refine q_iconst (v := 1) X dX11_shape_16 (by decide) ?_
      refine q_goto X 21 dX11_shape_17 (by decide) ?_
      refine q_callS X (c_need1) Y_X11_need tw_377 tw_378 (by omega) rfl rfl (Nat.le_of_ble_eq_true rfl) (rc' := 1) (rs' := 6) (by omega) (by omega) dX11_shape_21 (fun v M' hp _ => ?_)
      obtain ⟨rfl, eM⟩ := hp
      rw [eM]
      clear eM
      show qJ G F _ 5 M 1 6 24 [(3, .ref s), (0, .ref g), (1, .int (nI j)), (2, .int what)] []
      refine q_iload_n X dX11_shape_24 3 rfl ?_
      refine q_if_ne X 36 dX11_shape_25 (by decide) (fun c25 => ?_) (fun c25 => ?_)
      · refine q_iload_n X dX11_shape_36 3 rfl ?_
        refine q_iconst (v := 1) X dX11_shape_37 (by decide) ?_
        refine q_icmp_ne X 46 dX11_shape_38 (by decide) (fun c38 => ?_) (fun c38 => ?_)
        · refine q_iload_n X dX11_shape_46 3 rfl ?_
          refine q_bipush (v := 8) X dX11_shape_47 (by decide) ?_
          refine q_icmp_ne X 57 dX11_shape_49 (by decide) (fun c49 => ?_) (fun c49 => ?_)
          · refine q_iload_n X dX11_shape_57 3 rfl ?_
            refine q_iconst (v := 2) X dX11_shape_58 (by decide) ?_
            refine q_idiv X dX11_shape_59 (by decide) ?_
            refine q_iconst (v := 1) X dX11_shape_60 (by decide) ?_
            refine q_isub X dX11_shape_61 ?_
            refine q_istore (lv' := [(4, .int ((what / 2) - 1)), (3, .ref s), (0, .ref g), (1, .int (nI j)), (2, .int what)]) X dX11_shape_62 (by decide) rfl ?_
            refine q_iload_n X dX11_shape_64 4 rfl ?_
            refine q_iconst (v := 2) X dX11_shape_65 (by decide) ?_
            refine q_irem X dX11_shape_66 (by decide) ?_
            refine q_if_ne X 82 dX11_shape_67 (by decide) (fun c67 => ?_) (fun c67 => ?_)
            · refine q_aload_n X dX11_shape_82 1 rfl ?_
              refine q_callUp X (x := ⟨"GridVault$Node", "form", "()LGridVault$Shape;"⟩) (owner := "GridVault$Node") (ci := nci N s) (c_X5_form hsts) Y_X5_form tw_628 tw_630 (by decide) rfl (g_decl X tn_1008) tw_629 (se_X5_form hsts.1) hsts.2.1 (by omega) rfl rfl (Nat.le_of_ble_eq_true rfl) dX11_shape_83 ?_
              refine q_iload X dX11_shape_86 0 rfl ?_
              refine q_callVp X (c_X7_high hsts.2.2.1) Y_X7_high tw_251 tw_73 tw_74 shs rfl (by omega) rfl rfl (Nat.le_of_ble_eq_true rfl) dX11_shape_88 ?_
              exact x_ret (q_iret X hr dX11_shape_91 (⟨⟨_, rfl⟩, gzP_K ((gNode_y Ts).trans ((gNeed_y ⟨c1, c2⟩).trans ((if_neg c25).trans ((if_neg c38).trans ((if_neg c49).trans (if_neg c67)))))) h⟩))
            · refine q_aload_n X dX11_shape_70 1 rfl ?_
              refine q_callUp X (x := ⟨"GridVault$Node", "form", "()LGridVault$Shape;"⟩) (owner := "GridVault$Node") (ci := nci N s) (c_X5_form hsts) Y_X5_form tw_628 tw_630 (by decide) rfl (g_decl X tn_1008) tw_629 (se_X5_form hsts.1) hsts.2.1 (by omega) rfl rfl (Nat.le_of_ble_eq_true rfl) dX11_shape_71 ?_
              refine q_iload X dX11_shape_74 0 rfl ?_
              refine q_callVp X (c_X7_low hsts.2.2.1) Y_X7_low tw_250 tw_77 tw_78 shs rfl (by omega) rfl rfl (Nat.le_of_ble_eq_true rfl) dX11_shape_76 ?_
              refine q_goto X 91 dX11_shape_79 (by decide) ?_
              exact x_ret (q_iret X hr dX11_shape_91 (⟨⟨_, rfl⟩, gzP_K ((gNode_y Ts).trans ((gNeed_y ⟨c1, c2⟩).trans ((if_neg c25).trans ((if_neg c38).trans ((if_neg c49).trans (if_pos c67)))))) h⟩))
          · refine q_aload_n X dX11_shape_52 0 rfl ?_
            refine q_callU X (x := ⟨"GridVault$Node", "filled", "()I"⟩) (owner := "GridVault$Node") (ci := nci N s) (c_X5_filled b8 hSs) Y_X5_filled tw_943 tw_945 (by decide) rfl (g_declC X tw_944 tw_952) tw_944 (se_X5_filled hsts.1) hsts.2.1 (by omega) rfl rfl (Nat.le_of_ble_eq_true rfl) (rc' := 1) (rs' := 6) (by omega) (by omega) dX11_shape_53 (fun v M' hp _ => ?_)
            obtain ⟨rfl, n1, n2⟩ := hp
            generalize M' = M2 at *
            show qJ G F _ 5 M2 1 6 56 [(3, .ref s), (0, .ref g), (1, .int (nI j)), (2, .int what)] [.int (nI (cntB (fun i => (nden N s i).isSome) (nsz N s)))]
            have hB2 := hB.fr n1 n2
            exact x_ret (q_iret X hr dX11_shape_56 (⟨⟨_, rfl⟩, gzP_K ((gNode_y Ts).trans ((gNeed_y ⟨c1, c2⟩).trans ((if_neg c25).trans ((if_neg c38).trans (if_pos c49))))) ⟨vl, nl, kl, fr, dk, dn, dm, ev, en, ek, vs, ns, ks, N, hB2⟩⟩))
        · refine q_aload_n X dX11_shape_41 0 rfl ?_
          refine q_callUp X (x := ⟨"GridVault$Node", "depth", "()I"⟩) (owner := "GridVault$Node") (ci := nci N s) (c_X5_depth hsts) Y_X5_depth tw_658 tw_660 (by decide) rfl (g_declC X tw_659 tw_667) tw_659 (se_X5_depth hsts.1) hsts.2.1 (by omega) rfl rfl (Nat.le_of_ble_eq_true rfl) dX11_shape_42 ?_
          exact x_ret (q_iret X hr dX11_shape_45 (⟨⟨_, rfl⟩, gzP_K ((gNode_y Ts).trans ((gNeed_y ⟨c1, c2⟩).trans ((if_neg c25).trans (if_pos c38)))) h⟩))
      · refine q_aload_n X dX11_shape_28 0 rfl ?_
        refine q_callUp X (x := ⟨"GridVault$Node", "form", "()LGridVault$Shape;"⟩) (owner := "GridVault$Node") (ci := nci N s) (c_X5_form hsts) Y_X5_form tw_628 tw_630 (by decide) rfl (g_decl X tn_1008) tw_629 (se_X5_form hsts.1) hsts.2.1 (by omega) rfl rfl (Nat.le_of_ble_eq_true rfl) dX11_shape_29 ?_
        refine q_callVp X (c_X7_dimensions hsts.2.2.1) Y_X7_dimensions tw_722 tw_723 tw_724 shs rfl (by omega) rfl rfl (Nat.le_of_ble_eq_true rfl) dX11_shape_32 ?_
        exact x_ret (q_iret X hr dX11_shape_35 (⟨⟨_, rfl⟩, gzP_K ((gNode_y Ts).trans ((gNeed_y ⟨c1, c2⟩).trans (if_pos c25))) h⟩))

set_option maxRecDepth 20000 in
theorem c_cell {l : Launch} {G : gV} {M : gMem} {g : Nat} {σ : sA} (hl : l.stackTraces = false) (h : isGV G M g σ) {a x y z : Int32} : xC l G yX11_cell cX11_cell 7 (some .long) 200 2 12 [.ref g, .int a, .int x, .int y, .int z] M (fun v M' => (∃ n : Int64, v = some (.long n)) ∧ gzP G g (sp_cell σ a x y z) v M') (gzE G g (sp_cell σ a x y z)) := by
  refine xC_of (by decide +kernel) (Nat.le_of_ble_eq_true rfl) (fun F hF X hN hr hn => ?_)
  subst hF
  have X : qX G F cX11_cell 7 RX11 200 := X
  obtain ⟨vl, nl, kl, fr, dk, dn, dm, ev, en, ek, vs, ns, ks, N, hB⟩ := id h
  obtain ⟨b1, b2, b3, b4, b5, b6, b7, b8, b9, b10, b11, b12⟩ := id hB
  have hG : M g = some (oB 11 [.ref vl, .ref nl, .ref kl, .ref fr, .ref dk, .int (nI (aOf σ)), .int (nI (aBg σ))]) := b1
  obtain ⟨sb, sc, sd, sp, s1, -⟩ := id b2
  obtain ⟨cn1, cm1, d1, d2, d3, -⟩ := id b3
  obtain ⟨mvv, vL1⟩ := id b4.2.1
  obtain ⟨mvn, nL1⟩ := id b5.2.1
  obtain ⟨mvk, kL1⟩ := id b6.2.1
  have hvl : vs.length = (aV σ).length := b9.1
  have hnl : ns.length = (aN σ).length := b10.1
  have hz := b12.sz
  have l41 := b12.2.2.2.1
  have l150 := b12.2.2.2.2.1
  have lof := b12.2.2.2.2.2.1
  show qJ G F _ 7 M 2 12 0 [(0, .ref g), (1, .int a), (2, .int x), (3, .int y), (4, .int z)] []
  refine q_aload_n X dX11_cell_0 0 rfl ?_
  refine q_iload_n X dX11_cell_1 1 rfl ?_
  refine x_callV X (c_nodeAt hl hG b5 hB.nodO) Y_X11_nodeAt tw_623 tw_625 sel_11 hG rfl (by omega) rfl rfl (Nat.le_of_ble_eq_true rfl) (rc' := 1) (rs' := 6) (by omega) (by omega) dX11_cell_2 (fun v M' hp _ => ?_) (fun E M' hx => t_out X hN (by obtain ⟨rfl, q, eM⟩ := hx; rw [eM]; rw [hnl] at q; exact gzE_T (gNode_n (ndAt_out (by omega) q)) h))
  obtain ⟨j, s, rfl, hxs, rfl, eM⟩ := hp
  rw [eM]
  clear eM
  obtain ⟨hj150, hSs, hns⟩ := hB.nod hxs
  have Ts := (ndAt_in (σ := σ) (show j < 2 ^ 31 by omega)).trans hns
  have hsts := (b8.1 s hSs).1
  obtain ⟨sbs, scs, sds, sps, shs, -⟩ := id hsts.2.2.1
  show qJ G F _ 7 M 1 6 5 [(0, .ref g), (1, .int (nI j)), (2, .int x), (3, .int y), (4, .int z)] [.ref s]
  have hd40 := hsts.2.2.2.2.2.2.1
  refine q_astore (lv' := [(5, .ref s), (0, .ref g), (1, .int (nI j)), (2, .int x), (3, .int y), (4, .int z)]) X dX11_cell_5 (by decide) rfl ?_
  refine q_aload X dX11_cell_7 0 rfl ?_
  refine q_callUp X (x := ⟨"GridVault$Node", "form", "()LGridVault$Shape;"⟩) (owner := "GridVault$Node") (ci := nci N s) (c_X5_form hsts) Y_X5_form tw_628 tw_630 (by decide) rfl (g_decl X tn_1008) tw_629 (se_X5_form hsts.1) hsts.2.1 (by omega) rfl rfl (Nat.le_of_ble_eq_true rfl) dX11_cell_9 ?_
  refine q_iload_n X dX11_cell_12 3 rfl ?_
  refine q_iload_n X dX11_cell_13 4 rfl ?_
  refine q_iload X dX11_cell_14 5 rfl ?_
  refine q_callVp X (c_X7_indexOf hsts.2.2.1) Y_X7_indexOf tw_411 tw_262 tw_263 shs rfl (by omega) rfl rfl (Nat.le_of_ble_eq_true rfl) dX11_cell_16 ?_
  refine q_istore (lv' := [(6, .int (sIdx (nI (nm N s)) (nlo N s) (nhi N s) x y z)), (5, .ref s), (0, .ref g), (1, .int (nI j)), (2, .int x), (3, .int y), (4, .int z)]) X dX11_cell_19 (by decide) rfl ?_
  refine q_iload X dX11_cell_21 0 rfl ?_
  refine q_if_ge X 36 dX11_cell_23 (by decide) (fun c23 => ?_) (fun c23 => ?_)
  · obtain ⟨t, ht, et⟩ : ∃ t, t < nsz N s ∧ sIdx (nI (nm N s)) (nlo N s) (nhi N s) x y z = nI t := by
      have hz9 := hsts.2.2.2.2.1
      by_cases cc9 : inS (nm N s) (nlo N s) (nhi N s) x y z
      · exact ⟨_, ixS_lt hsts.2.2.2.1 cc9, sIdx_in hsts.2.2.2.1 rfl (show nsz N s < 2 ^ 31 by omega) cc9⟩
      · rw [sIdx_out hsts.2.2.2.1 rfl (show nsz N s < 2 ^ 31 by omega) cc9] at c23; exact absurd c23 (by decide)
    have eI : wIx (nVal N s) x y z = nI t := et
    have hz9 := hsts.2.2.2.2.1
    rw [et] at c23 ⊢
    refine q_aload X dX11_cell_36 1 rfl ?_
    refine q_iload X dX11_cell_38 0 rfl ?_
    refine q_callU X (x := ⟨"GridVault$Node", "holds", "(I)Z"⟩) (owner := "GridVault$Node") (ci := nci N s) (c_holds b8 hSs (nI t)) Y_X5_holds tw_1118 tw_955 (by decide) rfl (g_declC X tw_954 tw_962) tw_954 (se_X5_holds hsts.1) hsts.2.1 (by omega) rfl rfl (Nat.le_of_ble_eq_true rfl) (rc' := 1) (rs' := 6) (by omega) (by omega) dX11_cell_40 (fun v M' hp _ => ?_)
    obtain ⟨rfl, n1, n2, n3⟩ := hp
    generalize M' = M2 at *
    show qJ G F _ 7 M2 1 6 43 [(6, .int (nI t)), (5, .ref s), (0, .ref g), (1, .int (nI j)), (2, .int x), (3, .int y), (4, .int z)] [.int (bI (nAt N s (nI t)).isSome)]
    have hB2 := hB.fr n1 n2
    have hst2 := (n1.1 s hSs).1
    obtain ⟨cf, hcf, hcd⟩ := cache_at n1 hSs ht (fun c9 => n3 t ht rfl c9)
    refine q_if_ne X 57 dX11_cell_43 (by decide) (fun k43 => ?_) (fun k43 => ?_)
    · refine q_aload X dX11_cell_57 1 rfl ?_
      refine q_iload X dX11_cell_59 0 rfl ?_
      have hval : wAt (nVal N s) (nI t) = some ((cf t).getD 0) := by
        have e9 : nAt N s (nI t) = nden N s t := nAt_N ht hz9
        rw [← nAt_w, e9]
        rw [e9] at k43
        rw [hcd]
        cases hv : nden N s t with
        | none => rw [hv] at k43; exact absurd rfl k43
        | some v9 => rfl
      refine q_callUp X (x := ⟨"GridVault$Node", "number", "(I)J"⟩) (owner := "GridVault$Node") (ci := nci N s) (c_X5_number hst2 hcf ht) Y_X5_number tw_1120 tw_973 (by decide) rfl (g_declC X tw_972 tw_980) tw_972 (se_X5_number hst2.1) hst2.2.1 (by omega) rfl rfl (Nat.le_of_ble_eq_true rfl) dX11_cell_61 ?_
      exact x_ret (q_lret X hr dX11_cell_64 (⟨⟨_, rfl⟩, gzP_K ((gNode_y Ts).trans ((if_pos (by rw [eI]; exact c23)).trans (oL_y (by rw [eI]; exact hval)))) ⟨vl, nl, kl, fr, dk, dn, dm, ev, en, ek, vs, ns, ks, N, hB2⟩⟩))
    · exact x_throwW X rfl hN hl xe_UO tw_675 tw_25 (s_260 X) dX11_cell_46 dX11_cell_49 dX11_cell_50 dX11_cell_53 dX11_cell_56 (by omega) (Nat.le_of_ble_eq_true rfl) (by omega) (by omega) (gzE_T ((gNode_y Ts).trans ((if_pos (by rw [eI]; exact c23)).trans (oL_n (by rw [eI, ← nAt_w]; rw [bI_0] at k43; cases hv : nAt N s (nI t) with | none => rfl | some v9 => rw [hv] at k43; cases k43)))) ⟨vl, nl, kl, fr, dk, dn, dm, ev, en, ek, vs, ns, ks, N, hB2⟩)
  · exact x_throw X rfl hN hl xe_IO tw_412 tw_21 (s_253 X) dX11_cell_26 dX11_cell_29 dX11_cell_30 dX11_cell_32 dX11_cell_35 (by omega) (Nat.le_of_ble_eq_true rfl) (by omega) (by omega) (gzE_T ((gNode_y Ts).trans (if_neg c23)) h)

set_option maxRecDepth 20000 in
theorem c_all {l : Launch} {G : gV} {M : gMem} {g : Nat} {σ : sA} (hl : l.stackTraces = false) (h : isGV G M g σ) {a what : Int32} : xC l G yX11_all cX11_all 5 (some .long) 200 4 21 [.ref g, .int a, .int what] M (fun v M' => (∃ n : Int64, v = some (.long n)) ∧ gzP G g (sp_all σ a what) v M') (gzE G g (sp_all σ a what)) := by
  refine xC_of (by decide +kernel) (Nat.le_of_ble_eq_true rfl) (fun F hF X hN hr hn => ?_)
  subst hF
  have X : qX G F cX11_all 5 RX11 200 := X
  obtain ⟨vl, nl, kl, fr, dk, dn, dm, ev, en, ek, vs, ns, ks, N, hB⟩ := id h
  obtain ⟨b1, b2, b3, b4, b5, b6, b7, b8, b9, b10, b11, b12⟩ := id hB
  have hG : M g = some (oB 11 [.ref vl, .ref nl, .ref kl, .ref fr, .ref dk, .int (nI (aOf σ)), .int (nI (aBg σ))]) := b1
  obtain ⟨sb, sc, sd, sp, s1, -⟩ := id b2
  obtain ⟨cn1, cm1, d1, d2, d3, -⟩ := id b3
  obtain ⟨mvv, vL1⟩ := id b4.2.1
  obtain ⟨mvn, nL1⟩ := id b5.2.1
  obtain ⟨mvk, kL1⟩ := id b6.2.1
  have hvl : vs.length = (aV σ).length := b9.1
  have hnl : ns.length = (aN σ).length := b10.1
  have hz := b12.sz
  have l41 := b12.2.2.2.1
  have l150 := b12.2.2.2.2.1
  have lof := b12.2.2.2.2.2.1
  show qJ G F _ 5 M 4 21 0 [(0, .ref g), (1, .int a), (2, .int what)] []
  refine q_aload_n X dX11_all_0 0 rfl ?_
  refine q_iload_n X dX11_all_1 1 rfl ?_
  refine x_callV X (c_nodeAt hl hG b5 hB.nodO) Y_X11_nodeAt tw_623 tw_625 sel_11 hG rfl (by omega) rfl rfl (Nat.le_of_ble_eq_true rfl) (rc' := 3) (rs' := 15) (by omega) (by omega) dX11_all_2 (fun v M' hp _ => ?_) (fun E M' hx => t_out X hN (by obtain ⟨rfl, q, eM⟩ := hx; rw [eM]; rw [hnl] at q; exact gzE_T (gNode_n (ndAt_out (by omega) q)) h))
  obtain ⟨j, s, rfl, hxs, rfl, eM⟩ := hp
  rw [eM]
  clear eM
  obtain ⟨hj150, hSs, hns⟩ := hB.nod hxs
  have Ts := (ndAt_in (σ := σ) (show j < 2 ^ 31 by omega)).trans hns
  have hsts := (b8.1 s hSs).1
  obtain ⟨sbs, scs, sds, sps, shs, -⟩ := id hsts.2.2.1
  show qJ G F _ 5 M 3 15 5 [(0, .ref g), (1, .int (nI j)), (2, .int what)] [.ref s]
  have hd40 := hsts.2.2.2.2.2.2.1
  refine q_astore_n (lv' := [(3, .ref s), (0, .ref g), (1, .int (nI j)), (2, .int what)]) X dX11_all_5 (by decide) rfl ?_
  refine q_iload_n X dX11_all_6 3 rfl ?_
  refine q_callSp X (c_X8_isKnown) Y_X8_isKnown tw_828 tw_829 (by omega) rfl rfl (Nat.le_of_ble_eq_true rfl) dX11_all_7 ?_
  refine x_callS X (c_need hl) Y_X11_need tw_377 tw_378 (by omega) rfl rfl (Nat.le_of_ble_eq_true rfl) (rc' := 2) (rs' := 9) (by omega) (by omega) dX11_all_10 (fun v M' hp _ => ?_) (fun E M' hx => t_out X hN (by obtain ⟨rfl, hkn, eM⟩ := hx; rw [eM]; exact gzE_T ((gNode_y Ts).trans (gNeed_n (not_not_intro hkn))) h))
  obtain ⟨rfl, hkn, eM⟩ := hp
  rw [eM]
  clear eM
  show qJ G F _ 5 M 2 9 13 [(3, .ref s), (0, .ref g), (1, .int (nI j)), (2, .int what)] []
  refine q_new X (ci := 8) rfl in_RX8 tyX8 tyX8_ok tw_837 tw_838 tw_29 (fs0 := [.int 0, .int 0, .long 0]) (fun j hj => by rcases (show j = 0 ∨ j = 1 ∨ j = 2 by omega) with rfl | rfl | rfl <;> rfl) (rc' := 1) (rs' := 6) (by omega) (by omega) dX11_all_13 (fun ta fta => ?_)
  have m_1 : (mU M ta (oB 8 [.int 0, .int 0, .long 0])) ta = some (oB 8 [.int 0, .int 0, .long 0]) := mU_s
  refine q_dup X dX11_all_16 rfl ?_
  refine q_iload_n X dX11_all_17 3 rfl ?_
  refine q_callI X (c_X8_init mU_s) Y_X8_init tw_839 tw_840 rfl (by omega) rfl rfl (Nat.le_of_ble_eq_true rfl) (rc' := 1) (rs' := 6) (by omega) (by omega) dX11_all_18 (fun v M' hp _ => ?_)
  obtain ⟨rfl, eM⟩ := hp
  rw [eM]
  clear eM
  have m_2 : (mU (mU M ta (oB 8 [.int 0, .int 0, .long 0])) ta (oB 8 [.int what, .int 0, .long 0])) ta = some (oB 8 [.int what, .int 0, .long 0]) := mU_s
  show qJ G F _ 5 (mU (mU M ta (oB 8 [.int 0, .int 0, .long 0])) ta (oB 8 [.int what, .int 0, .long 0])) 1 6 21 [(3, .ref s), (0, .ref g), (1, .int (nI j)), (2, .int what)] [.ref ta]
  have nta : M ta = none := fta
  have eM1 : mU (mU M ta (oB 8 [.int 0, .int 0, .long 0])) ta (oB 8 [.int what, .int 0, .long 0]) = mU M ta (oB 8 [.int what, .int 0, .long 0]) := mU_mU
  refine q_memE eM1 ?_
  have ev1 : mEv (fun _ => False) M (mU M ta (oB 8 [.int what, .int 0, .long 0])) := mEv_new nta
  have hB1 := hB.ev ev1
  have hst1 : nStat G (mU M ta (oB 8 [.int what, .int 0, .long 0])) N s := nStat_add hsts (nEq.rf N s) ev1
  have hta1 : ¬ nAdr N (ndp N s) ta := fun z => by rcases nAdr_kind b8 z with ⟨_, _, h9⟩ | ⟨_, h9⟩ <;> rw [nta] at h9 <;> cases h9
  obtain ⟨sb1, sc1, sd1, sp1, sh1, -⟩ := id hst1.2.2.1
  have hm1 : (mU M ta (oB 8 [.int what, .int 0, .long 0])) ta = some (oB 8 [.int what, .int 0, .long 0]) := mU_s
  refine q_astore (lv' := [(4, .ref ta), (3, .ref s), (0, .ref g), (1, .int (nI j)), (2, .int what)]) X dX11_all_21 (by decide) rfl ?_
  refine q_aload X dX11_all_23 0 rfl ?_
  refine q_aload_n X dX11_all_25 1 rfl ?_
  refine q_iconst (v := 0) X dX11_all_26 (by decide) ?_
  refine q_iconst (v := 1) X dX11_all_27 (by decide) ?_
  refine q_aload_n X dX11_all_28 1 rfl ?_
  refine q_callUp X (x := ⟨"GridVault$Node", "form", "()LGridVault$Shape;"⟩) (owner := "GridVault$Node") (ci := nci N s) (c_X5_form hst1) Y_X5_form tw_628 tw_630 (by decide) rfl (g_decl X tn_1008) tw_629 (se_X5_form hst1.1) hst1.2.1 (by omega) rfl rfl (Nat.le_of_ble_eq_true rfl) dX11_all_29 ?_
  refine q_callVp X (c_X7_size hst1.2.2.1) Y_X7_size tw_114 tw_115 tw_116 sh1 rfl (by omega) rfl rfl (Nat.le_of_ble_eq_true rfl) dX11_all_32 ?_
  rw [show sL (nlo N s) (nhi N s) 0 * sL (nlo N s) (nhi N s) 1 * sL (nlo N s) (nhi N s) 2 = nI (nsz N s) from hsts.2.2.2.1.size]
  refine q_callV X (c_X8_takeRow (K := nsz N s) (start := 0) (step := 1) (k := 172) (holds_all _ G N (ndp N s + 1)) hB1.2.2.2.2.2.2.2.1 hSs (fun _ _ z => z.elim) hm1 hta1 hsts.2.2.2.2.1 (by omega)) Y_X8_takeRow tw_1128 tw_1025 tw_1026 hm1 rfl (by omega) rfl rfl (Nat.le_of_ble_eq_true rfl) (rc' := 1) (rs' := 6) (by omega) (by omega) dX11_all_35 (fun v M' hp _ => ?_)
  obtain ⟨rfl, n1, n2, n3, n4⟩ := hp
  generalize M' = M2 at *
  show qJ G F _ 5 M2 1 6 38 [(4, .ref ta), (3, .ref s), (0, .ref g), (1, .int (nI j)), (2, .int what)] []
  obtain ⟨t9, et9⟩ : ∃ t9, t9 = talR N s what 0 1 (nsz N s) := ⟨_, rfl⟩
  rw [← et9] at n2
  have ht9 : t9.1 ≤ 4096 := by rw [et9]; exact Nat.le_trans (talR_le _ _ _ _ _ _) hsts.2.2.2.2.1
  have hB2 : gvB G M2 g σ vl nl kl fr dk dn dm ev en ek vs ns ks N := by
    have evb : mEv (fun _ => False) M (mU M ta (oB 8 [.int what, .int (nI t9.1), .long t9.2])) := mEv_new nta
    refine (hB.ev evb).fr n1 (d := ndp N s) ⟨fun q hq => ?_, fun b hb i hi => ?_⟩
    · by_cases c : q = ta
      · subst c; rw [n2, mU_s]
      · rw [n3 q hq c, mU_n c, mU_n c]
    · refine n4 b hb i ?_
      obtain ⟨n, ak, r1, r2⟩ := hi
      refine ⟨n, ak, ?_, r2⟩
      have c : naa N b ≠ ta := fun z => by rw [z, mU_s] at r1; cases r1
      rw [mU_n c] at r1 ⊢; exact r1
  have hW9 : talW (nVal N s) what 0 1 (sz3 (nlo N s) (nhi N s)) = t9 := by rw [et9, talR_w]; rfl
  refine q_aload X dX11_all_38 0 rfl ?_
  refine q_callVp X (c_X8_isOfNone n2 ht9) Y_X8_isOfNone tw_1129 tw_1041 tw_1042 n2 rfl (by omega) rfl rfl (Nat.le_of_ble_eq_true rfl) dX11_all_40 ?_
  refine q_if_eq X 57 dX11_all_43 (by decide) (fun k43 => ?_) (fun k43 => ?_)
  · refine q_aload X dX11_all_57 0 rfl ?_
    refine q_callVp X (c_X8_result n2 ht9) Y_X8_result tw_1131 tw_1045 tw_1046 n2 rfl (by omega) rfl rfl (Nat.le_of_ble_eq_true rfl) dX11_all_59 ?_
    exact x_ret (q_lret X hr dX11_all_62 (⟨⟨_, rfl⟩, gzP_K ((gNode_y Ts).trans ((gNeed_y hkn).trans (oL_y (by show talO (talW (nVal N s) what 0 1 (sz3 (nlo N s) (nhi N s))) = some t9.2; rw [hW9]; unfold talO; rw [if_neg (of_decide_eq_false (bI_0.mp k43))])))) ⟨vl, nl, kl, fr, dk, dn, dm, ev, en, ek, vs, ns, ks, N, hB2⟩⟩))
  · exact x_throwW X rfl hN hl xe_UO tw_675 tw_25 (s_277 X) dX11_all_46 dX11_all_49 dX11_all_50 dX11_all_53 dX11_all_56 (by omega) (Nat.le_of_ble_eq_true rfl) (by omega) (by omega) (gzE_T ((gNode_y Ts).trans ((gNeed_y hkn).trans (oL_n (by show talO (talW (nVal N s) what 0 1 (sz3 (nlo N s) (nhi N s))) = none; rw [hW9]; unfold talO; rw [if_pos (of_decide_eq_true (by cases hd9 : decide (t9.1 = 0) with | true => rfl | false => rw [hd9] at k43; exact absurd rfl k43))])))) ⟨vl, nl, kl, fr, dk, dn, dm, ev, en, ek, vs, ns, ks, N, hB2⟩)
