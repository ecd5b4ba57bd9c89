/-! calls that are refused: they cost little -/

set_option maxRecDepth 20000 in
theorem c_commit_n {l : Launch} {G : gV} {M : gMem} {g : Nat} {σ : sA} (hl : l.stackTraces = false) (h : isGV G M g σ) (h41 : ¬ (aV σ).length < 41) : xC l G yX11_commit cX11_commit 2 (some .int) 8 1 6 [.ref g] M (gzP G g (sp_commit σ)) (gzE G g (sp_commit σ)) := by
  refine xC_of (by decide +kernel) (Nat.le_of_ble_eq_true rfl) (fun F hF X hN hr hn => ?_)
  subst hF
  have X : qX G F cX11_commit 2 RX11 8 := X
  obtain ⟨vl, nl, kl, fr, dk, dn, dm, ev, en, ek, vs, ns, ks, N, hB⟩ := id h
  obtain ⟨b1, b2, b3, b4, b5, b6, b7, b8, b9, b10, b11, b12⟩ := id hB
  have hG : M g = some (oB 11 [.ref vl, .ref nl, .ref kl, .ref fr, .ref dk, .int (nI (aOf σ)), .int (nI (aBg σ))]) := b1
  obtain ⟨sb, sc, sd, sp, s1, -⟩ := id b2
  obtain ⟨cn1, cm1, d1, d2, d3, -⟩ := id b3
  obtain ⟨mvv, vL1⟩ := id b4.2.1
  obtain ⟨mvn, nL1⟩ := id b5.2.1
  obtain ⟨mvk, kL1⟩ := id b6.2.1
  have hvl : vs.length = (aV σ).length := b9.1
  have hnl : ns.length = (aN σ).length := b10.1
  have hz := b12.sz
  have l41 := b12.2.2.2.1
  have l150 := b12.2.2.2.2.1
  have lof := b12.2.2.2.2.2.1
  show qJ G F _ 2 M 1 6 0 [(0, .ref g)] []
  refine q_aload_n X dX11_commit_0 0 rfl ?_
  refine q_get X hG rfl in_RX11 0 (by decide) tw_277 rfl rfl dX11_commit_1 ?_
  refine q_callF X (x := ⟨"java/util/List", "size", "()I"⟩) (c_list_size b4) Y_Jx4a65c_size_8abf5 tw_471 tw_474 tw_476 tn_473 tn_472 tn_477 tn_475 tn_137 (by decide +kernel) vL1 rfl (by omega) rfl rfl (Nat.le_of_ble_eq_true rfl) (Nat.le_refl _) (Nat.le_refl _) dX11_commit_4 (fun v M' hp _ => ?_)
  obtain ⟨rfl, eM⟩ := hp
  rw [eM]
  clear eM
  show qJ G F _ 2 M _ _ 9 [(0, .ref g)] [.int (nI vs.length)]
  refine q_bipush (v := 41) X dX11_commit_9 (by decide) ?_
  refine q_icmp_lt X 24 dX11_commit_11 (by decide) (fun c0 => absurd ((nI_ltk (k := 41) (by omega) (by decide)).mp c0) (by rw [hvl]; exact h41)) (fun c0 => ?_)
  exact x_throw X rfl hN hl xe_IO tw_412 tw_21 (s_89 X) dX11_commit_14 dX11_commit_17 dX11_commit_18 dX11_commit_20 dX11_commit_23 (by omega) (Nat.le_of_ble_eq_true rfl) (by omega) (by omega) (gzE_T (by unfold sp_commit; rw [if_neg h41]) h)

set_option maxRecDepth 20000 in
theorem c_begin_n {l : Launch} {G : gV} {M : gMem} {g : Nat} {σ : sA} (hl : l.stackTraces = false) (h : isGV G M g σ) {n a b c d e f : Int32} (hf : (sp_begin σ n a b c d e f).1 ≠ none) : xC l G yX11_begin cX11_begin 10 none 10 3 18 [.ref g, .int n, .int a, .int b, .int c, .int d, .int e, .int f] M (gzP G g (sp_begin σ n a b c d e f)) (gzE G g (sp_begin σ n a b c d e f)) := by
  refine xC_of (by decide +kernel) (Nat.le_of_ble_eq_true rfl) (fun F hF X hN hr hn => ?_)
  subst hF
  have X : qX G F cX11_begin 10 RX11 10 := X
  obtain ⟨vl, nl, kl, fr, dk, dn, dm, ev, en, ek, vs, ns, ks, N, hB⟩ := id h
  obtain ⟨b1, b2, b3, b4, b5, b6, b7, b8, b9, b10, b11, b12⟩ := id hB
  have hG : M g = some (oB 11 [.ref vl, .ref nl, .ref kl, .ref fr, .ref dk, .int (nI (aOf σ)), .int (nI (aBg σ))]) := b1
  obtain ⟨sb, sc, sd, sp, s1, -⟩ := id b2
  obtain ⟨cn1, cm1, d1, d2, d3, -⟩ := id b3
  obtain ⟨mvv, vL1⟩ := id b4.2.1
  obtain ⟨mvn, nL1⟩ := id b5.2.1
  obtain ⟨mvk, kL1⟩ := id b6.2.1
  have hvl : vs.length = (aV σ).length := b9.1
  have hnl : ns.length = (aN σ).length := b10.1
  have hz := b12.sz
  have l41 := b12.2.2.2.1
  have l150 := b12.2.2.2.2.1
  have lof := b12.2.2.2.2.2.1
  show qJ G F _ 10 M 3 18 0 [(0, .ref g), (1, .int n), (2, .int a), (3, .int b), (4, .int c), (5, .int d), (6, .int e), (7, .int f)] []
  refine q_aload_n X dX11_begin_0 0 rfl ?_
  refine q_get X hG rfl in_RX11 6 (by decide) tw_283 rfl rfl dX11_begin_1 ?_
  refine q_iconst (v := 2) X dX11_begin_4 (by decide) ?_
  refine q_icmp_lt X 18 dX11_begin_5 (by decide) (fun c5 => ?_) (fun c5 => ?_)
  · refine q_iload_n X dX11_begin_18 1 rfl ?_
    refine q_iconst (v := 1) X dX11_begin_19 (by decide) ?_
    refine q_icmp_lt X 32 dX11_begin_20 (by decide) (fun c20 => ?_) (fun c20 => ?_)
    · refine q_iconst (v := 0) X dX11_begin_32 (by decide) ?_
      exact x_callS X (c_need hl) Y_X11_need tw_377 tw_378 (by omega) rfl rfl (Nat.le_of_ble_eq_true rfl) (rc' := 2) (rs' := 12) (by omega) (by omega) dX11_begin_33 (fun v M' hp _ => absurd rfl hp.2.1) (fun E M' hx => t_out X hN (by obtain ⟨rfl, -, eM⟩ := hx; rw [eM]; exact gzE_T (by unfold sp_begin; rw [if_neg (not_not_intro c5), if_pos c20]) h))
    · refine q_iload_n X dX11_begin_23 1 rfl ?_
      refine q_iconst (v := 3) X dX11_begin_24 (by decide) ?_
      refine q_icmp_gt X 32 dX11_begin_25 (by decide) (fun c25 => ?_) (fun c25 => ?_)
      · refine q_iconst (v := 0) X dX11_begin_32 (by decide) ?_
        exact x_callS X (c_need hl) Y_X11_need tw_377 tw_378 (by omega) rfl rfl (Nat.le_of_ble_eq_true rfl) (rc' := 2) (rs' := 12) (by omega) (by omega) dX11_begin_33 (fun v M' hp _ => absurd rfl hp.2.1) (fun E M' hx => t_out X hN (by obtain ⟨rfl, -, eM⟩ := hx; rw [eM]; exact gzE_T (by unfold sp_begin; rw [if_neg (not_not_intro c5), if_neg c20, if_pos c25]) h))
      · refine q_iconst (v := 1) X dX11_begin_28 (by decide) ?_
        refine q_goto X 33 dX11_begin_29 (by decide) ?_
        refine q_callS X (c_need1) Y_X11_need tw_377 tw_378 (by omega) rfl rfl (Nat.le_of_ble_eq_true rfl) (rc' := 3) (rs' := 18) (by omega) (by omega) dX11_begin_33 (fun v M' hp _ => ?_)
        obtain ⟨rfl, eM⟩ := hp
        rw [eM]
        clear eM
        show qJ G F _ 10 M 3 18 36 [(0, .ref g), (1, .int n), (2, .int a), (3, .int b), (4, .int c), (5, .int d), (6, .int e), (7, .int f)] []
        refine q_iload_n X dX11_begin_36 2 rfl ?_
        refine q_iload_n X dX11_begin_37 3 rfl ?_
        refine q_callSp X (c_isArrayRange) Y_X11_isArrayRange tw_396 tw_397 (by omega) rfl rfl (Nat.le_of_ble_eq_true rfl) dX11_begin_38 ?_
        refine q_if_eq X 78 dX11_begin_41 (by decide) (fun c41 => ?_) (fun c41 => ?_)
        · refine q_iconst (v := 0) X dX11_begin_78 (by decide) ?_
          exact x_callS X (c_need hl) Y_X11_need tw_377 tw_378 (by omega) rfl rfl (Nat.le_of_ble_eq_true rfl) (rc' := 2) (rs' := 12) (by omega) (by omega) dX11_begin_79 (fun v M' hp _ => absurd rfl hp.2.1) (fun E M' hx => t_out X hN (by obtain ⟨rfl, -, eM⟩ := hx; rw [eM]; exact gzE_T (by unfold sp_begin; rw [if_neg (not_not_intro c5), if_neg c20, if_neg c25, if_pos c41]) h))
        · refine q_iload_n X dX11_begin_44 1 rfl ?_
          refine q_iconst (v := 2) X dX11_begin_45 (by decide) ?_
          refine q_icmp_lt X 59 dX11_begin_46 (by decide) (fun c46 => ?_) (fun c46 => ?_)
          · refine q_iload_n X dX11_begin_59 1 rfl ?_
            refine q_iconst (v := 3) X dX11_begin_60 (by decide) ?_
            refine q_icmp_lt X 74 dX11_begin_61 (by decide) (fun c61 => ?_) (fun c61 => ?_)
            · refine q_iconst (v := 1) X dX11_begin_74 (by decide) ?_
              refine q_goto X 79 dX11_begin_75 (by decide) ?_
              refine q_callS X (c_need1) Y_X11_need tw_377 tw_378 (by omega) rfl rfl (Nat.le_of_ble_eq_true rfl) (rc' := 3) (rs' := 18) (by omega) (by omega) dX11_begin_79 (fun v M' hp _ => ?_)
              obtain ⟨rfl, eM⟩ := hp
              rw [eM]
              clear eM
              show qJ G F _ 10 M 3 18 82 [(0, .ref g), (1, .int n), (2, .int a), (3, .int b), (4, .int c), (5, .int d), (6, .int e), (7, .int f)] []
              exact absurd (by unfold sp_begin; rw [if_neg (not_not_intro c5), if_neg c20, if_neg c25, if_neg c41, if_neg (fun z => z.1 c46), if_neg (fun z => z.1 c61)]; rfl) hf
            · refine q_iload X dX11_begin_64 6 rfl ?_
              refine q_iload X dX11_begin_66 7 rfl ?_
              refine q_callSp X (c_isArrayRange) Y_X11_isArrayRange tw_396 tw_397 (by omega) rfl rfl (Nat.le_of_ble_eq_true rfl) dX11_begin_68 ?_
              refine q_if_eq X 78 dX11_begin_71 (by decide) (fun c71 => ?_) (fun c71 => ?_)
              · refine q_iconst (v := 0) X dX11_begin_78 (by decide) ?_
                exact x_callS X (c_need hl) Y_X11_need tw_377 tw_378 (by omega) rfl rfl (Nat.le_of_ble_eq_true rfl) (rc' := 2) (rs' := 12) (by omega) (by omega) dX11_begin_79 (fun v M' hp _ => absurd rfl hp.2.1) (fun E M' hx => t_out X hN (by obtain ⟨rfl, -, eM⟩ := hx; rw [eM]; exact gzE_T (by unfold sp_begin; rw [if_neg (not_not_intro c5), if_neg c20, if_neg c25, if_neg c41, if_neg (fun z => z.1 c46), if_pos ⟨c61, c71⟩]) h))
              · refine q_iconst (v := 1) X dX11_begin_74 (by decide) ?_
                refine q_goto X 79 dX11_begin_75 (by decide) ?_
                refine q_callS X (c_need1) Y_X11_need tw_377 tw_378 (by omega) rfl rfl (Nat.le_of_ble_eq_true rfl) (rc' := 3) (rs' := 18) (by omega) (by omega) dX11_begin_79 (fun v M' hp _ => ?_)
                obtain ⟨rfl, eM⟩ := hp
                rw [eM]
                clear eM
                show qJ G F _ 10 M 3 18 82 [(0, .ref g), (1, .int n), (2, .int a), (3, .int b), (4, .int c), (5, .int d), (6, .int e), (7, .int f)] []
                exact absurd (by unfold sp_begin; rw [if_neg (not_not_intro c5), if_neg c20, if_neg c25, if_neg c41, if_neg (fun z => z.1 c46), if_neg (fun z => c71 z.2)]; rfl) hf
          · refine q_iload X dX11_begin_49 4 rfl ?_
            refine q_iload X dX11_begin_51 5 rfl ?_
            refine q_callSp X (c_isArrayRange) Y_X11_isArrayRange tw_396 tw_397 (by omega) rfl rfl (Nat.le_of_ble_eq_true rfl) dX11_begin_53 ?_
            refine q_if_eq X 78 dX11_begin_56 (by decide) (fun c56 => ?_) (fun c56 => ?_)
            · refine q_iconst (v := 0) X dX11_begin_78 (by decide) ?_
              exact x_callS X (c_need hl) Y_X11_need tw_377 tw_378 (by omega) rfl rfl (Nat.le_of_ble_eq_true rfl) (rc' := 2) (rs' := 12) (by omega) (by omega) dX11_begin_79 (fun v M' hp _ => absurd rfl hp.2.1) (fun E M' hx => t_out X hN (by obtain ⟨rfl, -, eM⟩ := hx; rw [eM]; exact gzE_T (by unfold sp_begin; rw [if_neg (not_not_intro c5), if_neg c20, if_neg c25, if_neg c41, if_pos ⟨c46, c56⟩]) h))
            · refine q_iload_n X dX11_begin_59 1 rfl ?_
              refine q_iconst (v := 3) X dX11_begin_60 (by decide) ?_
              refine q_icmp_lt X 74 dX11_begin_61 (by decide) (fun c61 => ?_) (fun c61 => ?_)
              · refine q_iconst (v := 1) X dX11_begin_74 (by decide) ?_
                refine q_goto X 79 dX11_begin_75 (by decide) ?_
                refine q_callS X (c_need1) Y_X11_need tw_377 tw_378 (by omega) rfl rfl (Nat.le_of_ble_eq_true rfl) (rc' := 3) (rs' := 18) (by omega) (by omega) dX11_begin_79 (fun v M' hp _ => ?_)
                obtain ⟨rfl, eM⟩ := hp
                rw [eM]
                clear eM
                show qJ G F _ 10 M 3 18 82 [(0, .ref g), (1, .int n), (2, .int a), (3, .int b), (4, .int c), (5, .int d), (6, .int e), (7, .int f)] []
                exact absurd (by unfold sp_begin; rw [if_neg (not_not_intro c5), if_neg c20, if_neg c25, if_neg c41, if_neg (fun z => c56 z.2), if_neg (fun z => z.1 c61)]; rfl) hf
              · refine q_iload X dX11_begin_64 6 rfl ?_
                refine q_iload X dX11_begin_66 7 rfl ?_
                refine q_callSp X (c_isArrayRange) Y_X11_isArrayRange tw_396 tw_397 (by omega) rfl rfl (Nat.le_of_ble_eq_true rfl) dX11_begin_68 ?_
                refine q_if_eq X 78 dX11_begin_71 (by decide) (fun c71 => ?_) (fun c71 => ?_)
                · refine q_iconst (v := 0) X dX11_begin_78 (by decide) ?_
                  exact x_callS X (c_need hl) Y_X11_need tw_377 tw_378 (by omega) rfl rfl (Nat.le_of_ble_eq_true rfl) (rc' := 2) (rs' := 12) (by omega) (by omega) dX11_begin_79 (fun v M' hp _ => absurd rfl hp.2.1) (fun E M' hx => t_out X hN (by obtain ⟨rfl, -, eM⟩ := hx; rw [eM]; exact gzE_T (by unfold sp_begin; rw [if_neg (not_not_intro c5), if_neg c20, if_neg c25, if_neg c41, if_neg (fun z => c56 z.2), if_pos ⟨c61, c71⟩]) h))
                · refine q_iconst (v := 1) X dX11_begin_74 (by decide) ?_
                  refine q_goto X 79 dX11_begin_75 (by decide) ?_
                  refine q_callS X (c_need1) Y_X11_need tw_377 tw_378 (by omega) rfl rfl (Nat.le_of_ble_eq_true rfl) (rc' := 3) (rs' := 18) (by omega) (by omega) dX11_begin_79 (fun v M' hp _ => ?_)
                  obtain ⟨rfl, eM⟩ := hp
                  rw [eM]
                  clear eM
                  show qJ G F _ 10 M 3 18 82 [(0, .ref g), (1, .int n), (2, .int a), (3, .int b), (4, .int c), (5, .int d), (6, .int e), (7, .int f)] []
                  exact absurd (by unfold sp_begin; rw [if_neg (not_not_intro c5), if_neg c20, if_neg c25, if_neg c41, if_neg (fun z => c56 z.2), if_neg (fun z => c71 z.2)]; rfl) hf
  · exact x_throw X rfl hN hl xe_IS tw_308 tw_19 (s_37 X) dX11_begin_8 dX11_begin_11 dX11_begin_12 dX11_begin_14 dX11_begin_17 (by omega) (Nat.le_of_ble_eq_true rfl) (by omega) (by omega) (gzE_T (by unfold sp_begin; rw [if_pos c5]) h)

set_option maxRecDepth 20000 in
theorem r_commit_n {l : Launch} {G : gV} {M : gMem} {r : Nat} {e : Int32} {σ : sA} (hW : gvW σ) (hR : isRF G M r e σ) (h41 : ¬ (aV σ).length < 41) : qC l G yX13_commit cX13_commit 1 (some .int) 6 0 0 [.ref r] M (rfP G r cOne (some (.int 0)) (sp_commit σ)) := by
  refine qC_of (by decide +kernel) (Nat.le_of_ble_eq_true rfl) (fun F hF X hr hn => ?_)
  subst hF
  have X : qX G F cX13_commit 1 RX13 6 := X
  obtain ⟨vA, nA, pA, plA, dg, dla, dha, dva, dza, dvf, dzf, vf, nf, pf, tk, su, le, gr, hB⟩ := hR
  have hl150 := hW.1.2.2.2.2.1
  have hl41 := hW.1.2.2.2.1
  show qJ G F _ 1 M 0 0 0 [(0, .ref r)] []
  refine q_aload_n X dX13_commit_0 0 rfl ?_
  refine q_aload_n X dX13_commit_1 0 rfl ?_
  refine q_get X hB.1 rfl in_RX13 6 (by decide) tw_1200 rfl rfl dX13_commit_2 ?_
  refine q_bipush (v := 41) X dX13_commit_5 (by decide) ?_
  refine q_icmp_ne X 14 dX13_commit_7 (by decide) (fun c7 => absurd ((nI_eq41 (by omega)).mpr (by omega)) c7) (fun c7 => ?_)
  refine q_iconst (v := 1) X dX13_commit_10 (by decide) ?_
  refine q_goto X 15 dX13_commit_11 (by decide) ?_
  refine q_iconst (v := 1) X dX13_commit_15 (by decide) ?_
  refine q_callV X (c_fails1 (why := 1) hB.1) Y_X13_fails tw_1246 tw_1248 sel_23 hB.1 rfl (by omega) rfl rfl (Nat.le_of_ble_eq_true rfl) (rc' := 0) (rs' := 0) (by omega) (by omega) dX13_commit_16 (fun v M' hp _ => ?_)
  obtain ⟨rfl, eM⟩ := hp
  have hB101 : rfB G M' r 1 σ vA nA pA plA dg dla dha dva dza dvf dzf vf nf pf tk su le gr := by rw [eM]; exact hB.ro
  clear eM
  generalize M' = M101 at *
  show qJ G F _ 1 M101 0 0 19 [(0, .ref r)] [.int 1]
  obtain ⟨z_2r, z_21, z_22, z_23, ⟨z_2x, z_24⟩, z_25, z_26, z_27, z_28, z_29, z_210⟩ := id hB101
  refine q_if_eq X 24 dX13_commit_19 (by decide) (fun c_3 => absurd c_3 (by decide)) (fun c_3 => ?_)
  refine q_iconst (v := 0) X dX13_commit_22 (by decide) ?_
  exact q_iret X hr dX13_commit_23 (rfP_T (by unfold sp_commit; rw [if_neg h41]) cOne_1 ⟨vA, nA, pA, plA, dg, dla, dha, dva, dza, dvf, dzf, vf, nf, pf, tk, su, le, gr, hB101⟩)

set_option maxRecDepth 20000 in
theorem r_begin_n {l : Launch} {G : gV} {M : gMem} {r : Nat} {e : Int32} {σ : sA} (hW : gvW σ) (hR : isRF G M r e σ) {n a b c d e2 f : Int32} (hf : (sp_begin σ n a b c d e2 f).1 ≠ none) : qC l G yX13_begin cX13_begin 8 none 7 0 0 [.ref r, .int n, .int a, .int b, .int c, .int d, .int e2, .int f] M (rfP G r cBe none (sp_begin σ n a b c d e2 f)) := by
  refine qC_of (by decide +kernel) (Nat.le_of_ble_eq_true rfl) (fun F hF X hr hn => ?_)
  subst hF
  have X : qX G F cX13_begin 8 RX13 7 := X
  obtain ⟨vA, nA, pA, plA, dg, dla, dha, dva, dza, dvf, dzf, vf, nf, pf, tk, su, le, gr, hB⟩ := hR
  have hl150 := hW.1.2.2.2.2.1
  have hl41 := hW.1.2.2.2.1
  show qJ G F _ 8 M 0 0 0 [(0, .ref r), (1, .int n), (2, .int a), (3, .int b), (4, .int c), (5, .int d), (6, .int e2), (7, .int f)] []
  refine q_aload_n X dX13_begin_0 0 rfl ?_
  refine q_aload_n X dX13_begin_1 0 rfl ?_
  refine q_get X hB.1 rfl in_RX13 9 (by decide) tw_1203 rfl rfl dX13_begin_2 ?_
  refine q_iconst (v := 2) X dX13_begin_5 (by decide) ?_
  refine q_icmp_ne X 13 dX13_begin_6 (by decide) (fun c6 => ?_) (fun c6 => ?_)
  · refine q_iconst (v := 0) X dX13_begin_13 (by decide) ?_
    refine q_iconst (v := 2) X dX13_begin_14 (by decide) ?_
    refine q_callV X (c_fails0 (why := 2) hB.1) Y_X13_fails tw_1246 tw_1248 sel_23 hB.1 rfl (by omega) rfl rfl (Nat.le_of_ble_eq_true rfl) (rc' := 0) (rs' := 0) (by omega) (by omega) dX13_begin_15 (fun v M' hp _ => ?_)
    obtain ⟨rfl, eM⟩ := hp
    have hB101 : rfB G M' r 0 σ vA nA pA plA dg dla dha dva dza dvf dzf vf nf pf tk su le gr := by rw [eM]; exact hB.ro
    clear eM
    generalize M' = M101 at *
    show qJ G F _ 8 M101 0 0 18 [(0, .ref r), (1, .int n), (2, .int a), (3, .int b), (4, .int c), (5, .int d), (6, .int e2), (7, .int f)] [.int 0]
    obtain ⟨z_2r, z_21, z_22, z_23, ⟨z_2x, z_24⟩, z_25, z_26, z_27, z_28, z_29, z_210⟩ := id hB101
    refine q_if_eq X 22 dX13_begin_18 (by decide) (fun c_3 => ?_) (fun c_3 => absurd (by decide) c_3)
    refine q_aload_n X dX13_begin_22 0 rfl ?_
    refine q_iload_n X dX13_begin_23 1 rfl ?_
    refine q_iconst (v := 1) X dX13_begin_24 (by decide) ?_
    refine q_icmp_lt X 71 dX13_begin_25 (by decide) (fun c25 => ?_) (fun c25 => ?_)
    · refine q_iconst (v := 1) X dX13_begin_71 (by decide) ?_
      refine q_goto X 76 dX13_begin_72 (by decide) ?_
      refine q_iconst (v := 1) X dX13_begin_76 (by decide) ?_
      refine q_callV X (c_fails1 (why := 1) hB101.1) Y_X13_fails tw_1246 tw_1248 sel_23 z_2r rfl (by omega) rfl rfl (Nat.le_of_ble_eq_true rfl) (rc' := 0) (rs' := 0) (by omega) (by omega) dX13_begin_77 (fun v M' hp _ => ?_)
      obtain ⟨rfl, eM⟩ := hp
      have hB104 : rfB G M' r 1 σ vA nA pA plA dg dla dha dva dza dvf dzf vf nf pf tk su le gr := by rw [eM]; exact hB101.ro
      clear eM
      generalize M' = M104 at *
      show qJ G F _ 8 M104 0 0 80 [(0, .ref r), (1, .int n), (2, .int a), (3, .int b), (4, .int c), (5, .int d), (6, .int e2), (7, .int f)] [.int 1]
      obtain ⟨z_5r, z_51, z_52, z_53, ⟨z_5x, z_54⟩, z_55, z_56, z_57, z_58, z_59, z_510⟩ := id hB104
      refine q_if_eq X 84 dX13_begin_80 (by decide) (fun c_6 => absurd c_6 (by decide)) (fun c_6 => ?_)
      exact q_vret X hr dX13_begin_83 (rfP_T (by unfold sp_begin; rw [if_neg (be_nb hW.1.2.2.2.2.2.2.1 c6), if_pos c25]) cBe_IA ⟨vA, nA, pA, plA, dg, dla, dha, dva, dza, dvf, dzf, vf, nf, pf, tk, su, le, gr, hB104⟩)
    · refine q_iload_n X dX13_begin_28 1 rfl ?_
      refine q_iconst (v := 3) X dX13_begin_29 (by decide) ?_
      refine q_icmp_gt X 71 dX13_begin_30 (by decide) (fun c30 => ?_) (fun c30 => ?_)
      · refine q_iconst (v := 1) X dX13_begin_71 (by decide) ?_
        refine q_goto X 76 dX13_begin_72 (by decide) ?_
        refine q_iconst (v := 1) X dX13_begin_76 (by decide) ?_
        refine q_callV X (c_fails1 (why := 1) hB101.1) Y_X13_fails tw_1246 tw_1248 sel_23 z_2r rfl (by omega) rfl rfl (Nat.le_of_ble_eq_true rfl) (rc' := 0) (rs' := 0) (by omega) (by omega) dX13_begin_77 (fun v M' hp _ => ?_)
        obtain ⟨rfl, eM⟩ := hp
        have hB107 : rfB G M' r 1 σ vA nA pA plA dg dla dha dva dza dvf dzf vf nf pf tk su le gr := by rw [eM]; exact hB101.ro
        clear eM
        generalize M' = M107 at *
        show qJ G F _ 8 M107 0 0 80 [(0, .ref r), (1, .int n), (2, .int a), (3, .int b), (4, .int c), (5, .int d), (6, .int e2), (7, .int f)] [.int 1]
        obtain ⟨z_8r, z_81, z_82, z_83, ⟨z_8x, z_84⟩, z_85, z_86, z_87, z_88, z_89, z_810⟩ := id hB107
        refine q_if_eq X 84 dX13_begin_80 (by decide) (fun c_9 => absurd c_9 (by decide)) (fun c_9 => ?_)
        exact q_vret X hr dX13_begin_83 (rfP_T (by unfold sp_begin; rw [if_neg (be_nb hW.1.2.2.2.2.2.2.1 c6), if_neg c25, if_pos c30]) cBe_IA ⟨vA, nA, pA, plA, dg, dla, dha, dva, dza, dvf, dzf, vf, nf, pf, tk, su, le, gr, hB107⟩)
      · refine q_iload_n X dX13_begin_33 2 rfl ?_
        refine q_iload_n X dX13_begin_34 3 rfl ?_
        refine q_callSp X (c_good) Y_X13_good tw_1250 tw_1251 (by omega) rfl rfl (Nat.le_of_ble_eq_true rfl) dX13_begin_35 ?_
        refine q_if_eq X 71 dX13_begin_38 (by decide) (fun c38 => ?_) (fun c38 => ?_)
        · refine q_iconst (v := 1) X dX13_begin_71 (by decide) ?_
          refine q_goto X 76 dX13_begin_72 (by decide) ?_
          refine q_iconst (v := 1) X dX13_begin_76 (by decide) ?_
          refine q_callV X (c_fails1 (why := 1) hB101.1) Y_X13_fails tw_1246 tw_1248 sel_23 z_2r rfl (by omega) rfl rfl (Nat.le_of_ble_eq_true rfl) (rc' := 0) (rs' := 0) (by omega) (by omega) dX13_begin_77 (fun v M' hp _ => ?_)
          obtain ⟨rfl, eM⟩ := hp
          have hB110 : rfB G M' r 1 σ vA nA pA plA dg dla dha dva dza dvf dzf vf nf pf tk su le gr := by rw [eM]; exact hB101.ro
          clear eM
          generalize M' = M110 at *
          show qJ G F _ 8 M110 0 0 80 [(0, .ref r), (1, .int n), (2, .int a), (3, .int b), (4, .int c), (5, .int d), (6, .int e2), (7, .int f)] [.int 1]
          obtain ⟨z_11r, z_111, z_112, z_113, ⟨z_11x, z_114⟩, z_115, z_116, z_117, z_118, z_119, z_1110⟩ := id hB110
          refine q_if_eq X 84 dX13_begin_80 (by decide) (fun c_12 => absurd c_12 (by decide)) (fun c_12 => ?_)
          exact q_vret X hr dX13_begin_83 (rfP_T (by unfold sp_begin; rw [if_neg (be_nb hW.1.2.2.2.2.2.2.1 c6), if_neg c25, if_neg c30, if_pos c38]) cBe_IA ⟨vA, nA, pA, plA, dg, dla, dha, dva, dza, dvf, dzf, vf, nf, pf, tk, su, le, gr, hB110⟩)
        · refine q_iload_n X dX13_begin_41 1 rfl ?_
          refine q_iconst (v := 1) X dX13_begin_42 (by decide) ?_
          refine q_icmp_le X 56 dX13_begin_43 (by decide) (fun c43 => ?_) (fun c43 => ?_)
          · refine q_iload_n X dX13_begin_56 1 rfl ?_
            refine q_iconst (v := 2) X dX13_begin_57 (by decide) ?_
            refine q_icmp_le X 75 dX13_begin_58 (by decide) (fun c58 => ?_) (fun c58 => ?_)
            · refine q_iconst (v := 0) X dX13_begin_75 (by decide) ?_
              refine q_iconst (v := 1) X dX13_begin_76 (by decide) ?_
              refine q_callV X (c_fails0 (why := 1) hB101.1) Y_X13_fails tw_1246 tw_1248 sel_23 z_2r rfl (by omega) rfl rfl (Nat.le_of_ble_eq_true rfl) (rc' := 0) (rs' := 0) (by omega) (by omega) dX13_begin_77 (fun v M' hp _ => ?_)
              obtain ⟨rfl, eM⟩ := hp
              have hB113 : rfB G M' r 0 σ vA nA pA plA dg dla dha dva dza dvf dzf vf nf pf tk su le gr := by rw [eM]; exact hB101.ro
              clear eM
              generalize M' = M113 at *
              show qJ G F _ 8 M113 0 0 80 [(0, .ref r), (1, .int n), (2, .int a), (3, .int b), (4, .int c), (5, .int d), (6, .int e2), (7, .int f)] [.int 0]
              obtain ⟨z_14r, z_141, z_142, z_143, ⟨z_14x, z_144⟩, z_145, z_146, z_147, z_148, z_149, z_1410⟩ := id hB113
              refine q_if_eq X 84 dX13_begin_80 (by decide) (fun c_15 => ?_) (fun c_15 => absurd (by decide) c_15)
              exact absurd (by unfold sp_begin; rw [if_neg (be_nb hW.1.2.2.2.2.2.2.1 c6), if_neg c25, if_neg c30, if_neg c38, if_neg (fun z => z.1 (be_y1 c43)), if_neg (fun z => z.1 (be_y2 c58))]; rfl) hf
            · refine q_iload X dX13_begin_61 6 rfl ?_
              refine q_iload X dX13_begin_63 7 rfl ?_
              refine q_callSp X (c_good) Y_X13_good tw_1250 tw_1251 (by omega) rfl rfl (Nat.le_of_ble_eq_true rfl) dX13_begin_65 ?_
              refine q_if_ne X 75 dX13_begin_68 (by decide) (fun c68 => ?_) (fun c68 => ?_)
              · refine q_iconst (v := 0) X dX13_begin_75 (by decide) ?_
                refine q_iconst (v := 1) X dX13_begin_76 (by decide) ?_
                refine q_callV X (c_fails0 (why := 1) hB101.1) Y_X13_fails tw_1246 tw_1248 sel_23 z_2r rfl (by omega) rfl rfl (Nat.le_of_ble_eq_true rfl) (rc' := 0) (rs' := 0) (by omega) (by omega) dX13_begin_77 (fun v M' hp _ => ?_)
                obtain ⟨rfl, eM⟩ := hp
                have hB116 : rfB G M' r 0 σ vA nA pA plA dg dla dha dva dza dvf dzf vf nf pf tk su le gr := by rw [eM]; exact hB101.ro
                clear eM
                generalize M' = M116 at *
                show qJ G F _ 8 M116 0 0 80 [(0, .ref r), (1, .int n), (2, .int a), (3, .int b), (4, .int c), (5, .int d), (6, .int e2), (7, .int f)] [.int 0]
                obtain ⟨z_17r, z_171, z_172, z_173, ⟨z_17x, z_174⟩, z_175, z_176, z_177, z_178, z_179, z_1710⟩ := id hB116
                refine q_if_eq X 84 dX13_begin_80 (by decide) (fun c_18 => ?_) (fun c_18 => absurd (by decide) c_18)
                exact absurd (by unfold sp_begin; rw [if_neg (be_nb hW.1.2.2.2.2.2.2.1 c6), if_neg c25, if_neg c30, if_neg c38, if_neg (fun z => z.1 (be_y1 c43)), if_neg (fun z => c68 z.2)]; rfl) hf
              · refine q_iconst (v := 1) X dX13_begin_71 (by decide) ?_
                refine q_goto X 76 dX13_begin_72 (by decide) ?_
                refine q_iconst (v := 1) X dX13_begin_76 (by decide) ?_
                refine q_callV X (c_fails1 (why := 1) hB101.1) Y_X13_fails tw_1246 tw_1248 sel_23 z_2r rfl (by omega) rfl rfl (Nat.le_of_ble_eq_true rfl) (rc' := 0) (rs' := 0) (by omega) (by omega) dX13_begin_77 (fun v M' hp _ => ?_)
                obtain ⟨rfl, eM⟩ := hp
                have hB119 : rfB G M' r 1 σ vA nA pA plA dg dla dha dva dza dvf dzf vf nf pf tk su le gr := by rw [eM]; exact hB101.ro
                clear eM
                generalize M' = M119 at *
                show qJ G F _ 8 M119 0 0 80 [(0, .ref r), (1, .int n), (2, .int a), (3, .int b), (4, .int c), (5, .int d), (6, .int e2), (7, .int f)] [.int 1]
                obtain ⟨z_20r, z_201, z_202, z_203, ⟨z_20x, z_204⟩, z_205, z_206, z_207, z_208, z_209, z_2010⟩ := id hB119
                refine q_if_eq X 84 dX13_begin_80 (by decide) (fun c_21 => absurd c_21 (by decide)) (fun c_21 => ?_)
                exact q_vret X hr dX13_begin_83 (rfP_T (by unfold sp_begin; rw [if_neg (be_nb hW.1.2.2.2.2.2.2.1 c6), if_neg c25, if_neg c30, if_neg c38, if_neg (fun z => z.1 (be_y1 c43)), if_pos ⟨be_n2 c58, c68⟩]) cBe_IA ⟨vA, nA, pA, plA, dg, dla, dha, dva, dza, dvf, dzf, vf, nf, pf, tk, su, le, gr, hB119⟩)
          · refine q_iload X dX13_begin_46 4 rfl ?_
            refine q_iload X dX13_begin_48 5 rfl ?_
            refine q_callSp X (c_good) Y_X13_good tw_1250 tw_1251 (by omega) rfl rfl (Nat.le_of_ble_eq_true rfl) dX13_begin_50 ?_
            refine q_if_eq X 71 dX13_begin_53 (by decide) (fun c53 => ?_) (fun c53 => ?_)
            · refine q_iconst (v := 1) X dX13_begin_71 (by decide) ?_
              refine q_goto X 76 dX13_begin_72 (by decide) ?_
              refine q_iconst (v := 1) X dX13_begin_76 (by decide) ?_
              refine q_callV X (c_fails1 (why := 1) hB101.1) Y_X13_fails tw_1246 tw_1248 sel_23 z_2r rfl (by omega) rfl rfl (Nat.le_of_ble_eq_true rfl) (rc' := 0) (rs' := 0) (by omega) (by omega) dX13_begin_77 (fun v M' hp _ => ?_)
              obtain ⟨rfl, eM⟩ := hp
              have hB122 : rfB G M' r 1 σ vA nA pA plA dg dla dha dva dza dvf dzf vf nf pf tk su le gr := by rw [eM]; exact hB101.ro
              clear eM
              generalize M' = M122 at *
              show qJ G F _ 8 M122 0 0 80 [(0, .ref r), (1, .int n), (2, .int a), (3, .int b), (4, .int c), (5, .int d), (6, .int e2), (7, .int f)] [.int 1]
              obtain ⟨z_23r, z_231, z_232, z_233, ⟨z_23x, z_234⟩, z_235, z_236, z_237, z_238, z_239, z_2310⟩ := id hB122
              refine q_if_eq X 84 dX13_begin_80 (by decide) (fun c_24 => absurd c_24 (by decide)) (fun c_24 => ?_)
              exact q_vret X hr dX13_begin_83 (rfP_T (by unfold sp_begin; rw [if_neg (be_nb hW.1.2.2.2.2.2.2.1 c6), if_neg c25, if_neg c30, if_neg c38, if_pos ⟨be_n1 c43, c53⟩]) cBe_IA ⟨vA, nA, pA, plA, dg, dla, dha, dva, dza, dvf, dzf, vf, nf, pf, tk, su, le, gr, hB122⟩)
            · refine q_iload_n X dX13_begin_56 1 rfl ?_
              refine q_iconst (v := 2) X dX13_begin_57 (by decide) ?_
              refine q_icmp_le X 75 dX13_begin_58 (by decide) (fun c58 => ?_) (fun c58 => ?_)
              · refine q_iconst (v := 0) X dX13_begin_75 (by decide) ?_
                refine q_iconst (v := 1) X dX13_begin_76 (by decide) ?_
                refine q_callV X (c_fails0 (why := 1) hB101.1) Y_X13_fails tw_1246 tw_1248 sel_23 z_2r rfl (by omega) rfl rfl (Nat.le_of_ble_eq_true rfl) (rc' := 0) (rs' := 0) (by omega) (by omega) dX13_begin_77 (fun v M' hp _ => ?_)
                obtain ⟨rfl, eM⟩ := hp
                have hB125 : rfB G M' r 0 σ vA nA pA plA dg dla dha dva dza dvf dzf vf nf pf tk su le gr := by rw [eM]; exact hB101.ro
                clear eM
                generalize M' = M125 at *
                show qJ G F _ 8 M125 0 0 80 [(0, .ref r), (1, .int n), (2, .int a), (3, .int b), (4, .int c), (5, .int d), (6, .int e2), (7, .int f)] [.int 0]
                obtain ⟨z_26r, z_261, z_262, z_263, ⟨z_26x, z_264⟩, z_265, z_266, z_267, z_268, z_269, z_2610⟩ := id hB125
                refine q_if_eq X 84 dX13_begin_80 (by decide) (fun c_27 => ?_) (fun c_27 => absurd (by decide) c_27)
                exact absurd (by unfold sp_begin; rw [if_neg (be_nb hW.1.2.2.2.2.2.2.1 c6), if_neg c25, if_neg c30, if_neg c38, if_neg (fun z => c53 z.2), if_neg (fun z => z.1 (be_y2 c58))]; rfl) hf
              · refine q_iload X dX13_begin_61 6 rfl ?_
                refine q_iload X dX13_begin_63 7 rfl ?_
                refine q_callSp X (c_good) Y_X13_good tw_1250 tw_1251 (by omega) rfl rfl (Nat.le_of_ble_eq_true rfl) dX13_begin_65 ?_
                refine q_if_ne X 75 dX13_begin_68 (by decide) (fun c68 => ?_) (fun c68 => ?_)
                · refine q_iconst (v := 0) X dX13_begin_75 (by decide) ?_
                  refine q_iconst (v := 1) X dX13_begin_76 (by decide) ?_
                  refine q_callV X (c_fails0 (why := 1) hB101.1) Y_X13_fails tw_1246 tw_1248 sel_23 z_2r rfl (by omega) rfl rfl (Nat.le_of_ble_eq_true rfl) (rc' := 0) (rs' := 0) (by omega) (by omega) dX13_begin_77 (fun v M' hp _ => ?_)
                  obtain ⟨rfl, eM⟩ := hp
                  have hB128 : rfB G M' r 0 σ vA nA pA plA dg dla dha dva dza dvf dzf vf nf pf tk su le gr := by rw [eM]; exact hB101.ro
                  clear eM
                  generalize M' = M128 at *
                  show qJ G F _ 8 M128 0 0 80 [(0, .ref r), (1, .int n), (2, .int a), (3, .int b), (4, .int c), (5, .int d), (6, .int e2), (7, .int f)] [.int 0]
                  obtain ⟨z_29r, z_291, z_292, z_293, ⟨z_29x, z_294⟩, z_295, z_296, z_297, z_298, z_299, z_2910⟩ := id hB128
                  refine q_if_eq X 84 dX13_begin_80 (by decide) (fun c_30 => ?_) (fun c_30 => absurd (by decide) c_30)
                  exact absurd (by unfold sp_begin; rw [if_neg (be_nb hW.1.2.2.2.2.2.2.1 c6), if_neg c25, if_neg c30, if_neg c38, if_neg (fun z => c53 z.2), if_neg (fun z => c68 z.2)]; rfl) hf
                · refine q_iconst (v := 1) X dX13_begin_71 (by decide) ?_
                  refine q_goto X 76 dX13_begin_72 (by decide) ?_
                  refine q_iconst (v := 1) X dX13_begin_76 (by decide) ?_
                  refine q_callV X (c_fails1 (why := 1) hB101.1) Y_X13_fails tw_1246 tw_1248 sel_23 z_2r rfl (by omega) rfl rfl (Nat.le_of_ble_eq_true rfl) (rc' := 0) (rs' := 0) (by omega) (by omega) dX13_begin_77 (fun v M' hp _ => ?_)
                  obtain ⟨rfl, eM⟩ := hp
                  have hB131 : rfB G M' r 1 σ vA nA pA plA dg dla dha dva dza dvf dzf vf nf pf tk su le gr := by rw [eM]; exact hB101.ro
                  clear eM
                  generalize M' = M131 at *
                  show qJ G F _ 8 M131 0 0 80 [(0, .ref r), (1, .int n), (2, .int a), (3, .int b), (4, .int c), (5, .int d), (6, .int e2), (7, .int f)] [.int 1]
                  obtain ⟨z_32r, z_321, z_322, z_323, ⟨z_32x, z_324⟩, z_325, z_326, z_327, z_328, z_329, z_3210⟩ := id hB131
                  refine q_if_eq X 84 dX13_begin_80 (by decide) (fun c_33 => absurd c_33 (by decide)) (fun c_33 => ?_)
                  exact q_vret X hr dX13_begin_83 (rfP_T (by unfold sp_begin; rw [if_neg (be_nb hW.1.2.2.2.2.2.2.1 c6), if_neg c25, if_neg c30, if_neg c38, if_neg (fun z => c53 z.2), if_pos ⟨be_n2 c58, c68⟩]) cBe_IA ⟨vA, nA, pA, plA, dg, dla, dha, dva, dza, dvf, dzf, vf, nf, pf, tk, su, le, gr, hB131⟩)
  · refine q_iconst (v := 1) X dX13_begin_9 (by decide) ?_
    refine q_goto X 14 dX13_begin_10 (by decide) ?_
    refine q_iconst (v := 2) X dX13_begin_14 (by decide) ?_
    refine q_callV X (c_fails1 (why := 2) hB.1) Y_X13_fails tw_1246 tw_1248 sel_23 hB.1 rfl (by omega) rfl rfl (Nat.le_of_ble_eq_true rfl) (rc' := 0) (rs' := 0) (by omega) (by omega) dX13_begin_15 (fun v M' hp _ => ?_)
    obtain ⟨rfl, eM⟩ := hp
    have hB134 : rfB G M' r 2 σ vA nA pA plA dg dla dha dva dza dvf dzf vf nf pf tk su le gr := by rw [eM]; exact hB.ro
    clear eM
    generalize M' = M134 at *
    show qJ G F _ 8 M134 0 0 18 [(0, .ref r), (1, .int n), (2, .int a), (3, .int b), (4, .int c), (5, .int d), (6, .int e2), (7, .int f)] [.int 1]
    obtain ⟨z_35r, z_351, z_352, z_353, ⟨z_35x, z_354⟩, z_355, z_356, z_357, z_358, z_359, z_3510⟩ := id hB134
    refine q_if_eq X 22 dX13_begin_18 (by decide) (fun c_36 => absurd c_36 (by decide)) (fun c_36 => ?_)
    exact q_vret X hr dX13_begin_21 (rfP_T (by unfold sp_begin; rw [if_pos (be_bg c6)]) cBe_IS ⟨vA, nA, pA, plA, dg, dla, dha, dva, dza, dvf, dzf, vf, nf, pf, tk, su, le, gr, hB134⟩)

set_option maxRecDepth 20000 in
theorem h_commit_n {l : Launch} {G : gV} {g ou : Nat} {σ : sA} {MV : gMem} {f0 : Nat → Int64} (hl : l.stackTraces = false) (hV : isGV G MV g σ) (hou : MV ou = none) (h41 : ¬ (aV σ).length < 41) : hC l G yL_commit cL_commit 3 (some .int) [(0, 8, 11, 21)] 201 1 6 [.ref g, .ref ou] (pU MV (mO G ou f0)) (hlP G g ou cOne hvI (sp_commit σ)) := by
  refine hC_of (by decide +kernel) (Nat.le_of_ble_eq_true rfl) (fun F hF X hT hr => ?_)
  subst hF
  have X : qX G F cL_commit 3 RL 201 := X
  have hT : (fc F).exceptionTable.toList = [⟨0, 8, 11, 21⟩] := hT
  obtain ⟨vl, nl, kl, fr, dk, hG⟩ : ∃ vl nl kl fr dk : Nat, MV g = some (oB 11 [.ref vl, .ref nl, .ref kl, .ref fr, .ref dk, .int (nI (aOf σ)), .int (nI (aBg σ))]) := by obtain ⟨vl, nl, kl, fr, dk, _, _, _, _, _, _, _, _, _, hB⟩ := hV; exact ⟨vl, nl, kl, fr, dk, hB.1⟩
  show qJ G F _ 3 (pU MV (mO G ou f0)) 1 6 0 [(0, .ref g), (1, .ref ou)] []
  refine q_aload_n X dL_commit_0 1 rfl ?_
  refine q_iconst (v := 0) X dL_commit_1 (by decide) ?_
  refine q_aload_n X dL_commit_2 0 rfl ?_
  refine x_callVF X (Mc := MV) (c_commit_n hl hV h41) pU_l Y_X11_commit tw_466 tw_467 tw_468 (pU_l _ _ hG) rfl (by omega) rfl rfl (Nat.le_of_ble_eq_true rfl) (rc' := 0) (rs' := 0) (Nat.le_of_eq (Nat.zero_add _)) (Nat.le_of_eq (Nat.zero_add _)) dL_commit_3 (fun v M' hp hm => ?_) (fun E M' hx hm => ?_)
  · obtain ⟨ho1, hv1, hV2⟩ := hp
    obtain ⟨n9, hn9⟩ := vi_commit ho1
    rw [hn9] at hv1
    subst hv1
    have hv1 := hn9.symm
    obtain ⟨eM, hd⟩ := mJ_pU (mO_d hou) hm
    rw [eM]
    have hou2 := mO_no hd
    show qJ G F _ 3 (pU M' (mO G ou f0)) 0 0 6 [(0, .ref g), (1, .ref ou)] [.int n9, .int 0, .ref ou]
    refine q_i2l X dL_commit_6 ?_
    refine q_lastN X 0 (pU_ou hou2) (rfl) (by decide) (by decide) dL_commit_7 ?_
    have m_1 : (mU (pU M' (mO G ou f0)) ou (aJ G 1 (vp_updL f0 0 n9.toInt64))) ou = some (aJ G 1 (vp_updL f0 0 n9.toInt64)) := mU_s
    refine q_goto X 14 dL_commit_8 (by decide) ?_
    refine q_iconst (v := 0) X dL_commit_14 (by decide) ?_
    exact q_iret X hr dL_commit_15 (⟨M', vp_updL f0 0 n9.toInt64, pU_up hou2, hou2, hV2, Or.inl ⟨ho1, rfl, n9, hv1.symm, updL_s⟩⟩)
  · obtain ⟨ho1, hV2⟩ := hx
    obtain ⟨eM, hd⟩ := mJ_pU (mO_d hou) hm
    rw [eM]
    have hou2 := mO_no hd
    have hE := x_commit E ho1
    simp only [List.mem_cons, List.not_mem_nil, or_false] at hE
    subst hE
    refine t_catch X [] ⟨0, 8, 11, 21⟩ [] hT (fun z hz => by cases hz) (by decide) (by decide) tw_402 tn_414 (fun q9 => ?_)
    show qJ G F _ 3 (pU M' (mO G ou f0)) 0 0 11 [(0, .ref g), (1, .ref ou)] [.ref q9]
    refine q_astore_n (lv' := [(2, .ref q9), (0, .ref g), (1, .ref ou)]) X dL_commit_11 (by decide) rfl ?_
    refine q_iconst (v := 1) X dL_commit_12 (by decide) ?_
    exact q_iret X hr dL_commit_13 (⟨M', f0, rfl, hou2, hV2, Or.inr ⟨_, ho1, congrArg (fun z => some (Value.int z)) (show (1 : Int32) = cOne eIO by decide)⟩⟩)

set_option maxRecDepth 20000 in
theorem h_begin_n {l : Launch} {G : gV} {g ou : Nat} {σ : sA} {MV : gMem} {f0 : Nat → Int64} (hl : l.stackTraces = false) (hV : isGV G MV g σ) (hou : MV ou = none) {p0 p1 p2 p3 p4 p5 p6 : Int32} (hf : (sp_begin σ p0 p1 p2 p3 p4 p5 p6).1 ≠ none) : hC l G yL_begin cL_begin 9 (some .int) [(0, 15, 18, 13), (0, 15, 22, 15)] 201 3 18 [.ref g, .int p0, .int p1, .int p2, .int p3, .int p4, .int p5, .int p6] (pU MV (mO G ou f0)) (hlP G g ou cBe hv0 (sp_begin σ p0 p1 p2 p3 p4 p5 p6)) := by
  refine hC_of (by decide +kernel) (Nat.le_of_ble_eq_true rfl) (fun F hF X hT hr => ?_)
  subst hF
  have X : qX G F cL_begin 9 RL 201 := X
  have hT : (fc F).exceptionTable.toList = [⟨0, 15, 18, 13⟩, ⟨0, 15, 22, 15⟩] := hT
  obtain ⟨vl, nl, kl, fr, dk, hG⟩ : ∃ vl nl kl fr dk : Nat, MV g = some (oB 11 [.ref vl, .ref nl, .ref kl, .ref fr, .ref dk, .int (nI (aOf σ)), .int (nI (aBg σ))]) := by obtain ⟨vl, nl, kl, fr, dk, _, _, _, _, _, _, _, _, _, hB⟩ := hV; exact ⟨vl, nl, kl, fr, dk, hB.1⟩
  show qJ G F _ 9 (pU MV (mO G ou f0)) 3 18 0 [(0, .ref g), (1, .int p0), (2, .int p1), (3, .int p2), (4, .int p3), (5, .int p4), (6, .int p5), (7, .int p6)] []
  refine q_aload_n X dL_begin_0 0 rfl ?_
  refine q_iload_n X dL_begin_1 1 rfl ?_
  refine q_iload_n X dL_begin_2 2 rfl ?_
  refine q_iload_n X dL_begin_3 3 rfl ?_
  refine q_iload X dL_begin_4 4 rfl ?_
  refine q_iload X dL_begin_6 5 rfl ?_
  refine q_iload X dL_begin_8 6 rfl ?_
  refine q_iload X dL_begin_10 7 rfl ?_
  refine x_callVF X (Mc := MV) (c_begin_n hl hV hf) pU_l Y_X11_begin tw_304 tw_305 tw_306 (pU_l _ _ hG) rfl (by omega) rfl rfl (Nat.le_of_ble_eq_true rfl) (rc' := 0) (rs' := 0) (Nat.le_of_eq (Nat.zero_add _)) (Nat.le_of_eq (Nat.zero_add _)) dL_begin_12 (fun v M' hp hm => ?_) (fun E M' hx hm => ?_)
  · obtain ⟨ho1, hv1, hV2⟩ := hp
    obtain ⟨eM, hd⟩ := mJ_pU (mO_d hou) hm
    rw [eM]
    have hou2 := mO_no hd
    have hv2 : v = none := hv1.trans (vn_begin ho1)
    subst hv2
    show qJ G F _ 9 (pU M' (mO G ou f0)) 0 0 15 [(0, .ref g), (1, .int p0), (2, .int p1), (3, .int p2), (4, .int p3), (5, .int p4), (6, .int p5), (7, .int p6)] []
    refine q_goto X 26 dL_begin_15 (by decide) ?_
    refine q_iconst (v := 0) X dL_begin_26 (by decide) ?_
    exact q_iret X hr dL_begin_27 (⟨M', f0, rfl, hou2, hV2, Or.inl ⟨ho1, rfl, trivial⟩⟩)
  · obtain ⟨ho1, hV2⟩ := hx
    obtain ⟨eM, hd⟩ := mJ_pU (mO_d hou) hm
    rw [eM]
    have hou2 := mO_no hd
    have hE := x_begin E ho1
    simp only [List.mem_cons, List.not_mem_nil, or_false] at hE
    rcases hE with rfl | rfl
    · refine t_catch X [⟨0, 15, 18, 13⟩] ⟨0, 15, 22, 15⟩ [] hT (fun z hz => by simp only [List.mem_cons, List.not_mem_nil, or_false] at hz; subst hz; exact Or.inr ⟨by decide, _, tw_302, nc_of X (fun b hn => (ca_r (ca_r (ca_r (ca_l (ca_r (ca_l (ca_l (ca_l (ca_l (ca_r hn)))))))))))⟩) (by decide) (by decide) tw_303 tn_310 (fun q9 => ?_)
      show qJ G F _ 9 (pU M' (mO G ou f0)) 0 0 22 [(0, .ref g), (1, .int p0), (2, .int p1), (3, .int p2), (4, .int p3), (5, .int p4), (6, .int p5), (7, .int p6)] [.ref q9]
      refine q_astore (lv' := [(8, .ref q9), (0, .ref g), (1, .int p0), (2, .int p1), (3, .int p2), (4, .int p3), (5, .int p4), (6, .int p5), (7, .int p6)]) X dL_begin_22 (by decide) rfl ?_
      refine q_iconst (v := 2) X dL_begin_24 (by decide) ?_
      exact q_iret X hr dL_begin_25 (⟨M', f0, rfl, hou2, hV2, Or.inr ⟨_, ho1, congrArg (fun z => some (Value.int z)) (show (2 : Int32) = cBe eIS by decide)⟩⟩)
    · refine t_catch X [] ⟨0, 15, 18, 13⟩ [⟨0, 15, 22, 15⟩] hT (fun z hz => by cases hz) (by decide) (by decide) tw_302 tn_382 (fun q9 => ?_)
      show qJ G F _ 9 (pU M' (mO G ou f0)) 0 0 18 [(0, .ref g), (1, .int p0), (2, .int p1), (3, .int p2), (4, .int p3), (5, .int p4), (6, .int p5), (7, .int p6)] [.ref q9]
      refine q_astore (lv' := [(8, .ref q9), (0, .ref g), (1, .int p0), (2, .int p1), (3, .int p2), (4, .int p3), (5, .int p4), (6, .int p5), (7, .int p6)]) X dL_begin_18 (by decide) rfl ?_
      refine q_iconst (v := 1) X dL_begin_20 (by decide) ?_
      exact q_iret X hr dL_begin_21 (⟨M', f0, rfl, hou2, hV2, Or.inr ⟨_, ho1, congrArg (fun z => some (Value.int z)) (show (1 : Int32) = cBe eIA by decide)⟩⟩)
