/-! OPERATORS: join, product, gather, regrid, window -/
theorem mx_lt {a b : Nat} (ha : a ≤ 40) (hb : b ≤ 40) (h : mxI (nI a) (nI b) < 40) : max a b < 40 := by
  rw [Int32.lt_iff_toInt_lt, mxI_t, nI_toInt (by omega), nI_toInt (by omega)] at h
  have : (40 : Int32).toInt = 40 := by decide
  omega

set_option maxRecDepth 20000 in
theorem c_join {l : Launch} {G : gV} {M : gMem} {g : Nat} {σ : sA} (hl : l.stackTraces = false) (h : isGV G M g σ) {a b op : Int32} : xC l G yX11_join cX11_join 7 (some .int) 10 19 2440 [.ref g, .int a, .int b, .int op] M (gzI G g (sp_join σ a b op)) (gzE G g (sp_join σ a b op)) := by
  refine xC_of (by decide +kernel) (Nat.le_of_ble_eq_true rfl) (fun F hF X hN hr hn => ?_)
  subst hF
  have X : qX G F cX11_join 7 RX11 10 := X
  obtain ⟨vl, nl, kl, fr, dk, dn, dm, ev, en, ek, vs, ns, ks, N, hB⟩ := id h
  obtain ⟨b1, b2, b3, b4, b5, b6, b7, b8, b9, b10, b11, b12⟩ := id hB
  have hG : M g = some (oB 11 [.ref vl, .ref nl, .ref kl, .ref fr, .ref dk, .int (nI (aOf σ)), .int (nI (aBg σ))]) := b1
  obtain ⟨sb, sc, sd, sp, s1, -⟩ := id b2
  obtain ⟨cn1, cm1, d1, d2, d3, -⟩ := id b3
  obtain ⟨mvv, vL1⟩ := id b4.2.1
  obtain ⟨mvn, nL1⟩ := id b5.2.1
  obtain ⟨mvk, kL1⟩ := id b6.2.1
  have hvl : vs.length = (aV σ).length := b9.1
  have hnl : ns.length = (aN σ).length := b10.1
  have hz := b12.sz
  have l41 := b12.2.2.2.1
  have l150 := b12.2.2.2.2.1
  have lof := b12.2.2.2.2.2.1
  show qJ G F _ 7 M 19 2440 0 [(0, .ref g), (1, .int a), (2, .int b), (3, .int op)] []
  refine q_aload_n X dX11_join_0 0 rfl ?_
  refine x_callV X (c_needRoom hl hG b5) Y_X11_needRoom tw_606 tw_608 sel_9 hG rfl (by omega) rfl rfl (Nat.le_of_ble_eq_true rfl) (rc' := 18) (rs' := 2434) (by omega) (by omega) dX11_join_1 (fun v M' hp _ => ?_) (fun E M' hx => t_out X hN (by obtain ⟨rfl, q, eM⟩ := hx; rw [eM]; rw [hnl] at q; exact gzE_T (gRoom_n (Nat.not_lt.mpr q)) h))
  obtain ⟨rfl, hroom, eM⟩ := hp
  rw [eM]
  clear eM
  have T1 : (aN σ).length < 150 := by rw [← hnl]; exact hroom
  show qJ G F _ 7 M 18 2434 4 [(0, .ref g), (1, .int a), (2, .int b), (3, .int op)] []
  refine q_aload_n X dX11_join_4 0 rfl ?_
  refine q_iload_n X dX11_join_5 1 rfl ?_
  refine x_callV X (c_nodeAt hl hG b5 hB.nodO) Y_X11_nodeAt tw_623 tw_625 sel_11 hG rfl (by omega) rfl rfl (Nat.le_of_ble_eq_true rfl) (rc' := 17) (rs' := 2428) (by omega) (by omega) dX11_join_6 (fun v M' hp _ => ?_) (fun E M' hx => t_out X hN (by obtain ⟨rfl, q, eM⟩ := hx; rw [eM]; rw [hnl] at q; exact gzE_T ((gRoom_y T1).trans (gNode_n (ndAt_out (by omega) q))) h))
  obtain ⟨j, s, rfl, hxs, rfl, eM⟩ := hp
  rw [eM]
  clear eM
  obtain ⟨hj150, hSs, hns⟩ := hB.nod hxs
  have Ts := (ndAt_in (σ := σ) (show j < 2 ^ 31 by omega)).trans hns
  have hsts := (b8.1 s hSs).1
  obtain ⟨sbs, scs, sds, sps, shs, -⟩ := id hsts.2.2.1
  show qJ G F _ 7 M 17 2428 9 [(0, .ref g), (1, .int (nI j)), (2, .int b), (3, .int op)] [.ref s]
  refine q_astore (lv' := [(4, .ref s), (0, .ref g), (1, .int (nI j)), (2, .int b), (3, .int op)]) X dX11_join_9 (by decide) rfl ?_
  refine q_aload_n X dX11_join_11 1 rfl ?_
  refine q_iload_n X dX11_join_12 3 rfl ?_
  refine x_callV X (c_nodeAt hl hG b5 hB.nodO) Y_X11_nodeAt tw_623 tw_625 sel_11 hG rfl (by omega) rfl rfl (Nat.le_of_ble_eq_true rfl) (rc' := 16) (rs' := 2422) (by omega) (by omega) dX11_join_13 (fun v M' hp _ => ?_) (fun E M' hx => t_out X hN (by obtain ⟨rfl, q, eM⟩ := hx; rw [eM]; rw [hnl] at q; exact gzE_T ((gRoom_y T1).trans ((gNode_y Ts).trans (gNode_n (ndAt_out (by omega) q)))) h))
  obtain ⟨jb, t, rfl, hxt, rfl, eM⟩ := hp
  rw [eM]
  clear eM
  obtain ⟨hjb150, hSt, hnt⟩ := hB.nod hxt
  have Tt := (ndAt_in (σ := σ) (show jb < 2 ^ 31 by omega)).trans hnt
  have hstt := (b8.1 t hSt).1
  obtain ⟨sbt, sct, sdt, spt, sht, -⟩ := id hstt.2.2.1
  show qJ G F _ 7 M 16 2422 16 [(4, .ref s), (0, .ref g), (1, .int (nI j)), (2, .int (nI jb)), (3, .int op)] [.ref t]
  refine q_astore (lv' := [(5, .ref t), (4, .ref s), (0, .ref g), (1, .int (nI j)), (2, .int (nI jb)), (3, .int op)]) X dX11_join_16 (by decide) rfl ?_
  refine q_iload_n X dX11_join_18 5 rfl ?_
  refine q_if_lt X 32 dX11_join_19 (by decide) (fun c1 => ?_) (fun c1 => ?_)
  · refine q_iconst (v := 0) X dX11_join_32 (by decide) ?_
    exact x_callS X (c_need hl) Y_X11_need tw_377 tw_378 (by omega) rfl rfl (Nat.le_of_ble_eq_true rfl) (rc' := 15) (rs' := 2416) (by omega) (by omega) dX11_join_33 (fun v M' hp _ => absurd rfl hp.2.1) (fun E M' hx => t_out X hN (by obtain ⟨rfl, -, eM⟩ := hx; rw [eM]; exact gzE_T ((gRoom_y T1).trans ((gNode_y Ts).trans ((gNode_y Tt).trans (gNeed_n (fun z => z.1 c1))))) h))
  · refine q_iload_n X dX11_join_22 5 rfl ?_
    refine q_bipush (v := 6) X dX11_join_23 (by decide) ?_
    refine q_icmp_ge X 32 dX11_join_25 (by decide) (fun c2 => ?_) (fun c2 => ?_)
    · refine q_iconst (v := 0) X dX11_join_32 (by decide) ?_
      exact x_callS X (c_need hl) Y_X11_need tw_377 tw_378 (by omega) rfl rfl (Nat.le_of_ble_eq_true rfl) (rc' := 15) (rs' := 2416) (by omega) (by omega) dX11_join_33 (fun v M' hp _ => absurd rfl hp.2.1) (fun E M' hx => t_out X hN (by obtain ⟨rfl, -, eM⟩ := hx; rw [eM]; exact gzE_T ((gRoom_y T1).trans ((gNode_y Ts).trans ((gNode_y Tt).trans (gNeed_n (fun z => z.2 c2))))) h))
    · refine q_iconst (v := 1) X dX11_join_28 (by decide) ?_
      refine q_goto X 33 dX11_join_29 (by decide) ?_
      refine q_callS X (c_need1) Y_X11_need tw_377 tw_378 (by omega) rfl rfl (Nat.le_of_ble_eq_true rfl) (rc' := 16) (rs' := 2422) (by omega) (by omega) dX11_join_33 (fun v M' hp _ => ?_)
      obtain ⟨rfl, eM⟩ := hp
      rw [eM]
      clear eM
      show qJ G F _ 7 M 16 2422 36 [(5, .ref t), (4, .ref s), (0, .ref g), (1, .int (nI j)), (2, .int (nI jb)), (3, .int op)] []
      refine q_aload X dX11_join_36 1 rfl ?_
      refine q_callUp X (x := ⟨"GridVault$Node", "form", "()LGridVault$Shape;"⟩) (owner := "GridVault$Node") (ci := nci N s) (c_X5_form hsts) Y_X5_form tw_628 tw_630 (by decide) rfl (g_decl X tn_1008) tw_629 (se_X5_form hsts.1) hsts.2.1 (by omega) rfl rfl (Nat.le_of_ble_eq_true rfl) dX11_join_38 ?_
      refine q_aload X dX11_join_41 0 rfl ?_
      refine q_callUp X (x := ⟨"GridVault$Node", "form", "()LGridVault$Shape;"⟩) (owner := "GridVault$Node") (ci := nci N t) (c_X5_form hstt) Y_X5_form tw_628 tw_630 (by decide) rfl (g_decl X tn_1008) tw_629 (se_X5_form hstt.1) hstt.2.1 (by omega) rfl rfl (Nat.le_of_ble_eq_true rfl) dX11_join_43 ?_
      refine q_callVp X (c_X7_meets hsts.2.2.1 hstt.2.2.1 rfl hsts.2.2.2.1.2.1) Y_X7_meets tw_789 tw_790 tw_791 shs rfl (by omega) rfl rfl (Nat.le_of_ble_eq_true rfl) dX11_join_46 ?_
      refine x_callS X (c_need hl) Y_X11_need tw_377 tw_378 (by omega) rfl rfl (Nat.le_of_ble_eq_true rfl) (rc' := 15) (rs' := 2416) (by omega) (by omega) dX11_join_49 (fun v M' hp _ => ?_) (fun E M' hx => t_out X hN (by obtain ⟨rfl, hmt, eM⟩ := hx; rw [eM]; exact gzE_T ((gRoom_y T1).trans ((gNode_y Ts).trans ((gNode_y Tt).trans ((gNeed_y ⟨c1, c2⟩).trans (gNeed_n (not_not_intro hmt)))))) h))
      obtain ⟨rfl, hmt, eM⟩ := hp
      rw [eM]
      clear eM
      show qJ G F _ 7 M 15 2416 52 [(5, .ref t), (4, .ref s), (0, .ref g), (1, .int (nI j)), (2, .int (nI jb)), (3, .int op)] []
      obtain ⟨-, hok⟩ := okS_jn hsts.2.2.2.1 hstt.2.2.2.1 hmt
      refine q_aload X dX11_join_52 1 rfl ?_
      refine q_callUp X (x := ⟨"GridVault$Node", "form", "()LGridVault$Shape;"⟩) (owner := "GridVault$Node") (ci := nci N s) (c_X5_form hsts) Y_X5_form tw_628 tw_630 (by decide) rfl (g_decl X tn_1008) tw_629 (se_X5_form hsts.1) hsts.2.1 (by omega) rfl rfl (Nat.le_of_ble_eq_true rfl) dX11_join_54 ?_
      refine q_aload X dX11_join_57 0 rfl ?_
      refine q_callUp X (x := ⟨"GridVault$Node", "form", "()LGridVault$Shape;"⟩) (owner := "GridVault$Node") (ci := nci N t) (c_X5_form hstt) Y_X5_form tw_628 tw_630 (by decide) rfl (g_decl X tn_1008) tw_629 (se_X5_form hstt.1) hstt.2.1 (by omega) rfl rfl (Nat.le_of_ble_eq_true rfl) dX11_join_59 ?_
      refine q_callV X (c_X7_common hsts.2.2.1 hstt.2.2.1) Y_X7_common tw_793 tw_794 tw_795 shs rfl (by omega) rfl rfl (Nat.le_of_ble_eq_true rfl) (rc' := 10) (rs' := 2398) (by omega) (by omega) dX11_join_62 (fun v M' hp _ => ?_)
      obtain ⟨q1, rfl, f1, hS1, x1⟩ := hp
      generalize M' = M1 at *
      show qJ G F _ 7 M1 10 2398 65 [(5, .ref t), (4, .ref s), (0, .ref g), (1, .int (nI j)), (2, .int (nI jb)), (3, .int op)] [.ref q1]
      have hS1 : isShape G M1 q1 (nI (nm N s)) (jnF mxI (nlo N s) (nlo N t)) (jnF mnI (nhi N s) (nhi N t)) := hS1
      have ev1 : mEv (fun _ => False) M M1 := x1.ev
      have hstqs : nStat G M1 N s := nStat_add hsts (nEq.rf N s) ev1
      have hstqt : nStat G M1 N t := nStat_add hstt (nEq.rf N t) ev1
      have hB1 := hB.ev ev1
      obtain ⟨sb1, sc1, sd1, sp1, sh1, -⟩ := id hS1
      refine q_astore (lv' := [(6, .ref q1), (5, .ref t), (4, .ref s), (0, .ref g), (1, .int (nI j)), (2, .int (nI jb)), (3, .int op)]) X dX11_join_65 (by decide) rfl ?_
      refine q_aload X dX11_join_67 0 rfl ?_
      refine q_aload X dX11_join_69 2 rfl ?_
      refine q_callUp X (x := ⟨"GridVault$Node", "depth", "()I"⟩) (owner := "GridVault$Node") (ci := nci N s) (c_X5_depth hstqs) Y_X5_depth tw_658 tw_660 (by decide) rfl (g_declC X tw_659 tw_667) tw_659 (se_X5_depth hstqs.1) hstqs.2.1 (by omega) rfl rfl (Nat.le_of_ble_eq_true rfl) dX11_join_71 ?_
      refine q_aload X dX11_join_74 1 rfl ?_
      refine q_callUp X (x := ⟨"GridVault$Node", "depth", "()I"⟩) (owner := "GridVault$Node") (ci := nci N t) (c_X5_depth hstqt) Y_X5_depth tw_658 tw_660 (by decide) rfl (g_declC X tw_659 tw_667) tw_659 (se_X5_depth hstqt.1) hstqt.2.1 (by omega) rfl rfl (Nat.le_of_ble_eq_true rfl) dX11_join_76 ?_
      refine q_callSp X (c_J9_max_7cf53) Y_J9_max_7cf53 tw_798 tw_123 (by omega) rfl rfl (Nat.le_of_ble_eq_true rfl) dX11_join_79 ?_
      refine x_callS X (c_needLimits hl hS1) Y_X11_needLimits tw_668 tw_669 (by omega) rfl rfl (Nat.le_of_ble_eq_true rfl) (rc' := 9) (rs' := 2392) (by omega) (by omega) dX11_join_82 (fun v M' hp _ => ?_) (fun E M' hx => t_out X hN (by obtain ⟨rfl, q, eM⟩ := hx; rw [eM]; exact gzE_T ((gRoom_y T1).trans ((gNode_y Ts).trans ((gNode_y Tt).trans ((gNeed_y ⟨c1, c2⟩).trans ((gNeed_y hmt).trans (gLim_n q)))))) ⟨vl, nl, kl, fr, dk, dn, dm, ev, en, ek, vs, ns, ks, N, hB1⟩))
      obtain ⟨rfl, hlim, eM⟩ := hp
      rw [eM]
      clear eM
      show qJ G F _ 7 M1 9 2392 85 [(6, .ref q1), (5, .ref t), (4, .ref s), (0, .ref g), (1, .int (nI j)), (2, .int (nI jb)), (3, .int op)] []
      have hw := within_ok hok hlim.1
      have hdp := mx_lt hsts.2.2.2.2.2.2.1 hstt.2.2.2.2.2.2.1 hlim.2
      have hml := Nat.le_max_left (ndp N s) (ndp N t)
      have hmr := Nat.le_max_right (ndp N s) (ndp N t)
      refine q_aload_n X dX11_join_85 3 rfl ?_
      refine q_new X (ci := 5) rfl in_RX4 tyX4 tyX4_ok tw_799 tw_800 tw_28 (fs0 := [.null, .int 0, .null, .null, .null, .null, .int 0]) (fun j hj => by rcases (show j = 0 ∨ j = 1 ∨ j = 2 ∨ j = 3 ∨ j = 4 ∨ j = 5 ∨ j = 6 by omega) with rfl | rfl | rfl | rfl | rfl | rfl | rfl <;> rfl) (rc' := 8) (rs' := 2385) (by omega) (by omega) dX11_join_86 (fun q fq => ?_)
      have m_1 : (mU M1 q (oB 5 [.null, .int 0, .null, .null, .null, .null, .int 0])) q = some (oB 5 [.null, .int 0, .null, .null, .null, .null, .int 0]) := mU_s
      refine q_dup X dX11_join_89 rfl ?_
      refine q_aload X dX11_join_90 0 rfl ?_
      refine q_aload X dX11_join_92 2 rfl ?_
      refine q_aload X dX11_join_94 1 rfl ?_
      refine q_iload_n X dX11_join_96 6 rfl ?_
      have nq : M q = none := ev1.none fq
      have evp : mEv (fun _ => False) M (mU M1 q (oB 5 [.null, .int 0, .null, .null, .null, .null, .int 0])) := ev1.trans (mEv_new fq)
      have hstps : nStat G (mU M1 q (oB 5 [.null, .int 0, .null, .null, .null, .null, .int 0])) N s := nStat_add hsts (nEq.rf N s) evp
      have hstpt : nStat G (mU M1 q (oB 5 [.null, .int 0, .null, .null, .null, .null, .int 0])) N t := nStat_add hstt (nEq.rf N t) evp
      have hSp : isShape G (mU M1 q (oB 5 [.null, .int 0, .null, .null, .null, .null, .int 0])) q1 (nI (nm N s)) (jnF mxI (nlo N s) (nlo N t)) (jnF mnI (nhi N s) (nhi N t)) := hS1.ext (mExt_new fq)
      have hqA : (mU M1 q (oB 5 [.null, .int 0, .null, .null, .null, .null, .int 0])) q = some (oB 5 [.null, .int 0, .null, .null, .null, .null, .int 0]) := m_1
      have h150 := hroom
      refine q_callI X (c_X4_init hSp hok (by omega) hstps hstpt hqA) Y_X4_init tw_801 tw_802 rfl (by omega) rfl rfl (Nat.le_of_ble_eq_true rfl) (rc' := 4) (rs' := 271) (by omega) (by omega) dX11_join_97 (fun v M' hp _ => ?_)
      obtain ⟨rfl, cl, nb, mb, aa, i1, i2, i3, i4, i5, i6, i7, i8, i9, i10⟩ := hp
      generalize M' = M5 at *
      show qJ G F _ 7 M5 4 271 100 [(6, .ref q1), (5, .ref t), (4, .ref s), (0, .ref g), (1, .int (nI j)), (2, .int (nI jb)), (3, .int op)] [.ref q, .ref g]
      have ev5 : mEv (fun _ => False) M M5 := fun x hx => by
        have n : x ≠ q := fun z => hx (z ▸ nq)
        have e1 := evp x hx
        have e := i10 x n e1.1
        exact ⟨by rw [e]; exact e1.1, fun k => e.trans (e1.2 k)⟩
      obtain ⟨N2, hB2, hSq, hvq⟩ := hB.made (ta := 0) (den := joD (nVal N s) (nVal N t) (jnF mxI (nlo N s) (nlo N t)) (jnF mnI (nhi N s) (nhi N t)) op) nq (evp.none i5) (evp.none i6) (evp.none i7) (fun z => absurd z (by decide)) ev5 (by unfold isNC; omega) (by decide) i1 (hSp.mv (fun x hx => i10 x (fun z => by rw [z, hqA] at hx; rcases hx with ⟨_, h⟩ | ⟨_, h⟩ <;> cases h) (by rcases hx with ⟨_, h⟩ | ⟨_, h⟩ <;> exact g_so h))) hok (by omega) (by omega) (by omega) i2 i3 i8 i9
        (fun N3 hS3 k1 k2 k3 k4 k5 k6 k7 k8 => kd_join (lo := jnF mxI (nlo N s) (nlo N t)) (hi := jnF mnI (nhi N s) (nhi N t)) k1 k2 k3 k4 k7 (hS3 s hSs).1 (hS3 s hSs).2.1 (by rw [(hS3 s hSs).2.2, k5]; omega) (hS3 t hSt).1 (hS3 t hSt).2.1 (by rw [(hS3 t hSt).2.2, k5]; omega))
      have hG2 : M5 g = some (oB 11 [.ref vl, .ref nl, .ref kl, .ref fr, .ref dk, .int (nI (aOf σ)), .int (nI (aBg σ))]) := hB2.1
      refine q_da X (fun hda5 => ?_)
      refine q_callV X (c_keep hG2 hB2.2.2.2.2.1 (hB2.2.2.2.2.2.2.2.1.1 q hSq).1 (fun y hy => by obtain ⟨i, hi⟩ := List.getElem?_of_mem hy; exact (hB2.2.2.2.2.2.2.2.1.1 y (hB2.nod hi).2.1).1) h150) Y_X11_keep tw_611 tw_613 sel_10 hG2 rfl (by omega) rfl rfl (Nat.le_of_ble_eq_true rfl) (rc' := 3) (rs' := 38) (by omega) (by omega) dX11_join_100 (fun v M' hp _ => ?_)
      obtain ⟨rfl, hlp⟩ := hp
      generalize M' = M6 at *
      show qJ G F _ 7 M6 3 38 103 [(6, .ref q1), (5, .ref t), (4, .ref s), (0, .ref g), (1, .int (nI j)), (2, .int (nI jb)), (3, .int op)] [.int (nI ns.length)]
      have hfin := hB2.pushN hda5 hlp hSq h150
      rw [hvq] at hfin
      exact x_ret (q_iret X hr dX11_join_103 (⟨⟨_, rfl⟩, gzP_K (by rw [hnl]; exact (gRoom_y T1).trans ((gNode_y Ts).trans ((gNode_y Tt).trans ((gNeed_y ⟨c1, c2⟩).trans ((gNeed_y hmt).trans (gLim_y hlim)))))) hfin⟩))

set_option maxRecDepth 20000 in
theorem c_product {l : Launch} {G : gV} {M : gMem} {g : Nat} {σ : sA} (hl : l.stackTraces = false) (h : isGV G M g σ) {a b : Int32} : xC l G yX11_product cX11_product 6 (some .int) 10 19 2440 [.ref g, .int a, .int b] M (gzI G g (sp_product σ a b)) (gzE G g (sp_product σ a b)) := by
  refine xC_of (by decide +kernel) (Nat.le_of_ble_eq_true rfl) (fun F hF X hN hr hn => ?_)
  subst hF
  have X : qX G F cX11_product 6 RX11 10 := X
  obtain ⟨vl, nl, kl, fr, dk, dn, dm, ev, en, ek, vs, ns, ks, N, hB⟩ := id h
  obtain ⟨b1, b2, b3, b4, b5, b6, b7, b8, b9, b10, b11, b12⟩ := id hB
  have hG : M g = some (oB 11 [.ref vl, .ref nl, .ref kl, .ref fr, .ref dk, .int (nI (aOf σ)), .int (nI (aBg σ))]) := b1
  obtain ⟨sb, sc, sd, sp, s1, -⟩ := id b2
  obtain ⟨cn1, cm1, d1, d2, d3, -⟩ := id b3
  obtain ⟨mvv, vL1⟩ := id b4.2.1
  obtain ⟨mvn, nL1⟩ := id b5.2.1
  obtain ⟨mvk, kL1⟩ := id b6.2.1
  have hvl : vs.length = (aV σ).length := b9.1
  have hnl : ns.length = (aN σ).length := b10.1
  have hz := b12.sz
  have l41 := b12.2.2.2.1
  have l150 := b12.2.2.2.2.1
  have lof := b12.2.2.2.2.2.1
  show qJ G F _ 6 M 19 2440 0 [(0, .ref g), (1, .int a), (2, .int b)] []
  refine q_aload_n X dX11_product_0 0 rfl ?_
  refine x_callV X (c_needRoom hl hG b5) Y_X11_needRoom tw_606 tw_608 sel_9 hG rfl (by omega) rfl rfl (Nat.le_of_ble_eq_true rfl) (rc' := 18) (rs' := 2434) (by omega) (by omega) dX11_product_1 (fun v M' hp _ => ?_) (fun E M' hx => t_out X hN (by obtain ⟨rfl, q, eM⟩ := hx; rw [eM]; rw [hnl] at q; exact gzE_T (gRoom_n (Nat.not_lt.mpr q)) h))
  obtain ⟨rfl, hroom, eM⟩ := hp
  rw [eM]
  clear eM
  have T1 : (aN σ).length < 150 := by rw [← hnl]; exact hroom
  show qJ G F _ 6 M 18 2434 4 [(0, .ref g), (1, .int a), (2, .int b)] []
  refine q_aload_n X dX11_product_4 0 rfl ?_
  refine q_iload_n X dX11_product_5 1 rfl ?_
  refine x_callV X (c_nodeAt hl hG b5 hB.nodO) Y_X11_nodeAt tw_623 tw_625 sel_11 hG rfl (by omega) rfl rfl (Nat.le_of_ble_eq_true rfl) (rc' := 17) (rs' := 2428) (by omega) (by omega) dX11_product_6 (fun v M' hp _ => ?_) (fun E M' hx => t_out X hN (by obtain ⟨rfl, q, eM⟩ := hx; rw [eM]; rw [hnl] at q; exact gzE_T ((gRoom_y T1).trans (gNode_n (ndAt_out (by omega) q))) h))
  obtain ⟨j, s, rfl, hxs, rfl, eM⟩ := hp
  rw [eM]
  clear eM
  obtain ⟨hj150, hSs, hns⟩ := hB.nod hxs
  have Ts := (ndAt_in (σ := σ) (show j < 2 ^ 31 by omega)).trans hns
  have hsts := (b8.1 s hSs).1
  obtain ⟨sbs, scs, sds, sps, shs, -⟩ := id hsts.2.2.1
  show qJ G F _ 6 M 17 2428 9 [(0, .ref g), (1, .int (nI j)), (2, .int b)] [.ref s]
  refine q_astore_n (lv' := [(3, .ref s), (0, .ref g), (1, .int (nI j)), (2, .int b)]) X dX11_product_9 (by decide) rfl ?_
  refine q_aload_n X dX11_product_10 1 rfl ?_
  refine q_iload_n X dX11_product_11 3 rfl ?_
  refine x_callV X (c_nodeAt hl hG b5 hB.nodO) Y_X11_nodeAt tw_623 tw_625 sel_11 hG rfl (by omega) rfl rfl (Nat.le_of_ble_eq_true rfl) (rc' := 16) (rs' := 2422) (by omega) (by omega) dX11_product_12 (fun v M' hp _ => ?_) (fun E M' hx => t_out X hN (by obtain ⟨rfl, q, eM⟩ := hx; rw [eM]; rw [hnl] at q; exact gzE_T ((gRoom_y T1).trans ((gNode_y Ts).trans (gNode_n (ndAt_out (by omega) q)))) h))
  obtain ⟨jb, t, rfl, hxt, rfl, eM⟩ := hp
  rw [eM]
  clear eM
  obtain ⟨hjb150, hSt, hnt⟩ := hB.nod hxt
  have Tt := (ndAt_in (σ := σ) (show jb < 2 ^ 31 by omega)).trans hnt
  have hstt := (b8.1 t hSt).1
  obtain ⟨sbt, sct, sdt, spt, sht, -⟩ := id hstt.2.2.1
  show qJ G F _ 6 M 16 2422 15 [(3, .ref s), (0, .ref g), (1, .int (nI j)), (2, .int (nI jb))] [.ref t]
  refine q_astore (lv' := [(4, .ref t), (3, .ref s), (0, .ref g), (1, .int (nI j)), (2, .int (nI jb))]) X dX11_product_15 (by decide) rfl ?_
  refine q_aload_n X dX11_product_17 1 rfl ?_
  refine q_callUp X (x := ⟨"GridVault$Node", "form", "()LGridVault$Shape;"⟩) (owner := "GridVault$Node") (ci := nci N s) (c_X5_form hsts) Y_X5_form tw_628 tw_630 (by decide) rfl (g_decl X tn_1008) tw_629 (se_X5_form hsts.1) hsts.2.1 (by omega) rfl rfl (Nat.le_of_ble_eq_true rfl) dX11_product_18 ?_
  refine q_callVp X (c_X7_dimensions hsts.2.2.1) Y_X7_dimensions tw_722 tw_723 tw_724 shs rfl (by omega) rfl rfl (Nat.le_of_ble_eq_true rfl) dX11_product_21 ?_
  refine q_iconst (v := 2) X dX11_product_24 (by decide) ?_
  refine q_icmp_ne X 44 dX11_product_25 (by decide) (fun c1 => ?_) (fun c1 => ?_)
  · refine q_iconst (v := 0) X dX11_product_44 (by decide) ?_
    exact x_callS X (c_need hl) Y_X11_need tw_377 tw_378 (by omega) rfl rfl (Nat.le_of_ble_eq_true rfl) (rc' := 15) (rs' := 2416) (by omega) (by omega) dX11_product_45 (fun v M' hp _ => absurd rfl hp.2.1) (fun E M' hx => t_out X hN (by obtain ⟨rfl, -, eM⟩ := hx; rw [eM]; exact gzE_T ((gRoom_y T1).trans ((gNode_y Ts).trans ((gNode_y Tt).trans (gNeed_n (fun z => c1 z.1))))) h))
  · refine q_aload X dX11_product_28 0 rfl ?_
    refine q_callUp X (x := ⟨"GridVault$Node", "form", "()LGridVault$Shape;"⟩) (owner := "GridVault$Node") (ci := nci N t) (c_X5_form hstt) Y_X5_form tw_628 tw_630 (by decide) rfl (g_decl X tn_1008) tw_629 (se_X5_form hstt.1) hstt.2.1 (by omega) rfl rfl (Nat.le_of_ble_eq_true rfl) dX11_product_30 ?_
    refine q_callVp X (c_X7_dimensions hstt.2.2.1) Y_X7_dimensions tw_722 tw_723 tw_724 sht rfl (by omega) rfl rfl (Nat.le_of_ble_eq_true rfl) dX11_product_33 ?_
    refine q_iconst (v := 2) X dX11_product_36 (by decide) ?_
    refine q_icmp_ne X 44 dX11_product_37 (by decide) (fun c2 => ?_) (fun c2 => ?_)
    · refine q_iconst (v := 0) X dX11_product_44 (by decide) ?_
      exact x_callS X (c_need hl) Y_X11_need tw_377 tw_378 (by omega) rfl rfl (Nat.le_of_ble_eq_true rfl) (rc' := 15) (rs' := 2416) (by omega) (by omega) dX11_product_45 (fun v M' hp _ => absurd rfl hp.2.1) (fun E M' hx => t_out X hN (by obtain ⟨rfl, -, eM⟩ := hx; rw [eM]; exact gzE_T ((gRoom_y T1).trans ((gNode_y Ts).trans ((gNode_y Tt).trans (gNeed_n (fun z => c2 z.2))))) h))
    · refine q_iconst (v := 1) X dX11_product_40 (by decide) ?_
      refine q_goto X 45 dX11_product_41 (by decide) ?_
      refine q_callS X (c_need1) Y_X11_need tw_377 tw_378 (by omega) rfl rfl (Nat.le_of_ble_eq_true rfl) (rc' := 16) (rs' := 2422) (by omega) (by omega) dX11_product_45 (fun v M' hp _ => ?_)
      obtain ⟨rfl, eM⟩ := hp
      rw [eM]
      clear eM
      show qJ G F _ 6 M 16 2422 48 [(4, .ref t), (3, .ref s), (0, .ref g), (1, .int (nI j)), (2, .int (nI jb))] []
      have hm2 : nm N s = 2 := nI_inj (by have := hsts.2.2.2.1.2.1; omega) (by decide) c1
      have hok := okS_pr hsts.2.2.2.1 hstt.2.2.2.1 (show 2 ≤ nm N s by omega)
      have hpk := pK_ok (w := nVal N s) (u := nVal N t) hsts.2.2.2.1 hstt.2.2.2.1
      refine q_aload_n X dX11_product_48 1 rfl ?_
      refine q_callUp X (x := ⟨"GridVault$Node", "form", "()LGridVault$Shape;"⟩) (owner := "GridVault$Node") (ci := nci N s) (c_X5_form hsts) Y_X5_form tw_628 tw_630 (by decide) rfl (g_decl X tn_1008) tw_629 (se_X5_form hsts.1) hsts.2.1 (by omega) rfl rfl (Nat.le_of_ble_eq_true rfl) dX11_product_49 ?_
      refine q_iconst (v := 1) X dX11_product_52 (by decide) ?_
      refine q_aload X dX11_product_53 0 rfl ?_
      refine q_callUp X (x := ⟨"GridVault$Node", "form", "()LGridVault$Shape;"⟩) (owner := "GridVault$Node") (ci := nci N t) (c_X5_form hstt) Y_X5_form tw_628 tw_630 (by decide) rfl (g_decl X tn_1008) tw_629 (se_X5_form hstt.1) hstt.2.1 (by omega) rfl rfl (Nat.le_of_ble_eq_true rfl) dX11_product_55 ?_
      refine q_iconst (v := 1) X dX11_product_58 (by decide) ?_
      refine q_callVp X (c_X7_lowN hstt.2.2.1.lh 1 (by decide) (by decide)) Y_X7_low tw_250 tw_77 tw_78 sht rfl (by omega) rfl rfl (Nat.le_of_ble_eq_true rfl) dX11_product_59 ?_
      refine q_aload X dX11_product_62 0 rfl ?_
      refine q_callUp X (x := ⟨"GridVault$Node", "form", "()LGridVault$Shape;"⟩) (owner := "GridVault$Node") (ci := nci N t) (c_X5_form hstt) Y_X5_form tw_628 tw_630 (by decide) rfl (g_decl X tn_1008) tw_629 (se_X5_form hstt.1) hstt.2.1 (by omega) rfl rfl (Nat.le_of_ble_eq_true rfl) dX11_product_64 ?_
      refine q_iconst (v := 1) X dX11_product_67 (by decide) ?_
      refine q_callVp X (c_X7_highN hstt.2.2.1.lh 1 (by decide) (by decide)) Y_X7_high tw_251 tw_73 tw_74 sht rfl (by omega) rfl rfl (Nat.le_of_ble_eq_true rfl) dX11_product_68 ?_
      refine q_callV X (c_X7_ranged hsts.2.2.1) Y_X7_ranged tw_642 tw_643 tw_644 shs rfl (by omega) rfl rfl (Nat.le_of_ble_eq_true rfl) (rc' := 11) (rs' := 2404) (by omega) (by omega) dX11_product_71 (fun v M' hp _ => ?_)
      obtain ⟨q1, rfl, f1, hS1, x1⟩ := hp
      generalize M' = M1 at *
      show qJ G F _ 6 M1 11 2404 74 [(4, .ref t), (3, .ref s), (0, .ref g), (1, .int (nI j)), (2, .int (nI jb))] [.ref q1]
      have hS1 : isShape G M1 q1 (nI (nm N s)) (rpl3 (nlo N s) 1 (nlo N t 1)) (rpl3 (nhi N s) 1 (nhi N t 1)) := hS1
      have ev1 : mEv (fun _ => False) M M1 := x1.ev
      have hstqs : nStat G M1 N s := nStat_add hsts (nEq.rf N s) ev1
      have hstqt : nStat G M1 N t := nStat_add hstt (nEq.rf N t) ev1
      have hB1 := hB.ev ev1
      obtain ⟨sb1, sc1, sd1, sp1, sh1, -⟩ := id hS1
      refine q_astore (lv' := [(5, .ref q1), (4, .ref t), (3, .ref s), (0, .ref g), (1, .int (nI j)), (2, .int (nI jb))]) X dX11_product_74 (by decide) rfl ?_
      refine q_aload X dX11_product_76 0 rfl ?_
      refine q_aload_n X dX11_product_78 2 rfl ?_
      refine q_callUp X (x := ⟨"GridVault$Node", "depth", "()I"⟩) (owner := "GridVault$Node") (ci := nci N s) (c_X5_depth hstqs) Y_X5_depth tw_658 tw_660 (by decide) rfl (g_declC X tw_659 tw_667) tw_659 (se_X5_depth hstqs.1) hstqs.2.1 (by omega) rfl rfl (Nat.le_of_ble_eq_true rfl) dX11_product_79 ?_
      refine q_aload X dX11_product_82 1 rfl ?_
      refine q_callUp X (x := ⟨"GridVault$Node", "depth", "()I"⟩) (owner := "GridVault$Node") (ci := nci N t) (c_X5_depth hstqt) Y_X5_depth tw_658 tw_660 (by decide) rfl (g_declC X tw_659 tw_667) tw_659 (se_X5_depth hstqt.1) hstqt.2.1 (by omega) rfl rfl (Nat.le_of_ble_eq_true rfl) dX11_product_84 ?_
      refine q_callSp X (c_J9_max_7cf53) Y_J9_max_7cf53 tw_798 tw_123 (by omega) rfl rfl (Nat.le_of_ble_eq_true rfl) dX11_product_87 ?_
      refine x_callS X (c_needLimits hl hS1) Y_X11_needLimits tw_668 tw_669 (by omega) rfl rfl (Nat.le_of_ble_eq_true rfl) (rc' := 10) (rs' := 2398) (by omega) (by omega) dX11_product_90 (fun v M' hp _ => ?_) (fun E M' hx => t_out X hN (by obtain ⟨rfl, q, eM⟩ := hx; rw [eM]; exact gzE_T ((gRoom_y T1).trans ((gNode_y Ts).trans ((gNode_y Tt).trans ((gNeed_y ⟨c1, c2⟩).trans (gLim_n q))))) ⟨vl, nl, kl, fr, dk, dn, dm, ev, en, ek, vs, ns, ks, N, hB1⟩))
      obtain ⟨rfl, hlim, eM⟩ := hp
      rw [eM]
      clear eM
      show qJ G F _ 6 M1 10 2398 93 [(5, .ref q1), (4, .ref t), (3, .ref s), (0, .ref g), (1, .int (nI j)), (2, .int (nI jb))] []
      have hw := within_ok hok hlim.1
      have hdp := mx_lt hsts.2.2.2.2.2.2.1 hstt.2.2.2.2.2.2.1 hlim.2
      have hml := Nat.le_max_left (ndp N s) (ndp N t)
      have hmr := Nat.le_max_right (ndp N s) (ndp N t)
      refine q_aload_n X dX11_product_93 3 rfl ?_
      refine q_new X (ci := 6) rfl in_RX6 tyX6 tyX6_ok tw_917 tw_918 tw_31 (fs0 := [.null, .int 0, .null, .null, .null, .null]) (fun j hj => by rcases (show j = 0 ∨ j = 1 ∨ j = 2 ∨ j = 3 ∨ j = 4 ∨ j = 5 by omega) with rfl | rfl | rfl | rfl | rfl | rfl <;> rfl) (rc' := 9) (rs' := 2392) (by omega) (by omega) dX11_product_94 (fun q fq => ?_)
      have m_1 : (mU M1 q (oB 6 [.null, .int 0, .null, .null, .null, .null])) q = some (oB 6 [.null, .int 0, .null, .null, .null, .null]) := mU_s
      refine q_dup X dX11_product_97 rfl ?_
      refine q_aload X dX11_product_98 0 rfl ?_
      refine q_aload_n X dX11_product_100 2 rfl ?_
      refine q_aload X dX11_product_101 1 rfl ?_
      have nq : M q = none := ev1.none fq
      have evp : mEv (fun _ => False) M (mU M1 q (oB 6 [.null, .int 0, .null, .null, .null, .null])) := ev1.trans (mEv_new fq)
      have hstps : nStat G (mU M1 q (oB 6 [.null, .int 0, .null, .null, .null, .null])) N s := nStat_add hsts (nEq.rf N s) evp
      have hstpt : nStat G (mU M1 q (oB 6 [.null, .int 0, .null, .null, .null, .null])) N t := nStat_add hstt (nEq.rf N t) evp
      have hSp : isShape G (mU M1 q (oB 6 [.null, .int 0, .null, .null, .null, .null])) q1 (nI (nm N s)) (rpl3 (nlo N s) 1 (nlo N t 1)) (rpl3 (nhi N s) 1 (nhi N t 1)) := hS1.ext (mExt_new fq)
      have hqA : (mU M1 q (oB 6 [.null, .int 0, .null, .null, .null, .null])) q = some (oB 6 [.null, .int 0, .null, .null, .null, .null]) := m_1
      have h150 := hroom
      refine q_callI X (c_X6_init hSp hok (by omega) hstps hstpt hqA) Y_X6_init tw_919 tw_920 rfl (by omega) rfl rfl (Nat.le_of_ble_eq_true rfl) (rc' := 5) (rs' := 278) (by omega) (by omega) dX11_product_103 (fun v M' hp _ => ?_)
      obtain ⟨rfl, cl, nb, mb, aa, i1, i2, i3, i4, i5, i6, i7, i8, i9, i10⟩ := hp
      generalize M' = M5 at *
      show qJ G F _ 6 M5 5 278 106 [(5, .ref q1), (4, .ref t), (3, .ref s), (0, .ref g), (1, .int (nI j)), (2, .int (nI jb))] [.ref q, .ref g]
      have ev5 : mEv (fun _ => False) M M5 := fun x hx => by
        have n : x ≠ q := fun z => hx (z ▸ nq)
        have e1 := evp x hx
        have e := i10 x n e1.1
        exact ⟨by rw [e]; exact e1.1, fun k => e.trans (e1.2 k)⟩
      obtain ⟨N2, hB2, hSq, hvq⟩ := hB.made (ta := 0) (den := prD (nVal N s) (nVal N t) (rpl3 (nlo N s) 1 (nlo N t 1)) (rpl3 (nhi N s) 1 (nhi N t 1))) nq (evp.none i5) (evp.none i6) (evp.none i7) (fun z => absurd z (by decide)) ev5 (by unfold isNC; omega) (by decide) i1 (hSp.mv (fun x hx => i10 x (fun z => by rw [z, hqA] at hx; rcases hx with ⟨_, h⟩ | ⟨_, h⟩ <;> cases h) (by rcases hx with ⟨_, h⟩ | ⟨_, h⟩ <;> exact g_so h))) hok (by omega) (by omega) (by omega) i2 i3 i8 i9
        (fun N3 hS3 k1 k2 k3 k4 k5 k6 k7 k8 => kd_prod (lo := rpl3 (nlo N s) 1 (nlo N t 1)) (hi := rpl3 (nhi N s) 1 (nhi N t 1)) k1 k2 k3 k4 k7 (hS3 s hSs).1 (hS3 s hSs).2.1 (by rw [(hS3 s hSs).2.2, k5]; omega) (hS3 t hSt).1 (hS3 t hSt).2.1 (by rw [(hS3 t hSt).2.2, k5]; omega) hpk.1 hpk.2.1 hpk.2.2)
      have hG2 : M5 g = some (oB 11 [.ref vl, .ref nl, .ref kl, .ref fr, .ref dk, .int (nI (aOf σ)), .int (nI (aBg σ))]) := hB2.1
      refine q_da X (fun hda5 => ?_)
      refine q_callV X (c_keep hG2 hB2.2.2.2.2.1 (hB2.2.2.2.2.2.2.2.1.1 q hSq).1 (fun y hy => by obtain ⟨i, hi⟩ := List.getElem?_of_mem hy; exact (hB2.2.2.2.2.2.2.2.1.1 y (hB2.nod hi).2.1).1) h150) Y_X11_keep tw_611 tw_613 sel_10 hG2 rfl (by omega) rfl rfl (Nat.le_of_ble_eq_true rfl) (rc' := 4) (rs' := 45) (by omega) (by omega) dX11_product_106 (fun v M' hp _ => ?_)
      obtain ⟨rfl, hlp⟩ := hp
      generalize M' = M6 at *
      show qJ G F _ 6 M6 4 45 109 [(5, .ref q1), (4, .ref t), (3, .ref s), (0, .ref g), (1, .int (nI j)), (2, .int (nI jb))] [.int (nI ns.length)]
      have hfin := hB2.pushN hda5 hlp hSq h150
      rw [hvq] at hfin
      exact x_ret (q_iret X hr dX11_product_109 (⟨⟨_, rfl⟩, gzP_K (by rw [hnl]; exact (gRoom_y T1).trans ((gNode_y Ts).trans ((gNode_y Tt).trans ((gNeed_y ⟨c1, c2⟩).trans (gLim_y hlim))))) hfin⟩))

set_option maxRecDepth 20000 in
theorem c_keepFolded {l : Launch} {G : gV} {M : gMem} {g : Nat} {σ : sA} {vl nl kl fr dk dn dm ev en ek : Nat} {vs ns ks : List Nat} {N : gN} (hl : l.stackTraces = false) (hB : gvB G M g σ vl nl kl fr dk dn dm ev en ek vs ns ks N) {s sh m : Nat} {lo hi : Nat → Int32} {d kind reach what : Int32} (hSs : nS N s) (hS : isShape G M sh (nI m) lo hi) (hok : okS m lo hi) (hKK : sz3 lo hi ≤ 2048 → ∀ i, i < sz3 lo hi → 0 ≤ (fK (nVal N s) lo hi d kind reach i).toInt ∧ (fK (nVal N s) lo hi d kind reach i).toInt ≤ 4096) (h150 : ns.length < 150) : xC l G yX11_keepFolded cX11_keepFolded 7 (some .int) 9 8 2365 [.ref g, .ref sh, .ref s, .int d, .int kind, .int reach, .int what] M (gzI G g (spFo σ (nVal N s) m lo hi d kind reach what)) (gzE G g (spFo σ (nVal N s) m lo hi d kind reach what)) := by
  refine xC_of (by decide +kernel) (Nat.le_of_ble_eq_true rfl) (fun F hF X hN hr hn => ?_)
  subst hF
  have X : qX G F cX11_keepFolded 7 RX11 9 := X
  have h : isGV G M g σ := ⟨vl, nl, kl, fr, dk, dn, dm, ev, en, ek, vs, ns, ks, N, hB⟩
  obtain ⟨b1, b2, b3, b4, b5, b6, b7, b8, b9, b10, b11, b12⟩ := id hB
  have hG : M g = some (oB 11 [.ref vl, .ref nl, .ref kl, .ref fr, .ref dk, .int (nI (aOf σ)), .int (nI (aBg σ))]) := b1
  obtain ⟨sb, sc, sd, sp, s1, -⟩ := id b2
  obtain ⟨cn1, cm1, d1, d2, d3, -⟩ := id b3
  obtain ⟨mvv, vL1⟩ := id b4.2.1
  obtain ⟨mvn, nL1⟩ := id b5.2.1
  obtain ⟨mvk, kL1⟩ := id b6.2.1
  have hvl : vs.length = (aV σ).length := b9.1
  have hnl : ns.length = (aN σ).length := b10.1
  have hz := b12.sz
  have l41 := b12.2.2.2.1
  have l150 := b12.2.2.2.2.1
  have lof := b12.2.2.2.2.2.1
  have hst := (b8.1 s hSs).1
  show qJ G F _ 7 M 8 2365 0 [(0, .ref g), (1, .ref sh), (2, .ref s), (3, .int d), (4, .int kind), (5, .int reach), (6, .int what)] []
  refine q_aload_n X dX11_keepFolded_0 1 rfl ?_
  refine q_aload_n X dX11_keepFolded_1 2 rfl ?_
  refine q_callUp X (x := ⟨"GridVault$Node", "depth", "()I"⟩) (owner := "GridVault$Node") (ci := nci N s) (c_X5_depth hst) Y_X5_depth tw_658 tw_660 (by decide) rfl (g_declC X tw_659 tw_667) tw_659 (se_X5_depth hst.1) hst.2.1 (by omega) rfl rfl (Nat.le_of_ble_eq_true rfl) dX11_keepFolded_2 ?_
  refine x_callS X (c_needLimits hl hS) Y_X11_needLimits tw_668 tw_669 (by omega) rfl rfl (Nat.le_of_ble_eq_true rfl) (rc' := 7) (rs' := 2359) (by omega) (by omega) dX11_keepFolded_5 (fun v M' hp _ => ?_) (fun E M' hx => t_out X hN (by obtain ⟨rfl, q, eM⟩ := hx; rw [eM]; exact gzE_T (gLim_n q) h))
  obtain ⟨rfl, hlim, eM⟩ := hp
  rw [eM]
  clear eM
  show qJ G F _ 7 M 7 2359 8 [(0, .ref g), (1, .ref sh), (2, .ref s), (3, .int d), (4, .int kind), (5, .int reach), (6, .int what)] []
  have hw := within_ok hok hlim.1
  have hdp := dp_lt hst.2.2.2.2.2.2.1 hlim.2
  refine q_aload_n X dX11_keepFolded_8 0 rfl ?_
  refine q_new X (ci := 4) rfl in_RX3 tyX3 tyX3_ok tw_835 tw_836 tw_30 (fs0 := [.null, .int 0, .null, .null, .null, .int 0, .int 0, .int 0, .null]) (fun j hj => by rcases (show j = 0 ∨ j = 1 ∨ j = 2 ∨ j = 3 ∨ j = 4 ∨ j = 5 ∨ j = 6 ∨ j = 7 ∨ j = 8 by omega) with rfl | rfl | rfl | rfl | rfl | rfl | rfl | rfl | rfl <;> rfl) (rc' := 6) (rs' := 2350) (by omega) (by omega) dX11_keepFolded_9 (fun q fq => ?_)
  have m_1 : (mU M q (oB 4 [.null, .int 0, .null, .null, .null, .int 0, .int 0, .int 0, .null])) q = some (oB 4 [.null, .int 0, .null, .null, .null, .int 0, .int 0, .int 0, .null]) := mU_s
  refine q_dup X dX11_keepFolded_12 rfl ?_
  refine q_aload_n X dX11_keepFolded_13 1 rfl ?_
  refine q_aload_n X dX11_keepFolded_14 2 rfl ?_
  refine q_iload_n X dX11_keepFolded_15 3 rfl ?_
  refine q_iload X dX11_keepFolded_16 4 rfl ?_
  refine q_iload X dX11_keepFolded_18 5 rfl ?_
  refine q_new X (ci := 8) rfl in_RX8 tyX8 tyX8_ok tw_837 tw_838 tw_29 (fs0 := [.int 0, .int 0, .long 0]) (fun j hj => by rcases (show j = 0 ∨ j = 1 ∨ j = 2 by omega) with rfl | rfl | rfl <;> rfl) (rc' := 5) (rs' := 2347) (by omega) (by omega) dX11_keepFolded_20 (fun ta fta => ?_)
  have n_2 : q ≠ ta := g_nef m_1 fta
  have m_3 : (mU (mU M q (oB 4 [.null, .int 0, .null, .null, .null, .int 0, .int 0, .int 0, .null])) ta (oB 8 [.int 0, .int 0, .long 0])) q = some (oB 4 [.null, .int 0, .null, .null, .null, .int 0, .int 0, .int 0, .null]) := (mU_n n_2).trans m_1
  have m_4 : (mU (mU M q (oB 4 [.null, .int 0, .null, .null, .null, .int 0, .int 0, .int 0, .null])) ta (oB 8 [.int 0, .int 0, .long 0])) ta = some (oB 8 [.int 0, .int 0, .long 0]) := mU_s
  refine q_dup X dX11_keepFolded_23 rfl ?_
  refine q_iload X dX11_keepFolded_24 6 rfl ?_
  refine q_callIw X (c_X8_init mU_s) Y_X8_init (by decide) tw_839 tw_840 rfl (by omega) rfl rfl (Nat.le_of_ble_eq_true rfl) (rc' := 5) (rs' := 2347) (by omega) (by omega) dX11_keepFolded_26 (fun v M' hp _ => ?_)
  obtain ⟨rfl, eM⟩ := hp
  rw [eM]
  clear eM
  have m_5 : (mU (mU (mU M q (oB 4 [.null, .int 0, .null, .null, .null, .int 0, .int 0, .int 0, .null])) ta (oB 8 [.int 0, .int 0, .long 0])) ta (oB 8 [.int what, .int 0, .long 0])) q = some (oB 4 [.null, .int 0, .null, .null, .null, .int 0, .int 0, .int 0, .null]) := (mU_n (n_2)).trans m_3
  have m_6 : (mU (mU (mU M q (oB 4 [.null, .int 0, .null, .null, .null, .int 0, .int 0, .int 0, .null])) ta (oB 8 [.int 0, .int 0, .long 0])) ta (oB 8 [.int what, .int 0, .long 0])) ta = some (oB 8 [.int what, .int 0, .long 0]) := mU_s
  show qJ G F _ 7 (mU (mU (mU M q (oB 4 [.null, .int 0, .null, .null, .null, .int 0, .int 0, .int 0, .null])) ta (oB 8 [.int 0, .int 0, .long 0])) ta (oB 8 [.int what, .int 0, .long 0])) 5 2347 29 [(0, .ref g), (1, .ref sh), (2, .ref s), (3, .int d), (4, .int kind), (5, .int reach), (6, .int what)] [.ref ta, .int reach, .int kind, .int d, .ref s, .ref sh, .ref q, .ref q, .ref g]
  have nq : M q = none := fq
  have nta : M ta = none := by
    cases h9 : M ta with
    | none => rfl
    | some e9 => exact absurd (mEv_new (K := fun _ => False) fq ta (g_so h9)).1 (not_not_intro fta)
  have evp : mEv (fun _ => False) M (mU (mU (mU M q (oB 4 [.null, .int 0, .null, .null, .null, .int 0, .int 0, .int 0, .null])) ta (oB 8 [.int 0, .int 0, .long 0])) ta (oB 8 [.int what, .int 0, .long 0])) := fun x hx => by
    have w1 : x ≠ q := fun z => hx (z ▸ nq)
    have w2 : x ≠ ta := fun z => hx (z ▸ nta)
    have e : (mU (mU (mU M q (oB 4 [.null, .int 0, .null, .null, .null, .int 0, .int 0, .int 0, .null])) ta (oB 8 [.int 0, .int 0, .long 0])) ta (oB 8 [.int what, .int 0, .long 0])) x = M x := by simp only [mU, w1, w2, if_false]
    exact ⟨by rw [e]; exact hx, fun _ => e⟩
  have hstp : nStat G (mU (mU (mU M q (oB 4 [.null, .int 0, .null, .null, .null, .int 0, .int 0, .int 0, .null])) ta (oB 8 [.int 0, .int 0, .long 0])) ta (oB 8 [.int what, .int 0, .long 0])) N s := nStat_add hst (nEq.rf N s) evp
  have hSp : isShape G (mU (mU (mU M q (oB 4 [.null, .int 0, .null, .null, .null, .int 0, .int 0, .int 0, .null])) ta (oB 8 [.int 0, .int 0, .long 0])) ta (oB 8 [.int what, .int 0, .long 0])) sh (nI m) lo hi := hS.ev evp (fun _ _ => id)
  have hqA : (mU (mU (mU M q (oB 4 [.null, .int 0, .null, .null, .null, .int 0, .int 0, .int 0, .null])) ta (oB 8 [.int 0, .int 0, .long 0])) ta (oB 8 [.int what, .int 0, .long 0])) q = some (oB 4 [.null, .int 0, .null, .null, .null, .int 0, .int 0, .int 0, .null]) := m_5
  have htA : (mU (mU (mU M q (oB 4 [.null, .int 0, .null, .null, .null, .int 0, .int 0, .int 0, .null])) ta (oB 8 [.int 0, .int 0, .long 0])) ta (oB 8 [.int what, .int 0, .long 0])) ta = some (oB 8 [.int what, .int 0, .long 0]) := m_6
  have tq : ta ≠ q := fun z => by rw [z, mU_s] at fta; cases fta
  refine q_callI X (c_X3_init hSp hok (by omega) hstp hqA) Y_X3_init tw_853 tw_854 rfl (by omega) rfl rfl (Nat.le_of_ble_eq_true rfl) (rc' := 1) (rs' := 233) (by omega) (by omega) dX11_keepFolded_29 (fun v M' hp _ => ?_)
  obtain ⟨rfl, cl, nb, mb, aa, i1, i2, i3, i4, i5, i6, i7, i8, i9, i10⟩ := hp
  generalize M' = M5 at *
  show qJ G F _ 7 M5 1 233 32 [(0, .ref g), (1, .ref sh), (2, .ref s), (3, .int d), (4, .int kind), (5, .int reach), (6, .int what)] [.ref q, .ref g]
  have ev5 : mEv (fun _ => False) M M5 := fun x hx => by
    have n : x ≠ q := fun z => hx (z ▸ nq)
    have e1 := evp x hx
    have e := i10 x n e1.1
    exact ⟨by rw [e]; exact e1.1, fun k => e.trans (e1.2 k)⟩
  obtain ⟨N2, hB2, hSq, hvq⟩ := hB.made (ta := ta) (den := foD (nVal N s) lo hi d kind reach what) nq (evp.none i5) (evp.none i6) (evp.none i7) (fun _ => nta) ev5 (by unfold isNC; omega) (by decide) i1 (hSp.mv (fun x hx => i10 x (fun z => by rw [z, hqA] at hx; rcases hx with ⟨_, h⟩ | ⟨_, h⟩ <;> cases h) (by rcases hx with ⟨_, h⟩ | ⟨_, h⟩ <;> exact g_so h))) hok (by omega) (by omega) (by omega) i2 i3 i8 i9
    (fun N3 hS3 k1 k2 k3 k4 k5 k6 k7 k8 => kd_fold (lo := lo) (hi := hi) (tk := 0) (re := 0) k1 (by rw [k2, k6]) k3 k4 k7 (hS3 s hSs).1 (hS3 s hSs).2.1 (by rw [(hS3 s hSs).2.2, k5]; omega) (by rw [k6]; exact (i10 ta tq (g_so htA)).trans htA) (fun i hi9 => hKK hw.2 i (by rw [k8] at hi9; exact hi9)))
  have hG2 : M5 g = some (oB 11 [.ref vl, .ref nl, .ref kl, .ref fr, .ref dk, .int (nI (aOf σ)), .int (nI (aBg σ))]) := hB2.1
  refine q_da X (fun hda5 => ?_)
  refine q_callV X (c_keep hG2 hB2.2.2.2.2.1 (hB2.2.2.2.2.2.2.2.1.1 q hSq).1 (fun y hy => by obtain ⟨i, hi⟩ := List.getElem?_of_mem hy; exact (hB2.2.2.2.2.2.2.2.1.1 y (hB2.nod hi).2.1).1) h150) Y_X11_keep tw_611 tw_613 sel_10 hG2 rfl (by omega) rfl rfl (Nat.le_of_ble_eq_true rfl) (rc' := 0) (rs' := 0) (by omega) (by omega) dX11_keepFolded_32 (fun v M' hp _ => ?_)
  obtain ⟨rfl, hlp⟩ := hp
  generalize M' = M6 at *
  show qJ G F _ 7 M6 0 0 35 [(0, .ref g), (1, .ref sh), (2, .ref s), (3, .int d), (4, .int kind), (5, .int reach), (6, .int what)] [.int (nI ns.length)]
  have hfin := hB2.pushN hda5 hlp hSq h150
  rw [hvq] at hfin
  exact x_ret (q_iret X hr dX11_keepFolded_35 (⟨⟨_, rfl⟩, gzP_K (by rw [hnl]; exact gLim_y hlim) hfin⟩))

set_option maxRecDepth 20000 in
theorem c_gather {l : Launch} {G : gV} {M : gMem} {g : Nat} {σ : sA} (hl : l.stackTraces = false) (h : isGV G M g σ) {a d what : Int32} : xC l G yX11_gather cX11_gather 6 (some .int) 10 17 2440 [.ref g, .int a, .int d, .int what] M (gzI G g (sp_gather σ a d what)) (gzE G g (sp_gather σ a d what)) := by
  refine xC_of (by decide +kernel) (Nat.le_of_ble_eq_true rfl) (fun F hF X hN hr hn => ?_)
  subst hF
  have X : qX G F cX11_gather 6 RX11 10 := X
  obtain ⟨vl, nl, kl, fr, dk, dn, dm, ev, en, ek, vs, ns, ks, N, hB⟩ := id h
  obtain ⟨b1, b2, b3, b4, b5, b6, b7, b8, b9, b10, b11, b12⟩ := id hB
  have hG : M g = some (oB 11 [.ref vl, .ref nl, .ref kl, .ref fr, .ref dk, .int (nI (aOf σ)), .int (nI (aBg σ))]) := b1
  obtain ⟨sb, sc, sd, sp, s1, -⟩ := id b2
  obtain ⟨cn1, cm1, d1, d2, d3, -⟩ := id b3
  obtain ⟨mvv, vL1⟩ := id b4.2.1
  obtain ⟨mvn, nL1⟩ := id b5.2.1
  obtain ⟨mvk, kL1⟩ := id b6.2.1
  have hvl : vs.length = (aV σ).length := b9.1
  have hnl : ns.length = (aN σ).length := b10.1
  have hz := b12.sz
  have l41 := b12.2.2.2.1
  have l150 := b12.2.2.2.2.1
  have lof := b12.2.2.2.2.2.1
  show qJ G F _ 6 M 17 2440 0 [(0, .ref g), (1, .int a), (2, .int d), (3, .int what)] []
  refine q_aload_n X dX11_gather_0 0 rfl ?_
  refine x_callV X (c_needRoom hl hG b5) Y_X11_needRoom tw_606 tw_608 sel_9 hG rfl (by omega) rfl rfl (Nat.le_of_ble_eq_true rfl) (rc' := 16) (rs' := 2434) (by omega) (by omega) dX11_gather_1 (fun v M' hp _ => ?_) (fun E M' hx => t_out X hN (by obtain ⟨rfl, q, eM⟩ := hx; rw [eM]; rw [hnl] at q; exact gzE_T (gRoom_n (Nat.not_lt.mpr q)) h))
  obtain ⟨rfl, hroom, eM⟩ := hp
  rw [eM]
  clear eM
  have T1 : (aN σ).length < 150 := by rw [← hnl]; exact hroom
  show qJ G F _ 6 M 16 2434 4 [(0, .ref g), (1, .int a), (2, .int d), (3, .int what)] []
  refine q_aload_n X dX11_gather_4 0 rfl ?_
  refine q_iload_n X dX11_gather_5 1 rfl ?_
  refine x_callV X (c_nodeAt hl hG b5 hB.nodO) Y_X11_nodeAt tw_623 tw_625 sel_11 hG rfl (by omega) rfl rfl (Nat.le_of_ble_eq_true rfl) (rc' := 15) (rs' := 2428) (by omega) (by omega) dX11_gather_6 (fun v M' hp _ => ?_) (fun E M' hx => t_out X hN (by obtain ⟨rfl, q, eM⟩ := hx; rw [eM]; rw [hnl] at q; exact gzE_T ((gRoom_y T1).trans (gNode_n (ndAt_out (by omega) q))) h))
  obtain ⟨j, s, rfl, hxs, rfl, eM⟩ := hp
  rw [eM]
  clear eM
  obtain ⟨hj150, hSs, hns⟩ := hB.nod hxs
  have Ts := (ndAt_in (σ := σ) (show j < 2 ^ 31 by omega)).trans hns
  have hsts := (b8.1 s hSs).1
  obtain ⟨sbs, scs, sds, sps, shs, -⟩ := id hsts.2.2.1
  show qJ G F _ 6 M 15 2428 9 [(0, .ref g), (1, .int (nI j)), (2, .int d), (3, .int what)] [.ref s]
  refine q_astore (lv' := [(4, .ref s), (0, .ref g), (1, .int (nI j)), (2, .int d), (3, .int what)]) X dX11_gather_9 (by decide) rfl ?_
  refine q_aload X dX11_gather_11 0 rfl ?_
  refine q_callUp X (x := ⟨"GridVault$Node", "form", "()LGridVault$Shape;"⟩) (owner := "GridVault$Node") (ci := nci N s) (c_X5_form hsts) Y_X5_form tw_628 tw_630 (by decide) rfl (g_decl X tn_1008) tw_629 (se_X5_form hsts.1) hsts.2.1 (by omega) rfl rfl (Nat.le_of_ble_eq_true rfl) dX11_gather_13 ?_
  refine q_astore (lv' := [(5, .ref (nsh N s)), (4, .ref s), (0, .ref g), (1, .int (nI j)), (2, .int d), (3, .int what)]) X dX11_gather_16 (by decide) rfl ?_
  refine q_aload X dX11_gather_18 0 rfl ?_
  refine q_iload_n X dX11_gather_20 4 rfl ?_
  refine q_callVp X (c_X7_hasDimension hsts.2.2.1) Y_X7_hasDimension tw_745 tw_270 tw_271 shs rfl (by omega) rfl rfl (Nat.le_of_ble_eq_true rfl) dX11_gather_21 ?_
  refine q_if_eq X 47 dX11_gather_24 (by decide) (fun c1 => ?_) (fun c1 => ?_)
  · refine q_iconst (v := 0) X dX11_gather_47 (by decide) ?_
    exact x_callS X (c_need hl) Y_X11_need tw_377 tw_378 (by omega) rfl rfl (Nat.le_of_ble_eq_true rfl) (rc' := 14) (rs' := 2422) (by omega) (by omega) dX11_gather_48 (fun v M' hp _ => absurd rfl hp.2.1) (fun E M' hx => t_out X hN (by obtain ⟨rfl, -, eM⟩ := hx; rw [eM]; exact gzE_T ((gRoom_y T1).trans ((gNode_y Ts).trans (gNeed_n (fun z => z.1 c1)))) h))
  · refine q_aload X dX11_gather_27 0 rfl ?_
    refine q_callVp X (c_X7_dimensions hsts.2.2.1) Y_X7_dimensions tw_722 tw_723 tw_724 shs rfl (by omega) rfl rfl (Nat.le_of_ble_eq_true rfl) dX11_gather_29 ?_
    refine q_iconst (v := 1) X dX11_gather_32 (by decide) ?_
    refine q_icmp_le X 47 dX11_gather_33 (by decide) (fun c2 => ?_) (fun c2 => ?_)
    · refine q_iconst (v := 0) X dX11_gather_47 (by decide) ?_
      exact x_callS X (c_need hl) Y_X11_need tw_377 tw_378 (by omega) rfl rfl (Nat.le_of_ble_eq_true rfl) (rc' := 14) (rs' := 2422) (by omega) (by omega) dX11_gather_48 (fun v M' hp _ => absurd rfl hp.2.1) (fun E M' hx => t_out X hN (by obtain ⟨rfl, -, eM⟩ := hx; rw [eM]; exact gzE_T ((gRoom_y T1).trans ((gNode_y Ts).trans (gNeed_n (fun z => z.2.1 c2)))) h))
    · refine q_iload_n X dX11_gather_36 5 rfl ?_
      refine q_callSp X (c_X8_isKnown) Y_X8_isKnown tw_828 tw_829 (by omega) rfl rfl (Nat.le_of_ble_eq_true rfl) dX11_gather_37 ?_
      refine q_if_eq X 47 dX11_gather_40 (by decide) (fun c3 => ?_) (fun c3 => ?_)
      · refine q_iconst (v := 0) X dX11_gather_47 (by decide) ?_
        exact x_callS X (c_need hl) Y_X11_need tw_377 tw_378 (by omega) rfl rfl (Nat.le_of_ble_eq_true rfl) (rc' := 14) (rs' := 2422) (by omega) (by omega) dX11_gather_48 (fun v M' hp _ => absurd rfl hp.2.1) (fun E M' hx => t_out X hN (by obtain ⟨rfl, -, eM⟩ := hx; rw [eM]; exact gzE_T ((gRoom_y T1).trans ((gNode_y Ts).trans (gNeed_n (fun z => z.2.2 c3)))) h))
      · refine q_iconst (v := 1) X dX11_gather_43 (by decide) ?_
        refine q_goto X 48 dX11_gather_44 (by decide) ?_
        refine q_callS X (c_need1) Y_X11_need tw_377 tw_378 (by omega) rfl rfl (Nat.le_of_ble_eq_true rfl) (rc' := 15) (rs' := 2428) (by omega) (by omega) dX11_gather_48 (fun v M' hp _ => ?_)
        obtain ⟨rfl, eM⟩ := hp
        rw [eM]
        clear eM
        show qJ G F _ 6 M 15 2428 51 [(5, .ref (nsh N s)), (4, .ref s), (0, .ref g), (1, .int (nI j)), (2, .int d), (3, .int what)] []
        obtain ⟨jd, hjd, rfl⟩ := sHas_in hsts.2.2.2.1.2.1 c1
        have hm3 := hsts.2.2.2.1.2.1
        have hm2 := m_ge2 hm3 c2
        have hok := okS_dr hsts.2.2.2.1 hjd hm2
        have hT : sp_gather σ (nI j) (nI jd) what = spFo σ (nVal N s) (nm N s - 1) (dr3 (nlo N s) jd 3) (dr3 (nhi N s) jd 3) (nI jd) 0 0 what := by
          unfold sp_gather
          rw [nI_nn (show jd < 2 ^ 31 by omega)]
          exact (gRoom_y T1).trans ((gNode_y Ts).trans (gNeed_y ⟨c1, c2, c3⟩))
        have hKK : ∀ i, 0 ≤ (fK (nVal N s) (dr3 (nlo N s) jd 3) (dr3 (nhi N s) jd 3) (nI jd) 0 0 i).toInt ∧ (fK (nVal N s) (dr3 (nlo N s) jd 3) (dr3 (nhi N s) jd 3) (nI jd) 0 0 i).toInt ≤ 4096 := fun i => by
          have e := (fK_gather (w := nVal N s) (lo := dr3 (nlo N s) jd 3) (hi := dr3 (nhi N s) jd 3) hsts.2.2.2.1 (show jd < 3 by omega) (i := i)).2
          have a9 : -1000 ≤ (nlo N s jd).toInt ∧ (nlo N s jd).toInt ≤ (nhi N s jd).toInt ∧ (nhi N s jd).toInt ≤ 1000 := hsts.2.2.2.1.2.2.1 jd (by omega)
          rw [e]; show 0 ≤ (nhi N s jd).toInt - (nlo N s jd).toInt + 1 ∧ (nhi N s jd).toInt - (nlo N s jd).toInt + 1 ≤ 4096; omega
        refine q_aload_n X dX11_gather_51 2 rfl ?_
        refine q_aload X dX11_gather_52 0 rfl ?_
        refine q_iload_n X dX11_gather_54 4 rfl ?_
        refine q_callV X (c_X7_without hsts.2.2.1 (show jd < 3 by omega)) Y_X7_without tw_726 tw_727 tw_728 shs rfl (by omega) rfl rfl (Nat.le_of_ble_eq_true rfl) (rc' := 10) (rs' := 2410) (by omega) (by omega) dX11_gather_55 (fun v M' hp _ => ?_)
        obtain ⟨q1, rfl, f1, hS1, x1⟩ := hp
        generalize M' = M1 at *
        show qJ G F _ 6 M1 10 2410 58 [(5, .ref (nsh N s)), (4, .ref s), (0, .ref g), (1, .int (nI j)), (2, .int (nI jd)), (3, .int what)] [.ref q1, .ref g]
        rw [nI_m1 (by omega)] at hS1
        have ev1 : mEv (fun _ => False) M M1 := x1.ev
        have hB1 := hB.ev ev1
        have hG1 : M1 g = some (oB 11 [.ref vl, .ref nl, .ref kl, .ref fr, .ref dk, .int (nI (aOf σ)), .int (nI (aBg σ))]) := hB1.1
        refine q_aload X dX11_gather_58 1 rfl ?_
        refine q_iload_n X dX11_gather_60 4 rfl ?_
        refine q_iconst (v := 0) X dX11_gather_61 (by decide) ?_
        refine q_iconst (v := 0) X dX11_gather_62 (by decide) ?_
        refine q_iload_n X dX11_gather_63 5 rfl ?_
        refine x_callV X (c_keepFolded hl hB1 hSs hS1 hok (fun _ i _ => hKK i) hroom) Y_X11_keepFolded tw_831 tw_833 sel_13 hG1 rfl (by omega) rfl rfl (Nat.le_of_ble_eq_true rfl) (rc' := 2) (rs' := 45) (by omega) (by omega) dX11_gather_64 (fun v M' hp _ => ?_) (fun E M' hx => t_out X hN (gzE_c (hT) hx))
        obtain ⟨⟨n9, rfl⟩, hp9⟩ := hp
        generalize M' = M6 at *
        show qJ G F _ 6 M6 2 45 67 [(5, .ref (nsh N s)), (4, .ref s), (0, .ref g), (1, .int (nI j)), (2, .int (nI jd)), (3, .int what)] [.int n9]
        exact x_ret (q_iret X hr dX11_gather_67 (⟨⟨_, rfl⟩, gzP_c (hT) hp9⟩))

set_option maxRecDepth 20000 in
theorem c_window {l : Launch} {G : gV} {M : gMem} {g : Nat} {σ : sA} (hl : l.stackTraces = false) (h : isGV G M g σ) {a d r what : Int32} : xC l G yX11_window cX11_window 7 (some .int) 10 12 2420 [.ref g, .int a, .int d, .int r, .int what] M (gzI G g (sp_window σ a d r what)) (gzE G g (sp_window σ a d r what)) := by
  refine xC_of (by decide +kernel) (Nat.le_of_ble_eq_true rfl) (fun F hF X hN hr hn => ?_)
  subst hF
  have X : qX G F cX11_window 7 RX11 10 := X
  obtain ⟨vl, nl, kl, fr, dk, dn, dm, ev, en, ek, vs, ns, ks, N, hB⟩ := id h
  obtain ⟨b1, b2, b3, b4, b5, b6, b7, b8, b9, b10, b11, b12⟩ := id hB
  have hG : M g = some (oB 11 [.ref vl, .ref nl, .ref kl, .ref fr, .ref dk, .int (nI (aOf σ)), .int (nI (aBg σ))]) := b1
  obtain ⟨sb, sc, sd, sp, s1, -⟩ := id b2
  obtain ⟨cn1, cm1, d1, d2, d3, -⟩ := id b3
  obtain ⟨mvv, vL1⟩ := id b4.2.1
  obtain ⟨mvn, nL1⟩ := id b5.2.1
  obtain ⟨mvk, kL1⟩ := id b6.2.1
  have hvl : vs.length = (aV σ).length := b9.1
  have hnl : ns.length = (aN σ).length := b10.1
  have hz := b12.sz
  have l41 := b12.2.2.2.1
  have l150 := b12.2.2.2.2.1
  have lof := b12.2.2.2.2.2.1
  show qJ G F _ 7 M 12 2420 0 [(0, .ref g), (1, .int a), (2, .int d), (3, .int r), (4, .int what)] []
  refine q_aload_n X dX11_window_0 0 rfl ?_
  refine x_callV X (c_needRoom hl hG b5) Y_X11_needRoom tw_606 tw_608 sel_9 hG rfl (by omega) rfl rfl (Nat.le_of_ble_eq_true rfl) (rc' := 11) (rs' := 2414) (by omega) (by omega) dX11_window_1 (fun v M' hp _ => ?_) (fun E M' hx => t_out X hN (by obtain ⟨rfl, q, eM⟩ := hx; rw [eM]; rw [hnl] at q; exact gzE_T (gRoom_n (Nat.not_lt.mpr q)) h))
  obtain ⟨rfl, hroom, eM⟩ := hp
  rw [eM]
  clear eM
  have T1 : (aN σ).length < 150 := by rw [← hnl]; exact hroom
  show qJ G F _ 7 M 11 2414 4 [(0, .ref g), (1, .int a), (2, .int d), (3, .int r), (4, .int what)] []
  refine q_aload_n X dX11_window_4 0 rfl ?_
  refine q_iload_n X dX11_window_5 1 rfl ?_
  refine x_callV X (c_nodeAt hl hG b5 hB.nodO) Y_X11_nodeAt tw_623 tw_625 sel_11 hG rfl (by omega) rfl rfl (Nat.le_of_ble_eq_true rfl) (rc' := 10) (rs' := 2408) (by omega) (by omega) dX11_window_6 (fun v M' hp _ => ?_) (fun E M' hx => t_out X hN (by obtain ⟨rfl, q, eM⟩ := hx; rw [eM]; rw [hnl] at q; exact gzE_T ((gRoom_y T1).trans (gNode_n (ndAt_out (by omega) q))) h))
  obtain ⟨j, s, rfl, hxs, rfl, eM⟩ := hp
  rw [eM]
  clear eM
  obtain ⟨hj150, hSs, hns⟩ := hB.nod hxs
  have Ts := (ndAt_in (σ := σ) (show j < 2 ^ 31 by omega)).trans hns
  have hsts := (b8.1 s hSs).1
  obtain ⟨sbs, scs, sds, sps, shs, -⟩ := id hsts.2.2.1
  show qJ G F _ 7 M 10 2408 9 [(0, .ref g), (1, .int (nI j)), (2, .int d), (3, .int r), (4, .int what)] [.ref s]
  refine q_astore (lv' := [(5, .ref s), (0, .ref g), (1, .int (nI j)), (2, .int d), (3, .int r), (4, .int what)]) X dX11_window_9 (by decide) rfl ?_
  refine q_aload X dX11_window_11 0 rfl ?_
  refine q_callUp X (x := ⟨"GridVault$Node", "form", "()LGridVault$Shape;"⟩) (owner := "GridVault$Node") (ci := nci N s) (c_X5_form hsts) Y_X5_form tw_628 tw_630 (by decide) rfl (g_decl X tn_1008) tw_629 (se_X5_form hsts.1) hsts.2.1 (by omega) rfl rfl (Nat.le_of_ble_eq_true rfl) dX11_window_13 ?_
  refine q_astore (lv' := [(6, .ref (nsh N s)), (5, .ref s), (0, .ref g), (1, .int (nI j)), (2, .int d), (3, .int r), (4, .int what)]) X dX11_window_16 (by decide) rfl ?_
  refine q_aload X dX11_window_18 0 rfl ?_
  refine q_iload_n X dX11_window_20 4 rfl ?_
  refine q_callVp X (c_X7_hasDimension hsts.2.2.1) Y_X7_hasDimension tw_745 tw_270 tw_271 shs rfl (by omega) rfl rfl (Nat.le_of_ble_eq_true rfl) dX11_window_21 ?_
  refine q_if_eq X 49 dX11_window_24 (by decide) (fun c1 => ?_) (fun c1 => ?_)
  · refine q_iconst (v := 0) X dX11_window_49 (by decide) ?_
    exact x_callS X (c_need hl) Y_X11_need tw_377 tw_378 (by omega) rfl rfl (Nat.le_of_ble_eq_true rfl) (rc' := 9) (rs' := 2402) (by omega) (by omega) dX11_window_50 (fun v M' hp _ => absurd rfl hp.2.1) (fun E M' hx => t_out X hN (by obtain ⟨rfl, -, eM⟩ := hx; rw [eM]; exact gzE_T ((gRoom_y T1).trans ((gNode_y Ts).trans (gNeed_n (fun z => z.1 c1)))) h))
  · refine q_iload_n X dX11_window_27 5 rfl ?_
    refine q_if_lt X 49 dX11_window_28 (by decide) (fun c2 => ?_) (fun c2 => ?_)
    · refine q_iconst (v := 0) X dX11_window_49 (by decide) ?_
      exact x_callS X (c_need hl) Y_X11_need tw_377 tw_378 (by omega) rfl rfl (Nat.le_of_ble_eq_true rfl) (rc' := 9) (rs' := 2402) (by omega) (by omega) dX11_window_50 (fun v M' hp _ => absurd rfl hp.2.1) (fun E M' hx => t_out X hN (by obtain ⟨rfl, -, eM⟩ := hx; rw [eM]; exact gzE_T ((gRoom_y T1).trans ((gNode_y Ts).trans (gNeed_n (fun z => z.2.1 c2)))) h))
    · refine q_iload_n X dX11_window_31 5 rfl ?_
      refine q_bipush (v := 40) X dX11_window_32 (by decide) ?_
      refine q_icmp_gt X 49 dX11_window_34 (by decide) (fun c3 => ?_) (fun c3 => ?_)
      · refine q_iconst (v := 0) X dX11_window_49 (by decide) ?_
        exact x_callS X (c_need hl) Y_X11_need tw_377 tw_378 (by omega) rfl rfl (Nat.le_of_ble_eq_true rfl) (rc' := 9) (rs' := 2402) (by omega) (by omega) dX11_window_50 (fun v M' hp _ => absurd rfl hp.2.1) (fun E M' hx => t_out X hN (by obtain ⟨rfl, -, eM⟩ := hx; rw [eM]; exact gzE_T ((gRoom_y T1).trans ((gNode_y Ts).trans (gNeed_n (fun z => z.2.2.1 c3)))) h))
      · refine q_iload X dX11_window_37 6 rfl ?_
        refine q_callSp X (c_X8_isKnown) Y_X8_isKnown tw_828 tw_829 (by omega) rfl rfl (Nat.le_of_ble_eq_true rfl) dX11_window_39 ?_
        refine q_if_eq X 49 dX11_window_42 (by decide) (fun c4 => ?_) (fun c4 => ?_)
        · refine q_iconst (v := 0) X dX11_window_49 (by decide) ?_
          exact x_callS X (c_need hl) Y_X11_need tw_377 tw_378 (by omega) rfl rfl (Nat.le_of_ble_eq_true rfl) (rc' := 9) (rs' := 2402) (by omega) (by omega) dX11_window_50 (fun v M' hp _ => absurd rfl hp.2.1) (fun E M' hx => t_out X hN (by obtain ⟨rfl, -, eM⟩ := hx; rw [eM]; exact gzE_T ((gRoom_y T1).trans ((gNode_y Ts).trans (gNeed_n (fun z => z.2.2.2 c4)))) h))
        · refine q_iconst (v := 1) X dX11_window_45 (by decide) ?_
          refine q_goto X 50 dX11_window_46 (by decide) ?_
          refine q_callS X (c_need1) Y_X11_need tw_377 tw_378 (by omega) rfl rfl (Nat.le_of_ble_eq_true rfl) (rc' := 10) (rs' := 2408) (by omega) (by omega) dX11_window_50 (fun v M' hp _ => ?_)
          obtain ⟨rfl, eM⟩ := hp
          rw [eM]
          clear eM
          show qJ G F _ 7 M 10 2408 53 [(6, .ref (nsh N s)), (5, .ref s), (0, .ref g), (1, .int (nI j)), (2, .int d), (3, .int r), (4, .int what)] []
          obtain ⟨jd, hjd, rfl⟩ := sHas_in hsts.2.2.2.1.2.1 c1
          have hm3 := hsts.2.2.2.1.2.1
          have r1 : 0 ≤ r.toInt ∧ r.toInt ≤ 40 := by
            rw [Int32.lt_iff_toInt_lt] at c2 c3
            have e1 : (0 : Int32).toInt = 0 := by decide
            have e2 : (40 : Int32).toInt = 40 := by decide
            omega
          have hKK : sz3 (nlo N s) (nhi N s) ≤ 2048 → ∀ i, i < sz3 (nlo N s) (nhi N s) → 0 ≤ (fK (nVal N s) (nlo N s) (nhi N s) (nI jd) 2 r i).toInt ∧ (fK (nVal N s) (nlo N s) (nhi N s) (nI jd) 2 r i).toInt ≤ 4096 := fun hz9 i hi9 => by
            obtain ⟨-, e, e2, e3⟩ := fK_window (w := nVal N s) hsts.2.2.2.1 (show sz3 (nlo N s) (nhi N s) ≤ 4096 by omega) (show jd < 3 by omega) hi9 r1.1 r1.2
            have e9 : (fK (nVal N s) (nlo N s) (nhi N s) (nI jd) 2 r i).toInt = _ := e
            have a9 := hsts.2.2.2.1.2.2.1 jd (by omega)
            rw [e9]; generalize (pl3 (vlo (nVal N s)) (vhi (nVal N s)) i (nI jd)).toInt = P at *
            have q1 : (nlo N s jd).toInt ≤ P := e2
            have q2 : P ≤ (nhi N s jd).toInt := e3
            show 0 ≤ min (nhi N s jd).toInt (P + r.toInt) - max (nlo N s jd).toInt (P - r.toInt) + 1 ∧ min (nhi N s jd).toInt (P + r.toInt) - max (nlo N s jd).toInt (P - r.toInt) + 1 ≤ 4096
            omega
          refine q_aload_n X dX11_window_53 2 rfl ?_
          refine q_aload X dX11_window_54 0 rfl ?_
          refine q_aload X dX11_window_56 1 rfl ?_
          refine q_iload_n X dX11_window_58 4 rfl ?_
          refine q_iconst (v := 2) X dX11_window_59 (by decide) ?_
          refine q_iload_n X dX11_window_60 5 rfl ?_
          refine q_iload X dX11_window_61 6 rfl ?_
          refine x_callV X (c_keepFolded hl hB hSs hsts.2.2.1 hsts.2.2.2.1 hKK hroom) Y_X11_keepFolded tw_831 tw_833 sel_13 hG rfl (by omega) rfl rfl (Nat.le_of_ble_eq_true rfl) (rc' := 2) (rs' := 43) (by omega) (by omega) dX11_window_63 (fun v M' hp _ => ?_) (fun E M' hx => t_out X hN (gzE_c ((gRoom_y T1).trans ((gNode_y Ts).trans (gNeed_y ⟨c1, c2, c3, c4⟩))) hx))
          obtain ⟨⟨n9, rfl⟩, hp9⟩ := hp
          generalize M' = M6 at *
          show qJ G F _ 7 M6 2 43 66 [(6, .ref (nsh N s)), (5, .ref s), (0, .ref g), (1, .int (nI j)), (2, .int (nI jd)), (3, .int r), (4, .int what)] [.int n9]
          exact x_ret (q_iret X hr dX11_window_66 (⟨⟨_, rfl⟩, gzP_c ((gRoom_y T1).trans ((gNode_y Ts).trans (gNeed_y ⟨c1, c2, c3, c4⟩))) hp9⟩))

set_option maxRecDepth 20000 in
theorem c_regrid {l : Launch} {G : gV} {M : gMem} {g : Nat} {σ : sA} (hl : l.stackTraces = false) (h : isGV G M g σ) {a d k what : Int32} : xC l G yX11_regrid cX11_regrid 8 (some .int) 10 17 2440 [.ref g, .int a, .int d, .int k, .int what] M (gzI G g (sp_regrid σ a d k what)) (gzE G g (sp_regrid σ a d k what)) := by
  refine xC_of (by decide +kernel) (Nat.le_of_ble_eq_true rfl) (fun F hF X hN hr hn => ?_)
  subst hF
  have X : qX G F cX11_regrid 8 RX11 10 := X
  obtain ⟨vl, nl, kl, fr, dk, dn, dm, ev, en, ek, vs, ns, ks, N, hB⟩ := id h
  obtain ⟨b1, b2, b3, b4, b5, b6, b7, b8, b9, b10, b11, b12⟩ := id hB
  have hG : M g = some (oB 11 [.ref vl, .ref nl, .ref kl, .ref fr, .ref dk, .int (nI (aOf σ)), .int (nI (aBg σ))]) := b1
  obtain ⟨sb, sc, sd, sp, s1, -⟩ := id b2
  obtain ⟨cn1, cm1, d1, d2, d3, -⟩ := id b3
  obtain ⟨mvv, vL1⟩ := id b4.2.1
  obtain ⟨mvn, nL1⟩ := id b5.2.1
  obtain ⟨mvk, kL1⟩ := id b6.2.1
  have hvl : vs.length = (aV σ).length := b9.1
  have hnl : ns.length = (aN σ).length := b10.1
  have hz := b12.sz
  have l41 := b12.2.2.2.1
  have l150 := b12.2.2.2.2.1
  have lof := b12.2.2.2.2.2.1
  show qJ G F _ 8 M 17 2440 0 [(0, .ref g), (1, .int a), (2, .int d), (3, .int k), (4, .int what)] []
  refine q_aload_n X dX11_regrid_0 0 rfl ?_
  refine x_callV X (c_needRoom hl hG b5) Y_X11_needRoom tw_606 tw_608 sel_9 hG rfl (by omega) rfl rfl (Nat.le_of_ble_eq_true rfl) (rc' := 16) (rs' := 2434) (by omega) (by omega) dX11_regrid_1 (fun v M' hp _ => ?_) (fun E M' hx => t_out X hN (by obtain ⟨rfl, q, eM⟩ := hx; rw [eM]; rw [hnl] at q; exact gzE_T (gRoom_n (Nat.not_lt.mpr q)) h))
  obtain ⟨rfl, hroom, eM⟩ := hp
  rw [eM]
  clear eM
  have T1 : (aN σ).length < 150 := by rw [← hnl]; exact hroom
  show qJ G F _ 8 M 16 2434 4 [(0, .ref g), (1, .int a), (2, .int d), (3, .int k), (4, .int what)] []
  refine q_aload_n X dX11_regrid_4 0 rfl ?_
  refine q_iload_n X dX11_regrid_5 1 rfl ?_
  refine x_callV X (c_nodeAt hl hG b5 hB.nodO) Y_X11_nodeAt tw_623 tw_625 sel_11 hG rfl (by omega) rfl rfl (Nat.le_of_ble_eq_true rfl) (rc' := 15) (rs' := 2428) (by omega) (by omega) dX11_regrid_6 (fun v M' hp _ => ?_) (fun E M' hx => t_out X hN (by obtain ⟨rfl, q, eM⟩ := hx; rw [eM]; rw [hnl] at q; exact gzE_T ((gRoom_y T1).trans (gNode_n (ndAt_out (by omega) q))) h))
  obtain ⟨j, s, rfl, hxs, rfl, eM⟩ := hp
  rw [eM]
  clear eM
  obtain ⟨hj150, hSs, hns⟩ := hB.nod hxs
  have Ts := (ndAt_in (σ := σ) (show j < 2 ^ 31 by omega)).trans hns
  have hsts := (b8.1 s hSs).1
  obtain ⟨sbs, scs, sds, sps, shs, -⟩ := id hsts.2.2.1
  show qJ G F _ 8 M 15 2428 9 [(0, .ref g), (1, .int (nI j)), (2, .int d), (3, .int k), (4, .int what)] [.ref s]
  refine q_astore (lv' := [(5, .ref s), (0, .ref g), (1, .int (nI j)), (2, .int d), (3, .int k), (4, .int what)]) X dX11_regrid_9 (by decide) rfl ?_
  refine q_aload X dX11_regrid_11 0 rfl ?_
  refine q_callUp X (x := ⟨"GridVault$Node", "form", "()LGridVault$Shape;"⟩) (owner := "GridVault$Node") (ci := nci N s) (c_X5_form hsts) Y_X5_form tw_628 tw_630 (by decide) rfl (g_decl X tn_1008) tw_629 (se_X5_form hsts.1) hsts.2.1 (by omega) rfl rfl (Nat.le_of_ble_eq_true rfl) dX11_regrid_13 ?_
  refine q_astore (lv' := [(6, .ref (nsh N s)), (5, .ref s), (0, .ref g), (1, .int (nI j)), (2, .int d), (3, .int k), (4, .int what)]) X dX11_regrid_16 (by decide) rfl ?_
  refine q_aload X dX11_regrid_18 0 rfl ?_
  refine q_iload_n X dX11_regrid_20 4 rfl ?_
  refine q_callVp X (c_X7_hasDimension hsts.2.2.1) Y_X7_hasDimension tw_745 tw_270 tw_271 shs rfl (by omega) rfl rfl (Nat.le_of_ble_eq_true rfl) dX11_regrid_21 ?_
  refine q_if_eq X 50 dX11_regrid_24 (by decide) (fun c1 => ?_) (fun c1 => ?_)
  · refine q_iconst (v := 0) X dX11_regrid_50 (by decide) ?_
    exact x_callS X (c_need hl) Y_X11_need tw_377 tw_378 (by omega) rfl rfl (Nat.le_of_ble_eq_true rfl) (rc' := 14) (rs' := 2422) (by omega) (by omega) dX11_regrid_51 (fun v M' hp _ => absurd rfl hp.2.1) (fun E M' hx => t_out X hN (by obtain ⟨rfl, -, eM⟩ := hx; rw [eM]; exact gzE_T ((gRoom_y T1).trans ((gNode_y Ts).trans (gNeed_n (fun z => z.1 c1)))) h))
  · refine q_iload_n X dX11_regrid_27 5 rfl ?_
    refine q_iconst (v := 1) X dX11_regrid_28 (by decide) ?_
    refine q_icmp_lt X 50 dX11_regrid_29 (by decide) (fun c2 => ?_) (fun c2 => ?_)
    · refine q_iconst (v := 0) X dX11_regrid_50 (by decide) ?_
      exact x_callS X (c_need hl) Y_X11_need tw_377 tw_378 (by omega) rfl rfl (Nat.le_of_ble_eq_true rfl) (rc' := 14) (rs' := 2422) (by omega) (by omega) dX11_regrid_51 (fun v M' hp _ => absurd rfl hp.2.1) (fun E M' hx => t_out X hN (by obtain ⟨rfl, -, eM⟩ := hx; rw [eM]; exact gzE_T ((gRoom_y T1).trans ((gNode_y Ts).trans (gNeed_n (fun z => z.2.1 c2)))) h))
    · refine q_iload_n X dX11_regrid_32 5 rfl ?_
      refine q_bipush (v := 40) X dX11_regrid_33 (by decide) ?_
      refine q_icmp_gt X 50 dX11_regrid_35 (by decide) (fun c3 => ?_) (fun c3 => ?_)
      · refine q_iconst (v := 0) X dX11_regrid_50 (by decide) ?_
        exact x_callS X (c_need hl) Y_X11_need tw_377 tw_378 (by omega) rfl rfl (Nat.le_of_ble_eq_true rfl) (rc' := 14) (rs' := 2422) (by omega) (by omega) dX11_regrid_51 (fun v M' hp _ => absurd rfl hp.2.1) (fun E M' hx => t_out X hN (by obtain ⟨rfl, -, eM⟩ := hx; rw [eM]; exact gzE_T ((gRoom_y T1).trans ((gNode_y Ts).trans (gNeed_n (fun z => z.2.2.1 c3)))) h))
      · refine q_iload X dX11_regrid_38 6 rfl ?_
        refine q_callSp X (c_X8_isKnown) Y_X8_isKnown tw_828 tw_829 (by omega) rfl rfl (Nat.le_of_ble_eq_true rfl) dX11_regrid_40 ?_
        refine q_if_eq X 50 dX11_regrid_43 (by decide) (fun c4 => ?_) (fun c4 => ?_)
        · refine q_iconst (v := 0) X dX11_regrid_50 (by decide) ?_
          exact x_callS X (c_need hl) Y_X11_need tw_377 tw_378 (by omega) rfl rfl (Nat.le_of_ble_eq_true rfl) (rc' := 14) (rs' := 2422) (by omega) (by omega) dX11_regrid_51 (fun v M' hp _ => absurd rfl hp.2.1) (fun E M' hx => t_out X hN (by obtain ⟨rfl, -, eM⟩ := hx; rw [eM]; exact gzE_T ((gRoom_y T1).trans ((gNode_y Ts).trans (gNeed_n (fun z => z.2.2.2 c4)))) h))
        · refine q_iconst (v := 1) X dX11_regrid_46 (by decide) ?_
          refine q_goto X 51 dX11_regrid_47 (by decide) ?_
          refine q_callS X (c_need1) Y_X11_need tw_377 tw_378 (by omega) rfl rfl (Nat.le_of_ble_eq_true rfl) (rc' := 15) (rs' := 2428) (by omega) (by omega) dX11_regrid_51 (fun v M' hp _ => ?_)
          obtain ⟨rfl, eM⟩ := hp
          rw [eM]
          clear eM
          show qJ G F _ 8 M 15 2428 54 [(6, .ref (nsh N s)), (5, .ref s), (0, .ref g), (1, .int (nI j)), (2, .int d), (3, .int k), (4, .int what)] []
          obtain ⟨jd, hjd, rfl⟩ := sHas_in hsts.2.2.2.1.2.1 c1
          have hm3 := hsts.2.2.2.1.2.1
          have r1 : 1 ≤ k.toInt ∧ k.toInt ≤ 40 := by
            rw [Int32.lt_iff_toInt_lt] at c2 c3
            have e1 : (1 : Int32).toInt = 1 := by decide
            have e2 : (40 : Int32).toInt = 40 := by decide
            omega
          have k0 : ¬ k = 0 := fun z => by rw [z] at r1; exact absurd r1.1 (by decide)
          obtain ⟨hok, -⟩ := rg_ok (w := nVal N s) hsts.2.2.2.1 hjd r1.1 r1.2
          have hKK : sz3 (rgLo (nVal N s) jd k) (rgHi (nVal N s) jd k) ≤ 2048 → ∀ i, i < sz3 (rgLo (nVal N s) jd k) (rgHi (nVal N s) jd k) → 0 ≤ (fK (nVal N s) (rgLo (nVal N s) jd k) (rgHi (nVal N s) jd k) (nI jd) 1 k i).toInt ∧ (fK (nVal N s) (rgLo (nVal N s) jd k) (rgHi (nVal N s) jd k) (nI jd) 1 k i).toInt ≤ 4096 := fun hz9 i hi9 => by
            obtain ⟨-, e, -, e2, e3, e4, e5⟩ := fK_regrid (w := nVal N s) hsts.2.2.2.1 hjd r1.1 r1.2 (show _ ≤ 4096 by omega) hi9 rfl
            have a9 := hsts.2.2.2.1.2.2.1 jd (by omega)
            rw [e]; generalize (pl3 (rgLo (nVal N s) jd k) (rgHi (nVal N s) jd k) i (nI jd)).toInt * k.toInt = P at *
            have q1 : P ≤ (nhi N s jd).toInt := e2
            have q2 : (nlo N s jd).toInt ≤ P + k.toInt - 1 := e3
            show 0 ≤ min (nhi N s jd).toInt (P + k.toInt - 1) - max (nlo N s jd).toInt P + 1 ∧ min (nhi N s jd).toInt (P + k.toInt - 1) - max (nlo N s jd).toInt P + 1 ≤ 4096
            omega
          refine q_aload X dX11_regrid_54 0 rfl ?_
          refine q_iload_n X dX11_regrid_56 4 rfl ?_
          refine q_aload X dX11_regrid_57 0 rfl ?_
          refine q_iload_n X dX11_regrid_59 4 rfl ?_
          refine q_callVp X (c_X7_low hsts.2.2.1) Y_X7_low tw_250 tw_77 tw_78 shs rfl (by omega) rfl rfl (Nat.le_of_ble_eq_true rfl) dX11_regrid_60 ?_
          refine q_iload_n X dX11_regrid_63 5 rfl ?_
          refine q_callSp X (c_J9_floorDiv_7cf53 k0) Y_J9_floorDiv_7cf53 tw_885 tw_886 (by omega) rfl rfl (Nat.le_of_ble_eq_true rfl) dX11_regrid_64 ?_
          refine q_aload X dX11_regrid_67 0 rfl ?_
          refine q_iload_n X dX11_regrid_69 4 rfl ?_
          refine q_callVp X (c_X7_high hsts.2.2.1) Y_X7_high tw_251 tw_73 tw_74 shs rfl (by omega) rfl rfl (Nat.le_of_ble_eq_true rfl) dX11_regrid_70 ?_
          refine q_iload_n X dX11_regrid_73 5 rfl ?_
          refine q_callSp X (c_J9_floorDiv_7cf53 k0) Y_J9_floorDiv_7cf53 tw_885 tw_886 (by omega) rfl rfl (Nat.le_of_ble_eq_true rfl) dX11_regrid_74 ?_
          refine q_callV X (c_X7_ranged hsts.2.2.1) Y_X7_ranged tw_642 tw_643 tw_644 shs rfl (by omega) rfl rfl (Nat.le_of_ble_eq_true rfl) (rc' := 10) (rs' := 2410) (by omega) (by omega) dX11_regrid_77 (fun v M' hp _ => ?_)
          obtain ⟨q1, rfl, f1, hS1, x1⟩ := hp
          generalize M' = M1 at *
          show qJ G F _ 8 M1 10 2410 80 [(6, .ref (nsh N s)), (5, .ref s), (0, .ref g), (1, .int (nI j)), (2, .int (nI jd)), (3, .int k), (4, .int what)] [.ref q1]
          have hS1 : isShape G M1 q1 (nI (nm N s)) (rgLo (nVal N s) jd k) (rgHi (nVal N s) jd k) := hS1
          have ev1 : mEv (fun _ => False) M M1 := x1.ev
          have hB1 := hB.ev ev1
          have hG1 : M1 g = some (oB 11 [.ref vl, .ref nl, .ref kl, .ref fr, .ref dk, .int (nI (aOf σ)), .int (nI (aBg σ))]) := hB1.1
          refine q_astore (lv' := [(7, .ref q1), (6, .ref (nsh N s)), (5, .ref s), (0, .ref g), (1, .int (nI j)), (2, .int (nI jd)), (3, .int k), (4, .int what)]) X dX11_regrid_80 (by decide) rfl ?_
          refine q_aload_n X dX11_regrid_82 3 rfl ?_
          refine q_aload X dX11_regrid_83 0 rfl ?_
          refine q_aload X dX11_regrid_85 2 rfl ?_
          refine q_iload_n X dX11_regrid_87 5 rfl ?_
          refine q_iconst (v := 1) X dX11_regrid_88 (by decide) ?_
          refine q_iload_n X dX11_regrid_89 6 rfl ?_
          refine q_iload X dX11_regrid_90 7 rfl ?_
          refine x_callV X (c_keepFolded hl hB1 hSs hS1 hok hKK hroom) Y_X11_keepFolded tw_831 tw_833 sel_13 hG1 rfl (by omega) rfl rfl (Nat.le_of_ble_eq_true rfl) (rc' := 2) (rs' := 45) (by omega) (by omega) dX11_regrid_92 (fun v M' hp _ => ?_) (fun E M' hx => t_out X hN (gzE_c ((gRoom_y T1).trans ((gNode_y Ts).trans (gNeed_y ⟨c1, c2, c3, c4⟩))) hx))
          obtain ⟨⟨n9, rfl⟩, hp9⟩ := hp
          generalize M' = M6 at *
          show qJ G F _ 8 M6 2 45 95 [(7, .ref q1), (6, .ref (nsh N s)), (5, .ref s), (0, .ref g), (1, .int (nI j)), (2, .int (nI jd)), (3, .int k), (4, .int what)] [.int n9]
          exact x_ret (q_iret X hr dX11_regrid_95 (⟨⟨_, rfl⟩, gzP_c ((gRoom_y T1).trans ((gNode_y Ts).trans (gNeed_y ⟨c1, c2, c3, c4⟩))) hp9⟩))
