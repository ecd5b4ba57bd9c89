/-! OPERATORS: read, sub, extend, apply, filter -/
def gzI (G : gV) (g : Nat) (o : oc) : Option Value → gMem → Prop := fun v M' => (∃ n : Int32, v = some (.int n)) ∧ gzP G g o v M'
theorem gzP_c {G : gV} {g : Nat} {o o' : oc} {v : Option Value} {M : gMem} (e : o = o') (h : gzP G g o' v M) : gzP G g o v M := e ▸ h
theorem gzE_c {G : gV} {g : Nat} {o o' : oc} {E : String} {M : gMem} (e : o = o') (h : gzE G g o' E M) : gzE G g o E M := e ▸ h
theorem dp_lt {n : Nat} (hn : n ≤ 40) (h : nI n < 40) : n < 40 := by
  rw [Int32.lt_iff_toInt_lt, nI_toInt (by omega)] at h
  have : (40 : Int32).toInt = 40 := by decide
  omega

set_option maxRecDepth 20000 in
theorem c_keepRanged {l : Launch} {G : gV} {M : gMem} {g : Nat} {σ : sA} {vl nl kl fr dk dn dm ev en ek : Nat} {vs ns ks : List Nat} {N : gN} (hl : l.stackTraces = false) (hB : gvB G M g σ vl nl kl fr dk dn dm ev en ek vs ns ks N) {s : Nat} {d x y : Int32} (hSs : nS N s) (hok : okS (nm N s) (rpl3 (nlo N s) d x) (rpl3 (nhi N s) d y)) (h150 : ns.length < 150) : xC l G yX11_keepRanged cX11_keepRanged 6 (some .int) 9 13 2381 [.ref g, .ref s, .int d, .int x, .int y] M (gzI G g (spRg σ (nVal N s) d x y)) (gzE G g (spRg σ (nVal N s) d x y)) := by
  refine xC_of (by decide +kernel) (Nat.le_of_ble_eq_true rfl) (fun F hF X hN hr hn => ?_)
  subst hF
  have X : qX G F cX11_keepRanged 6 RX11 9 := X
  have h : isGV G M g σ := ⟨vl, nl, kl, fr, dk, dn, dm, ev, en, ek, vs, ns, ks, N, hB⟩
  obtain ⟨b1, b2, b3, b4, b5, b6, b7, b8, b9, b10, b11, b12⟩ := id hB
  have hG : M g = some (oB 11 [.ref vl, .ref nl, .ref kl, .ref fr, .ref dk, .int (nI (aOf σ)), .int (nI (aBg σ))]) := b1
  obtain ⟨sb, sc, sd, sp, s1, -⟩ := id b2
  obtain ⟨cn1, cm1, d1, d2, d3, -⟩ := id b3
  obtain ⟨mvv, vL1⟩ := id b4.2.1
  obtain ⟨mvn, nL1⟩ := id b5.2.1
  obtain ⟨mvk, kL1⟩ := id b6.2.1
  have hvl : vs.length = (aV σ).length := b9.1
  have hnl : ns.length = (aN σ).length := b10.1
  have hz := b12.sz
  have l41 := b12.2.2.2.1
  have l150 := b12.2.2.2.2.1
  have lof := b12.2.2.2.2.2.1
  have hst := (b8.1 s hSs).1
  obtain ⟨sbs, scs, sds, sps, shs, -⟩ := id hst.2.2.1
  show qJ G F _ 6 M 13 2381 0 [(0, .ref g), (1, .ref s), (2, .int d), (3, .int x), (4, .int y)] []
  refine q_aload_n X dX11_keepRanged_0 1 rfl ?_
  refine q_callUp X (x := ⟨"GridVault$Node", "form", "()LGridVault$Shape;"⟩) (owner := "GridVault$Node") (ci := nci N s) (c_X5_form hst) Y_X5_form tw_628 tw_630 (by decide) rfl (g_decl X tn_1008) tw_629 (se_X5_form hst.1) hst.2.1 (by omega) rfl rfl (Nat.le_of_ble_eq_true rfl) dX11_keepRanged_1 ?_
  refine q_iload_n X dX11_keepRanged_4 2 rfl ?_
  refine q_iload_n X dX11_keepRanged_5 3 rfl ?_
  refine q_iload X dX11_keepRanged_6 4 rfl ?_
  refine q_callV X (c_X7_ranged hst.2.2.1) Y_X7_ranged tw_642 tw_643 tw_644 shs rfl (by omega) rfl rfl (Nat.le_of_ble_eq_true rfl) (rc' := 8) (rs' := 2363) (by omega) (by omega) dX11_keepRanged_8 (fun v M' hp _ => ?_)
  obtain ⟨q1, rfl, f1, hS1, x1⟩ := hp
  generalize M' = M1 at *
  show qJ G F _ 6 M1 8 2363 11 [(0, .ref g), (1, .ref s), (2, .int d), (3, .int x), (4, .int y)] [.ref q1]
  have ev1 : mEv (fun _ => False) M M1 := x1.ev
  have hst1 : nStat G M1 N s := nStat_add hst (nEq.rf N s) ev1
  have hB1 := hB.ev ev1
  obtain ⟨sb1, sc1, sd1, sp1, sh1, -⟩ := id hS1
  refine q_astore (lv' := [(5, .ref q1), (0, .ref g), (1, .ref s), (2, .int d), (3, .int x), (4, .int y)]) X dX11_keepRanged_11 (by decide) rfl ?_
  refine q_aload X dX11_keepRanged_13 0 rfl ?_
  refine q_aload_n X dX11_keepRanged_15 2 rfl ?_
  refine q_callUp X (x := ⟨"GridVault$Node", "depth", "()I"⟩) (owner := "GridVault$Node") (ci := nci N s) (c_X5_depth hst1) Y_X5_depth tw_658 tw_660 (by decide) rfl (g_declC X tw_659 tw_667) tw_659 (se_X5_depth hst1.1) hst1.2.1 (by omega) rfl rfl (Nat.le_of_ble_eq_true rfl) dX11_keepRanged_16 ?_
  refine x_callS X (c_needLimits hl hS1) Y_X11_needLimits tw_668 tw_669 (by omega) rfl rfl (Nat.le_of_ble_eq_true rfl) (rc' := 7) (rs' := 2357) (by omega) (by omega) dX11_keepRanged_19 (fun v M' hp _ => ?_) (fun E M' hx => t_out X hN (by obtain ⟨rfl, q, eM⟩ := hx; rw [eM]; exact gzE_T (gLim_n q) ⟨vl, nl, kl, fr, dk, dn, dm, ev, en, ek, vs, ns, ks, N, hB1⟩))
  obtain ⟨rfl, hlim, eM⟩ := hp
  rw [eM]
  clear eM
  show qJ G F _ 6 M1 7 2357 22 [(5, .ref q1), (0, .ref g), (1, .ref s), (2, .int d), (3, .int x), (4, .int y)] []
  have hw := within_ok hok hlim.1
  have hdp := dp_lt hst.2.2.2.2.2.2.1 hlim.2
  refine q_aload_n X dX11_keepRanged_22 1 rfl ?_
  refine q_new X (ci := 10) rfl in_RX10 tyX10 tyX10_ok tw_691 tw_692 tw_26 (fs0 := [.null, .int 0, .null, .null, .null, .null, .int 0]) (fun j hj => by rcases (show j = 0 ∨ j = 1 ∨ j = 2 ∨ j = 3 ∨ j = 4 ∨ j = 5 ∨ j = 6 by omega) with rfl | rfl | rfl | rfl | rfl | rfl | rfl <;> rfl) (rc' := 6) (rs' := 2350) (by omega) (by omega) dX11_keepRanged_23 (fun q fq => ?_)
  have m_1 : (mU M1 q (oB 10 [.null, .int 0, .null, .null, .null, .null, .int 0])) q = some (oB 10 [.null, .int 0, .null, .null, .null, .null, .int 0]) := mU_s
  refine q_dup X dX11_keepRanged_26 rfl ?_
  refine q_aload X dX11_keepRanged_27 0 rfl ?_
  refine q_aload_n X dX11_keepRanged_29 2 rfl ?_
  refine q_callS X (c_X10_straight) Y_X10_straight tw_693 tw_694 (by omega) rfl rfl (Nat.le_of_ble_eq_true rfl) (rc' := 5) (rs' := 2347) (by omega) (by omega) dX11_keepRanged_30 (fun v M' hp _ => ?_)
  obtain ⟨tl, rfl, ftl, eM⟩ := hp
  rw [eM]
  clear eM
  have n_2 : q ≠ tl := g_nef m_1 ftl
  have m_3 : (mU (mU M1 q (oB 10 [.null, .int 0, .null, .null, .null, .null, .int 0])) tl (aI G 3 stT)) q = some (oB 10 [.null, .int 0, .null, .null, .null, .null, .int 0]) := (mU_n n_2).trans m_1
  have m_4 : (mU (mU M1 q (oB 10 [.null, .int 0, .null, .null, .null, .null, .int 0])) tl (aI G 3 stT)) tl = some (aI G 3 stT) := mU_s
  show qJ G F _ 6 (mU (mU M1 q (oB 10 [.null, .int 0, .null, .null, .null, .null, .int 0])) tl (aI G 3 stT)) 5 2347 33 [(5, .ref q1), (0, .ref g), (1, .ref s), (2, .int d), (3, .int x), (4, .int y)] [.ref tl, .ref s, .ref q1, .ref q, .ref q, .ref g]
  refine q_iconst (v := 0) X dX11_keepRanged_33 (by decide) ?_
  have nq : M q = none := ev1.none fq
  have evp : mEv (fun _ => False) M (mU (mU M1 q (oB 10 [.null, .int 0, .null, .null, .null, .null, .int 0])) tl (aI G 3 stT)) := ev1.trans ((mEv_new fq).trans (mEv_new ftl))
  have hstp : nStat G (mU (mU M1 q (oB 10 [.null, .int 0, .null, .null, .null, .null, .int 0])) tl (aI G 3 stT)) N s := nStat_add hst (nEq.rf N s) evp
  have hSp : isShape G (mU (mU M1 q (oB 10 [.null, .int 0, .null, .null, .null, .null, .int 0])) tl (aI G 3 stT)) q1 (nI (nm N s)) (rpl3 (nlo N s) d x) (rpl3 (nhi N s) d y) := hS1.ext ((mExt_new fq).trans (mExt_new ftl))
  have hqA : (mU (mU M1 q (oB 10 [.null, .int 0, .null, .null, .null, .null, .int 0])) tl (aI G 3 stT)) q = some (oB 10 [.null, .int 0, .null, .null, .null, .null, .int 0]) := m_3
  have htlA : (mU (mU M1 q (oB 10 [.null, .int 0, .null, .null, .null, .null, .int 0])) tl (aI G 3 stT)) tl = some (aI G 3 stT) := m_4
  have tlq : tl ≠ q := fun z => by rw [z, mU_s] at ftl; cases ftl
  refine q_callI X (c_X10_init hSp hok (by omega) hstp hqA) Y_X10_init tw_696 tw_697 rfl (by omega) rfl rfl (Nat.le_of_ble_eq_true rfl) (rc' := 1) (rs' := 233) (by omega) (by omega) dX11_keepRanged_34 (fun v M' hp _ => ?_)
  obtain ⟨rfl, cl, nb, mb, aa, i1, i2, i3, i4, i5, i6, i7, i8, i9, i10⟩ := hp
  generalize M' = M5 at *
  show qJ G F _ 6 M5 1 233 37 [(5, .ref q1), (0, .ref g), (1, .ref s), (2, .int d), (3, .int x), (4, .int y)] [.ref q, .ref g]
  have ev5 : mEv (fun _ => False) M M5 := fun x hx => by
    have n : x ≠ q := fun z => hx (z ▸ nq)
    have e1 := evp x hx
    have e := i10 x n e1.1
    exact ⟨by rw [e]; exact e1.1, fun k => e.trans (e1.2 k)⟩
  obtain ⟨N2, hB2, hSq, hvq⟩ := hB.made (ta := 0) (den := vwD (nVal N s) (rpl3 (nlo N s) d x) (rpl3 (nhi N s) d y) stT 0) nq (evp.none i5) (evp.none i6) (evp.none i7) (fun z => absurd z (by decide)) ev5 (by unfold isNC; omega) (by decide) i1 (hSp.mv (fun x hx => i10 x (fun z => by rw [z, hqA] at hx; rcases hx with ⟨_, h⟩ | ⟨_, h⟩ <;> cases h) (by rcases hx with ⟨_, h⟩ | ⟨_, h⟩ <;> exact g_so h))) hok (by omega) (by omega) (by omega) i2 i3 i8 i9
    (fun N3 hS3 k1 k2 k3 k4 k5 k6 k7 k8 => kd_view (lo := rpl3 (nlo N s) d x) (hi := rpl3 (nhi N s) d y) (tf := stT) (tf0 := stT) k1 k2 k3 k4 k7 (hS3 s hSs).1 (hS3 s hSs).2.1 (by rw [(hS3 s hSs).2.2, k5]; omega) ((i10 tl tlq (g_so htlA)).trans htlA) (fun _ _ => rfl))
  have hG2 : M5 g = some (oB 11 [.ref vl, .ref nl, .ref kl, .ref fr, .ref dk, .int (nI (aOf σ)), .int (nI (aBg σ))]) := hB2.1
  refine q_da X (fun hda5 => ?_)
  refine q_callV X (c_keep hG2 hB2.2.2.2.2.1 (hB2.2.2.2.2.2.2.2.1.1 q hSq).1 (fun y hy => by obtain ⟨i, hi⟩ := List.getElem?_of_mem hy; exact (hB2.2.2.2.2.2.2.2.1.1 y (hB2.nod hi).2.1).1) h150) Y_X11_keep tw_611 tw_613 sel_10 hG2 rfl (by omega) rfl rfl (Nat.le_of_ble_eq_true rfl) (rc' := 0) (rs' := 0) (by omega) (by omega) dX11_keepRanged_37 (fun v M' hp _ => ?_)
  obtain ⟨rfl, hlp⟩ := hp
  generalize M' = M6 at *
  show qJ G F _ 6 M6 0 0 40 [(5, .ref q1), (0, .ref g), (1, .ref s), (2, .int d), (3, .int x), (4, .int y)] [.int (nI ns.length)]
  have hfin := hB2.pushN hda5 hlp hSq h150
  rw [hvq] at hfin
  exact x_ret (q_iret X hr dX11_keepRanged_40 (⟨⟨_, rfl⟩, gzP_K (by rw [hnl]; exact gLim_y hlim) hfin⟩))

set_option maxRecDepth 20000 in
theorem c_sub {l : Launch} {G : gV} {M : gMem} {g : Nat} {σ : sA} (hl : l.stackTraces = false) (h : isGV G M g σ) {a d x y : Int32} : xC l G yX11_sub cX11_sub 6 (some .int) 10 16 2410 [.ref g, .int a, .int d, .int x, .int y] M (gzI G g (sp_sub σ a d x y)) (gzE G g (sp_sub σ a d x y)) := by
  refine xC_of (by decide +kernel) (Nat.le_of_ble_eq_true rfl) (fun F hF X hN hr hn => ?_)
  subst hF
  have X : qX G F cX11_sub 6 RX11 10 := X
  obtain ⟨vl, nl, kl, fr, dk, dn, dm, ev, en, ek, vs, ns, ks, N, hB⟩ := id h
  obtain ⟨b1, b2, b3, b4, b5, b6, b7, b8, b9, b10, b11, b12⟩ := id hB
  have hG : M g = some (oB 11 [.ref vl, .ref nl, .ref kl, .ref fr, .ref dk, .int (nI (aOf σ)), .int (nI (aBg σ))]) := b1
  obtain ⟨sb, sc, sd, sp, s1, -⟩ := id b2
  obtain ⟨cn1, cm1, d1, d2, d3, -⟩ := id b3
  obtain ⟨mvv, vL1⟩ := id b4.2.1
  obtain ⟨mvn, nL1⟩ := id b5.2.1
  obtain ⟨mvk, kL1⟩ := id b6.2.1
  have hvl : vs.length = (aV σ).length := b9.1
  have hnl : ns.length = (aN σ).length := b10.1
  have hz := b12.sz
  have l41 := b12.2.2.2.1
  have l150 := b12.2.2.2.2.1
  have lof := b12.2.2.2.2.2.1
  show qJ G F _ 6 M 16 2410 0 [(0, .ref g), (1, .int a), (2, .int d), (3, .int x), (4, .int y)] []
  refine q_aload_n X dX11_sub_0 0 rfl ?_
  refine x_callV X (c_needRoom hl hG b5) Y_X11_needRoom tw_606 tw_608 sel_9 hG rfl (by omega) rfl rfl (Nat.le_of_ble_eq_true rfl) (rc' := 15) (rs' := 2404) (by omega) (by omega) dX11_sub_1 (fun v M' hp _ => ?_) (fun E M' hx => t_out X hN (by obtain ⟨rfl, q, eM⟩ := hx; rw [eM]; rw [hnl] at q; exact gzE_T (gRoom_n (Nat.not_lt.mpr q)) h))
  obtain ⟨rfl, hroom, eM⟩ := hp
  rw [eM]
  clear eM
  have T1 : (aN σ).length < 150 := by rw [← hnl]; exact hroom
  show qJ G F _ 6 M 15 2404 4 [(0, .ref g), (1, .int a), (2, .int d), (3, .int x), (4, .int y)] []
  refine q_aload_n X dX11_sub_4 0 rfl ?_
  refine q_iload_n X dX11_sub_5 1 rfl ?_
  refine x_callV X (c_nodeAt hl hG b5 hB.nodO) Y_X11_nodeAt tw_623 tw_625 sel_11 hG rfl (by omega) rfl rfl (Nat.le_of_ble_eq_true rfl) (rc' := 14) (rs' := 2398) (by omega) (by omega) dX11_sub_6 (fun v M' hp _ => ?_) (fun E M' hx => t_out X hN (by obtain ⟨rfl, q, eM⟩ := hx; rw [eM]; rw [hnl] at q; exact gzE_T ((gRoom_y T1).trans (gNode_n (ndAt_out (by omega) q))) h))
  obtain ⟨j, s, rfl, hxs, rfl, eM⟩ := hp
  rw [eM]
  clear eM
  obtain ⟨hj150, hSs, hns⟩ := hB.nod hxs
  have Ts := (ndAt_in (σ := σ) (show j < 2 ^ 31 by omega)).trans hns
  have hsts := (b8.1 s hSs).1
  obtain ⟨sbs, scs, sds, sps, shs, -⟩ := id hsts.2.2.1
  show qJ G F _ 6 M 14 2398 9 [(0, .ref g), (1, .int (nI j)), (2, .int d), (3, .int x), (4, .int y)] [.ref s]
  refine q_astore (lv' := [(5, .ref s), (0, .ref g), (1, .int (nI j)), (2, .int d), (3, .int x), (4, .int y)]) X dX11_sub_9 (by decide) rfl ?_
  refine q_aload X dX11_sub_11 0 rfl ?_
  refine q_callUp X (x := ⟨"GridVault$Node", "form", "()LGridVault$Shape;"⟩) (owner := "GridVault$Node") (ci := nci N s) (c_X5_form hsts) Y_X5_form tw_628 tw_630 (by decide) rfl (g_decl X tn_1008) tw_629 (se_X5_form hsts.1) hsts.2.1 (by omega) rfl rfl (Nat.le_of_ble_eq_true rfl) dX11_sub_13 ?_
  refine q_iload_n X dX11_sub_16 3 rfl ?_
  refine q_iload_n X dX11_sub_17 4 rfl ?_
  refine q_iload X dX11_sub_18 5 rfl ?_
  refine q_callVp X (c_X7_hasRange hsts.2.2.1) Y_X7_hasRange tw_455 tw_456 tw_457 shs rfl (by omega) rfl rfl (Nat.le_of_ble_eq_true rfl) dX11_sub_20 ?_
  refine x_callS X (c_need hl) Y_X11_need tw_377 tw_378 (by omega) rfl rfl (Nat.le_of_ble_eq_true rfl) (rc' := 13) (rs' := 2392) (by omega) (by omega) dX11_sub_23 (fun v M' hp _ => ?_) (fun E M' hx => t_out X hN (by obtain ⟨rfl, hrg, eM⟩ := hx; rw [eM]; exact gzE_T ((gRoom_y T1).trans ((gNode_y Ts).trans (gNeed_n (not_not_intro hrg)))) h))
  obtain ⟨rfl, hrg, eM⟩ := hp
  rw [eM]
  clear eM
  show qJ G F _ 6 M 13 2392 26 [(5, .ref s), (0, .ref g), (1, .int (nI j)), (2, .int d), (3, .int x), (4, .int y)] []
  obtain ⟨j9, hj9, -, hok, -⟩ := rg_sub hsts.2.2.2.1 hrg
  refine q_aload_n X dX11_sub_26 1 rfl ?_
  refine q_aload X dX11_sub_27 0 rfl ?_
  refine q_iload_n X dX11_sub_29 3 rfl ?_
  refine q_iload_n X dX11_sub_30 4 rfl ?_
  refine q_iload X dX11_sub_31 5 rfl ?_
  refine x_callV X (c_keepRanged hl hB hSs hok hroom) Y_X11_keepRanged tw_638 tw_640 sel_12 hG rfl (by omega) rfl rfl (Nat.le_of_ble_eq_true rfl) (rc' := 0) (rs' := 11) (by omega) (by omega) dX11_sub_33 (fun v M' hp _ => ?_) (fun E M' hx => t_out X hN (gzE_c ((gRoom_y T1).trans ((gNode_y Ts).trans (gNeed_y hrg))) hx))
  obtain ⟨⟨n9, rfl⟩, hp9⟩ := hp
  generalize M' = M6 at *
  show qJ G F _ 6 M6 0 11 36 [(5, .ref s), (0, .ref g), (1, .int (nI j)), (2, .int d), (3, .int x), (4, .int y)] [.int n9]
  exact x_ret (q_iret X hr dX11_sub_36 (⟨⟨_, rfl⟩, gzP_c ((gRoom_y T1).trans ((gNode_y Ts).trans (gNeed_y hrg))) hp9⟩))

set_option maxRecDepth 20000 in
theorem c_extend {l : Launch} {G : gV} {M : gMem} {g : Nat} {σ : sA} (hl : l.stackTraces = false) (h : isGV G M g σ) {a d x y : Int32} : xC l G yX11_extend cX11_extend 7 (some .int) 10 16 2410 [.ref g, .int a, .int d, .int x, .int y] M (gzI G g (sp_extend σ a d x y)) (gzE G g (sp_extend σ a d x y)) := by
  refine xC_of (by decide +kernel) (Nat.le_of_ble_eq_true rfl) (fun F hF X hN hr hn => ?_)
  subst hF
  have X : qX G F cX11_extend 7 RX11 10 := X
  obtain ⟨vl, nl, kl, fr, dk, dn, dm, ev, en, ek, vs, ns, ks, N, hB⟩ := id h
  obtain ⟨b1, b2, b3, b4, b5, b6, b7, b8, b9, b10, b11, b12⟩ := id hB
  have hG : M g = some (oB 11 [.ref vl, .ref nl, .ref kl, .ref fr, .ref dk, .int (nI (aOf σ)), .int (nI (aBg σ))]) := b1
  obtain ⟨sb, sc, sd, sp, s1, -⟩ := id b2
  obtain ⟨cn1, cm1, d1, d2, d3, -⟩ := id b3
  obtain ⟨mvv, vL1⟩ := id b4.2.1
  obtain ⟨mvn, nL1⟩ := id b5.2.1
  obtain ⟨mvk, kL1⟩ := id b6.2.1
  have hvl : vs.length = (aV σ).length := b9.1
  have hnl : ns.length = (aN σ).length := b10.1
  have hz := b12.sz
  have l41 := b12.2.2.2.1
  have l150 := b12.2.2.2.2.1
  have lof := b12.2.2.2.2.2.1
  show qJ G F _ 7 M 16 2410 0 [(0, .ref g), (1, .int a), (2, .int d), (3, .int x), (4, .int y)] []
  refine q_aload_n X dX11_extend_0 0 rfl ?_
  refine x_callV X (c_needRoom hl hG b5) Y_X11_needRoom tw_606 tw_608 sel_9 hG rfl (by omega) rfl rfl (Nat.le_of_ble_eq_true rfl) (rc' := 15) (rs' := 2404) (by omega) (by omega) dX11_extend_1 (fun v M' hp _ => ?_) (fun E M' hx => t_out X hN (by obtain ⟨rfl, q, eM⟩ := hx; rw [eM]; rw [hnl] at q; exact gzE_T (gRoom_n (Nat.not_lt.mpr q)) h))
  obtain ⟨rfl, hroom, eM⟩ := hp
  rw [eM]
  clear eM
  have T1 : (aN σ).length < 150 := by rw [← hnl]; exact hroom
  show qJ G F _ 7 M 15 2404 4 [(0, .ref g), (1, .int a), (2, .int d), (3, .int x), (4, .int y)] []
  refine q_aload_n X dX11_extend_4 0 rfl ?_
  refine q_iload_n X dX11_extend_5 1 rfl ?_
  refine x_callV X (c_nodeAt hl hG b5 hB.nodO) Y_X11_nodeAt tw_623 tw_625 sel_11 hG rfl (by omega) rfl rfl (Nat.le_of_ble_eq_true rfl) (rc' := 14) (rs' := 2398) (by omega) (by omega) dX11_extend_6 (fun v M' hp _ => ?_) (fun E M' hx => t_out X hN (by obtain ⟨rfl, q, eM⟩ := hx; rw [eM]; rw [hnl] at q; exact gzE_T ((gRoom_y T1).trans (gNode_n (ndAt_out (by omega) q))) h))
  obtain ⟨j, s, rfl, hxs, rfl, eM⟩ := hp
  rw [eM]
  clear eM
  obtain ⟨hj150, hSs, hns⟩ := hB.nod hxs
  have Ts := (ndAt_in (σ := σ) (show j < 2 ^ 31 by omega)).trans hns
  have hsts := (b8.1 s hSs).1
  obtain ⟨sbs, scs, sds, sps, shs, -⟩ := id hsts.2.2.1
  show qJ G F _ 7 M 14 2398 9 [(0, .ref g), (1, .int (nI j)), (2, .int d), (3, .int x), (4, .int y)] [.ref s]
  refine q_astore (lv' := [(5, .ref s), (0, .ref g), (1, .int (nI j)), (2, .int d), (3, .int x), (4, .int y)]) X dX11_extend_9 (by decide) rfl ?_
  refine q_aload X dX11_extend_11 0 rfl ?_
  refine q_callUp X (x := ⟨"GridVault$Node", "form", "()LGridVault$Shape;"⟩) (owner := "GridVault$Node") (ci := nci N s) (c_X5_form hsts) Y_X5_form tw_628 tw_630 (by decide) rfl (g_decl X tn_1008) tw_629 (se_X5_form hsts.1) hsts.2.1 (by omega) rfl rfl (Nat.le_of_ble_eq_true rfl) dX11_extend_13 ?_
  refine q_astore (lv' := [(6, .ref (nsh N s)), (5, .ref s), (0, .ref g), (1, .int (nI j)), (2, .int d), (3, .int x), (4, .int y)]) X dX11_extend_16 (by decide) rfl ?_
  refine q_aload X dX11_extend_18 0 rfl ?_
  refine q_iload_n X dX11_extend_20 4 rfl ?_
  refine q_callVp X (c_X7_hasDimension hsts.2.2.1) Y_X7_hasDimension tw_745 tw_270 tw_271 shs rfl (by omega) rfl rfl (Nat.le_of_ble_eq_true rfl) dX11_extend_21 ?_
  refine q_if_eq X 52 dX11_extend_24 (by decide) (fun c1 => ?_) (fun c1 => ?_)
  · refine q_iconst (v := 0) X dX11_extend_52 (by decide) ?_
    exact x_callS X (c_need hl) Y_X11_need tw_377 tw_378 (by omega) rfl rfl (Nat.le_of_ble_eq_true rfl) (rc' := 13) (rs' := 2392) (by omega) (by omega) dX11_extend_53 (fun v M' hp _ => absurd rfl hp.2.1) (fun E M' hx => t_out X hN (by obtain ⟨rfl, -, eM⟩ := hx; rw [eM]; exact gzE_T ((gRoom_y T1).trans ((gNode_y Ts).trans (gNeed_n (fun z => z.1 c1)))) h))
  · refine q_iload_n X dX11_extend_27 5 rfl ?_
    refine q_aload X dX11_extend_28 0 rfl ?_
    refine q_iload_n X dX11_extend_30 4 rfl ?_
    refine q_callVp X (c_X7_low hsts.2.2.1) Y_X7_low tw_250 tw_77 tw_78 shs rfl (by omega) rfl rfl (Nat.le_of_ble_eq_true rfl) dX11_extend_31 ?_
    refine q_icmp_gt X 52 dX11_extend_34 (by decide) (fun c2 => ?_) (fun c2 => ?_)
    · refine q_iconst (v := 0) X dX11_extend_52 (by decide) ?_
      exact x_callS X (c_need hl) Y_X11_need tw_377 tw_378 (by omega) rfl rfl (Nat.le_of_ble_eq_true rfl) (rc' := 13) (rs' := 2392) (by omega) (by omega) dX11_extend_53 (fun v M' hp _ => absurd rfl hp.2.1) (fun E M' hx => t_out X hN (by obtain ⟨rfl, -, eM⟩ := hx; rw [eM]; exact gzE_T ((gRoom_y T1).trans ((gNode_y Ts).trans (gNeed_n (fun z => z.2.1 c2)))) h))
    · refine q_iload X dX11_extend_37 6 rfl ?_
      refine q_aload X dX11_extend_39 0 rfl ?_
      refine q_iload_n X dX11_extend_41 4 rfl ?_
      refine q_callVp X (c_X7_high hsts.2.2.1) Y_X7_high tw_251 tw_73 tw_74 shs rfl (by omega) rfl rfl (Nat.le_of_ble_eq_true rfl) dX11_extend_42 ?_
      refine q_icmp_lt X 52 dX11_extend_45 (by decide) (fun c3 => ?_) (fun c3 => ?_)
      · refine q_iconst (v := 0) X dX11_extend_52 (by decide) ?_
        exact x_callS X (c_need hl) Y_X11_need tw_377 tw_378 (by omega) rfl rfl (Nat.le_of_ble_eq_true rfl) (rc' := 13) (rs' := 2392) (by omega) (by omega) dX11_extend_53 (fun v M' hp _ => absurd rfl hp.2.1) (fun E M' hx => t_out X hN (by obtain ⟨rfl, -, eM⟩ := hx; rw [eM]; exact gzE_T ((gRoom_y T1).trans ((gNode_y Ts).trans (gNeed_n (fun z => z.2.2 c3)))) h))
      · refine q_iconst (v := 1) X dX11_extend_48 (by decide) ?_
        refine q_goto X 53 dX11_extend_49 (by decide) ?_
        refine q_callS X (c_need1) Y_X11_need tw_377 tw_378 (by omega) rfl rfl (Nat.le_of_ble_eq_true rfl) (rc' := 14) (rs' := 2398) (by omega) (by omega) dX11_extend_53 (fun v M' hp _ => ?_)
        obtain ⟨rfl, eM⟩ := hp
        rw [eM]
        clear eM
        show qJ G F _ 7 M 14 2398 56 [(6, .ref (nsh N s)), (5, .ref s), (0, .ref g), (1, .int (nI j)), (2, .int d), (3, .int x), (4, .int y)] []
        refine q_iload_n X dX11_extend_56 5 rfl ?_
        refine q_sipush (v := (-1000)) X dX11_extend_57 (by decide) ?_
        refine q_icmp_lt X 75 dX11_extend_60 (by decide) (fun c4 => ?_) (fun c4 => ?_)
        · refine q_iconst (v := 0) X dX11_extend_75 (by decide) ?_
          exact x_callS X (c_need hl) Y_X11_need tw_377 tw_378 (by omega) rfl rfl (Nat.le_of_ble_eq_true rfl) (rc' := 13) (rs' := 2392) (by omega) (by omega) dX11_extend_76 (fun v M' hp _ => absurd rfl hp.2.1) (fun E M' hx => t_out X hN (by obtain ⟨rfl, -, eM⟩ := hx; rw [eM]; exact gzE_T ((gRoom_y T1).trans ((gNode_y Ts).trans ((gNeed_y ⟨c1, c2, c3⟩).trans (gNeed_n (fun z => z.1 c4))))) h))
        · refine q_iload X dX11_extend_63 6 rfl ?_
          refine q_sipush (v := 1000) X dX11_extend_65 (by decide) ?_
          refine q_icmp_gt X 75 dX11_extend_68 (by decide) (fun c5 => ?_) (fun c5 => ?_)
          · refine q_iconst (v := 0) X dX11_extend_75 (by decide) ?_
            exact x_callS X (c_need hl) Y_X11_need tw_377 tw_378 (by omega) rfl rfl (Nat.le_of_ble_eq_true rfl) (rc' := 13) (rs' := 2392) (by omega) (by omega) dX11_extend_76 (fun v M' hp _ => absurd rfl hp.2.1) (fun E M' hx => t_out X hN (by obtain ⟨rfl, -, eM⟩ := hx; rw [eM]; exact gzE_T ((gRoom_y T1).trans ((gNode_y Ts).trans ((gNeed_y ⟨c1, c2, c3⟩).trans (gNeed_n (fun z => z.2 c5))))) h))
          · refine q_iconst (v := 1) X dX11_extend_71 (by decide) ?_
            refine q_goto X 76 dX11_extend_72 (by decide) ?_
            refine q_callS X (c_need1) Y_X11_need tw_377 tw_378 (by omega) rfl rfl (Nat.le_of_ble_eq_true rfl) (rc' := 14) (rs' := 2398) (by omega) (by omega) dX11_extend_76 (fun v M' hp _ => ?_)
            obtain ⟨rfl, eM⟩ := hp
            rw [eM]
            clear eM
            show qJ G F _ 7 M 14 2398 79 [(6, .ref (nsh N s)), (5, .ref s), (0, .ref g), (1, .int (nI j)), (2, .int d), (3, .int x), (4, .int y)] []
            obtain ⟨j9, hj9, -, hok⟩ := rg_ext hsts.2.2.2.1 c1 c2 c3 c4 c5
            refine q_aload_n X dX11_extend_79 2 rfl ?_
            refine q_aload X dX11_extend_80 1 rfl ?_
            refine q_iload_n X dX11_extend_82 4 rfl ?_
            refine q_iload_n X dX11_extend_83 5 rfl ?_
            refine q_iload X dX11_extend_84 6 rfl ?_
            refine x_callV X (c_keepRanged hl hB hSs hok hroom) Y_X11_keepRanged tw_638 tw_640 sel_12 hG rfl (by omega) rfl rfl (Nat.le_of_ble_eq_true rfl) (rc' := 1) (rs' := 17) (by omega) (by omega) dX11_extend_86 (fun v M' hp _ => ?_) (fun E M' hx => t_out X hN (gzE_c ((gRoom_y T1).trans ((gNode_y Ts).trans ((gNeed_y ⟨c1, c2, c3⟩).trans (gNeed_y ⟨c4, c5⟩)))) hx))
            obtain ⟨⟨n9, rfl⟩, hp9⟩ := hp
            generalize M' = M6 at *
            show qJ G F _ 7 M6 1 17 89 [(6, .ref (nsh N s)), (5, .ref s), (0, .ref g), (1, .int (nI j)), (2, .int d), (3, .int x), (4, .int y)] [.int n9]
            exact x_ret (q_iret X hr dX11_extend_89 (⟨⟨_, rfl⟩, gzP_c ((gRoom_y T1).trans ((gNode_y Ts).trans ((gNeed_y ⟨c1, c2, c3⟩).trans (gNeed_y ⟨c4, c5⟩)))) hp9⟩))
