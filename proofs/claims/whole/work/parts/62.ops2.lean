/-! OPERATORS: read, apply, filter, slice, swap -/
theorem op_in {op : Int32} {k : Nat} (hk : k ≤ 100) (h1 : ¬ op < 0) (h2 : ¬ nI k ≤ op) : ∃ r, r < k ∧ op = nI r := by
  rcases pk_ix op (show k < 2 ^ 31 by omega) with q | q | q
  · exact absurd q h1
  · exact absurd q h2
  · exact q
theorem nI_m1 {m : Nat} (h : 1 ≤ m) : nI m - 1 = nI (m - 1) := by
  have : m = (m - 1) + 1 := by omega
  rw [this, ← nI_1, Int32.add_sub_cancel]; rfl
theorem m_ge2 {m : Nat} (hm : m ≤ 3) (h : ¬ nI m ≤ 1) : 2 ≤ m := by
  rw [Int32.le_iff_toInt_le, nI_toInt (by omega)] at h
  have : (1 : Int32).toInt = 1 := by decide
  omega

set_option maxRecDepth 20000 in
theorem c_read {l : Launch} {G : gV} {M : gMem} {g : Nat} {σ : sA} (hl : l.stackTraces = false) (h : isGV G M g σ) {i : Int32} : xC l G yX11_read cX11_read 2 (some .int) 9 4 250 [.ref g, .int i] M (gzI G g (sp_read σ i)) (gzE G g (sp_read σ i)) := by
  refine xC_of (by decide +kernel) (Nat.le_of_ble_eq_true rfl) (fun F hF X hN hr hn => ?_)
  subst hF
  have X : qX G F cX11_read 2 RX11 9 := X
  obtain ⟨vl, nl, kl, fr, dk, dn, dm, ev, en, ek, vs, ns, ks, N, hB⟩ := id h
  obtain ⟨b1, b2, b3, b4, b5, b6, b7, b8, b9, b10, b11, b12⟩ := id hB
  have hG : M g = some (oB 11 [.ref vl, .ref nl, .ref kl, .ref fr, .ref dk, .int (nI (aOf σ)), .int (nI (aBg σ))]) := b1
  obtain ⟨sb, sc, sd, sp, s1, -⟩ := id b2
  obtain ⟨cn1, cm1, d1, d2, d3, -⟩ := id b3
  obtain ⟨mvv, vL1⟩ := id b4.2.1
  obtain ⟨mvn, nL1⟩ := id b5.2.1
  obtain ⟨mvk, kL1⟩ := id b6.2.1
  have hvl : vs.length = (aV σ).length := b9.1
  have hnl : ns.length = (aN σ).length := b10.1
  have hz := b12.sz
  have l41 := b12.2.2.2.1
  have l150 := b12.2.2.2.2.1
  have lof := b12.2.2.2.2.2.1
  refine q_da X (fun hda => ?_)
  show qJ G F _ 2 M 4 250 0 [(0, .ref g), (1, .int i)] []
  refine q_aload_n X dX11_read_0 0 rfl ?_
  refine x_callV X (c_needRoom hl hG b5) Y_X11_needRoom tw_606 tw_608 sel_9 hG rfl (by omega) rfl rfl (Nat.le_of_ble_eq_true rfl) (rc' := 3) (rs' := 244) (by omega) (by omega) dX11_read_1 (fun v M' hp _ => ?_) (fun E M' hx => t_out X hN (by obtain ⟨rfl, q, eM⟩ := hx; rw [eM]; rw [hnl] at q; exact gzE_T (gRoom_n (Nat.not_lt.mpr q)) h))
  obtain ⟨rfl, hroom, eM⟩ := hp
  rw [eM]
  clear eM
  have T1 : (aN σ).length < 150 := by rw [← hnl]; exact hroom
  show qJ G F _ 2 M 3 244 4 [(0, .ref g), (1, .int i)] []
  refine q_aload_n X dX11_read_4 0 rfl ?_
  refine q_aload_n X dX11_read_5 0 rfl ?_
  refine q_iload_n X dX11_read_6 1 rfl ?_
  refine x_callV X (c_versionAt hl hG b4 hB.verO) Y_X11_versionAt tw_480 tw_482 sel_8 hG rfl (by omega) rfl rfl (Nat.le_of_ble_eq_true rfl) (rc' := 2) (rs' := 238) (by omega) (by omega) dX11_read_7 (fun v M' hp _ => ?_) (fun E M' hx => t_out X hN (by obtain ⟨rfl, q, eM⟩ := hx; rw [eM]; rw [hvl] at q; exact gzE_T ((gRoom_y T1).trans (gVer_n (vAt_out (by omega) q))) h))
  obtain ⟨j, a, rfl, ha, rfl, eM⟩ := hp
  rw [eM]
  clear eM
  obtain ⟨c, hc, hj41, hSa, hia, hCa, hOa⟩ := hB.ver ha
  obtain ⟨_, _, hKa, -⟩ := id hCa
  show qJ G F _ 2 M 2 238 10 [(0, .ref g), (1, .int (nI j))] [.ref a, .ref g]
  refine q_callV X (c_keep hG b5 (b8.1 a hSa).1 (fun y hy => by obtain ⟨i, hi⟩ := List.getElem?_of_mem hy; exact (b8.1 y (hB.nod hi).2.1).1) hroom) Y_X11_keep tw_611 tw_613 sel_10 hG rfl (by omega) rfl rfl (Nat.le_of_ble_eq_true rfl) (rc' := 1) (rs' := 5) (by omega) (by omega) dX11_read_10 (fun v M' hp _ => ?_)
  obtain ⟨rfl, hlp⟩ := hp
  generalize M' = M6 at *
  show qJ G F _ 2 M6 1 5 13 [(0, .ref g), (1, .int (nI j))] [.int (nI ns.length)]
  have hfin := hB.pushN hda hlp hSa hroom
  rw [(b9.2 j a c ha hc).2.2.1] at hfin
  exact x_ret (q_iret X hr dX11_read_13 (⟨⟨_, rfl⟩, gzP_K (by rw [hnl]; exact (gRoom_y T1).trans (gVer_y ((vAt_in (by omega)).trans hc))) hfin⟩))

set_option maxRecDepth 20000 in
theorem c_apply {l : Launch} {G : gV} {M : gMem} {g : Nat} {σ : sA} (hl : l.stackTraces = false) (h : isGV G M g σ) {a op : Int32} {c : Int64} : xC l G yX11_apply cX11_apply 6 (some .int) 10 11 2400 [.ref g, .int a, .int op, .long c] M (gzI G g (sp_apply σ a op c)) (gzE G g (sp_apply σ a op c)) := by
  refine xC_of (by decide +kernel) (Nat.le_of_ble_eq_true rfl) (fun F hF X hN hr hn => ?_)
  subst hF
  have X : qX G F cX11_apply 6 RX11 10 := X
  obtain ⟨vl, nl, kl, fr, dk, dn, dm, ev, en, ek, vs, ns, ks, N, hB⟩ := id h
  obtain ⟨b1, b2, b3, b4, b5, b6, b7, b8, b9, b10, b11, b12⟩ := id hB
  have hG : M g = some (oB 11 [.ref vl, .ref nl, .ref kl, .ref fr, .ref dk, .int (nI (aOf σ)), .int (nI (aBg σ))]) := b1
  obtain ⟨sb, sc, sd, sp, s1, -⟩ := id b2
  obtain ⟨cn1, cm1, d1, d2, d3, -⟩ := id b3
  obtain ⟨mvv, vL1⟩ := id b4.2.1
  obtain ⟨mvn, nL1⟩ := id b5.2.1
  obtain ⟨mvk, kL1⟩ := id b6.2.1
  have hvl : vs.length = (aV σ).length := b9.1
  have hnl : ns.length = (aN σ).length := b10.1
  have hz := b12.sz
  have l41 := b12.2.2.2.1
  have l150 := b12.2.2.2.2.1
  have lof := b12.2.2.2.2.2.1
  show qJ G F _ 6 M 11 2400 0 [(0, .ref g), (1, .int a), (2, .int op), (3, .long c)] []
  refine q_aload_n X dX11_apply_0 0 rfl ?_
  refine x_callV X (c_needRoom hl hG b5) Y_X11_needRoom tw_606 tw_608 sel_9 hG rfl (by omega) rfl rfl (Nat.le_of_ble_eq_true rfl) (rc' := 10) (rs' := 2394) (by omega) (by omega) dX11_apply_1 (fun v M' hp _ => ?_) (fun E M' hx => t_out X hN (by obtain ⟨rfl, q, eM⟩ := hx; rw [eM]; rw [hnl] at q; exact gzE_T (gRoom_n (Nat.not_lt.mpr q)) h))
  obtain ⟨rfl, hroom, eM⟩ := hp
  rw [eM]
  clear eM
  have T1 : (aN σ).length < 150 := by rw [← hnl]; exact hroom
  show qJ G F _ 6 M 10 2394 4 [(0, .ref g), (1, .int a), (2, .int op), (3, .long c)] []
  refine q_aload_n X dX11_apply_4 0 rfl ?_
  refine q_iload_n X dX11_apply_5 1 rfl ?_
  refine x_callV X (c_nodeAt hl hG b5 hB.nodO) Y_X11_nodeAt tw_623 tw_625 sel_11 hG rfl (by omega) rfl rfl (Nat.le_of_ble_eq_true rfl) (rc' := 9) (rs' := 2388) (by omega) (by omega) dX11_apply_6 (fun v M' hp _ => ?_) (fun E M' hx => t_out X hN (by obtain ⟨rfl, q, eM⟩ := hx; rw [eM]; rw [hnl] at q; exact gzE_T ((gRoom_y T1).trans (gNode_n (ndAt_out (by omega) q))) h))
  obtain ⟨j, s, rfl, hxs, rfl, eM⟩ := hp
  rw [eM]
  clear eM
  obtain ⟨hj150, hSs, hns⟩ := hB.nod hxs
  have Ts := (ndAt_in (σ := σ) (show j < 2 ^ 31 by omega)).trans hns
  have hsts := (b8.1 s hSs).1
  obtain ⟨sbs, scs, sds, sps, shs, -⟩ := id hsts.2.2.1
  show qJ G F _ 6 M 9 2388 9 [(0, .ref g), (1, .int (nI j)), (2, .int op), (3, .long c)] [.ref s]
  refine q_astore (lv' := [(5, .ref s), (0, .ref g), (1, .int (nI j)), (2, .int op), (3, .long c)]) X dX11_apply_9 (by decide) rfl ?_
  refine q_iload_n X dX11_apply_11 3 rfl ?_
  refine q_if_lt X 25 dX11_apply_12 (by decide) (fun c1 => ?_) (fun c1 => ?_)
  · refine q_iconst (v := 0) X dX11_apply_25 (by decide) ?_
    exact x_callS X (c_need hl) Y_X11_need tw_377 tw_378 (by omega) rfl rfl (Nat.le_of_ble_eq_true rfl) (rc' := 8) (rs' := 2382) (by omega) (by omega) dX11_apply_26 (fun v M' hp _ => absurd rfl hp.2.1) (fun E M' hx => t_out X hN (by obtain ⟨rfl, -, eM⟩ := hx; rw [eM]; exact gzE_T ((gRoom_y T1).trans ((gNode_y Ts).trans (gNeed_n (fun z => z.1 c1)))) h))
  · refine q_iload_n X dX11_apply_15 3 rfl ?_
    refine q_bipush (v := 6) X dX11_apply_16 (by decide) ?_
    refine q_icmp_ge X 25 dX11_apply_18 (by decide) (fun c2 => ?_) (fun c2 => ?_)
    · refine q_iconst (v := 0) X dX11_apply_25 (by decide) ?_
      exact x_callS X (c_need hl) Y_X11_need tw_377 tw_378 (by omega) rfl rfl (Nat.le_of_ble_eq_true rfl) (rc' := 8) (rs' := 2382) (by omega) (by omega) dX11_apply_26 (fun v M' hp _ => absurd rfl hp.2.1) (fun E M' hx => t_out X hN (by obtain ⟨rfl, -, eM⟩ := hx; rw [eM]; exact gzE_T ((gRoom_y T1).trans ((gNode_y Ts).trans (gNeed_n (fun z => z.2 c2)))) h))
    · refine q_iconst (v := 1) X dX11_apply_21 (by decide) ?_
      refine q_goto X 26 dX11_apply_22 (by decide) ?_
      refine q_callS X (c_need1) Y_X11_need tw_377 tw_378 (by omega) rfl rfl (Nat.le_of_ble_eq_true rfl) (rc' := 9) (rs' := 2388) (by omega) (by omega) dX11_apply_26 (fun v M' hp _ => ?_)
      obtain ⟨rfl, eM⟩ := hp
      rw [eM]
      clear eM
      show qJ G F _ 6 M 9 2388 29 [(5, .ref s), (0, .ref g), (1, .int (nI j)), (2, .int op), (3, .long c)] []
      refine q_aload X dX11_apply_29 0 rfl ?_
      refine q_callUp X (x := ⟨"GridVault$Node", "form", "()LGridVault$Shape;"⟩) (owner := "GridVault$Node") (ci := nci N s) (c_X5_form hsts) Y_X5_form tw_628 tw_630 (by decide) rfl (g_decl X tn_1008) tw_629 (se_X5_form hsts.1) hsts.2.1 (by omega) rfl rfl (Nat.le_of_ble_eq_true rfl) dX11_apply_31 ?_
      refine q_aload X dX11_apply_34 0 rfl ?_
      refine q_callUp X (x := ⟨"GridVault$Node", "depth", "()I"⟩) (owner := "GridVault$Node") (ci := nci N s) (c_X5_depth hsts) Y_X5_depth tw_658 tw_660 (by decide) rfl (g_declC X tw_659 tw_667) tw_659 (se_X5_depth hsts.1) hsts.2.1 (by omega) rfl rfl (Nat.le_of_ble_eq_true rfl) dX11_apply_36 ?_
      refine x_callS X (c_needLimits hl hsts.2.2.1) Y_X11_needLimits tw_668 tw_669 (by omega) rfl rfl (Nat.le_of_ble_eq_true rfl) (rc' := 8) (rs' := 2382) (by omega) (by omega) dX11_apply_39 (fun v M' hp _ => ?_) (fun E M' hx => t_out X hN (by obtain ⟨rfl, q, eM⟩ := hx; rw [eM]; exact gzE_T ((gRoom_y T1).trans ((gNode_y Ts).trans ((gNeed_y ⟨c1, c2⟩).trans (gLim_n q)))) h))
      obtain ⟨rfl, hlim, eM⟩ := hp
      rw [eM]
      clear eM
      show qJ G F _ 6 M 8 2382 42 [(5, .ref s), (0, .ref g), (1, .int (nI j)), (2, .int op), (3, .long c)] []
      have hw := within_ok hsts.2.2.2.1 hlim.1
      have hdp := dp_lt hsts.2.2.2.2.2.2.1 hlim.2
      refine q_aload_n X dX11_apply_42 1 rfl ?_
      refine q_new X (ci := 3) rfl in_RX2 tyX2 tyX2_ok tw_753 tw_754 tw_27 (fs0 := [.null, .int 0, .null, .null, .null, .int 0, .long 0]) (fun j hj => by rcases (show j = 0 ∨ j = 1 ∨ j = 2 ∨ j = 3 ∨ j = 4 ∨ j = 5 ∨ j = 6 by omega) with rfl | rfl | rfl | rfl | rfl | rfl | rfl <;> rfl) (rc' := 7) (rs' := 2375) (by omega) (by omega) dX11_apply_43 (fun q fq => ?_)
      have m_1 : (mU M q (oB 3 [.null, .int 0, .null, .null, .null, .int 0, .long 0])) q = some (oB 3 [.null, .int 0, .null, .null, .null, .int 0, .long 0]) := mU_s
      refine q_dup X dX11_apply_46 rfl ?_
      refine q_aload X dX11_apply_47 0 rfl ?_
      refine q_iload_n X dX11_apply_49 3 rfl ?_
      refine q_lload_n X dX11_apply_50 4 rfl ?_
      have nq : M q = none := fq
      have evp : mEv (fun _ => False) M (mU M q (oB 3 [.null, .int 0, .null, .null, .null, .int 0, .long 0])) := mEv_new fq
      have hstp : nStat G (mU M q (oB 3 [.null, .int 0, .null, .null, .null, .int 0, .long 0])) N s := nStat_add hsts (nEq.rf N s) evp
      have h150 := hroom
      refine q_callI X (c_X2_init hstp mU_s) Y_X2_init tw_755 tw_756 rfl (by omega) rfl rfl (Nat.le_of_ble_eq_true rfl) (rc' := 3) (rs' := 261) (by omega) (by omega) dX11_apply_51 (fun v M' hp _ => ?_)
      obtain ⟨rfl, cl, nb, mb, aa, i1, i2, i3, i4, i5, i6, i7, i8, i9, i10⟩ := hp
      generalize M' = M5 at *
      show qJ G F _ 6 M5 3 261 54 [(5, .ref s), (0, .ref g), (1, .int (nI j)), (2, .int op), (3, .long c)] [.ref q, .ref g]
      have ev5 : mEv (fun _ => False) M M5 := fun x hx => by
        have n : x ≠ q := fun z => hx (z ▸ nq)
        have e1 := evp x hx
        have e := i10 x n e1.1
        exact ⟨by rw [e]; exact e1.1, fun k => e.trans (e1.2 k)⟩
      obtain ⟨N2, hB2, hSq, hvq⟩ := hB.made (ta := 0) (den := eaD (nVal N s) (op) c) nq (evp.none i5) (evp.none i6) (evp.none i7) (fun z => absurd z (by decide)) ev5 (by unfold isNC; omega) (by decide) i1 (hsts.2.2.1.ev ev5 (fun _ _ => id)) hsts.2.2.2.1 (by omega) (by omega) (by omega) i2 i3 i8 i9
        (fun N3 hS3 k1 k2 k3 k4 k5 k6 k7 k8 => kd_each k1 k2 k7 (hS3 s hSs).1 (hS3 s hSs).2.1 (by rw [(hS3 s hSs).2.2, k5]; omega) (by obtain ⟨r, hr, e⟩ := op_in (k := 6) (by decide) c1 c2; exact ⟨r, by omega, e⟩))
      have hG2 : M5 g = some (oB 11 [.ref vl, .ref nl, .ref kl, .ref fr, .ref dk, .int (nI (aOf σ)), .int (nI (aBg σ))]) := hB2.1
      refine q_da X (fun hda5 => ?_)
      refine q_callV X (c_keep hG2 hB2.2.2.2.2.1 (hB2.2.2.2.2.2.2.2.1.1 q hSq).1 (fun y hy => by obtain ⟨i, hi⟩ := List.getElem?_of_mem hy; exact (hB2.2.2.2.2.2.2.2.1.1 y (hB2.nod hi).2.1).1) h150) Y_X11_keep tw_611 tw_613 sel_10 hG2 rfl (by omega) rfl rfl (Nat.le_of_ble_eq_true rfl) (rc' := 2) (rs' := 28) (by omega) (by omega) dX11_apply_54 (fun v M' hp _ => ?_)
      obtain ⟨rfl, hlp⟩ := hp
      generalize M' = M6 at *
      show qJ G F _ 6 M6 2 28 57 [(5, .ref s), (0, .ref g), (1, .int (nI j)), (2, .int op), (3, .long c)] [.int (nI ns.length)]
      have hfin := hB2.pushN hda5 hlp hSq h150
      rw [hvq] at hfin
      exact x_ret (q_iret X hr dX11_apply_57 (⟨⟨_, rfl⟩, gzP_K (by rw [hnl]; exact (gRoom_y T1).trans ((gNode_y Ts).trans ((gNeed_y ⟨c1, c2⟩).trans (gLim_y hlim)))) hfin⟩))

set_option maxRecDepth 20000 in
theorem c_filter {l : Launch} {G : gV} {M : gMem} {g : Nat} {σ : sA} (hl : l.stackTraces = false) (h : isGV G M g σ) {a op : Int32} {c : Int64} : xC l G yX11_filter cX11_filter 6 (some .int) 10 11 2400 [.ref g, .int a, .int op, .long c] M (gzI G g (sp_filter σ a op c)) (gzE G g (sp_filter σ a op c)) := by
  refine xC_of (by decide +kernel) (Nat.le_of_ble_eq_true rfl) (fun F hF X hN hr hn => ?_)
  subst hF
  have X : qX G F cX11_filter 6 RX11 10 := X
  obtain ⟨vl, nl, kl, fr, dk, dn, dm, ev, en, ek, vs, ns, ks, N, hB⟩ := id h
  obtain ⟨b1, b2, b3, b4, b5, b6, b7, b8, b9, b10, b11, b12⟩ := id hB
  have hG : M g = some (oB 11 [.ref vl, .ref nl, .ref kl, .ref fr, .ref dk, .int (nI (aOf σ)), .int (nI (aBg σ))]) := b1
  obtain ⟨sb, sc, sd, sp, s1, -⟩ := id b2
  obtain ⟨cn1, cm1, d1, d2, d3, -⟩ := id b3
  obtain ⟨mvv, vL1⟩ := id b4.2.1
  obtain ⟨mvn, nL1⟩ := id b5.2.1
  obtain ⟨mvk, kL1⟩ := id b6.2.1
  have hvl : vs.length = (aV σ).length := b9.1
  have hnl : ns.length = (aN σ).length := b10.1
  have hz := b12.sz
  have l41 := b12.2.2.2.1
  have l150 := b12.2.2.2.2.1
  have lof := b12.2.2.2.2.2.1
  show qJ G F _ 6 M 11 2400 0 [(0, .ref g), (1, .int a), (2, .int op), (3, .long c)] []
  refine q_aload_n X dX11_filter_0 0 rfl ?_
  refine x_callV X (c_needRoom hl hG b5) Y_X11_needRoom tw_606 tw_608 sel_9 hG rfl (by omega) rfl rfl (Nat.le_of_ble_eq_true rfl) (rc' := 10) (rs' := 2394) (by omega) (by omega) dX11_filter_1 (fun v M' hp _ => ?_) (fun E M' hx => t_out X hN (by obtain ⟨rfl, q, eM⟩ := hx; rw [eM]; rw [hnl] at q; exact gzE_T (gRoom_n (Nat.not_lt.mpr q)) h))
  obtain ⟨rfl, hroom, eM⟩ := hp
  rw [eM]
  clear eM
  have T1 : (aN σ).length < 150 := by rw [← hnl]; exact hroom
  show qJ G F _ 6 M 10 2394 4 [(0, .ref g), (1, .int a), (2, .int op), (3, .long c)] []
  refine q_aload_n X dX11_filter_4 0 rfl ?_
  refine q_iload_n X dX11_filter_5 1 rfl ?_
  refine x_callV X (c_nodeAt hl hG b5 hB.nodO) Y_X11_nodeAt tw_623 tw_625 sel_11 hG rfl (by omega) rfl rfl (Nat.le_of_ble_eq_true rfl) (rc' := 9) (rs' := 2388) (by omega) (by omega) dX11_filter_6 (fun v M' hp _ => ?_) (fun E M' hx => t_out X hN (by obtain ⟨rfl, q, eM⟩ := hx; rw [eM]; rw [hnl] at q; exact gzE_T ((gRoom_y T1).trans (gNode_n (ndAt_out (by omega) q))) h))
  obtain ⟨j, s, rfl, hxs, rfl, eM⟩ := hp
  rw [eM]
  clear eM
  obtain ⟨hj150, hSs, hns⟩ := hB.nod hxs
  have Ts := (ndAt_in (σ := σ) (show j < 2 ^ 31 by omega)).trans hns
  have hsts := (b8.1 s hSs).1
  obtain ⟨sbs, scs, sds, sps, shs, -⟩ := id hsts.2.2.1
  show qJ G F _ 6 M 9 2388 9 [(0, .ref g), (1, .int (nI j)), (2, .int op), (3, .long c)] [.ref s]
  refine q_astore (lv' := [(5, .ref s), (0, .ref g), (1, .int (nI j)), (2, .int op), (3, .long c)]) X dX11_filter_9 (by decide) rfl ?_
  refine q_iload_n X dX11_filter_11 3 rfl ?_
  refine q_if_lt X 24 dX11_filter_12 (by decide) (fun c1 => ?_) (fun c1 => ?_)
  · refine q_iconst (v := 0) X dX11_filter_24 (by decide) ?_
    exact x_callS X (c_need hl) Y_X11_need tw_377 tw_378 (by omega) rfl rfl (Nat.le_of_ble_eq_true rfl) (rc' := 8) (rs' := 2382) (by omega) (by omega) dX11_filter_25 (fun v M' hp _ => absurd rfl hp.2.1) (fun E M' hx => t_out X hN (by obtain ⟨rfl, -, eM⟩ := hx; rw [eM]; exact gzE_T ((gRoom_y T1).trans ((gNode_y Ts).trans (gNeed_n (fun z => z.1 c1)))) h))
  · refine q_iload_n X dX11_filter_15 3 rfl ?_
    refine q_iconst (v := 4) X dX11_filter_16 (by decide) ?_
    refine q_icmp_ge X 24 dX11_filter_17 (by decide) (fun c2 => ?_) (fun c2 => ?_)
    · refine q_iconst (v := 0) X dX11_filter_24 (by decide) ?_
      exact x_callS X (c_need hl) Y_X11_need tw_377 tw_378 (by omega) rfl rfl (Nat.le_of_ble_eq_true rfl) (rc' := 8) (rs' := 2382) (by omega) (by omega) dX11_filter_25 (fun v M' hp _ => absurd rfl hp.2.1) (fun E M' hx => t_out X hN (by obtain ⟨rfl, -, eM⟩ := hx; rw [eM]; exact gzE_T ((gRoom_y T1).trans ((gNode_y Ts).trans (gNeed_n (fun z => z.2 c2)))) h))
    · refine q_iconst (v := 1) X dX11_filter_20 (by decide) ?_
      refine q_goto X 25 dX11_filter_21 (by decide) ?_
      refine q_callS X (c_need1) Y_X11_need tw_377 tw_378 (by omega) rfl rfl (Nat.le_of_ble_eq_true rfl) (rc' := 9) (rs' := 2388) (by omega) (by omega) dX11_filter_25 (fun v M' hp _ => ?_)
      obtain ⟨rfl, eM⟩ := hp
      rw [eM]
      clear eM
      show qJ G F _ 6 M 9 2388 28 [(5, .ref s), (0, .ref g), (1, .int (nI j)), (2, .int op), (3, .long c)] []
      refine q_aload X dX11_filter_28 0 rfl ?_
      refine q_callUp X (x := ⟨"GridVault$Node", "form", "()LGridVault$Shape;"⟩) (owner := "GridVault$Node") (ci := nci N s) (c_X5_form hsts) Y_X5_form tw_628 tw_630 (by decide) rfl (g_decl X tn_1008) tw_629 (se_X5_form hsts.1) hsts.2.1 (by omega) rfl rfl (Nat.le_of_ble_eq_true rfl) dX11_filter_30 ?_
      refine q_aload X dX11_filter_33 0 rfl ?_
      refine q_callUp X (x := ⟨"GridVault$Node", "depth", "()I"⟩) (owner := "GridVault$Node") (ci := nci N s) (c_X5_depth hsts) Y_X5_depth tw_658 tw_660 (by decide) rfl (g_declC X tw_659 tw_667) tw_659 (se_X5_depth hsts.1) hsts.2.1 (by omega) rfl rfl (Nat.le_of_ble_eq_true rfl) dX11_filter_35 ?_
      refine x_callS X (c_needLimits hl hsts.2.2.1) Y_X11_needLimits tw_668 tw_669 (by omega) rfl rfl (Nat.le_of_ble_eq_true rfl) (rc' := 8) (rs' := 2382) (by omega) (by omega) dX11_filter_38 (fun v M' hp _ => ?_) (fun E M' hx => t_out X hN (by obtain ⟨rfl, q, eM⟩ := hx; rw [eM]; exact gzE_T ((gRoom_y T1).trans ((gNode_y Ts).trans ((gNeed_y ⟨c1, c2⟩).trans (gLim_n q)))) h))
      obtain ⟨rfl, hlim, eM⟩ := hp
      rw [eM]
      clear eM
      show qJ G F _ 6 M 8 2382 41 [(5, .ref s), (0, .ref g), (1, .int (nI j)), (2, .int op), (3, .long c)] []
      have hw := within_ok hsts.2.2.2.1 hlim.1
      have hdp := dp_lt hsts.2.2.2.2.2.2.1 hlim.2
      refine q_aload_n X dX11_filter_41 1 rfl ?_
      refine q_new X (ci := 3) rfl in_RX2 tyX2 tyX2_ok tw_753 tw_754 tw_27 (fs0 := [.null, .int 0, .null, .null, .null, .int 0, .long 0]) (fun j hj => by rcases (show j = 0 ∨ j = 1 ∨ j = 2 ∨ j = 3 ∨ j = 4 ∨ j = 5 ∨ j = 6 by omega) with rfl | rfl | rfl | rfl | rfl | rfl | rfl <;> rfl) (rc' := 7) (rs' := 2375) (by omega) (by omega) dX11_filter_42 (fun q fq => ?_)
      have m_1 : (mU M q (oB 3 [.null, .int 0, .null, .null, .null, .int 0, .long 0])) q = some (oB 3 [.null, .int 0, .null, .null, .null, .int 0, .long 0]) := mU_s
      refine q_dup X dX11_filter_45 rfl ?_
      refine q_aload X dX11_filter_46 0 rfl ?_
      refine q_bipush (v := 6) X dX11_filter_48 (by decide) ?_
      refine q_iload_n X dX11_filter_50 3 rfl ?_
      refine q_iadd X dX11_filter_51 ?_
      refine q_lload_n X dX11_filter_52 4 rfl ?_
      have nq : M q = none := fq
      have evp : mEv (fun _ => False) M (mU M q (oB 3 [.null, .int 0, .null, .null, .null, .int 0, .long 0])) := mEv_new fq
      have hstp : nStat G (mU M q (oB 3 [.null, .int 0, .null, .null, .null, .int 0, .long 0])) N s := nStat_add hsts (nEq.rf N s) evp
      have h150 := hroom
      refine q_callI X (c_X2_init hstp mU_s) Y_X2_init tw_755 tw_756 rfl (by omega) rfl rfl (Nat.le_of_ble_eq_true rfl) (rc' := 3) (rs' := 261) (by omega) (by omega) dX11_filter_53 (fun v M' hp _ => ?_)
      obtain ⟨rfl, cl, nb, mb, aa, i1, i2, i3, i4, i5, i6, i7, i8, i9, i10⟩ := hp
      generalize M' = M5 at *
      show qJ G F _ 6 M5 3 261 56 [(5, .ref s), (0, .ref g), (1, .int (nI j)), (2, .int op), (3, .long c)] [.ref q, .ref g]
      have ev5 : mEv (fun _ => False) M M5 := fun x hx => by
        have n : x ≠ q := fun z => hx (z ▸ nq)
        have e1 := evp x hx
        have e := i10 x n e1.1
        exact ⟨by rw [e]; exact e1.1, fun k => e.trans (e1.2 k)⟩
      obtain ⟨N2, hB2, hSq, hvq⟩ := hB.made (ta := 0) (den := eaD (nVal N s) (6 + op) c) nq (evp.none i5) (evp.none i6) (evp.none i7) (fun z => absurd z (by decide)) ev5 (by unfold isNC; omega) (by decide) i1 (hsts.2.2.1.ev ev5 (fun _ _ => id)) hsts.2.2.2.1 (by omega) (by omega) (by omega) i2 i3 i8 i9
        (fun N3 hS3 k1 k2 k3 k4 k5 k6 k7 k8 => kd_each k1 k2 k7 (hS3 s hSs).1 (hS3 s hSs).2.1 (by rw [(hS3 s hSs).2.2, k5]; omega) (by obtain ⟨r, hr, e⟩ := op_in (k := 4) (by decide) c1 c2; exact ⟨6 + r, by omega, by rw [e]; exact nI_add 6 r⟩))
      have hG2 : M5 g = some (oB 11 [.ref vl, .ref nl, .ref kl, .ref fr, .ref dk, .int (nI (aOf σ)), .int (nI (aBg σ))]) := hB2.1
      refine q_da X (fun hda5 => ?_)
      refine q_callV X (c_keep hG2 hB2.2.2.2.2.1 (hB2.2.2.2.2.2.2.2.1.1 q hSq).1 (fun y hy => by obtain ⟨i, hi⟩ := List.getElem?_of_mem hy; exact (hB2.2.2.2.2.2.2.2.1.1 y (hB2.nod hi).2.1).1) h150) Y_X11_keep tw_611 tw_613 sel_10 hG2 rfl (by omega) rfl rfl (Nat.le_of_ble_eq_true rfl) (rc' := 2) (rs' := 28) (by omega) (by omega) dX11_filter_56 (fun v M' hp _ => ?_)
      obtain ⟨rfl, hlp⟩ := hp
      generalize M' = M6 at *
      show qJ G F _ 6 M6 2 28 59 [(5, .ref s), (0, .ref g), (1, .int (nI j)), (2, .int op), (3, .long c)] [.int (nI ns.length)]
      have hfin := hB2.pushN hda5 hlp hSq h150
      rw [hvq] at hfin
      exact x_ret (q_iret X hr dX11_filter_59 (⟨⟨_, rfl⟩, gzP_K (by rw [hnl]; exact (gRoom_y T1).trans ((gNode_y Ts).trans ((gNeed_y ⟨c1, c2⟩).trans (gLim_y hlim)))) hfin⟩))

set_option maxRecDepth 20000 in
theorem c_slice {l : Launch} {G : gV} {M : gMem} {g : Nat} {σ : sA} (hl : l.stackTraces = false) (h : isGV G M g σ) {a d t : Int32} : xC l G yX11_slice cX11_slice 6 (some .int) 10 26 2440 [.ref g, .int a, .int d, .int t] M (gzI G g (sp_slice σ a d t)) (gzE G g (sp_slice σ a d t)) := by
  refine xC_of (by decide +kernel) (Nat.le_of_ble_eq_true rfl) (fun F hF X hN hr hn => ?_)
  subst hF
  have X : qX G F cX11_slice 6 RX11 10 := X
  obtain ⟨vl, nl, kl, fr, dk, dn, dm, ev, en, ek, vs, ns, ks, N, hB⟩ := id h
  obtain ⟨b1, b2, b3, b4, b5, b6, b7, b8, b9, b10, b11, b12⟩ := id hB
  have hG : M g = some (oB 11 [.ref vl, .ref nl, .ref kl, .ref fr, .ref dk, .int (nI (aOf σ)), .int (nI (aBg σ))]) := b1
  obtain ⟨sb, sc, sd, sp, s1, -⟩ := id b2
  obtain ⟨cn1, cm1, d1, d2, d3, -⟩ := id b3
  obtain ⟨mvv, vL1⟩ := id b4.2.1
  obtain ⟨mvn, nL1⟩ := id b5.2.1
  obtain ⟨mvk, kL1⟩ := id b6.2.1
  have hvl : vs.length = (aV σ).length := b9.1
  have hnl : ns.length = (aN σ).length := b10.1
  have hz := b12.sz
  have l41 := b12.2.2.2.1
  have l150 := b12.2.2.2.2.1
  have lof := b12.2.2.2.2.2.1
  show qJ G F _ 6 M 26 2440 0 [(0, .ref g), (1, .int a), (2, .int d), (3, .int t)] []
  refine q_aload_n X dX11_slice_0 0 rfl ?_
  refine x_callV X (c_needRoom hl hG b5) Y_X11_needRoom tw_606 tw_608 sel_9 hG rfl (by omega) rfl rfl (Nat.le_of_ble_eq_true rfl) (rc' := 25) (rs' := 2434) (by omega) (by omega) dX11_slice_1 (fun v M' hp _ => ?_) (fun E M' hx => t_out X hN (by obtain ⟨rfl, q, eM⟩ := hx; rw [eM]; rw [hnl] at q; exact gzE_T (gRoom_n (Nat.not_lt.mpr q)) h))
  obtain ⟨rfl, hroom, eM⟩ := hp
  rw [eM]
  clear eM
  have T1 : (aN σ).length < 150 := by rw [← hnl]; exact hroom
  show qJ G F _ 6 M 25 2434 4 [(0, .ref g), (1, .int a), (2, .int d), (3, .int t)] []
  refine q_aload_n X dX11_slice_4 0 rfl ?_
  refine q_iload_n X dX11_slice_5 1 rfl ?_
  refine x_callV X (c_nodeAt hl hG b5 hB.nodO) Y_X11_nodeAt tw_623 tw_625 sel_11 hG rfl (by omega) rfl rfl (Nat.le_of_ble_eq_true rfl) (rc' := 24) (rs' := 2428) (by omega) (by omega) dX11_slice_6 (fun v M' hp _ => ?_) (fun E M' hx => t_out X hN (by obtain ⟨rfl, q, eM⟩ := hx; rw [eM]; rw [hnl] at q; exact gzE_T ((gRoom_y T1).trans (gNode_n (ndAt_out (by omega) q))) h))
  obtain ⟨j, s, rfl, hxs, rfl, eM⟩ := hp
  rw [eM]
  clear eM
  obtain ⟨hj150, hSs, hns⟩ := hB.nod hxs
  have Ts := (ndAt_in (σ := σ) (show j < 2 ^ 31 by omega)).trans hns
  have hsts := (b8.1 s hSs).1
  obtain ⟨sbs, scs, sds, sps, shs, -⟩ := id hsts.2.2.1
  show qJ G F _ 6 M 24 2428 9 [(0, .ref g), (1, .int (nI j)), (2, .int d), (3, .int t)] [.ref s]
  refine q_astore (lv' := [(4, .ref s), (0, .ref g), (1, .int (nI j)), (2, .int d), (3, .int t)]) X dX11_slice_9 (by decide) rfl ?_
  refine q_aload X dX11_slice_11 0 rfl ?_
  refine q_callUp X (x := ⟨"GridVault$Node", "form", "()LGridVault$Shape;"⟩) (owner := "GridVault$Node") (ci := nci N s) (c_X5_form hsts) Y_X5_form tw_628 tw_630 (by decide) rfl (g_decl X tn_1008) tw_629 (se_X5_form hsts.1) hsts.2.1 (by omega) rfl rfl (Nat.le_of_ble_eq_true rfl) dX11_slice_13 ?_
  refine q_callVp X (c_X7_dimensions hsts.2.2.1) Y_X7_dimensions tw_722 tw_723 tw_724 shs rfl (by omega) rfl rfl (Nat.le_of_ble_eq_true rfl) dX11_slice_16 ?_
  refine q_iconst (v := 1) X dX11_slice_19 (by decide) ?_
  refine q_icmp_le X 41 dX11_slice_20 (by decide) (fun c1 => ?_) (fun c1 => ?_)
  · refine q_iconst (v := 0) X dX11_slice_41 (by decide) ?_
    exact x_callS X (c_need hl) Y_X11_need tw_377 tw_378 (by omega) rfl rfl (Nat.le_of_ble_eq_true rfl) (rc' := 23) (rs' := 2422) (by omega) (by omega) dX11_slice_42 (fun v M' hp _ => absurd rfl hp.2.1) (fun E M' hx => t_out X hN (by obtain ⟨rfl, -, eM⟩ := hx; rw [eM]; exact gzE_T ((gRoom_y T1).trans ((gNode_y Ts).trans (gNeed_n (fun z => z.1 c1)))) h))
  · refine q_aload X dX11_slice_23 0 rfl ?_
    refine q_callUp X (x := ⟨"GridVault$Node", "form", "()LGridVault$Shape;"⟩) (owner := "GridVault$Node") (ci := nci N s) (c_X5_form hsts) Y_X5_form tw_628 tw_630 (by decide) rfl (g_decl X tn_1008) tw_629 (se_X5_form hsts.1) hsts.2.1 (by omega) rfl rfl (Nat.le_of_ble_eq_true rfl) dX11_slice_25 ?_
    refine q_iload_n X dX11_slice_28 3 rfl ?_
    refine q_iload_n X dX11_slice_29 4 rfl ?_
    refine q_iload_n X dX11_slice_30 4 rfl ?_
    refine q_callVp X (c_X7_hasRange hsts.2.2.1) Y_X7_hasRange tw_455 tw_456 tw_457 shs rfl (by omega) rfl rfl (Nat.le_of_ble_eq_true rfl) dX11_slice_31 ?_
    refine q_if_eq X 41 dX11_slice_34 (by decide) (fun c2 => ?_) (fun c2 => ?_)
    · refine q_iconst (v := 0) X dX11_slice_41 (by decide) ?_
      exact x_callS X (c_need hl) Y_X11_need tw_377 tw_378 (by omega) rfl rfl (Nat.le_of_ble_eq_true rfl) (rc' := 23) (rs' := 2422) (by omega) (by omega) dX11_slice_42 (fun v M' hp _ => absurd rfl hp.2.1) (fun E M' hx => t_out X hN (by obtain ⟨rfl, -, eM⟩ := hx; rw [eM]; exact gzE_T ((gRoom_y T1).trans ((gNode_y Ts).trans (gNeed_n (fun z => z.2 c2)))) h))
    · refine q_iconst (v := 1) X dX11_slice_37 (by decide) ?_
      refine q_goto X 42 dX11_slice_38 (by decide) ?_
      refine q_callS X (c_need1) Y_X11_need tw_377 tw_378 (by omega) rfl rfl (Nat.le_of_ble_eq_true rfl) (rc' := 24) (rs' := 2428) (by omega) (by omega) dX11_slice_42 (fun v M' hp _ => ?_)
      obtain ⟨rfl, eM⟩ := hp
      rw [eM]
      clear eM
      show qJ G F _ 6 M 24 2428 45 [(4, .ref s), (0, .ref g), (1, .int (nI j)), (2, .int d), (3, .int t)] []
      obtain ⟨jd, hjd, rfl, -, hin⟩ := rg_sub hsts.2.2.2.1 c2
      have hm2 := m_ge2 hsts.2.2.2.1.2.1 c1
      have hm3 := hsts.2.2.2.1.2.1
      have hok := okS_dr hsts.2.2.2.1 hjd hm2
      have hT : sp_slice σ (nI j) (nI jd) t = gLim σ (dr3 (nlo N s) jd 3) (dr3 (nhi N s) jd 3) (nI (ndp N s)) (oN σ (nm N s - 1, dr3 (nlo N s) jd 3, dr3 (nhi N s) jd 3, ndp N s + 1, vwD (nVal N s) (dr3 (nlo N s) jd 3) (dr3 (nhi N s) jd 3) (skT jd) t)) := by
        unfold sp_slice
        rw [nI_nn (show jd < 2 ^ 31 by omega)]
        exact (gRoom_y T1).trans ((gNode_y Ts).trans (gNeed_y ⟨c1, c2⟩))
      refine q_aload X dX11_slice_45 0 rfl ?_
      refine q_callUp X (x := ⟨"GridVault$Node", "form", "()LGridVault$Shape;"⟩) (owner := "GridVault$Node") (ci := nci N s) (c_X5_form hsts) Y_X5_form tw_628 tw_630 (by decide) rfl (g_decl X tn_1008) tw_629 (se_X5_form hsts.1) hsts.2.1 (by omega) rfl rfl (Nat.le_of_ble_eq_true rfl) dX11_slice_47 ?_
      refine q_iload_n X dX11_slice_50 3 rfl ?_
      refine q_callV X (c_X7_without hsts.2.2.1 (show jd < 3 by omega)) Y_X7_without tw_726 tw_727 tw_728 shs rfl (by omega) rfl rfl (Nat.le_of_ble_eq_true rfl) (rc' := 19) (rs' := 2410) (by omega) (by omega) dX11_slice_51 (fun v M' hp _ => ?_)
      obtain ⟨q1, rfl, f1, hS1, x1⟩ := hp
      generalize M' = M1 at *
      show qJ G F _ 6 M1 19 2410 54 [(4, .ref s), (0, .ref g), (1, .int (nI j)), (2, .int (nI jd)), (3, .int t)] [.ref q1]
      have ev1 : mEv (fun _ => False) M M1 := x1.ev
      have hst1 : nStat G M1 N s := nStat_add hsts (nEq.rf N s) ev1
      have hB1 := hB.ev ev1
      obtain ⟨sb1, sc1, sd1, sp1, sh1, -⟩ := id hS1
      rw [nI_m1 (by omega)] at hS1
      refine q_astore (lv' := [(5, .ref q1), (4, .ref s), (0, .ref g), (1, .int (nI j)), (2, .int (nI jd)), (3, .int t)]) X dX11_slice_54 (by decide) rfl ?_
      refine q_aload X dX11_slice_56 0 rfl ?_
      refine q_aload X dX11_slice_58 1 rfl ?_
      refine q_callUp X (x := ⟨"GridVault$Node", "depth", "()I"⟩) (owner := "GridVault$Node") (ci := nci N s) (c_X5_depth hst1) Y_X5_depth tw_658 tw_660 (by decide) rfl (g_declC X tw_659 tw_667) tw_659 (se_X5_depth hst1.1) hst1.2.1 (by omega) rfl rfl (Nat.le_of_ble_eq_true rfl) dX11_slice_60 ?_
      refine x_callS X (c_needLimits hl hS1) Y_X11_needLimits tw_668 tw_669 (by omega) rfl rfl (Nat.le_of_ble_eq_true rfl) (rc' := 18) (rs' := 2404) (by omega) (by omega) dX11_slice_63 (fun v M' hp _ => ?_) (fun E M' hx => t_out X hN (by obtain ⟨rfl, q, eM⟩ := hx; rw [eM]; exact gzE_T ((hT).trans (gLim_n q)) ⟨vl, nl, kl, fr, dk, dn, dm, ev, en, ek, vs, ns, ks, N, hB1⟩))
      obtain ⟨rfl, hlim, eM⟩ := hp
      rw [eM]
      clear eM
      show qJ G F _ 6 M1 18 2404 66 [(5, .ref q1), (4, .ref s), (0, .ref g), (1, .int (nI j)), (2, .int (nI jd)), (3, .int t)] []
      have hw := within_ok hok hlim.1
      have hdp := dp_lt hsts.2.2.2.2.2.2.1 hlim.2
      refine q_aload_n X dX11_slice_66 2 rfl ?_
      refine q_new X (ci := 10) rfl in_RX10 tyX10 tyX10_ok tw_691 tw_692 tw_26 (fs0 := [.null, .int 0, .null, .null, .null, .null, .int 0]) (fun j hj => by rcases (show j = 0 ∨ j = 1 ∨ j = 2 ∨ j = 3 ∨ j = 4 ∨ j = 5 ∨ j = 6 by omega) with rfl | rfl | rfl | rfl | rfl | rfl | rfl <;> rfl) (rc' := 17) (rs' := 2397) (by omega) (by omega) dX11_slice_67 (fun q fq => ?_)
      have m_1 : (mU M1 q (oB 10 [.null, .int 0, .null, .null, .null, .null, .int 0])) q = some (oB 10 [.null, .int 0, .null, .null, .null, .null, .int 0]) := mU_s
      refine q_dup X dX11_slice_70 rfl ?_
      refine q_aload X dX11_slice_71 0 rfl ?_
      refine q_aload X dX11_slice_73 1 rfl ?_
      refine q_iload_n X dX11_slice_75 4 rfl ?_
      refine q_callS X (c_X10_skipping (show jd < 3 by omega)) Y_X10_skipping tw_734 tw_735 (by omega) rfl rfl (Nat.le_of_ble_eq_true rfl) (rc' := 16) (rs' := 2394) (by omega) (by omega) dX11_slice_76 (fun v M' hp _ => ?_)
      obtain ⟨tl, tf, rfl, ftl, eM, htf⟩ := hp
      rw [eM]
      clear eM
      have n_2 : q ≠ tl := g_nef m_1 ftl
      have m_3 : (mU (mU M1 q (oB 10 [.null, .int 0, .null, .null, .null, .null, .int 0])) tl (aI G 3 tf)) q = some (oB 10 [.null, .int 0, .null, .null, .null, .null, .int 0]) := (mU_n n_2).trans m_1
      have m_4 : (mU (mU M1 q (oB 10 [.null, .int 0, .null, .null, .null, .null, .int 0])) tl (aI G 3 tf)) tl = some (aI G 3 tf) := mU_s
      show qJ G F _ 6 (mU (mU M1 q (oB 10 [.null, .int 0, .null, .null, .null, .null, .int 0])) tl (aI G 3 tf)) 16 2394 79 [(5, .ref q1), (4, .ref s), (0, .ref g), (1, .int (nI j)), (2, .int (nI jd)), (3, .int t)] [.ref tl, .ref s, .ref q1, .ref q, .ref q, .ref g]
      refine q_iload_n X dX11_slice_79 5 rfl ?_
      have nq : M q = none := ev1.none fq
      have evp : mEv (fun _ => False) M (mU (mU M1 q (oB 10 [.null, .int 0, .null, .null, .null, .null, .int 0])) tl (aI G 3 tf)) := ev1.trans ((mEv_new fq).trans (mEv_new ftl))
      have hstp : nStat G (mU (mU M1 q (oB 10 [.null, .int 0, .null, .null, .null, .null, .int 0])) tl (aI G 3 tf)) N s := nStat_add hsts (nEq.rf N s) evp
      have hSp : isShape G (mU (mU M1 q (oB 10 [.null, .int 0, .null, .null, .null, .null, .int 0])) tl (aI G 3 tf)) q1 (nI (nm N s - 1)) (dr3 (nlo N s) jd 3) (dr3 (nhi N s) jd 3) := hS1.ext ((mExt_new fq).trans (mExt_new ftl))
      have hqA : (mU (mU M1 q (oB 10 [.null, .int 0, .null, .null, .null, .null, .int 0])) tl (aI G 3 tf)) q = some (oB 10 [.null, .int 0, .null, .null, .null, .null, .int 0]) := m_3
      have htlA : (mU (mU M1 q (oB 10 [.null, .int 0, .null, .null, .null, .null, .int 0])) tl (aI G 3 tf)) tl = some (aI G 3 tf) := m_4
      have tlq : tl ≠ q := fun z => by rw [z, mU_s] at ftl; cases ftl
      have h150 := hroom
      refine q_callI X (c_X10_init hSp hok (by omega) hstp hqA) Y_X10_init tw_696 tw_697 rfl (by omega) rfl rfl (Nat.le_of_ble_eq_true rfl) (rc' := 12) (rs' := 280) (by omega) (by omega) dX11_slice_80 (fun v M' hp _ => ?_)
      obtain ⟨rfl, cl, nb, mb, aa, i1, i2, i3, i4, i5, i6, i7, i8, i9, i10⟩ := hp
      generalize M' = M5 at *
      show qJ G F _ 6 M5 12 280 83 [(5, .ref q1), (4, .ref s), (0, .ref g), (1, .int (nI j)), (2, .int (nI jd)), (3, .int t)] [.ref q, .ref g]
      have ev5 : mEv (fun _ => False) M M5 := fun x hx => by
        have n : x ≠ q := fun z => hx (z ▸ nq)
        have e1 := evp x hx
        have e := i10 x n e1.1
        exact ⟨by rw [e]; exact e1.1, fun k => e.trans (e1.2 k)⟩
      obtain ⟨N2, hB2, hSq, hvq⟩ := hB.made (ta := 0) (den := vwD (nVal N s) (dr3 (nlo N s) jd 3) (dr3 (nhi N s) jd 3) (skT jd) t) nq (evp.none i5) (evp.none i6) (evp.none i7) (fun z => absurd z (by decide)) ev5 (by unfold isNC; omega) (by decide) i1 (hSp.mv (fun x hx => i10 x (fun z => by rw [z, hqA] at hx; rcases hx with ⟨_, h⟩ | ⟨_, h⟩ <;> cases h) (by rcases hx with ⟨_, h⟩ | ⟨_, h⟩ <;> exact g_so h))) hok (by omega) (by omega) (by omega) i2 i3 i8 i9
        (fun N3 hS3 k1 k2 k3 k4 k5 k6 k7 k8 => kd_view (lo := dr3 (nlo N s) jd 3) (hi := dr3 (nhi N s) jd 3) (tf := tf) (tf0 := skT jd) k1 k2 k3 k4 k7 (hS3 s hSs).1 (hS3 s hSs).2.1 (by rw [(hS3 s hSs).2.2, k5]; omega) ((i10 tl tlq (g_so htlA)).trans htlA) htf)
      have hG2 : M5 g = some (oB 11 [.ref vl, .ref nl, .ref kl, .ref fr, .ref dk, .int (nI (aOf σ)), .int (nI (aBg σ))]) := hB2.1
      refine q_da X (fun hda5 => ?_)
      refine q_callV X (c_keep hG2 hB2.2.2.2.2.1 (hB2.2.2.2.2.2.2.2.1.1 q hSq).1 (fun y hy => by obtain ⟨i, hi⟩ := List.getElem?_of_mem hy; exact (hB2.2.2.2.2.2.2.2.1.1 y (hB2.nod hi).2.1).1) h150) Y_X11_keep tw_611 tw_613 sel_10 hG2 rfl (by omega) rfl rfl (Nat.le_of_ble_eq_true rfl) (rc' := 11) (rs' := 47) (by omega) (by omega) dX11_slice_83 (fun v M' hp _ => ?_)
      obtain ⟨rfl, hlp⟩ := hp
      generalize M' = M6 at *
      show qJ G F _ 6 M6 11 47 86 [(5, .ref q1), (4, .ref s), (0, .ref g), (1, .int (nI j)), (2, .int (nI jd)), (3, .int t)] [.int (nI ns.length)]
      have hfin := hB2.pushN hda5 hlp hSq h150
      rw [hvq] at hfin
      exact x_ret (q_iret X hr dX11_slice_86 (⟨⟨_, rfl⟩, gzP_K (by rw [hnl]; exact (hT).trans (gLim_y hlim)) hfin⟩))

set_option maxRecDepth 20000 in
theorem c_swap {l : Launch} {G : gV} {M : gMem} {g : Nat} {σ : sA} (hl : l.stackTraces = false) (h : isGV G M g σ) {a d e : Int32} : xC l G yX11_swap cX11_swap 6 (some .int) 10 26 2440 [.ref g, .int a, .int d, .int e] M (gzI G g (sp_swap σ a d e)) (gzE G g (sp_swap σ a d e)) := by
  refine xC_of (by decide +kernel) (Nat.le_of_ble_eq_true rfl) (fun F hF X hN hr hn => ?_)
  subst hF
  have X : qX G F cX11_swap 6 RX11 10 := X
  obtain ⟨vl, nl, kl, fr, dk, dn, dm, ev, en, ek, vs, ns, ks, N, hB⟩ := id h
  obtain ⟨b1, b2, b3, b4, b5, b6, b7, b8, b9, b10, b11, b12⟩ := id hB
  have hG : M g = some (oB 11 [.ref vl, .ref nl, .ref kl, .ref fr, .ref dk, .int (nI (aOf σ)), .int (nI (aBg σ))]) := b1
  obtain ⟨sb, sc, sd, sp, s1, -⟩ := id b2
  obtain ⟨cn1, cm1, d1, d2, d3, -⟩ := id b3
  obtain ⟨mvv, vL1⟩ := id b4.2.1
  obtain ⟨mvn, nL1⟩ := id b5.2.1
  obtain ⟨mvk, kL1⟩ := id b6.2.1
  have hvl : vs.length = (aV σ).length := b9.1
  have hnl : ns.length = (aN σ).length := b10.1
  have hz := b12.sz
  have l41 := b12.2.2.2.1
  have l150 := b12.2.2.2.2.1
  have lof := b12.2.2.2.2.2.1
  show qJ G F _ 6 M 26 2440 0 [(0, .ref g), (1, .int a), (2, .int d), (3, .int e)] []
  refine q_aload_n X dX11_swap_0 0 rfl ?_
  refine x_callV X (c_needRoom hl hG b5) Y_X11_needRoom tw_606 tw_608 sel_9 hG rfl (by omega) rfl rfl (Nat.le_of_ble_eq_true rfl) (rc' := 25) (rs' := 2434) (by omega) (by omega) dX11_swap_1 (fun v M' hp _ => ?_) (fun E M' hx => t_out X hN (by obtain ⟨rfl, q, eM⟩ := hx; rw [eM]; rw [hnl] at q; exact gzE_T (gRoom_n (Nat.not_lt.mpr q)) h))
  obtain ⟨rfl, hroom, eM⟩ := hp
  rw [eM]
  clear eM
  have T1 : (aN σ).length < 150 := by rw [← hnl]; exact hroom
  show qJ G F _ 6 M 25 2434 4 [(0, .ref g), (1, .int a), (2, .int d), (3, .int e)] []
  refine q_aload_n X dX11_swap_4 0 rfl ?_
  refine q_iload_n X dX11_swap_5 1 rfl ?_
  refine x_callV X (c_nodeAt hl hG b5 hB.nodO) Y_X11_nodeAt tw_623 tw_625 sel_11 hG rfl (by omega) rfl rfl (Nat.le_of_ble_eq_true rfl) (rc' := 24) (rs' := 2428) (by omega) (by omega) dX11_swap_6 (fun v M' hp _ => ?_) (fun E M' hx => t_out X hN (by obtain ⟨rfl, q, eM⟩ := hx; rw [eM]; rw [hnl] at q; exact gzE_T ((gRoom_y T1).trans (gNode_n (ndAt_out (by omega) q))) h))
  obtain ⟨j, s, rfl, hxs, rfl, eM⟩ := hp
  rw [eM]
  clear eM
  obtain ⟨hj150, hSs, hns⟩ := hB.nod hxs
  have Ts := (ndAt_in (σ := σ) (show j < 2 ^ 31 by omega)).trans hns
  have hsts := (b8.1 s hSs).1
  obtain ⟨sbs, scs, sds, sps, shs, -⟩ := id hsts.2.2.1
  show qJ G F _ 6 M 24 2428 9 [(0, .ref g), (1, .int (nI j)), (2, .int d), (3, .int e)] [.ref s]
  refine q_astore (lv' := [(4, .ref s), (0, .ref g), (1, .int (nI j)), (2, .int d), (3, .int e)]) X dX11_swap_9 (by decide) rfl ?_
  refine q_aload X dX11_swap_11 0 rfl ?_
  refine q_callUp X (x := ⟨"GridVault$Node", "form", "()LGridVault$Shape;"⟩) (owner := "GridVault$Node") (ci := nci N s) (c_X5_form hsts) Y_X5_form tw_628 tw_630 (by decide) rfl (g_decl X tn_1008) tw_629 (se_X5_form hsts.1) hsts.2.1 (by omega) rfl rfl (Nat.le_of_ble_eq_true rfl) dX11_swap_13 ?_
  refine q_iload_n X dX11_swap_16 3 rfl ?_
  refine q_callVp X (c_X7_hasDimension hsts.2.2.1) Y_X7_hasDimension tw_745 tw_270 tw_271 shs rfl (by omega) rfl rfl (Nat.le_of_ble_eq_true rfl) dX11_swap_17 ?_
  refine q_if_eq X 39 dX11_swap_20 (by decide) (fun c1 => ?_) (fun c1 => ?_)
  · refine q_iconst (v := 0) X dX11_swap_39 (by decide) ?_
    exact x_callS X (c_need hl) Y_X11_need tw_377 tw_378 (by omega) rfl rfl (Nat.le_of_ble_eq_true rfl) (rc' := 23) (rs' := 2422) (by omega) (by omega) dX11_swap_40 (fun v M' hp _ => absurd rfl hp.2.1) (fun E M' hx => t_out X hN (by obtain ⟨rfl, -, eM⟩ := hx; rw [eM]; exact gzE_T ((gRoom_y T1).trans ((gNode_y Ts).trans (gNeed_n (fun z => z.1 c1)))) h))
  · refine q_aload X dX11_swap_23 0 rfl ?_
    refine q_callUp X (x := ⟨"GridVault$Node", "form", "()LGridVault$Shape;"⟩) (owner := "GridVault$Node") (ci := nci N s) (c_X5_form hsts) Y_X5_form tw_628 tw_630 (by decide) rfl (g_decl X tn_1008) tw_629 (se_X5_form hsts.1) hsts.2.1 (by omega) rfl rfl (Nat.le_of_ble_eq_true rfl) dX11_swap_25 ?_
    refine q_iload_n X dX11_swap_28 4 rfl ?_
    refine q_callVp X (c_X7_hasDimension hsts.2.2.1) Y_X7_hasDimension tw_745 tw_270 tw_271 shs rfl (by omega) rfl rfl (Nat.le_of_ble_eq_true rfl) dX11_swap_29 ?_
    refine q_if_eq X 39 dX11_swap_32 (by decide) (fun c2 => ?_) (fun c2 => ?_)
    · refine q_iconst (v := 0) X dX11_swap_39 (by decide) ?_
      exact x_callS X (c_need hl) Y_X11_need tw_377 tw_378 (by omega) rfl rfl (Nat.le_of_ble_eq_true rfl) (rc' := 23) (rs' := 2422) (by omega) (by omega) dX11_swap_40 (fun v M' hp _ => absurd rfl hp.2.1) (fun E M' hx => t_out X hN (by obtain ⟨rfl, -, eM⟩ := hx; rw [eM]; exact gzE_T ((gRoom_y T1).trans ((gNode_y Ts).trans (gNeed_n (fun z => z.2 c2)))) h))
    · refine q_iconst (v := 1) X dX11_swap_35 (by decide) ?_
      refine q_goto X 40 dX11_swap_36 (by decide) ?_
      refine q_callS X (c_need1) Y_X11_need tw_377 tw_378 (by omega) rfl rfl (Nat.le_of_ble_eq_true rfl) (rc' := 24) (rs' := 2428) (by omega) (by omega) dX11_swap_40 (fun v M' hp _ => ?_)
      obtain ⟨rfl, eM⟩ := hp
      rw [eM]
      clear eM
      show qJ G F _ 6 M 24 2428 43 [(4, .ref s), (0, .ref g), (1, .int (nI j)), (2, .int d), (3, .int e)] []
      obtain ⟨ja, hja, rfl⟩ := sHas_in hsts.2.2.2.1.2.1 c1
      obtain ⟨jb, hjb, rfl⟩ := sHas_in hsts.2.2.2.1.2.1 c2
      have hm3 := hsts.2.2.2.1.2.1
      have hok := okS_sw hsts.2.2.2.1 hja hjb
      have hT : sp_swap σ (nI j) (nI ja) (nI jb) = gLim σ (swF (nlo N s) (nI ja) (nI jb)) (swF (nhi N s) (nI ja) (nI jb)) (nI (ndp N s)) (oN σ (nm N s, swF (nlo N s) (nI ja) (nI jb), swF (nhi N s) (nI ja) (nI jb), ndp N s + 1, vwD (nVal N s) (swF (nlo N s) (nI ja) (nI jb)) (swF (nhi N s) (nI ja) (nI jb)) (exT ja jb) 0)) := by
        unfold sp_swap
        rw [nI_nn (show ja < 2 ^ 31 by omega), nI_nn (show jb < 2 ^ 31 by omega)]
        exact (gRoom_y T1).trans ((gNode_y Ts).trans (gNeed_y ⟨c1, c2⟩))
      refine q_aload X dX11_swap_43 0 rfl ?_
      refine q_callUp X (x := ⟨"GridVault$Node", "form", "()LGridVault$Shape;"⟩) (owner := "GridVault$Node") (ci := nci N s) (c_X5_form hsts) Y_X5_form tw_628 tw_630 (by decide) rfl (g_decl X tn_1008) tw_629 (se_X5_form hsts.1) hsts.2.1 (by omega) rfl rfl (Nat.le_of_ble_eq_true rfl) dX11_swap_45 ?_
      refine q_iload_n X dX11_swap_48 3 rfl ?_
      refine q_iload_n X dX11_swap_49 4 rfl ?_
      refine q_callV X (c_X7_swapped hsts.2.2.1) Y_X7_swapped tw_902 tw_903 tw_904 shs rfl (by omega) rfl rfl (Nat.le_of_ble_eq_true rfl) (rc' := 14) (rs' := 2392) (by omega) (by omega) dX11_swap_50 (fun v M' hp _ => ?_)
      obtain ⟨q1, rfl, f1, hS1, x1⟩ := hp
      generalize M' = M1 at *
      show qJ G F _ 6 M1 14 2392 53 [(4, .ref s), (0, .ref g), (1, .int (nI j)), (2, .int (nI ja)), (3, .int (nI jb))] [.ref q1]
      have ev1 : mEv (fun _ => False) M M1 := x1.ev
      have hst1 : nStat G M1 N s := nStat_add hsts (nEq.rf N s) ev1
      have hB1 := hB.ev ev1
      obtain ⟨sb1, sc1, sd1, sp1, sh1, -⟩ := id hS1
      refine q_astore (lv' := [(5, .ref q1), (4, .ref s), (0, .ref g), (1, .int (nI j)), (2, .int (nI ja)), (3, .int (nI jb))]) X dX11_swap_53 (by decide) rfl ?_
      refine q_aload X dX11_swap_55 0 rfl ?_
      refine q_aload X dX11_swap_57 1 rfl ?_
      refine q_callUp X (x := ⟨"GridVault$Node", "depth", "()I"⟩) (owner := "GridVault$Node") (ci := nci N s) (c_X5_depth hst1) Y_X5_depth tw_658 tw_660 (by decide) rfl (g_declC X tw_659 tw_667) tw_659 (se_X5_depth hst1.1) hst1.2.1 (by omega) rfl rfl (Nat.le_of_ble_eq_true rfl) dX11_swap_59 ?_
      refine x_callS X (c_needLimits hl hS1) Y_X11_needLimits tw_668 tw_669 (by omega) rfl rfl (Nat.le_of_ble_eq_true rfl) (rc' := 13) (rs' := 2386) (by omega) (by omega) dX11_swap_62 (fun v M' hp _ => ?_) (fun E M' hx => t_out X hN (by obtain ⟨rfl, q, eM⟩ := hx; rw [eM]; exact gzE_T ((hT).trans (gLim_n q)) ⟨vl, nl, kl, fr, dk, dn, dm, ev, en, ek, vs, ns, ks, N, hB1⟩))
      obtain ⟨rfl, hlim, eM⟩ := hp
      rw [eM]
      clear eM
      show qJ G F _ 6 M1 13 2386 65 [(5, .ref q1), (4, .ref s), (0, .ref g), (1, .int (nI j)), (2, .int (nI ja)), (3, .int (nI jb))] []
      have hw := within_ok hok hlim.1
      have hdp := dp_lt hsts.2.2.2.2.2.2.1 hlim.2
      refine q_aload_n X dX11_swap_65 2 rfl ?_
      refine q_new X (ci := 10) rfl in_RX10 tyX10 tyX10_ok tw_691 tw_692 tw_26 (fs0 := [.null, .int 0, .null, .null, .null, .null, .int 0]) (fun j hj => by rcases (show j = 0 ∨ j = 1 ∨ j = 2 ∨ j = 3 ∨ j = 4 ∨ j = 5 ∨ j = 6 by omega) with rfl | rfl | rfl | rfl | rfl | rfl | rfl <;> rfl) (rc' := 12) (rs' := 2379) (by omega) (by omega) dX11_swap_66 (fun q fq => ?_)
      have m_1 : (mU M1 q (oB 10 [.null, .int 0, .null, .null, .null, .null, .int 0])) q = some (oB 10 [.null, .int 0, .null, .null, .null, .null, .int 0]) := mU_s
      refine q_dup X dX11_swap_69 rfl ?_
      refine q_aload X dX11_swap_70 0 rfl ?_
      refine q_aload X dX11_swap_72 1 rfl ?_
      refine q_iload_n X dX11_swap_74 4 rfl ?_
      refine q_iload_n X dX11_swap_75 5 rfl ?_
      refine q_callS X (c_X10_exchanging (show ja < 3 by omega) (show jb < 3 by omega)) Y_X10_exchanging tw_907 tw_908 (by omega) rfl rfl (Nat.le_of_ble_eq_true rfl) (rc' := 11) (rs' := 2376) (by omega) (by omega) dX11_swap_76 (fun v M' hp _ => ?_)
      obtain ⟨tl, tf, rfl, ftl, eM, htf⟩ := hp
      rw [eM]
      clear eM
      have n_2 : q ≠ tl := g_nef m_1 ftl
      have m_3 : (mU (mU M1 q (oB 10 [.null, .int 0, .null, .null, .null, .null, .int 0])) tl (aI G 3 tf)) q = some (oB 10 [.null, .int 0, .null, .null, .null, .null, .int 0]) := (mU_n n_2).trans m_1
      have m_4 : (mU (mU M1 q (oB 10 [.null, .int 0, .null, .null, .null, .null, .int 0])) tl (aI G 3 tf)) tl = some (aI G 3 tf) := mU_s
      show qJ G F _ 6 (mU (mU M1 q (oB 10 [.null, .int 0, .null, .null, .null, .null, .int 0])) tl (aI G 3 tf)) 11 2376 79 [(5, .ref q1), (4, .ref s), (0, .ref g), (1, .int (nI j)), (2, .int (nI ja)), (3, .int (nI jb))] [.ref tl, .ref s, .ref q1, .ref q, .ref q, .ref g]
      refine q_iconst (v := 0) X dX11_swap_79 (by decide) ?_
      have nq : M q = none := ev1.none fq
      have evp : mEv (fun _ => False) M (mU (mU M1 q (oB 10 [.null, .int 0, .null, .null, .null, .null, .int 0])) tl (aI G 3 tf)) := ev1.trans ((mEv_new fq).trans (mEv_new ftl))
      have hstp : nStat G (mU (mU M1 q (oB 10 [.null, .int 0, .null, .null, .null, .null, .int 0])) tl (aI G 3 tf)) N s := nStat_add hsts (nEq.rf N s) evp
      have hSp : isShape G (mU (mU M1 q (oB 10 [.null, .int 0, .null, .null, .null, .null, .int 0])) tl (aI G 3 tf)) q1 (nI (nm N s)) (swF (nlo N s) (nI ja) (nI jb)) (swF (nhi N s) (nI ja) (nI jb)) := hS1.ext ((mExt_new fq).trans (mExt_new ftl))
      have hqA : (mU (mU M1 q (oB 10 [.null, .int 0, .null, .null, .null, .null, .int 0])) tl (aI G 3 tf)) q = some (oB 10 [.null, .int 0, .null, .null, .null, .null, .int 0]) := m_3
      have htlA : (mU (mU M1 q (oB 10 [.null, .int 0, .null, .null, .null, .null, .int 0])) tl (aI G 3 tf)) tl = some (aI G 3 tf) := m_4
      have tlq : tl ≠ q := fun z => by rw [z, mU_s] at ftl; cases ftl
      have h150 := hroom
      refine q_callI X (c_X10_init hSp hok (by omega) hstp hqA) Y_X10_init tw_696 tw_697 rfl (by omega) rfl rfl (Nat.le_of_ble_eq_true rfl) (rc' := 7) (rs' := 262) (by omega) (by omega) dX11_swap_80 (fun v M' hp _ => ?_)
      obtain ⟨rfl, cl, nb, mb, aa, i1, i2, i3, i4, i5, i6, i7, i8, i9, i10⟩ := hp
      generalize M' = M5 at *
      show qJ G F _ 6 M5 7 262 83 [(5, .ref q1), (4, .ref s), (0, .ref g), (1, .int (nI j)), (2, .int (nI ja)), (3, .int (nI jb))] [.ref q, .ref g]
      have ev5 : mEv (fun _ => False) M M5 := fun x hx => by
        have n : x ≠ q := fun z => hx (z ▸ nq)
        have e1 := evp x hx
        have e := i10 x n e1.1
        exact ⟨by rw [e]; exact e1.1, fun k => e.trans (e1.2 k)⟩
      obtain ⟨N2, hB2, hSq, hvq⟩ := hB.made (ta := 0) (den := vwD (nVal N s) (swF (nlo N s) (nI ja) (nI jb)) (swF (nhi N s) (nI ja) (nI jb)) (exT ja jb) 0) nq (evp.none i5) (evp.none i6) (evp.none i7) (fun z => absurd z (by decide)) ev5 (by unfold isNC; omega) (by decide) i1 (hSp.mv (fun x hx => i10 x (fun z => by rw [z, hqA] at hx; rcases hx with ⟨_, h⟩ | ⟨_, h⟩ <;> cases h) (by rcases hx with ⟨_, h⟩ | ⟨_, h⟩ <;> exact g_so h))) hok (by omega) (by omega) (by omega) i2 i3 i8 i9
        (fun N3 hS3 k1 k2 k3 k4 k5 k6 k7 k8 => kd_view (lo := swF (nlo N s) (nI ja) (nI jb)) (hi := swF (nhi N s) (nI ja) (nI jb)) (tf := tf) (tf0 := exT ja jb) k1 k2 k3 k4 k7 (hS3 s hSs).1 (hS3 s hSs).2.1 (by rw [(hS3 s hSs).2.2, k5]; omega) ((i10 tl tlq (g_so htlA)).trans htlA) htf)
      have hG2 : M5 g = some (oB 11 [.ref vl, .ref nl, .ref kl, .ref fr, .ref dk, .int (nI (aOf σ)), .int (nI (aBg σ))]) := hB2.1
      refine q_da X (fun hda5 => ?_)
      refine q_callV X (c_keep hG2 hB2.2.2.2.2.1 (hB2.2.2.2.2.2.2.2.1.1 q hSq).1 (fun y hy => by obtain ⟨i, hi⟩ := List.getElem?_of_mem hy; exact (hB2.2.2.2.2.2.2.2.1.1 y (hB2.nod hi).2.1).1) h150) Y_X11_keep tw_611 tw_613 sel_10 hG2 rfl (by omega) rfl rfl (Nat.le_of_ble_eq_true rfl) (rc' := 6) (rs' := 29) (by omega) (by omega) dX11_swap_83 (fun v M' hp _ => ?_)
      obtain ⟨rfl, hlp⟩ := hp
      generalize M' = M6 at *
      show qJ G F _ 6 M6 6 29 86 [(5, .ref q1), (4, .ref s), (0, .ref g), (1, .int (nI j)), (2, .int (nI ja)), (3, .int (nI jb))] [.int (nI ns.length)]
      have hfin := hB2.pushN hda5 hlp hSq h150
      rw [hvq] at hfin
      exact x_ret (q_iret X hr dX11_swap_86 (⟨⟨_, rfl⟩, gzP_K (by rw [hnl]; exact (hT).trans (gLim_y hlim)) hfin⟩))
