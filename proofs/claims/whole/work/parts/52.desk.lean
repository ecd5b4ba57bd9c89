/-! put, erase, open, differ, version, count -/
theorem aIx_in {σ : sA} (h : gvS σ) {x y z : Int32} (h0 : 0 ≤ aIx σ x y z) : ∃ j, j < aSz σ ∧ aIx σ x y z = nI j := by
  unfold aIx at h0 ⊢
  have hz := h.sz
  by_cases c : inS (aM σ) (aLo σ) (aHi σ) x y z
  · exact ⟨_, ixS_lt h.1 c, sIdx_in h.1 rfl (show aSz σ < 2 ^ 31 by omega) c⟩
  · rw [sIdx_out h.1 rfl (show aSz σ < 2 ^ 31 by omega) c] at h0; exact absurd h0 (by decide)
theorem nI_inj {i j : Nat} (hi : i < 2 ^ 31) (hj : j < 2 ^ 31) (h : nI i = nI j) : i = j := by
  have := congrArg Int32.toInt h; rw [nI_toInt hi, nI_toInt hj] at this; omega

set_option maxRecDepth 20000 in
theorem c_put {l : Launch} {G : gV} {M : gMem} {g : Nat} {σ : sA} (hl : l.stackTraces = false) (h : isGV G M g σ) {x y z : Int32} {v : Int64} : xC l G yX11_put cX11_put 6 none 7 1 6 [.ref g, .int x, .int y, .int z, .long v] M (gzP G g (sp_put σ x y z v)) (gzE G g (sp_put σ x y z v)) := by
  refine xC_of (by decide +kernel) (Nat.le_of_ble_eq_true rfl) (fun F hF X hN hr hn => ?_)
  subst hF
  have X : qX G F cX11_put 6 RX11 7 := X
  obtain ⟨vl, nl, kl, fr, dk, dn, dm, ev, en, ek, vs, ns, ks, N, hB⟩ := id h
  obtain ⟨b1, b2, b3, b4, b5, b6, b7, b8, b9, b10, b11, b12⟩ := id hB
  have hG : M g = some (oB 11 [.ref vl, .ref nl, .ref kl, .ref fr, .ref dk, .int (nI (aOf σ)), .int (nI (aBg σ))]) := b1
  obtain ⟨sb, sc, sd, sp, s1, -⟩ := id b2
  obtain ⟨cn1, cm1, d1, d2, d3, -⟩ := id b3
  obtain ⟨mvv, vL1⟩ := id b4.2.1
  obtain ⟨mvn, nL1⟩ := id b5.2.1
  obtain ⟨mvk, kL1⟩ := id b6.2.1
  have hvl : vs.length = (aV σ).length := b9.1
  have hnl : ns.length = (aN σ).length := b10.1
  have hz := b12.sz
  have l41 := b12.2.2.2.1
  have l150 := b12.2.2.2.2.1
  have lof := b12.2.2.2.2.2.1
  show qJ G F _ 6 M 1 6 0 [(0, .ref g), (1, .int x), (2, .int y), (3, .int z), (4, .long v)] []
  refine q_aload_n X dX11_put_0 0 rfl ?_
  refine q_get X hG rfl in_RX11 4 (by decide) tw_281 rfl rfl dX11_put_1 ?_
  refine q_aload_n X dX11_put_4 0 rfl ?_
  refine q_iload_n X dX11_put_5 1 rfl ?_
  refine q_iload_n X dX11_put_6 2 rfl ?_
  refine q_iload_n X dX11_put_7 3 rfl ?_
  refine x_callV X (c_deskIndex hl hG b2) Y_X11_deskIndex tw_407 tw_409 sel_7 hG rfl (by omega) rfl rfl (Nat.le_of_ble_eq_true rfl) (rc' := 0) (rs' := 0) (by omega) (by omega) dX11_put_8 (fun v M' hp _ => ?_) (fun E M' hx => t_out X hN (by obtain ⟨rfl, q1, eM⟩ := hx; rw [eM]; exact gzE_T (if_neg q1) h))
  obtain ⟨rfl, q1, eM⟩ := hp
  rw [eM]
  clear eM
  obtain ⟨j, hj, ej⟩ := aIx_in b12 q1
  show qJ G F _ 6 M 0 0 11 [(0, .ref g), (1, .int x), (2, .int y), (3, .int z), (4, .long v)] [.int (aIx σ x y z), .ref dk]
  rw [ej]
  refine q_lload X dX11_put_11 4 rfl ?_
  refine q_callV X (c_X0_set (v := v) b3 hj) Y_X0_set tw_428 tw_429 tw_430 d1 rfl (by omega) rfl rfl (Nat.le_of_ble_eq_true rfl) (rc' := 0) (rs' := 0) (by omega) (by omega) dX11_put_13 (fun v M' hp _ => ?_)
  obtain ⟨rfl, g1, g2⟩ := hp
  generalize M' = M2 at *
  show qJ G F _ 6 M2 0 0 16 [(0, .ref g), (1, .int x), (2, .int y), (3, .int z), (4, .long v)] []
  exact x_ret (q_vret X hr dX11_put_16 (gzP_K (by unfold sp_put; rw [if_pos (show 0 ≤ aIx σ x y z from q1), ej, nI_nn (by omega)]) ⟨vl, nl, kl, fr, dk, dn, dm, ev, en, ek, vs, ns, ks, N, hB.desk g1 g2⟩))

set_option maxRecDepth 20000 in
theorem c_erase {l : Launch} {G : gV} {M : gMem} {g : Nat} {σ : sA} (hl : l.stackTraces = false) (h : isGV G M g σ) {x y z : Int32} : xC l G yX11_erase cX11_erase 4 none 7 1 6 [.ref g, .int x, .int y, .int z] M (gzP G g (sp_erase σ x y z)) (gzE G g (sp_erase σ x y z)) := by
  refine xC_of (by decide +kernel) (Nat.le_of_ble_eq_true rfl) (fun F hF X hN hr hn => ?_)
  subst hF
  have X : qX G F cX11_erase 4 RX11 7 := X
  obtain ⟨vl, nl, kl, fr, dk, dn, dm, ev, en, ek, vs, ns, ks, N, hB⟩ := id h
  obtain ⟨b1, b2, b3, b4, b5, b6, b7, b8, b9, b10, b11, b12⟩ := id hB
  have hG : M g = some (oB 11 [.ref vl, .ref nl, .ref kl, .ref fr, .ref dk, .int (nI (aOf σ)), .int (nI (aBg σ))]) := b1
  obtain ⟨sb, sc, sd, sp, s1, -⟩ := id b2
  obtain ⟨cn1, cm1, d1, d2, d3, -⟩ := id b3
  obtain ⟨mvv, vL1⟩ := id b4.2.1
  obtain ⟨mvn, nL1⟩ := id b5.2.1
  obtain ⟨mvk, kL1⟩ := id b6.2.1
  have hvl : vs.length = (aV σ).length := b9.1
  have hnl : ns.length = (aN σ).length := b10.1
  have hz := b12.sz
  have l41 := b12.2.2.2.1
  have l150 := b12.2.2.2.2.1
  have lof := b12.2.2.2.2.2.1
  show qJ G F _ 4 M 1 6 0 [(0, .ref g), (1, .int x), (2, .int y), (3, .int z)] []
  refine q_aload_n X dX11_erase_0 0 rfl ?_
  refine q_get X hG rfl in_RX11 4 (by decide) tw_281 rfl rfl dX11_erase_1 ?_
  refine q_aload_n X dX11_erase_4 0 rfl ?_
  refine q_iload_n X dX11_erase_5 1 rfl ?_
  refine q_iload_n X dX11_erase_6 2 rfl ?_
  refine q_iload_n X dX11_erase_7 3 rfl ?_
  refine x_callV X (c_deskIndex hl hG b2) Y_X11_deskIndex tw_407 tw_409 sel_7 hG rfl (by omega) rfl rfl (Nat.le_of_ble_eq_true rfl) (rc' := 0) (rs' := 0) (by omega) (by omega) dX11_erase_8 (fun v M' hp _ => ?_) (fun E M' hx => t_out X hN (by obtain ⟨rfl, q1, eM⟩ := hx; rw [eM]; exact gzE_T (if_neg q1) h))
  obtain ⟨rfl, q1, eM⟩ := hp
  rw [eM]
  clear eM
  obtain ⟨j, hj, ej⟩ := aIx_in b12 q1
  show qJ G F _ 4 M 0 0 11 [(0, .ref g), (1, .int x), (2, .int y), (3, .int z)] [.int (aIx σ x y z), .ref dk]
  rw [ej]
  refine q_callV X (c_X0_empty b3 hj) Y_X0_empty tw_443 tw_444 tw_445 d1 rfl (by omega) rfl rfl (Nat.le_of_ble_eq_true rfl) (rc' := 0) (rs' := 0) (by omega) (by omega) dX11_erase_11 (fun v M' hp _ => ?_)
  obtain ⟨rfl, g1, g2⟩ := hp
  generalize M' = M2 at *
  show qJ G F _ 4 M2 0 0 14 [(0, .ref g), (1, .int x), (2, .int y), (3, .int z)] []
  exact x_ret (q_vret X hr dX11_erase_14 (gzP_K (by unfold sp_erase; rw [if_pos (show 0 ≤ aIx σ x y z from q1), ej, nI_nn (by omega)]) ⟨vl, nl, kl, fr, dk, dn, dm, ev, en, ek, vs, ns, ks, N, hB.desk g1 g2⟩))

set_option maxRecDepth 20000 in
theorem c_open {l : Launch} {G : gV} {M : gMem} {g : Nat} {σ : sA} (hl : l.stackTraces = false) (h : isGV G M g σ) {i : Int32} : xC l G yX11_open cX11_open 2 none 8 1 6 [.ref g, .int i] M (gzP G g (sp_open σ i)) (gzE G g (sp_open σ i)) := by
  refine xC_of (by decide +kernel) (Nat.le_of_ble_eq_true rfl) (fun F hF X hN hr hn => ?_)
  subst hF
  have X : qX G F cX11_open 2 RX11 8 := X
  obtain ⟨vl, nl, kl, fr, dk, dn, dm, ev, en, ek, vs, ns, ks, N, hB⟩ := id h
  obtain ⟨b1, b2, b3, b4, b5, b6, b7, b8, b9, b10, b11, b12⟩ := id hB
  have hG : M g = some (oB 11 [.ref vl, .ref nl, .ref kl, .ref fr, .ref dk, .int (nI (aOf σ)), .int (nI (aBg σ))]) := b1
  obtain ⟨sb, sc, sd, sp, s1, -⟩ := id b2
  obtain ⟨cn1, cm1, d1, d2, d3, -⟩ := id b3
  obtain ⟨mvv, vL1⟩ := id b4.2.1
  obtain ⟨mvn, nL1⟩ := id b5.2.1
  obtain ⟨mvk, kL1⟩ := id b6.2.1
  have hvl : vs.length = (aV σ).length := b9.1
  have hnl : ns.length = (aN σ).length := b10.1
  have hz := b12.sz
  have l41 := b12.2.2.2.1
  have l150 := b12.2.2.2.2.1
  have lof := b12.2.2.2.2.2.1
  show qJ G F _ 2 M 1 6 0 [(0, .ref g), (1, .int i)] []
  refine q_aload_n X dX11_open_0 0 rfl ?_
  refine q_get X hG rfl in_RX11 4 (by decide) tw_281 rfl rfl dX11_open_1 ?_
  refine q_aload_n X dX11_open_4 0 rfl ?_
  refine q_iload_n X dX11_open_5 1 rfl ?_
  refine x_callV X (c_versionAt hl hG b4 hB.verO) Y_X11_versionAt tw_480 tw_482 sel_8 hG rfl (by omega) rfl rfl (Nat.le_of_ble_eq_true rfl) (rc' := 0) (rs' := 0) (by omega) (by omega) dX11_open_6 (fun v M' hp _ => ?_) (fun E M' hx => t_out X hN (by obtain ⟨rfl, q, eM⟩ := hx; rw [eM]; rw [hvl] at q; exact gzE_T (by unfold sp_open; rw [vAt_out (by omega) q]) h))
  obtain ⟨j, a, rfl, ha, rfl, eM⟩ := hp
  rw [eM]
  clear eM
  obtain ⟨c, hc, hj41, hSa, hia, hCa, hOa⟩ := hB.ver ha
  obtain ⟨_, _, hKa, -⟩ := id hCa
  show qJ G F _ 2 M 0 0 9 [(0, .ref g), (1, .int (nI j))] [.ref a, .ref dk]
  refine q_callUp X (x := ⟨"GridVault$Version", "cells", "()LGridVault$Cells;"⟩) (owner := "GridVault$Node") (ci := 9) (c_cells_raw (ci := 9) (by unfold isNC; decide) hOa) Y_X5_cells tw_555 tw_508 (by decide) rfl (g_decl X tn_509) tw_511 ⟨_, rfl, tw_510⟩ hOa (by omega) rfl rfl (Nat.le_of_ble_eq_true rfl) dX11_open_9 ?_
  refine q_callV X (c_X0_copyFrom b3 hCa (fun z => (b11.2.2.2.2.2.2 (ndp N a)).1 ⟨a, hSa, Nat.le_refl _, Or.inr (Or.inl z)⟩) (fun z => (b11.2.2.2.2.2.2 (ndp N a)).2 ⟨a, hSa, Nat.le_refl _, Or.inl z⟩)) Y_X0_copyFrom tw_556 tw_514 tw_515 d1 rfl (by omega) rfl rfl (Nat.le_of_ble_eq_true rfl) (rc' := 0) (rs' := 0) (by omega) (by omega) dX11_open_12 (fun v M' hp _ => ?_)
  obtain ⟨rfl, g1, g2⟩ := hp
  generalize M' = M2 at *
  show qJ G F _ 2 M2 0 0 15 [(0, .ref g), (1, .int (nI j))] []
  have hB2 := hB.desk g1 g2
  have hG2 : M2 g = some (oB 11 [.ref vl, .ref nl, .ref kl, .ref fr, .ref dk, .int (nI (aOf σ)), .int (nI (aBg σ))]) := hB2.1
  refine q_aload_n X dX11_open_15 0 rfl ?_
  refine q_iload_n X dX11_open_16 1 rfl ?_
  refine q_put X hG2 rfl in_RX11 tyX11 tyX11_ok nmX11 5 (by decide) tw_282 rfl rfl rfl rfl rfl (Nat.le_of_ble_eq_true rfl) (fs1 := [.ref vl, .ref nl, .ref kl, .ref fr, .ref dk, .int (nI j), .int (nI (aBg σ))]) rfl dX11_open_17 ?_
  have m_1 : (mU M2 g (oB 11 [.ref vl, .ref nl, .ref kl, .ref fr, .ref dk, .int (nI j), .int (nI (aBg σ))])) g = some (oB 11 [.ref vl, .ref nl, .ref kl, .ref fr, .ref dk, .int (nI j), .int (nI (aBg σ))]) := mU_s
  exact x_ret (q_vret X hr dX11_open_20 (gzP_K (by unfold sp_open; rw [vAt_in (by omega), hc]; simp only [nI_nn (show j < 2 ^ 31 by omega)]; rfl) ⟨vl, nl, kl, fr, dk, dn, dm, ev, en, ek, vs, ns, ks, N, hB2.obj (o := j) (b := aBg σ) (show j < (aV σ).length by rw [← b9.1]; exact (List.getElem?_eq_some_iff.mp ha).1) b12.2.2.2.2.2.2.1⟩))

set_option maxRecDepth 20000 in
theorem c_differ {l : Launch} {G : gV} {M : gMem} {g : Nat} {σ : sA} (hl : l.stackTraces = false) (h : isGV G M g σ) {i1 i2 : Int32} : xC l G yX11_differ cX11_differ 3 (some .int) 8 2 12 [.ref g, .int i1, .int i2] M (gzP G g (sp_differ σ i1 i2)) (gzE G g (sp_differ σ i1 i2)) := by
  refine xC_of (by decide +kernel) (Nat.le_of_ble_eq_true rfl) (fun F hF X hN hr hn => ?_)
  subst hF
  have X : qX G F cX11_differ 3 RX11 8 := X
  obtain ⟨vl, nl, kl, fr, dk, dn, dm, ev, en, ek, vs, ns, ks, N, hB⟩ := id h
  obtain ⟨b1, b2, b3, b4, b5, b6, b7, b8, b9, b10, b11, b12⟩ := id hB
  have hG : M g = some (oB 11 [.ref vl, .ref nl, .ref kl, .ref fr, .ref dk, .int (nI (aOf σ)), .int (nI (aBg σ))]) := b1
  obtain ⟨sb, sc, sd, sp, s1, -⟩ := id b2
  obtain ⟨cn1, cm1, d1, d2, d3, -⟩ := id b3
  obtain ⟨mvv, vL1⟩ := id b4.2.1
  obtain ⟨mvn, nL1⟩ := id b5.2.1
  obtain ⟨mvk, kL1⟩ := id b6.2.1
  have hvl : vs.length = (aV σ).length := b9.1
  have hnl : ns.length = (aN σ).length := b10.1
  have hz := b12.sz
  have l41 := b12.2.2.2.1
  have l150 := b12.2.2.2.2.1
  have lof := b12.2.2.2.2.2.1
  show qJ G F _ 3 M 2 12 0 [(0, .ref g), (1, .int i1), (2, .int i2)] []
  refine q_aload_n X dX11_differ_0 0 rfl ?_
  refine q_iload_n X dX11_differ_1 1 rfl ?_
  refine x_callV X (c_versionAt hl hG b4 hB.verO) Y_X11_versionAt tw_480 tw_482 sel_8 hG rfl (by omega) rfl rfl (Nat.le_of_ble_eq_true rfl) (rc' := 1) (rs' := 6) (by omega) (by omega) dX11_differ_2 (fun v M' hp _ => ?_) (fun E M' hx => t_out X hN (by obtain ⟨rfl, q, eM⟩ := hx; rw [eM]; rw [hvl] at q; exact gzE_T (by unfold sp_differ; rw [vAt_out (by omega) q]) h))
  obtain ⟨j, a, rfl, ha, rfl, eM⟩ := hp
  rw [eM]
  clear eM
  obtain ⟨c, hc, hj41, hSa, hia, hCa, hOa⟩ := hB.ver ha
  obtain ⟨_, _, hKa, -⟩ := id hCa
  show qJ G F _ 3 M 1 6 5 [(0, .ref g), (1, .int (nI j)), (2, .int i2)] [.ref a]
  refine q_callUp X (x := ⟨"GridVault$Version", "cells", "()LGridVault$Cells;"⟩) (owner := "GridVault$Node") (ci := 9) (c_cells_raw (ci := 9) (by unfold isNC; decide) hOa) Y_X5_cells tw_555 tw_508 (by decide) rfl (g_decl X tn_509) tw_511 ⟨_, rfl, tw_510⟩ hOa (by omega) rfl rfl (Nat.le_of_ble_eq_true rfl) dX11_differ_5 ?_
  refine q_aload_n X dX11_differ_8 0 rfl ?_
  refine q_iload_n X dX11_differ_9 2 rfl ?_
  refine x_callV X (c_versionAt hl hG b4 hB.verO) Y_X11_versionAt tw_480 tw_482 sel_8 hG rfl (by omega) rfl rfl (Nat.le_of_ble_eq_true rfl) (rc' := 0) (rs' := 0) (by omega) (by omega) dX11_differ_10 (fun v M' hp _ => ?_) (fun E M' hx => t_out X hN (by obtain ⟨rfl, q, eM⟩ := hx; rw [eM]; rw [hvl] at q; exact gzE_T (by unfold sp_differ; rw [vAt_in (by omega), hc]; simp only; rw [vAt_out (by omega) q]) h))
  obtain ⟨t, b, rfl, hb, rfl, eM⟩ := hp
  rw [eM]
  clear eM
  obtain ⟨e, he, ht41, hSb, hib, hCb, hOb⟩ := hB.ver hb
  obtain ⟨_, _, hKb, -⟩ := id hCb
  show qJ G F _ 3 M 0 0 13 [(0, .ref g), (1, .int (nI j)), (2, .int (nI t))] [.ref b, .ref (nca N a)]
  refine q_callUp X (x := ⟨"GridVault$Version", "cells", "()LGridVault$Cells;"⟩) (owner := "GridVault$Node") (ci := 9) (c_cells_raw (ci := 9) (by unfold isNC; decide) hOb) Y_X5_cells tw_555 tw_508 (by decide) rfl (g_decl X tn_509) tw_511 ⟨_, rfl, tw_510⟩ hOb (by omega) rfl rfl (Nat.le_of_ble_eq_true rfl) dX11_differ_13 ?_
  refine q_callVp X (c_X0_differing hCa hCb) Y_X0_differing tw_594 tw_595 tw_596 hKa rfl (by omega) rfl rfl (Nat.le_of_ble_eq_true rfl) dX11_differ_16 ?_
  exact x_ret (q_iret X hr dX11_differ_19 (gzP_K (by unfold sp_differ; rw [vAt_in (by omega), hc]; simp only; rw [vAt_in (by omega), he]; rfl) h))

set_option maxRecDepth 20000 in
theorem c_version {l : Launch} {G : gV} {M : gMem} {g : Nat} {σ : sA} (hl : l.stackTraces = false) (h : isGV G M g σ) {i what : Int32} : xC l G yX11_version cX11_version 4 (some .int) 8 2 12 [.ref g, .int i, .int what] M (gzP G g (sp_version σ i what)) (gzE G g (sp_version σ i what)) := by
  refine xC_of (by decide +kernel) (Nat.le_of_ble_eq_true rfl) (fun F hF X hN hr hn => ?_)
  subst hF
  have X : qX G F cX11_version 4 RX11 8 := X
  obtain ⟨vl, nl, kl, fr, dk, dn, dm, ev, en, ek, vs, ns, ks, N, hB⟩ := id h
  obtain ⟨b1, b2, b3, b4, b5, b6, b7, b8, b9, b10, b11, b12⟩ := id hB
  have hG : M g = some (oB 11 [.ref vl, .ref nl, .ref kl, .ref fr, .ref dk, .int (nI (aOf σ)), .int (nI (aBg σ))]) := b1
  obtain ⟨sb, sc, sd, sp, s1, -⟩ := id b2
  obtain ⟨cn1, cm1, d1, d2, d3, -⟩ := id b3
  obtain ⟨mvv, vL1⟩ := id b4.2.1
  obtain ⟨mvn, nL1⟩ := id b5.2.1
  obtain ⟨mvk, kL1⟩ := id b6.2.1
  have hvl : vs.length = (aV σ).length := b9.1
  have hnl : ns.length = (aN σ).length := b10.1
  have hz := b12.sz
  have l41 := b12.2.2.2.1
  have l150 := b12.2.2.2.2.1
  have lof := b12.2.2.2.2.2.1
  show qJ G F _ 4 M 2 12 0 [(0, .ref g), (1, .int i), (2, .int what)] []
  refine q_aload_n X dX11_version_0 0 rfl ?_
  refine q_iload_n X dX11_version_1 1 rfl ?_
  refine x_callV X (c_versionAt hl hG b4 hB.verO) Y_X11_versionAt tw_480 tw_482 sel_8 hG rfl (by omega) rfl rfl (Nat.le_of_ble_eq_true rfl) (rc' := 1) (rs' := 6) (by omega) (by omega) dX11_version_2 (fun v M' hp _ => ?_) (fun E M' hx => t_out X hN (by obtain ⟨rfl, q, eM⟩ := hx; rw [eM]; rw [hvl] at q; exact gzE_T (by unfold sp_version; rw [vAt_out (by omega) q]) h))
  obtain ⟨j, a, rfl, ha, rfl, eM⟩ := hp
  rw [eM]
  clear eM
  obtain ⟨c, hc, hj41, hSa, hia, hCa, hOa⟩ := hB.ver ha
  obtain ⟨_, _, hKa, -⟩ := id hCa
  show qJ G F _ 4 M 1 6 5 [(0, .ref g), (1, .int (nI j)), (2, .int what)] [.ref a]
  refine q_astore_n (lv' := [(3, .ref a), (0, .ref g), (1, .int (nI j)), (2, .int what)]) X dX11_version_5 (by decide) rfl ?_
  refine q_iload_n X dX11_version_6 3 rfl ?_
  by_cases k0 : 0 ≤ what.toInt ∧ what.toInt ≤ 3
  · have ko : what = 0 ∨ what = 1 ∨ what = 2 ∨ what = 3 := by
      rcases (show what.toInt = 0 ∨ what.toInt = 1 ∨ what.toInt = 2 ∨ what.toInt = 3 by omega) with q | q | q | q
      · exact (Or.inl (Int32.toInt_inj.mp q))
      · exact Or.inr ((Or.inl (Int32.toInt_inj.mp q)))
      · exact Or.inr (Or.inr ((Or.inl (Int32.toInt_inj.mp q))))
      · exact Or.inr (Or.inr (Or.inr ((Int32.toInt_inj.mp q))))
    rcases ko with rfl | rfl | rfl | rfl
    · refine q_tableIn (off := 29) X 36 dX11_version_7 (by decide) (by decide) (by decide) (by decide) ?_
      refine q_aload_n X dX11_version_36 0 rfl ?_
      refine q_callVp X (c_X9_parent hOa) Y_X9_parent tw_564 tw_565 tw_566 hOa rfl (by omega) rfl rfl (Nat.le_of_ble_eq_true rfl) dX11_version_37 ?_
      exact x_ret (q_iret X hr dX11_version_40 (gzP_K (by unfold sp_version; rw [vAt_in (by omega), hc]; simp [oI, nI_nn (show j < 2 ^ 31 by omega)]) h))
    · refine q_tableIn (off := 34) X 41 dX11_version_7 (by decide) (by decide) (by decide) (by decide) ?_
      refine q_aload_n X dX11_version_41 0 rfl ?_
      refine q_callVp X (c_X9_differingChunks hOa) Y_X9_differingChunks tw_568 tw_569 tw_570 hOa rfl (by omega) rfl rfl (Nat.le_of_ble_eq_true rfl) dX11_version_42 ?_
      exact x_ret (q_iret X hr dX11_version_45 (gzP_K (by unfold sp_version; rw [vAt_in (by omega), hc]; simp [oI, nI_nn (show j < 2 ^ 31 by omega)]) h))
    · refine q_tableIn (off := 39) X 46 dX11_version_7 (by decide) (by decide) (by decide) (by decide) ?_
      refine q_aload_n X dX11_version_46 0 rfl ?_
      refine q_callVp X (c_X9_octets hOa) Y_X9_octets tw_572 tw_573 tw_574 hOa rfl (by omega) rfl rfl (Nat.le_of_ble_eq_true rfl) dX11_version_47 ?_
      exact x_ret (q_iret X hr dX11_version_50 (gzP_K (by unfold sp_version; rw [vAt_in (by omega), hc]; simp [oI, nI_nn (show j < 2 ^ 31 by omega)]) h))
    · refine q_tableIn (off := 44) X 51 dX11_version_7 (by decide) (by decide) (by decide) (by decide) ?_
      refine q_aload_n X dX11_version_51 0 rfl ?_
      refine q_callUp X (x := ⟨"GridVault$Version", "cells", "()LGridVault$Cells;"⟩) (owner := "GridVault$Node") (ci := 9) (c_cells_raw (ci := 9) (by unfold isNC; decide) hOa) Y_X5_cells tw_555 tw_508 (by decide) rfl (g_decl X tn_509) tw_511 ⟨_, rfl, tw_510⟩ hOa (by omega) rfl rfl (Nat.le_of_ble_eq_true rfl) dX11_version_52 ?_
      refine q_callVp X (c_X0_filled hCa) Y_X0_filled tw_576 tw_577 tw_578 hKa rfl (by omega) rfl rfl (Nat.le_of_ble_eq_true rfl) dX11_version_55 ?_
      exact x_ret (q_iret X hr dX11_version_58 (gzP_K (by unfold sp_version; rw [vAt_in (by omega), hc]; simp [oI, nI_nn (show j < 2 ^ 31 by omega), filN]) h))
  · refine q_tableOut X 59 dX11_version_7 (by omega) (by decide) ?_
    exact x_throw X rfl hN hl xe_IA tw_380 tw_20 (s_134 X) dX11_version_59 dX11_version_62 dX11_version_63 dX11_version_65 dX11_version_68 (by omega) (Nat.le_of_ble_eq_true rfl) (by omega) (by omega) (gzE_T (by unfold sp_version; rw [vAt_in (by omega), hc]; simp only; rw [if_neg (fun q => k0 (by rw [q]; decide)), if_neg (fun q => k0 (by rw [q]; decide)), if_neg (fun q => k0 (by rw [q]; decide)), if_neg (fun q => k0 (by rw [q]; decide))]) h)

set_option maxRecDepth 20000 in
theorem c_count {l : Launch} {G : gV} {M : gMem} {g : Nat} {σ : sA} (hl : l.stackTraces = false) (h : isGV G M g σ) {what : Int32} : xC l G yX11_count cX11_count 2 (some .int) 8 2 12 [.ref g, .int what] M (gzP G g (sp_count σ what)) (gzE G g (sp_count σ what)) := by
  refine xC_of (by decide +kernel) (Nat.le_of_ble_eq_true rfl) (fun F hF X hN hr hn => ?_)
  subst hF
  have X : qX G F cX11_count 2 RX11 8 := X
  obtain ⟨vl, nl, kl, fr, dk, dn, dm, ev, en, ek, vs, ns, ks, N, hB⟩ := id h
  obtain ⟨b1, b2, b3, b4, b5, b6, b7, b8, b9, b10, b11, b12⟩ := id hB
  have hG : M g = some (oB 11 [.ref vl, .ref nl, .ref kl, .ref fr, .ref dk, .int (nI (aOf σ)), .int (nI (aBg σ))]) := b1
  obtain ⟨sb, sc, sd, sp, s1, -⟩ := id b2
  obtain ⟨cn1, cm1, d1, d2, d3, -⟩ := id b3
  obtain ⟨mvv, vL1⟩ := id b4.2.1
  obtain ⟨mvn, nL1⟩ := id b5.2.1
  obtain ⟨mvk, kL1⟩ := id b6.2.1
  have hvl : vs.length = (aV σ).length := b9.1
  have hnl : ns.length = (aN σ).length := b10.1
  have hz := b12.sz
  have l41 := b12.2.2.2.1
  have l150 := b12.2.2.2.2.1
  have lof := b12.2.2.2.2.2.1
  show qJ G F _ 2 M 2 12 0 [(0, .ref g), (1, .int what)] []
  refine q_iload_n X dX11_count_0 1 rfl ?_
  by_cases k0 : 0 ≤ what.toInt ∧ what.toInt ≤ 3
  · have ko : what = 0 ∨ what = 1 ∨ what = 2 ∨ what = 3 := by
      rcases (show what.toInt = 0 ∨ what.toInt = 1 ∨ what.toInt = 2 ∨ what.toInt = 3 by omega) with q | q | q | q
      · exact (Or.inl (Int32.toInt_inj.mp q))
      · exact Or.inr ((Or.inl (Int32.toInt_inj.mp q)))
      · exact Or.inr (Or.inr ((Or.inl (Int32.toInt_inj.mp q))))
      · exact Or.inr (Or.inr (Or.inr ((Int32.toInt_inj.mp q))))
    rcases ko with rfl | rfl | rfl | rfl
    · refine q_tableIn (off := 31) X 32 dX11_count_1 (by decide) (by decide) (by decide) (by decide) ?_
      refine q_aload_n X dX11_count_32 0 rfl ?_
      refine q_get X hG rfl in_RX11 0 (by decide) tw_277 rfl rfl dX11_count_33 ?_
      refine q_callF X (x := ⟨"java/util/List", "size", "()I"⟩) (c_list_size b4) Y_Jx4a65c_size_8abf5 tw_471 tw_474 tw_476 tn_473 tn_472 tn_477 tn_475 tn_137 (by decide +kernel) vL1 rfl (by omega) rfl rfl (Nat.le_of_ble_eq_true rfl) (Nat.le_refl _) (Nat.le_refl _) dX11_count_36 (fun v M' hp _ => ?_)
      obtain ⟨rfl, eM⟩ := hp
      rw [eM]
      clear eM
      show qJ G F _ 2 M _ _ 41 [(0, .ref g), (1, .int 0)] [.int (nI vs.length)]
      exact x_ret (q_iret X hr dX11_count_41 (gzP_K (by simp [sp_count, oI, hvl]) h))
    · refine q_tableIn (off := 41) X 42 dX11_count_1 (by decide) (by decide) (by decide) (by decide) ?_
      refine q_aload_n X dX11_count_42 0 rfl ?_
      refine q_get X hG rfl in_RX11 1 (by decide) tw_278 rfl rfl dX11_count_43 ?_
      refine q_callF X (x := ⟨"java/util/List", "size", "()I"⟩) (c_list_size b5) Y_Jx4a65c_size_8abf5 tw_471 tw_474 tw_476 tn_473 tn_472 tn_477 tn_475 tn_137 (by decide +kernel) nL1 rfl (by omega) rfl rfl (Nat.le_of_ble_eq_true rfl) (Nat.le_refl _) (Nat.le_refl _) dX11_count_46 (fun v M' hp _ => ?_)
      obtain ⟨rfl, eM⟩ := hp
      rw [eM]
      clear eM
      show qJ G F _ 2 M _ _ 51 [(0, .ref g), (1, .int 1)] [.int (nI ns.length)]
      exact x_ret (q_iret X hr dX11_count_51 (gzP_K (by simp [sp_count, oI, hnl]) h))
    · refine q_tableIn (off := 51) X 52 dX11_count_1 (by decide) (by decide) (by decide) (by decide) ?_
      refine q_aload_n X dX11_count_52 0 rfl ?_
      refine q_get X hG rfl in_RX11 5 (by decide) tw_282 rfl rfl dX11_count_53 ?_
      exact x_ret (q_iret X hr dX11_count_56 (gzP_K (by simp [sp_count, oI]) h))
    · refine q_tableIn (off := 56) X 57 dX11_count_1 (by decide) (by decide) (by decide) (by decide) ?_
      refine q_aload_n X dX11_count_57 0 rfl ?_
      refine q_get X hG rfl in_RX11 4 (by decide) tw_281 rfl rfl dX11_count_58 ?_
      refine q_aload_n X dX11_count_61 0 rfl ?_
      refine q_aload_n X dX11_count_62 0 rfl ?_
      refine q_get X hG rfl in_RX11 5 (by decide) tw_282 rfl rfl dX11_count_63 ?_
      refine x_callV X (c_versionAt hl hG b4 hB.verO) Y_X11_versionAt tw_480 tw_482 sel_8 hG rfl (by omega) rfl rfl (Nat.le_of_ble_eq_true rfl) (rc' := 1) (rs' := 6) (by omega) (by omega) dX11_count_66 (fun v M' hp _ => ?_) (fun E M' hx => t_out X hN (by obtain ⟨rfl, q, eM⟩ := hx; rw [eM]; rw [hvl] at q; exact absurd q (fun q => by rcases q with q | q; exact nI_pos (by omega) q; exact nI_ge lof (by omega) q)))
      obtain ⟨j, a, ej, ha, rfl, eM⟩ := hp
      rw [eM]
      clear eM
      obtain ⟨c, hc, hj41, hSa, hia, hCa, hOa⟩ := hB.ver ha
      obtain ⟨_, _, hKa, -⟩ := id hCa
      show qJ G F _ 2 M 1 6 69 [(0, .ref g), (1, .int 3)] [.ref a, .ref dk]
      refine q_callUp X (x := ⟨"GridVault$Version", "cells", "()LGridVault$Cells;"⟩) (owner := "GridVault$Node") (ci := 9) (c_cells_raw (ci := 9) (by unfold isNC; decide) hOa) Y_X5_cells tw_555 tw_508 (by decide) rfl (g_decl X tn_509) tw_511 ⟨_, rfl, tw_510⟩ hOa (by omega) rfl rfl (Nat.le_of_ble_eq_true rfl) dX11_count_69 ?_
      refine q_callVp X (c_X0_differing b3 hCa) Y_X0_differing tw_594 tw_595 tw_596 d1 rfl (by omega) rfl rfl (Nat.le_of_ble_eq_true rfl) dX11_count_72 ?_
      exact x_ret (q_iret X hr dX11_count_75 (gzP_K (by unfold sp_count; rw [if_neg (by decide), if_neg (by decide), if_neg (by decide), if_pos rfl]; have e9 := nI_inj (by omega) (by omega) ej; rw [e9, hc]; rfl) h))
  · refine q_tableOut X 76 dX11_count_1 (by omega) (by decide) ?_
    exact x_throw X rfl hN hl xe_IA tw_380 tw_20 (s_134 X) dX11_count_76 dX11_count_79 dX11_count_80 dX11_count_82 dX11_count_85 (by omega) (Nat.le_of_ble_eq_true rfl) (by omega) (by omega) (gzE_T (by unfold sp_count; rw [if_neg (fun q => k0 (by rw [q]; decide)), if_neg (fun q => k0 (by rw [q]; decide)), if_neg (fun q => k0 (by rw [q]; decide)), if_neg (fun q => k0 (by rw [q]; decide))]) h)
