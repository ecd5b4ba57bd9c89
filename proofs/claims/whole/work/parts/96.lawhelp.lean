/-! the law's helpers -/
theorem vn_begin {σ : sA} {n a b c d e f : Int32} (h : (sp_begin σ n a b c d e f).1 = none) : (sp_begin σ n a b c d e f).2.1 = none := by
  have q : ∀ o : oc, (o = oT eIS σ ∨ o = oT eIA σ ∨ ∃ s, o = oK none s) → o.2.1 = none := fun o ho => by rcases ho with rfl | rfl | ⟨s, rfl⟩ <;> rfl
  apply q
  unfold sp_begin
  split
  · exact Or.inl rfl
  split
  · exact Or.inr (Or.inl rfl)
  split
  · exact Or.inr (Or.inl rfl)
  split
  · exact Or.inr (Or.inl rfl)
  split
  · exact Or.inr (Or.inl rfl)
  split
  · exact Or.inr (Or.inl rfl)
  · exact Or.inr (Or.inr ⟨_, rfl⟩)
theorem vn_put {σ : sA} {x y z : Int32} {v : Int64} (h : (sp_put σ x y z v).1 = none) : (sp_put σ x y z v).2.1 = none := by
  unfold sp_put; split <;> rfl
theorem vn_erase {σ : sA} {x y z : Int32} (h : (sp_erase σ x y z).1 = none) : (sp_erase σ x y z).2.1 = none := by
  unfold sp_erase; split <;> rfl
theorem vn_fill {σ : sA} {d x y : Int32} {v : Int64} (h : (sp_fill σ d x y v).1 = none) : (sp_fill σ d x y v).2.1 = none := by
  unfold sp_fill; split <;> rfl
theorem vn_open {σ : sA} {i : Int32} (h : (sp_open σ i).1 = none) : (sp_open σ i).2.1 = none := by
  unfold sp_open; split <;> rfl

set_option maxRecDepth 20000 in
theorem h_begin {l : Launch} {G : gV} {g ou : Nat} {σ : sA} {MV : gMem} {f0 : Nat → Int64} (hl : l.stackTraces = false) (hV : isGV G MV g σ) (hou : MV ou = none) {p0 p1 p2 p3 p4 p5 p6 : Int32} : hC l G yL_begin cL_begin 9 (some .int) [(0, 15, 18, 13), (0, 15, 22, 15)] 201 210 19400 [.ref g, .int p0, .int p1, .int p2, .int p3, .int p4, .int p5, .int p6] (pU MV (mO G ou f0)) (hlP G g ou cBe hv0 (sp_begin σ p0 p1 p2 p3 p4 p5 p6)) := by
  refine hC_of (by decide +kernel) (Nat.le_of_ble_eq_true rfl) (fun F hF X hT hr => ?_)
  subst hF
  have X : qX G F cL_begin 9 RL 201 := X
  have hT : (fc F).exceptionTable.toList = [⟨0, 15, 18, 13⟩, ⟨0, 15, 22, 15⟩] := hT
  obtain ⟨vl, nl, kl, fr, dk, hG⟩ : ∃ vl nl kl fr dk : Nat, MV g = some (oB 11 [.ref vl, .ref nl, .ref kl, .ref fr, .ref dk, .int (nI (aOf σ)), .int (nI (aBg σ))]) := by obtain ⟨vl, nl, kl, fr, dk, _, _, _, _, _, _, _, _, _, hB⟩ := hV; exact ⟨vl, nl, kl, fr, dk, hB.1⟩
  show qJ G F _ 9 (pU MV (mO G ou f0)) 210 19400 0 [(0, .ref g), (1, .int p0), (2, .int p1), (3, .int p2), (4, .int p3), (5, .int p4), (6, .int p5), (7, .int p6)] []
  refine q_aload_n X dL_begin_0 0 rfl ?_
  refine q_iload_n X dL_begin_1 1 rfl ?_
  refine q_iload_n X dL_begin_2 2 rfl ?_
  refine q_iload_n X dL_begin_3 3 rfl ?_
  refine q_iload X dL_begin_4 4 rfl ?_
  refine q_iload X dL_begin_6 5 rfl ?_
  refine q_iload X dL_begin_8 6 rfl ?_
  refine q_iload X dL_begin_10 7 rfl ?_
  refine x_callVF X (Mc := MV) (c_begin hl hV) pU_l Y_X11_begin tw_304 tw_305 tw_306 (pU_l _ _ hG) rfl (by omega) rfl rfl (Nat.le_of_ble_eq_true rfl) (rc' := 0) (rs' := 0) (Nat.le_of_eq (Nat.zero_add _)) (Nat.le_of_eq (Nat.zero_add _)) dL_begin_12 (fun v M' hp hm => ?_) (fun E M' hx hm => ?_)
  · obtain ⟨ho1, hv1, hV2⟩ := hp
    obtain ⟨eM, hd⟩ := mJ_pU (mO_d hou) hm
    rw [eM]
    have hou2 := mO_no hd
    have hv2 : v = none := hv1.trans (vn_begin ho1)
    subst hv2
    show qJ G F _ 9 (pU M' (mO G ou f0)) 0 0 15 [(0, .ref g), (1, .int p0), (2, .int p1), (3, .int p2), (4, .int p3), (5, .int p4), (6, .int p5), (7, .int p6)] []
    refine q_goto X 26 dL_begin_15 (by decide) ?_
    refine q_iconst (v := 0) X dL_begin_26 (by decide) ?_
    exact q_iret X hr dL_begin_27 (⟨M', f0, rfl, hou2, hV2, Or.inl ⟨ho1, rfl, trivial⟩⟩)
  · obtain ⟨ho1, hV2⟩ := hx
    obtain ⟨eM, hd⟩ := mJ_pU (mO_d hou) hm
    rw [eM]
    have hou2 := mO_no hd
    have hE := x_begin E ho1
    simp only [List.mem_cons, List.not_mem_nil, or_false] at hE
    rcases hE with rfl | rfl
    · refine t_catch X [⟨0, 15, 18, 13⟩] ⟨0, 15, 22, 15⟩ [] hT (fun z hz => by simp only [List.mem_cons, List.not_mem_nil, or_false] at hz; subst hz; exact Or.inr ⟨by decide, _, tw_302, nc_of X (fun b hn => (ca_r (ca_r (ca_r (ca_l (ca_r (ca_l (ca_l (ca_l (ca_l (ca_r hn)))))))))))⟩) (by decide) (by decide) tw_303 tn_310 (fun q9 => ?_)
      show qJ G F _ 9 (pU M' (mO G ou f0)) 0 0 22 [(0, .ref g), (1, .int p0), (2, .int p1), (3, .int p2), (4, .int p3), (5, .int p4), (6, .int p5), (7, .int p6)] [.ref q9]
      refine q_astore (lv' := [(8, .ref q9), (0, .ref g), (1, .int p0), (2, .int p1), (3, .int p2), (4, .int p3), (5, .int p4), (6, .int p5), (7, .int p6)]) X dL_begin_22 (by decide) rfl ?_
      refine q_iconst (v := 2) X dL_begin_24 (by decide) ?_
      exact q_iret X hr dL_begin_25 (⟨M', f0, rfl, hou2, hV2, Or.inr ⟨_, ho1, congrArg (fun z => some (Value.int z)) (show (2 : Int32) = cBe eIS by decide)⟩⟩)
    · refine t_catch X [] ⟨0, 15, 18, 13⟩ [⟨0, 15, 22, 15⟩] hT (fun z hz => by cases hz) (by decide) (by decide) tw_302 tn_382 (fun q9 => ?_)
      show qJ G F _ 9 (pU M' (mO G ou f0)) 0 0 18 [(0, .ref g), (1, .int p0), (2, .int p1), (3, .int p2), (4, .int p3), (5, .int p4), (6, .int p5), (7, .int p6)] [.ref q9]
      refine q_astore (lv' := [(8, .ref q9), (0, .ref g), (1, .int p0), (2, .int p1), (3, .int p2), (4, .int p3), (5, .int p4), (6, .int p5), (7, .int p6)]) X dL_begin_18 (by decide) rfl ?_
      refine q_iconst (v := 1) X dL_begin_20 (by decide) ?_
      exact q_iret X hr dL_begin_21 (⟨M', f0, rfl, hou2, hV2, Or.inr ⟨_, ho1, congrArg (fun z => some (Value.int z)) (show (1 : Int32) = cBe eIA by decide)⟩⟩)

set_option maxRecDepth 20000 in
theorem h_put {l : Launch} {G : gV} {g ou : Nat} {σ : sA} {MV : gMem} {f0 : Nat → Int64} (hl : l.stackTraces = false) (hV : isGV G MV g σ) (hou : MV ou = none) {p0 p1 p2 : Int32} {p3 : Int64} : hC l G yL_put cL_put 7 (some .int) [(0, 9, 12, 21)] 201 1 6 [.ref g, .int p0, .int p1, .int p2, .long p3] (pU MV (mO G ou f0)) (hlP G g ou cOne hv0 (sp_put σ p0 p1 p2 p3)) := by
  refine hC_of (by decide +kernel) (Nat.le_of_ble_eq_true rfl) (fun F hF X hT hr => ?_)
  subst hF
  have X : qX G F cL_put 7 RL 201 := X
  have hT : (fc F).exceptionTable.toList = [⟨0, 9, 12, 21⟩] := hT
  obtain ⟨vl, nl, kl, fr, dk, hG⟩ : ∃ vl nl kl fr dk : Nat, MV g = some (oB 11 [.ref vl, .ref nl, .ref kl, .ref fr, .ref dk, .int (nI (aOf σ)), .int (nI (aBg σ))]) := by obtain ⟨vl, nl, kl, fr, dk, _, _, _, _, _, _, _, _, _, hB⟩ := hV; exact ⟨vl, nl, kl, fr, dk, hB.1⟩
  show qJ G F _ 7 (pU MV (mO G ou f0)) 1 6 0 [(0, .ref g), (1, .int p0), (2, .int p1), (3, .int p2), (4, .long p3)] []
  refine q_aload_n X dL_put_0 0 rfl ?_
  refine q_iload_n X dL_put_1 1 rfl ?_
  refine q_iload_n X dL_put_2 2 rfl ?_
  refine q_iload_n X dL_put_3 3 rfl ?_
  refine q_lload X dL_put_4 4 rfl ?_
  refine x_callVF X (Mc := MV) (c_put hl hV) pU_l Y_X11_put tw_403 tw_404 tw_405 (pU_l _ _ hG) rfl (by omega) rfl rfl (Nat.le_of_ble_eq_true rfl) (rc' := 0) (rs' := 0) (Nat.le_of_eq (Nat.zero_add _)) (Nat.le_of_eq (Nat.zero_add _)) dL_put_6 (fun v M' hp hm => ?_) (fun E M' hx hm => ?_)
  · obtain ⟨ho1, hv1, hV2⟩ := hp
    obtain ⟨eM, hd⟩ := mJ_pU (mO_d hou) hm
    rw [eM]
    have hou2 := mO_no hd
    have hv2 : v = none := hv1.trans (vn_put ho1)
    subst hv2
    show qJ G F _ 7 (pU M' (mO G ou f0)) 0 0 9 [(0, .ref g), (1, .int p0), (2, .int p1), (3, .int p2), (4, .long p3)] []
    refine q_goto X 16 dL_put_9 (by decide) ?_
    refine q_iconst (v := 0) X dL_put_16 (by decide) ?_
    exact q_iret X hr dL_put_17 (⟨M', f0, rfl, hou2, hV2, Or.inl ⟨ho1, rfl, trivial⟩⟩)
  · obtain ⟨ho1, hV2⟩ := hx
    obtain ⟨eM, hd⟩ := mJ_pU (mO_d hou) hm
    rw [eM]
    have hou2 := mO_no hd
    have hE := x_put E ho1
    simp only [List.mem_cons, List.not_mem_nil, or_false] at hE
    subst hE
    refine t_catch X [] ⟨0, 9, 12, 21⟩ [] hT (fun z hz => by cases hz) (by decide) (by decide) tw_402 tn_414 (fun q9 => ?_)
    show qJ G F _ 7 (pU M' (mO G ou f0)) 0 0 12 [(0, .ref g), (1, .int p0), (2, .int p1), (3, .int p2), (4, .long p3)] [.ref q9]
    refine q_astore (lv' := [(6, .ref q9), (0, .ref g), (1, .int p0), (2, .int p1), (3, .int p2), (4, .long p3)]) X dL_put_12 (by decide) rfl ?_
    refine q_iconst (v := 1) X dL_put_14 (by decide) ?_
    exact q_iret X hr dL_put_15 (⟨M', f0, rfl, hou2, hV2, Or.inr ⟨_, ho1, congrArg (fun z => some (Value.int z)) (show (1 : Int32) = cOne eIO by decide)⟩⟩)

set_option maxRecDepth 20000 in
theorem h_erase {l : Launch} {G : gV} {g ou : Nat} {σ : sA} {MV : gMem} {f0 : Nat → Int64} (hl : l.stackTraces = false) (hV : isGV G MV g σ) (hou : MV ou = none) {p0 p1 p2 : Int32} : hC l G yL_erase cL_erase 5 (some .int) [(0, 7, 10, 21)] 201 1 6 [.ref g, .int p0, .int p1, .int p2] (pU MV (mO G ou f0)) (hlP G g ou cOne hv0 (sp_erase σ p0 p1 p2)) := by
  refine hC_of (by decide +kernel) (Nat.le_of_ble_eq_true rfl) (fun F hF X hT hr => ?_)
  subst hF
  have X : qX G F cL_erase 5 RL 201 := X
  have hT : (fc F).exceptionTable.toList = [⟨0, 7, 10, 21⟩] := hT
  obtain ⟨vl, nl, kl, fr, dk, hG⟩ : ∃ vl nl kl fr dk : Nat, MV g = some (oB 11 [.ref vl, .ref nl, .ref kl, .ref fr, .ref dk, .int (nI (aOf σ)), .int (nI (aBg σ))]) := by obtain ⟨vl, nl, kl, fr, dk, _, _, _, _, _, _, _, _, _, hB⟩ := hV; exact ⟨vl, nl, kl, fr, dk, hB.1⟩
  show qJ G F _ 5 (pU MV (mO G ou f0)) 1 6 0 [(0, .ref g), (1, .int p0), (2, .int p1), (3, .int p2)] []
  refine q_aload_n X dL_erase_0 0 rfl ?_
  refine q_iload_n X dL_erase_1 1 rfl ?_
  refine q_iload_n X dL_erase_2 2 rfl ?_
  refine q_iload_n X dL_erase_3 3 rfl ?_
  refine x_callVF X (Mc := MV) (c_erase hl hV) pU_l Y_X11_erase tw_439 tw_440 tw_441 (pU_l _ _ hG) rfl (by omega) rfl rfl (Nat.le_of_ble_eq_true rfl) (rc' := 0) (rs' := 0) (Nat.le_of_eq (Nat.zero_add _)) (Nat.le_of_eq (Nat.zero_add _)) dL_erase_4 (fun v M' hp hm => ?_) (fun E M' hx hm => ?_)
  · obtain ⟨ho1, hv1, hV2⟩ := hp
    obtain ⟨eM, hd⟩ := mJ_pU (mO_d hou) hm
    rw [eM]
    have hou2 := mO_no hd
    have hv2 : v = none := hv1.trans (vn_erase ho1)
    subst hv2
    show qJ G F _ 5 (pU M' (mO G ou f0)) 0 0 7 [(0, .ref g), (1, .int p0), (2, .int p1), (3, .int p2)] []
    refine q_goto X 14 dL_erase_7 (by decide) ?_
    refine q_iconst (v := 0) X dL_erase_14 (by decide) ?_
    exact q_iret X hr dL_erase_15 (⟨M', f0, rfl, hou2, hV2, Or.inl ⟨ho1, rfl, trivial⟩⟩)
  · obtain ⟨ho1, hV2⟩ := hx
    obtain ⟨eM, hd⟩ := mJ_pU (mO_d hou) hm
    rw [eM]
    have hou2 := mO_no hd
    have hE := x_erase E ho1
    simp only [List.mem_cons, List.not_mem_nil, or_false] at hE
    subst hE
    refine t_catch X [] ⟨0, 7, 10, 21⟩ [] hT (fun z hz => by cases hz) (by decide) (by decide) tw_402 tn_414 (fun q9 => ?_)
    show qJ G F _ 5 (pU M' (mO G ou f0)) 0 0 10 [(0, .ref g), (1, .int p0), (2, .int p1), (3, .int p2)] [.ref q9]
    refine q_astore (lv' := [(4, .ref q9), (0, .ref g), (1, .int p0), (2, .int p1), (3, .int p2)]) X dL_erase_10 (by decide) rfl ?_
    refine q_iconst (v := 1) X dL_erase_12 (by decide) ?_
    exact q_iret X hr dL_erase_13 (⟨M', f0, rfl, hou2, hV2, Or.inr ⟨_, ho1, congrArg (fun z => some (Value.int z)) (show (1 : Int32) = cOne eIO by decide)⟩⟩)

set_option maxRecDepth 20000 in
theorem h_fill {l : Launch} {G : gV} {g ou : Nat} {σ : sA} {MV : gMem} {f0 : Nat → Int64} (hl : l.stackTraces = false) (hV : isGV G MV g σ) (hou : MV ou = none) {p0 p1 p2 : Int32} {p3 : Int64} : hC l G yL_fill cL_fill 7 (some .int) [(0, 9, 12, 13)] 201 1 6 [.ref g, .int p0, .int p1, .int p2, .long p3] (pU MV (mO G ou f0)) (hlP G g ou cOne hv0 (sp_fill σ p0 p1 p2 p3)) := by
  refine hC_of (by decide +kernel) (Nat.le_of_ble_eq_true rfl) (fun F hF X hT hr => ?_)
  subst hF
  have X : qX G F cL_fill 7 RL 201 := X
  have hT : (fc F).exceptionTable.toList = [⟨0, 9, 12, 13⟩] := hT
  obtain ⟨vl, nl, kl, fr, dk, hG⟩ : ∃ vl nl kl fr dk : Nat, MV g = some (oB 11 [.ref vl, .ref nl, .ref kl, .ref fr, .ref dk, .int (nI (aOf σ)), .int (nI (aBg σ))]) := by obtain ⟨vl, nl, kl, fr, dk, _, _, _, _, _, _, _, _, _, hB⟩ := hV; exact ⟨vl, nl, kl, fr, dk, hB.1⟩
  show qJ G F _ 7 (pU MV (mO G ou f0)) 1 6 0 [(0, .ref g), (1, .int p0), (2, .int p1), (3, .int p2), (4, .long p3)] []
  refine q_aload_n X dL_fill_0 0 rfl ?_
  refine q_iload_n X dL_fill_1 1 rfl ?_
  refine q_iload_n X dL_fill_2 2 rfl ?_
  refine q_iload_n X dL_fill_3 3 rfl ?_
  refine q_lload X dL_fill_4 4 rfl ?_
  refine x_callVF X (Mc := MV) (c_fill hl hV) pU_l Y_X11_fill tw_451 tw_452 tw_453 (pU_l _ _ hG) rfl (by omega) rfl rfl (Nat.le_of_ble_eq_true rfl) (rc' := 0) (rs' := 0) (Nat.le_of_eq (Nat.zero_add _)) (Nat.le_of_eq (Nat.zero_add _)) dL_fill_6 (fun v M' hp hm => ?_) (fun E M' hx hm => ?_)
  · obtain ⟨ho1, hv1, hV2⟩ := hp
    obtain ⟨eM, hd⟩ := mJ_pU (mO_d hou) hm
    rw [eM]
    have hou2 := mO_no hd
    have hv2 : v = none := hv1.trans (vn_fill ho1)
    subst hv2
    show qJ G F _ 7 (pU M' (mO G ou f0)) 0 0 9 [(0, .ref g), (1, .int p0), (2, .int p1), (3, .int p2), (4, .long p3)] []
    refine q_goto X 16 dL_fill_9 (by decide) ?_
    refine q_iconst (v := 0) X dL_fill_16 (by decide) ?_
    exact q_iret X hr dL_fill_17 (⟨M', f0, rfl, hou2, hV2, Or.inl ⟨ho1, rfl, trivial⟩⟩)
  · obtain ⟨ho1, hV2⟩ := hx
    obtain ⟨eM, hd⟩ := mJ_pU (mO_d hou) hm
    rw [eM]
    have hou2 := mO_no hd
    have hE := x_fill E ho1
    simp only [List.mem_cons, List.not_mem_nil, or_false] at hE
    subst hE
    refine t_catch X [] ⟨0, 9, 12, 13⟩ [] hT (fun z hz => by cases hz) (by decide) (by decide) tw_302 tn_382 (fun q9 => ?_)
    show qJ G F _ 7 (pU M' (mO G ou f0)) 0 0 12 [(0, .ref g), (1, .int p0), (2, .int p1), (3, .int p2), (4, .long p3)] [.ref q9]
    refine q_astore (lv' := [(6, .ref q9), (0, .ref g), (1, .int p0), (2, .int p1), (3, .int p2), (4, .long p3)]) X dL_fill_12 (by decide) rfl ?_
    refine q_iconst (v := 1) X dL_fill_14 (by decide) ?_
    exact q_iret X hr dL_fill_15 (⟨M', f0, rfl, hou2, hV2, Or.inr ⟨_, ho1, congrArg (fun z => some (Value.int z)) (show (1 : Int32) = cOne eIA by decide)⟩⟩)

set_option maxRecDepth 20000 in
theorem h_commit {l : Launch} {G : gV} {g ou : Nat} {σ : sA} {MV : gMem} {f0 : Nat → Int64} (hl : l.stackTraces = false) (hV : isGV G MV g σ) (hou : MV ou = none) : hC l G yL_commit cL_commit 3 (some .int) [(0, 8, 11, 21)] 201 8 4400 [.ref g, .ref ou] (pU MV (mO G ou f0)) (hlP G g ou cOne hvI (sp_commit σ)) := by
  refine hC_of (by decide +kernel) (Nat.le_of_ble_eq_true rfl) (fun F hF X hT hr => ?_)
  subst hF
  have X : qX G F cL_commit 3 RL 201 := X
  have hT : (fc F).exceptionTable.toList = [⟨0, 8, 11, 21⟩] := hT
  obtain ⟨vl, nl, kl, fr, dk, hG⟩ : ∃ vl nl kl fr dk : Nat, MV g = some (oB 11 [.ref vl, .ref nl, .ref kl, .ref fr, .ref dk, .int (nI (aOf σ)), .int (nI (aBg σ))]) := by obtain ⟨vl, nl, kl, fr, dk, _, _, _, _, _, _, _, _, _, hB⟩ := hV; exact ⟨vl, nl, kl, fr, dk, hB.1⟩
  show qJ G F _ 3 (pU MV (mO G ou f0)) 8 4400 0 [(0, .ref g), (1, .ref ou)] []
  refine q_aload_n X dL_commit_0 1 rfl ?_
  refine q_iconst (v := 0) X dL_commit_1 (by decide) ?_
  refine q_aload_n X dL_commit_2 0 rfl ?_
  refine x_callVF X (Mc := MV) (c_commit hl hV) pU_l Y_X11_commit tw_466 tw_467 tw_468 (pU_l _ _ hG) rfl (by omega) rfl rfl (Nat.le_of_ble_eq_true rfl) (rc' := 0) (rs' := 0) (Nat.le_of_eq (Nat.zero_add _)) (Nat.le_of_eq (Nat.zero_add _)) dL_commit_3 (fun v M' hp hm => ?_) (fun E M' hx hm => ?_)
  · obtain ⟨ho1, hv1, hV2⟩ := hp
    obtain ⟨n9, hn9⟩ := vi_commit ho1
    rw [hn9] at hv1
    subst hv1
    have hv1 := hn9.symm
    obtain ⟨eM, hd⟩ := mJ_pU (mO_d hou) hm
    rw [eM]
    have hou2 := mO_no hd
    show qJ G F _ 3 (pU M' (mO G ou f0)) 0 0 6 [(0, .ref g), (1, .ref ou)] [.int n9, .int 0, .ref ou]
    refine q_i2l X dL_commit_6 ?_
    refine q_lastN X 0 (pU_ou hou2) (rfl) (by decide) (by decide) dL_commit_7 ?_
    have m_1 : (mU (pU M' (mO G ou f0)) ou (aJ G 1 (vp_updL f0 0 n9.toInt64))) ou = some (aJ G 1 (vp_updL f0 0 n9.toInt64)) := mU_s
    refine q_goto X 14 dL_commit_8 (by decide) ?_
    refine q_iconst (v := 0) X dL_commit_14 (by decide) ?_
    exact q_iret X hr dL_commit_15 (⟨M', vp_updL f0 0 n9.toInt64, pU_up hou2, hou2, hV2, Or.inl ⟨ho1, rfl, n9, hv1.symm, updL_s⟩⟩)
  · obtain ⟨ho1, hV2⟩ := hx
    obtain ⟨eM, hd⟩ := mJ_pU (mO_d hou) hm
    rw [eM]
    have hou2 := mO_no hd
    have hE := x_commit E ho1
    simp only [List.mem_cons, List.not_mem_nil, or_false] at hE
    subst hE
    refine t_catch X [] ⟨0, 8, 11, 21⟩ [] hT (fun z hz => by cases hz) (by decide) (by decide) tw_402 tn_414 (fun q9 => ?_)
    show qJ G F _ 3 (pU M' (mO G ou f0)) 0 0 11 [(0, .ref g), (1, .ref ou)] [.ref q9]
    refine q_astore_n (lv' := [(2, .ref q9), (0, .ref g), (1, .ref ou)]) X dL_commit_11 (by decide) rfl ?_
    refine q_iconst (v := 1) X dL_commit_12 (by decide) ?_
    exact q_iret X hr dL_commit_13 (⟨M', f0, rfl, hou2, hV2, Or.inr ⟨_, ho1, congrArg (fun z => some (Value.int z)) (show (1 : Int32) = cOne eIO by decide)⟩⟩)

set_option maxRecDepth 20000 in
theorem h_open {l : Launch} {G : gV} {g ou : Nat} {σ : sA} {MV : gMem} {f0 : Nat → Int64} (hl : l.stackTraces = false) (hV : isGV G MV g σ) (hou : MV ou = none) {p0 : Int32} : hC l G yL_open cL_open 3 (some .int) [(0, 5, 8, 13)] 201 1 6 [.ref g, .int p0] (pU MV (mO G ou f0)) (hlP G g ou cOne hv0 (sp_open σ p0)) := by
  refine hC_of (by decide +kernel) (Nat.le_of_ble_eq_true rfl) (fun F hF X hT hr => ?_)
  subst hF
  have X : qX G F cL_open 3 RL 201 := X
  have hT : (fc F).exceptionTable.toList = [⟨0, 5, 8, 13⟩] := hT
  obtain ⟨vl, nl, kl, fr, dk, hG⟩ : ∃ vl nl kl fr dk : Nat, MV g = some (oB 11 [.ref vl, .ref nl, .ref kl, .ref fr, .ref dk, .int (nI (aOf σ)), .int (nI (aBg σ))]) := by obtain ⟨vl, nl, kl, fr, dk, _, _, _, _, _, _, _, _, _, hB⟩ := hV; exact ⟨vl, nl, kl, fr, dk, hB.1⟩
  show qJ G F _ 3 (pU MV (mO G ou f0)) 1 6 0 [(0, .ref g), (1, .int p0)] []
  refine q_aload_n X dL_open_0 0 rfl ?_
  refine q_iload_n X dL_open_1 1 rfl ?_
  refine x_callVF X (Mc := MV) (c_open hl hV) pU_l Y_X11_open tw_551 tw_552 tw_553 (pU_l _ _ hG) rfl (by omega) rfl rfl (Nat.le_of_ble_eq_true rfl) (rc' := 0) (rs' := 0) (Nat.le_of_eq (Nat.zero_add _)) (Nat.le_of_eq (Nat.zero_add _)) dL_open_2 (fun v M' hp hm => ?_) (fun E M' hx hm => ?_)
  · obtain ⟨ho1, hv1, hV2⟩ := hp
    obtain ⟨eM, hd⟩ := mJ_pU (mO_d hou) hm
    rw [eM]
    have hou2 := mO_no hd
    have hv2 : v = none := hv1.trans (vn_open ho1)
    subst hv2
    show qJ G F _ 3 (pU M' (mO G ou f0)) 0 0 5 [(0, .ref g), (1, .int p0)] []
    refine q_goto X 11 dL_open_5 (by decide) ?_
    refine q_iconst (v := 0) X dL_open_11 (by decide) ?_
    exact q_iret X hr dL_open_12 (⟨M', f0, rfl, hou2, hV2, Or.inl ⟨ho1, rfl, trivial⟩⟩)
  · obtain ⟨ho1, hV2⟩ := hx
    obtain ⟨eM, hd⟩ := mJ_pU (mO_d hou) hm
    rw [eM]
    have hou2 := mO_no hd
    have hE := x_open E ho1
    simp only [List.mem_cons, List.not_mem_nil, or_false] at hE
    subst hE
    refine t_catch X [] ⟨0, 5, 8, 13⟩ [] hT (fun z hz => by cases hz) (by decide) (by decide) tw_302 tn_382 (fun q9 => ?_)
    show qJ G F _ 3 (pU M' (mO G ou f0)) 0 0 8 [(0, .ref g), (1, .int p0)] [.ref q9]
    refine q_astore_n (lv' := [(2, .ref q9), (0, .ref g), (1, .int p0)]) X dL_open_8 (by decide) rfl ?_
    refine q_iconst (v := 1) X dL_open_9 (by decide) ?_
    exact q_iret X hr dL_open_10 (⟨M', f0, rfl, hou2, hV2, Or.inr ⟨_, ho1, congrArg (fun z => some (Value.int z)) (show (1 : Int32) = cOne eIA by decide)⟩⟩)

set_option maxRecDepth 20000 in
theorem h_version {l : Launch} {G : gV} {g ou : Nat} {σ : sA} {MV : gMem} {f0 : Nat → Int64} (hl : l.stackTraces = false) (hV : isGV G MV g σ) (hou : MV ou = none) {p0 p1 : Int32} : hC l G yL_version cL_version 5 (some .int) [(0, 10, 13, 13)] 201 2 12 [.ref g, .int p0, .int p1, .ref ou] (pU MV (mO G ou f0)) (hlP G g ou cOne hvI (sp_version σ p0 p1)) := by
  refine hC_of (by decide +kernel) (Nat.le_of_ble_eq_true rfl) (fun F hF X hT hr => ?_)
  subst hF
  have X : qX G F cL_version 5 RL 201 := X
  have hT : (fc F).exceptionTable.toList = [⟨0, 10, 13, 13⟩] := hT
  obtain ⟨vl, nl, kl, fr, dk, hG⟩ : ∃ vl nl kl fr dk : Nat, MV g = some (oB 11 [.ref vl, .ref nl, .ref kl, .ref fr, .ref dk, .int (nI (aOf σ)), .int (nI (aBg σ))]) := by obtain ⟨vl, nl, kl, fr, dk, _, _, _, _, _, _, _, _, _, hB⟩ := hV; exact ⟨vl, nl, kl, fr, dk, hB.1⟩
  show qJ G F _ 5 (pU MV (mO G ou f0)) 2 12 0 [(0, .ref g), (1, .int p0), (2, .int p1), (3, .ref ou)] []
  refine q_aload_n X dL_version_0 3 rfl ?_
  refine q_iconst (v := 0) X dL_version_1 (by decide) ?_
  refine q_aload_n X dL_version_2 0 rfl ?_
  refine q_iload_n X dL_version_3 1 rfl ?_
  refine q_iload_n X dL_version_4 2 rfl ?_
  refine x_callVF X (Mc := MV) (c_version hl hV) pU_l Y_X11_version tw_560 tw_561 tw_562 (pU_l _ _ hG) rfl (by omega) rfl rfl (Nat.le_of_ble_eq_true rfl) (rc' := 0) (rs' := 0) (Nat.le_of_eq (Nat.zero_add _)) (Nat.le_of_eq (Nat.zero_add _)) dL_version_5 (fun v M' hp hm => ?_) (fun E M' hx hm => ?_)
  · obtain ⟨ho1, hv1, hV2⟩ := hp
    obtain ⟨n9, hn9⟩ := vi_version ho1
    rw [hn9] at hv1
    subst hv1
    have hv1 := hn9.symm
    obtain ⟨eM, hd⟩ := mJ_pU (mO_d hou) hm
    rw [eM]
    have hou2 := mO_no hd
    show qJ G F _ 5 (pU M' (mO G ou f0)) 0 0 8 [(0, .ref g), (1, .int p0), (2, .int p1), (3, .ref ou)] [.int n9, .int 0, .ref ou]
    refine q_i2l X dL_version_8 ?_
    refine q_lastN X 0 (pU_ou hou2) (rfl) (by decide) (by decide) dL_version_9 ?_
    have m_1 : (mU (pU M' (mO G ou f0)) ou (aJ G 1 (vp_updL f0 0 n9.toInt64))) ou = some (aJ G 1 (vp_updL f0 0 n9.toInt64)) := mU_s
    refine q_goto X 17 dL_version_10 (by decide) ?_
    refine q_iconst (v := 0) X dL_version_17 (by decide) ?_
    exact q_iret X hr dL_version_18 (⟨M', vp_updL f0 0 n9.toInt64, pU_up hou2, hou2, hV2, Or.inl ⟨ho1, rfl, n9, hv1.symm, updL_s⟩⟩)
  · obtain ⟨ho1, hV2⟩ := hx
    obtain ⟨eM, hd⟩ := mJ_pU (mO_d hou) hm
    rw [eM]
    have hou2 := mO_no hd
    have hE := x_version E ho1
    simp only [List.mem_cons, List.not_mem_nil, or_false] at hE
    subst hE
    refine t_catch X [] ⟨0, 10, 13, 13⟩ [] hT (fun z hz => by cases hz) (by decide) (by decide) tw_302 tn_382 (fun q9 => ?_)
    show qJ G F _ 5 (pU M' (mO G ou f0)) 0 0 13 [(0, .ref g), (1, .int p0), (2, .int p1), (3, .ref ou)] [.ref q9]
    refine q_astore (lv' := [(4, .ref q9), (0, .ref g), (1, .int p0), (2, .int p1), (3, .ref ou)]) X dL_version_13 (by decide) rfl ?_
    refine q_iconst (v := 1) X dL_version_15 (by decide) ?_
    exact q_iret X hr dL_version_16 (⟨M', f0, rfl, hou2, hV2, Or.inr ⟨_, ho1, congrArg (fun z => some (Value.int z)) (show (1 : Int32) = cOne eIA by decide)⟩⟩)

set_option maxRecDepth 20000 in
theorem h_differ {l : Launch} {G : gV} {g ou : Nat} {σ : sA} {MV : gMem} {f0 : Nat → Int64} (hl : l.stackTraces = false) (hV : isGV G MV g σ) (hou : MV ou = none) {p0 p1 : Int32} : hC l G yL_differ cL_differ 5 (some .int) [(0, 10, 13, 13)] 201 2 12 [.ref g, .int p0, .int p1, .ref ou] (pU MV (mO G ou f0)) (hlP G g ou cOne hvI (sp_differ σ p0 p1)) := by
  refine hC_of (by decide +kernel) (Nat.le_of_ble_eq_true rfl) (fun F hF X hT hr => ?_)
  subst hF
  have X : qX G F cL_differ 5 RL 201 := X
  have hT : (fc F).exceptionTable.toList = [⟨0, 10, 13, 13⟩] := hT
  obtain ⟨vl, nl, kl, fr, dk, hG⟩ : ∃ vl nl kl fr dk : Nat, MV g = some (oB 11 [.ref vl, .ref nl, .ref kl, .ref fr, .ref dk, .int (nI (aOf σ)), .int (nI (aBg σ))]) := by obtain ⟨vl, nl, kl, fr, dk, _, _, _, _, _, _, _, _, _, hB⟩ := hV; exact ⟨vl, nl, kl, fr, dk, hB.1⟩
  show qJ G F _ 5 (pU MV (mO G ou f0)) 2 12 0 [(0, .ref g), (1, .int p0), (2, .int p1), (3, .ref ou)] []
  refine q_aload_n X dL_differ_0 3 rfl ?_
  refine q_iconst (v := 0) X dL_differ_1 (by decide) ?_
  refine q_aload_n X dL_differ_2 0 rfl ?_
  refine q_iload_n X dL_differ_3 1 rfl ?_
  refine q_iload_n X dL_differ_4 2 rfl ?_
  refine x_callVF X (Mc := MV) (c_differ hl hV) pU_l Y_X11_differ tw_590 tw_591 tw_592 (pU_l _ _ hG) rfl (by omega) rfl rfl (Nat.le_of_ble_eq_true rfl) (rc' := 0) (rs' := 0) (Nat.le_of_eq (Nat.zero_add _)) (Nat.le_of_eq (Nat.zero_add _)) dL_differ_5 (fun v M' hp hm => ?_) (fun E M' hx hm => ?_)
  · obtain ⟨ho1, hv1, hV2⟩ := hp
    obtain ⟨n9, hn9⟩ := vi_differ ho1
    rw [hn9] at hv1
    subst hv1
    have hv1 := hn9.symm
    obtain ⟨eM, hd⟩ := mJ_pU (mO_d hou) hm
    rw [eM]
    have hou2 := mO_no hd
    show qJ G F _ 5 (pU M' (mO G ou f0)) 0 0 8 [(0, .ref g), (1, .int p0), (2, .int p1), (3, .ref ou)] [.int n9, .int 0, .ref ou]
    refine q_i2l X dL_differ_8 ?_
    refine q_lastN X 0 (pU_ou hou2) (rfl) (by decide) (by decide) dL_differ_9 ?_
    have m_1 : (mU (pU M' (mO G ou f0)) ou (aJ G 1 (vp_updL f0 0 n9.toInt64))) ou = some (aJ G 1 (vp_updL f0 0 n9.toInt64)) := mU_s
    refine q_goto X 17 dL_differ_10 (by decide) ?_
    refine q_iconst (v := 0) X dL_differ_17 (by decide) ?_
    exact q_iret X hr dL_differ_18 (⟨M', vp_updL f0 0 n9.toInt64, pU_up hou2, hou2, hV2, Or.inl ⟨ho1, rfl, n9, hv1.symm, updL_s⟩⟩)
  · obtain ⟨ho1, hV2⟩ := hx
    obtain ⟨eM, hd⟩ := mJ_pU (mO_d hou) hm
    rw [eM]
    have hou2 := mO_no hd
    have hE := x_differ E ho1
    simp only [List.mem_cons, List.not_mem_nil, or_false] at hE
    subst hE
    refine t_catch X [] ⟨0, 10, 13, 13⟩ [] hT (fun z hz => by cases hz) (by decide) (by decide) tw_302 tn_382 (fun q9 => ?_)
    show qJ G F _ 5 (pU M' (mO G ou f0)) 0 0 13 [(0, .ref g), (1, .int p0), (2, .int p1), (3, .ref ou)] [.ref q9]
    refine q_astore (lv' := [(4, .ref q9), (0, .ref g), (1, .int p0), (2, .int p1), (3, .ref ou)]) X dL_differ_13 (by decide) rfl ?_
    refine q_iconst (v := 1) X dL_differ_15 (by decide) ?_
    exact q_iret X hr dL_differ_16 (⟨M', f0, rfl, hou2, hV2, Or.inr ⟨_, ho1, congrArg (fun z => some (Value.int z)) (show (1 : Int32) = cOne eIA by decide)⟩⟩)

set_option maxRecDepth 20000 in
theorem h_read {l : Launch} {G : gV} {g ou : Nat} {σ : sA} {MV : gMem} {f0 : Nat → Int64} (hl : l.stackTraces = false) (hV : isGV G MV g σ) (hou : MV ou = none) {p0 : Int32} : hC l G yL_read cL_read 4 (some .int) [(0, 9, 12, 13), (0, 9, 15, 21)] 201 4 250 [.ref g, .int p0, .ref ou] (pU MV (mO G ou f0)) (hlP G g ou cOp hvI (sp_read σ p0)) := by
  refine hC_of (by decide +kernel) (Nat.le_of_ble_eq_true rfl) (fun F hF X hT hr => ?_)
  subst hF
  have X : qX G F cL_read 4 RL 201 := X
  have hT : (fc F).exceptionTable.toList = [⟨0, 9, 12, 13⟩, ⟨0, 9, 15, 21⟩] := hT
  obtain ⟨vl, nl, kl, fr, dk, hG⟩ : ∃ vl nl kl fr dk : Nat, MV g = some (oB 11 [.ref vl, .ref nl, .ref kl, .ref fr, .ref dk, .int (nI (aOf σ)), .int (nI (aBg σ))]) := by obtain ⟨vl, nl, kl, fr, dk, _, _, _, _, _, _, _, _, _, hB⟩ := hV; exact ⟨vl, nl, kl, fr, dk, hB.1⟩
  show qJ G F _ 4 (pU MV (mO G ou f0)) 4 250 0 [(0, .ref g), (1, .int p0), (2, .ref ou)] []
  refine q_aload_n X dL_read_0 2 rfl ?_
  refine q_iconst (v := 0) X dL_read_1 (by decide) ?_
  refine q_aload_n X dL_read_2 0 rfl ?_
  refine q_iload_n X dL_read_3 1 rfl ?_
  refine x_callVF X (Mc := MV) (c_read hl hV) pU_l Y_X11_read tw_602 tw_603 tw_604 (pU_l _ _ hG) rfl (by omega) rfl rfl (Nat.le_of_ble_eq_true rfl) (rc' := 0) (rs' := 0) (Nat.le_of_eq (Nat.zero_add _)) (Nat.le_of_eq (Nat.zero_add _)) dL_read_4 (fun v M' hp hm => ?_) (fun E M' hx hm => ?_)
  · obtain ⟨⟨n9, rfl⟩, ho1, hv1, hV2⟩ := hp
    obtain ⟨eM, hd⟩ := mJ_pU (mO_d hou) hm
    rw [eM]
    have hou2 := mO_no hd
    show qJ G F _ 4 (pU M' (mO G ou f0)) 0 0 7 [(0, .ref g), (1, .int p0), (2, .ref ou)] [.int n9, .int 0, .ref ou]
    refine q_i2l X dL_read_7 ?_
    refine q_lastN X 0 (pU_ou hou2) (rfl) (by decide) (by decide) dL_read_8 ?_
    have m_1 : (mU (pU M' (mO G ou f0)) ou (aJ G 1 (vp_updL f0 0 n9.toInt64))) ou = some (aJ G 1 (vp_updL f0 0 n9.toInt64)) := mU_s
    refine q_goto X 18 dL_read_9 (by decide) ?_
    refine q_iconst (v := 0) X dL_read_18 (by decide) ?_
    exact q_iret X hr dL_read_19 (⟨M', vp_updL f0 0 n9.toInt64, pU_up hou2, hou2, hV2, Or.inl ⟨ho1, rfl, n9, hv1.symm, updL_s⟩⟩)
  · obtain ⟨ho1, hV2⟩ := hx
    obtain ⟨eM, hd⟩ := mJ_pU (mO_d hou) hm
    rw [eM]
    have hou2 := mO_no hd
    have hE := x_read E ho1
    simp only [List.mem_cons, List.not_mem_nil, or_false] at hE
    rcases hE with rfl | rfl
    · refine t_catch X [] ⟨0, 9, 12, 13⟩ [⟨0, 9, 15, 21⟩] hT (fun z hz => by cases hz) (by decide) (by decide) tw_302 tn_382 (fun q9 => ?_)
      show qJ G F _ 4 (pU M' (mO G ou f0)) 0 0 12 [(0, .ref g), (1, .int p0), (2, .ref ou)] [.ref q9]
      refine q_astore_n (lv' := [(3, .ref q9), (0, .ref g), (1, .int p0), (2, .ref ou)]) X dL_read_12 (by decide) rfl ?_
      refine q_iconst (v := 1) X dL_read_13 (by decide) ?_
      exact q_iret X hr dL_read_14 (⟨M', f0, rfl, hou2, hV2, Or.inr ⟨_, ho1, congrArg (fun z => some (Value.int z)) (show (1 : Int32) = cOp eIA by decide)⟩⟩)
    · refine t_catch X [⟨0, 9, 12, 13⟩] ⟨0, 9, 15, 21⟩ [] hT (fun z hz => by simp only [List.mem_cons, List.not_mem_nil, or_false] at hz; subst hz; exact Or.inr ⟨by decide, _, tw_302, nc_of X (fun b hn => (ca_l (ca_l (ca_r (ca_r (ca_l (ca_l (ca_l (ca_l (ca_r hn))))))))))⟩) (by decide) (by decide) tw_402 tn_414 (fun q9 => ?_)
      show qJ G F _ 4 (pU M' (mO G ou f0)) 0 0 15 [(0, .ref g), (1, .int p0), (2, .ref ou)] [.ref q9]
      refine q_astore_n (lv' := [(3, .ref q9), (0, .ref g), (1, .int p0), (2, .ref ou)]) X dL_read_15 (by decide) rfl ?_
      refine q_iconst (v := 2) X dL_read_16 (by decide) ?_
      exact q_iret X hr dL_read_17 (⟨M', f0, rfl, hou2, hV2, Or.inr ⟨_, ho1, congrArg (fun z => some (Value.int z)) (show (2 : Int32) = cOp eIO by decide)⟩⟩)

set_option maxRecDepth 20000 in
theorem h_sub {l : Launch} {G : gV} {g ou : Nat} {σ : sA} {MV : gMem} {f0 : Nat → Int64} (hl : l.stackTraces = false) (hV : isGV G MV g σ) (hou : MV ou = none) {p0 p1 p2 p3 : Int32} : hC l G yL_sub cL_sub 7 (some .int) [(0, 14, 17, 13), (0, 14, 21, 21), (0, 14, 25, 53)] 201 16 2410 [.ref g, .int p0, .int p1, .int p2, .int p3, .ref ou] (pU MV (mO G ou f0)) (hlP G g ou cOp hvI (sp_sub σ p0 p1 p2 p3)) := by
  refine hC_of (by decide +kernel) (Nat.le_of_ble_eq_true rfl) (fun F hF X hT hr => ?_)
  subst hF
  have X : qX G F cL_sub 7 RL 201 := X
  have hT : (fc F).exceptionTable.toList = [⟨0, 14, 17, 13⟩, ⟨0, 14, 21, 21⟩, ⟨0, 14, 25, 53⟩] := hT
  obtain ⟨vl, nl, kl, fr, dk, hG⟩ : ∃ vl nl kl fr dk : Nat, MV g = some (oB 11 [.ref vl, .ref nl, .ref kl, .ref fr, .ref dk, .int (nI (aOf σ)), .int (nI (aBg σ))]) := by obtain ⟨vl, nl, kl, fr, dk, _, _, _, _, _, _, _, _, _, hB⟩ := hV; exact ⟨vl, nl, kl, fr, dk, hB.1⟩
  show qJ G F _ 7 (pU MV (mO G ou f0)) 16 2410 0 [(0, .ref g), (1, .int p0), (2, .int p1), (3, .int p2), (4, .int p3), (5, .ref ou)] []
  refine q_aload X dL_sub_0 5 rfl ?_
  refine q_iconst (v := 0) X dL_sub_2 (by decide) ?_
  refine q_aload_n X dL_sub_3 0 rfl ?_
  refine q_iload_n X dL_sub_4 1 rfl ?_
  refine q_iload_n X dL_sub_5 2 rfl ?_
  refine q_iload_n X dL_sub_6 3 rfl ?_
  refine q_iload X dL_sub_7 4 rfl ?_
  refine x_callVF X (Mc := MV) (c_sub hl hV) pU_l Y_X11_sub tw_619 tw_620 tw_621 (pU_l _ _ hG) rfl (by omega) rfl rfl (Nat.le_of_ble_eq_true rfl) (rc' := 0) (rs' := 0) (Nat.le_of_eq (Nat.zero_add _)) (Nat.le_of_eq (Nat.zero_add _)) dL_sub_9 (fun v M' hp hm => ?_) (fun E M' hx hm => ?_)
  · obtain ⟨⟨n9, rfl⟩, ho1, hv1, hV2⟩ := hp
    obtain ⟨eM, hd⟩ := mJ_pU (mO_d hou) hm
    rw [eM]
    have hou2 := mO_no hd
    show qJ G F _ 7 (pU M' (mO G ou f0)) 0 0 12 [(0, .ref g), (1, .int p0), (2, .int p1), (3, .int p2), (4, .int p3), (5, .ref ou)] [.int n9, .int 0, .ref ou]
    refine q_i2l X dL_sub_12 ?_
    refine q_lastN X 0 (pU_ou hou2) (rfl) (by decide) (by decide) dL_sub_13 ?_
    have m_1 : (mU (pU M' (mO G ou f0)) ou (aJ G 1 (vp_updL f0 0 n9.toInt64))) ou = some (aJ G 1 (vp_updL f0 0 n9.toInt64)) := mU_s
    refine q_goto X 29 dL_sub_14 (by decide) ?_
    refine q_iconst (v := 0) X dL_sub_29 (by decide) ?_
    exact q_iret X hr dL_sub_30 (⟨M', vp_updL f0 0 n9.toInt64, pU_up hou2, hou2, hV2, Or.inl ⟨ho1, rfl, n9, hv1.symm, updL_s⟩⟩)
  · obtain ⟨ho1, hV2⟩ := hx
    obtain ⟨eM, hd⟩ := mJ_pU (mO_d hou) hm
    rw [eM]
    have hou2 := mO_no hd
    have hE := x_sub E ho1
    simp only [List.mem_cons, List.not_mem_nil, or_false] at hE
    rcases hE with rfl | rfl | rfl
    · refine t_catch X [] ⟨0, 14, 17, 13⟩ [⟨0, 14, 21, 21⟩, ⟨0, 14, 25, 53⟩] hT (fun z hz => by cases hz) (by decide) (by decide) tw_302 tn_382 (fun q9 => ?_)
      show qJ G F _ 7 (pU M' (mO G ou f0)) 0 0 17 [(0, .ref g), (1, .int p0), (2, .int p1), (3, .int p2), (4, .int p3), (5, .ref ou)] [.ref q9]
      refine q_astore (lv' := [(6, .ref q9), (0, .ref g), (1, .int p0), (2, .int p1), (3, .int p2), (4, .int p3), (5, .ref ou)]) X dL_sub_17 (by decide) rfl ?_
      refine q_iconst (v := 1) X dL_sub_19 (by decide) ?_
      exact q_iret X hr dL_sub_20 (⟨M', f0, rfl, hou2, hV2, Or.inr ⟨_, ho1, congrArg (fun z => some (Value.int z)) (show (1 : Int32) = cOp eIA by decide)⟩⟩)
    · refine t_catch X [⟨0, 14, 17, 13⟩] ⟨0, 14, 21, 21⟩ [⟨0, 14, 25, 53⟩] hT (fun z hz => by simp only [List.mem_cons, List.not_mem_nil, or_false] at hz; subst hz; exact Or.inr ⟨by decide, _, tw_302, nc_of X (fun b hn => (ca_l (ca_l (ca_r (ca_r (ca_l (ca_l (ca_l (ca_l (ca_r hn))))))))))⟩) (by decide) (by decide) tw_402 tn_414 (fun q9 => ?_)
      show qJ G F _ 7 (pU M' (mO G ou f0)) 0 0 21 [(0, .ref g), (1, .int p0), (2, .int p1), (3, .int p2), (4, .int p3), (5, .ref ou)] [.ref q9]
      refine q_astore (lv' := [(6, .ref q9), (0, .ref g), (1, .int p0), (2, .int p1), (3, .int p2), (4, .int p3), (5, .ref ou)]) X dL_sub_21 (by decide) rfl ?_
      refine q_iconst (v := 2) X dL_sub_23 (by decide) ?_
      exact q_iret X hr dL_sub_24 (⟨M', f0, rfl, hou2, hV2, Or.inr ⟨_, ho1, congrArg (fun z => some (Value.int z)) (show (2 : Int32) = cOp eIO by decide)⟩⟩)
    · refine t_catch X [⟨0, 14, 17, 13⟩, ⟨0, 14, 21, 21⟩] ⟨0, 14, 25, 53⟩ [] hT (fun z hz => by simp only [List.mem_cons, List.not_mem_nil, or_false] at hz; rcases hz with rfl | rfl; exact Or.inr ⟨by decide, _, tw_302, nc_of X (fun b hn => (ca_l (ca_r (ca_l (ca_r (ca_r (ca_l (ca_l (ca_l (ca_l (ca_r hn)))))))))))⟩; exact Or.inr ⟨by decide, _, tw_402, nc_of X (fun b hn => (ca_l (ca_r (ca_l (ca_r (ca_l (ca_l (ca_r (ca_l (ca_l (ca_r hn)))))))))))⟩) (by decide) (by decide) tw_618 tn_677 (fun q9 => ?_)
      show qJ G F _ 7 (pU M' (mO G ou f0)) 0 0 25 [(0, .ref g), (1, .int p0), (2, .int p1), (3, .int p2), (4, .int p3), (5, .ref ou)] [.ref q9]
      refine q_astore (lv' := [(6, .ref q9), (0, .ref g), (1, .int p0), (2, .int p1), (3, .int p2), (4, .int p3), (5, .ref ou)]) X dL_sub_25 (by decide) rfl ?_
      refine q_iconst (v := 3) X dL_sub_27 (by decide) ?_
      exact q_iret X hr dL_sub_28 (⟨M', f0, rfl, hou2, hV2, Or.inr ⟨_, ho1, congrArg (fun z => some (Value.int z)) (show (3 : Int32) = cOp eUO by decide)⟩⟩)

set_option maxRecDepth 20000 in
theorem h_slice {l : Launch} {G : gV} {g ou : Nat} {σ : sA} {MV : gMem} {f0 : Nat → Int64} (hl : l.stackTraces = false) (hV : isGV G MV g σ) (hou : MV ou = none) {p0 p1 p2 : Int32} : hC l G yL_slice cL_slice 6 (some .int) [(0, 12, 15, 13), (0, 12, 19, 21), (0, 12, 23, 53)] 201 26 2440 [.ref g, .int p0, .int p1, .int p2, .ref ou] (pU MV (mO G ou f0)) (hlP G g ou cOp hvI (sp_slice σ p0 p1 p2)) := by
  refine hC_of (by decide +kernel) (Nat.le_of_ble_eq_true rfl) (fun F hF X hT hr => ?_)
  subst hF
  have X : qX G F cL_slice 6 RL 201 := X
  have hT : (fc F).exceptionTable.toList = [⟨0, 12, 15, 13⟩, ⟨0, 12, 19, 21⟩, ⟨0, 12, 23, 53⟩] := hT
  obtain ⟨vl, nl, kl, fr, dk, hG⟩ : ∃ vl nl kl fr dk : Nat, MV g = some (oB 11 [.ref vl, .ref nl, .ref kl, .ref fr, .ref dk, .int (nI (aOf σ)), .int (nI (aBg σ))]) := by obtain ⟨vl, nl, kl, fr, dk, _, _, _, _, _, _, _, _, _, hB⟩ := hV; exact ⟨vl, nl, kl, fr, dk, hB.1⟩
  show qJ G F _ 6 (pU MV (mO G ou f0)) 26 2440 0 [(0, .ref g), (1, .int p0), (2, .int p1), (3, .int p2), (4, .ref ou)] []
  refine q_aload X dL_slice_0 4 rfl ?_
  refine q_iconst (v := 0) X dL_slice_2 (by decide) ?_
  refine q_aload_n X dL_slice_3 0 rfl ?_
  refine q_iload_n X dL_slice_4 1 rfl ?_
  refine q_iload_n X dL_slice_5 2 rfl ?_
  refine q_iload_n X dL_slice_6 3 rfl ?_
  refine x_callVF X (Mc := MV) (c_slice hl hV) pU_l Y_X11_slice tw_718 tw_719 tw_720 (pU_l _ _ hG) rfl (by omega) rfl rfl (Nat.le_of_ble_eq_true rfl) (rc' := 0) (rs' := 0) (Nat.le_of_eq (Nat.zero_add _)) (Nat.le_of_eq (Nat.zero_add _)) dL_slice_7 (fun v M' hp hm => ?_) (fun E M' hx hm => ?_)
  · obtain ⟨⟨n9, rfl⟩, ho1, hv1, hV2⟩ := hp
    obtain ⟨eM, hd⟩ := mJ_pU (mO_d hou) hm
    rw [eM]
    have hou2 := mO_no hd
    show qJ G F _ 6 (pU M' (mO G ou f0)) 0 0 10 [(0, .ref g), (1, .int p0), (2, .int p1), (3, .int p2), (4, .ref ou)] [.int n9, .int 0, .ref ou]
    refine q_i2l X dL_slice_10 ?_
    refine q_lastN X 0 (pU_ou hou2) (rfl) (by decide) (by decide) dL_slice_11 ?_
    have m_1 : (mU (pU M' (mO G ou f0)) ou (aJ G 1 (vp_updL f0 0 n9.toInt64))) ou = some (aJ G 1 (vp_updL f0 0 n9.toInt64)) := mU_s
    refine q_goto X 27 dL_slice_12 (by decide) ?_
    refine q_iconst (v := 0) X dL_slice_27 (by decide) ?_
    exact q_iret X hr dL_slice_28 (⟨M', vp_updL f0 0 n9.toInt64, pU_up hou2, hou2, hV2, Or.inl ⟨ho1, rfl, n9, hv1.symm, updL_s⟩⟩)
  · obtain ⟨ho1, hV2⟩ := hx
    obtain ⟨eM, hd⟩ := mJ_pU (mO_d hou) hm
    rw [eM]
    have hou2 := mO_no hd
    have hE := x_slice E ho1
    simp only [List.mem_cons, List.not_mem_nil, or_false] at hE
    rcases hE with rfl | rfl | rfl
    · refine t_catch X [] ⟨0, 12, 15, 13⟩ [⟨0, 12, 19, 21⟩, ⟨0, 12, 23, 53⟩] hT (fun z hz => by cases hz) (by decide) (by decide) tw_302 tn_382 (fun q9 => ?_)
      show qJ G F _ 6 (pU M' (mO G ou f0)) 0 0 15 [(0, .ref g), (1, .int p0), (2, .int p1), (3, .int p2), (4, .ref ou)] [.ref q9]
      refine q_astore (lv' := [(5, .ref q9), (0, .ref g), (1, .int p0), (2, .int p1), (3, .int p2), (4, .ref ou)]) X dL_slice_15 (by decide) rfl ?_
      refine q_iconst (v := 1) X dL_slice_17 (by decide) ?_
      exact q_iret X hr dL_slice_18 (⟨M', f0, rfl, hou2, hV2, Or.inr ⟨_, ho1, congrArg (fun z => some (Value.int z)) (show (1 : Int32) = cOp eIA by decide)⟩⟩)
    · refine t_catch X [⟨0, 12, 15, 13⟩] ⟨0, 12, 19, 21⟩ [⟨0, 12, 23, 53⟩] hT (fun z hz => by simp only [List.mem_cons, List.not_mem_nil, or_false] at hz; subst hz; exact Or.inr ⟨by decide, _, tw_302, nc_of X (fun b hn => (ca_l (ca_l (ca_r (ca_r (ca_l (ca_l (ca_l (ca_l (ca_r hn))))))))))⟩) (by decide) (by decide) tw_402 tn_414 (fun q9 => ?_)
      show qJ G F _ 6 (pU M' (mO G ou f0)) 0 0 19 [(0, .ref g), (1, .int p0), (2, .int p1), (3, .int p2), (4, .ref ou)] [.ref q9]
      refine q_astore (lv' := [(5, .ref q9), (0, .ref g), (1, .int p0), (2, .int p1), (3, .int p2), (4, .ref ou)]) X dL_slice_19 (by decide) rfl ?_
      refine q_iconst (v := 2) X dL_slice_21 (by decide) ?_
      exact q_iret X hr dL_slice_22 (⟨M', f0, rfl, hou2, hV2, Or.inr ⟨_, ho1, congrArg (fun z => some (Value.int z)) (show (2 : Int32) = cOp eIO by decide)⟩⟩)
    · refine t_catch X [⟨0, 12, 15, 13⟩, ⟨0, 12, 19, 21⟩] ⟨0, 12, 23, 53⟩ [] hT (fun z hz => by simp only [List.mem_cons, List.not_mem_nil, or_false] at hz; rcases hz with rfl | rfl; exact Or.inr ⟨by decide, _, tw_302, nc_of X (fun b hn => (ca_l (ca_r (ca_l (ca_r (ca_r (ca_l (ca_l (ca_l (ca_l (ca_r hn)))))))))))⟩; exact Or.inr ⟨by decide, _, tw_402, nc_of X (fun b hn => (ca_l (ca_r (ca_l (ca_r (ca_l (ca_l (ca_r (ca_l (ca_l (ca_r hn)))))))))))⟩) (by decide) (by decide) tw_618 tn_677 (fun q9 => ?_)
      show qJ G F _ 6 (pU M' (mO G ou f0)) 0 0 23 [(0, .ref g), (1, .int p0), (2, .int p1), (3, .int p2), (4, .ref ou)] [.ref q9]
      refine q_astore (lv' := [(5, .ref q9), (0, .ref g), (1, .int p0), (2, .int p1), (3, .int p2), (4, .ref ou)]) X dL_slice_23 (by decide) rfl ?_
      refine q_iconst (v := 3) X dL_slice_25 (by decide) ?_
      exact q_iret X hr dL_slice_26 (⟨M', f0, rfl, hou2, hV2, Or.inr ⟨_, ho1, congrArg (fun z => some (Value.int z)) (show (3 : Int32) = cOp eUO by decide)⟩⟩)

set_option maxRecDepth 20000 in
theorem h_extend {l : Launch} {G : gV} {g ou : Nat} {σ : sA} {MV : gMem} {f0 : Nat → Int64} (hl : l.stackTraces = false) (hV : isGV G MV g σ) (hou : MV ou = none) {p0 p1 p2 p3 : Int32} : hC l G yL_extend cL_extend 7 (some .int) [(0, 14, 17, 13), (0, 14, 21, 21), (0, 14, 25, 53)] 201 16 2410 [.ref g, .int p0, .int p1, .int p2, .int p3, .ref ou] (pU MV (mO G ou f0)) (hlP G g ou cOp hvI (sp_extend σ p0 p1 p2 p3)) := by
  refine hC_of (by decide +kernel) (Nat.le_of_ble_eq_true rfl) (fun F hF X hT hr => ?_)
  subst hF
  have X : qX G F cL_extend 7 RL 201 := X
  have hT : (fc F).exceptionTable.toList = [⟨0, 14, 17, 13⟩, ⟨0, 14, 21, 21⟩, ⟨0, 14, 25, 53⟩] := hT
  obtain ⟨vl, nl, kl, fr, dk, hG⟩ : ∃ vl nl kl fr dk : Nat, MV g = some (oB 11 [.ref vl, .ref nl, .ref kl, .ref fr, .ref dk, .int (nI (aOf σ)), .int (nI (aBg σ))]) := by obtain ⟨vl, nl, kl, fr, dk, _, _, _, _, _, _, _, _, _, hB⟩ := hV; exact ⟨vl, nl, kl, fr, dk, hB.1⟩
  show qJ G F _ 7 (pU MV (mO G ou f0)) 16 2410 0 [(0, .ref g), (1, .int p0), (2, .int p1), (3, .int p2), (4, .int p3), (5, .ref ou)] []
  refine q_aload X dL_extend_0 5 rfl ?_
  refine q_iconst (v := 0) X dL_extend_2 (by decide) ?_
  refine q_aload_n X dL_extend_3 0 rfl ?_
  refine q_iload_n X dL_extend_4 1 rfl ?_
  refine q_iload_n X dL_extend_5 2 rfl ?_
  refine q_iload_n X dL_extend_6 3 rfl ?_
  refine q_iload X dL_extend_7 4 rfl ?_
  refine x_callVF X (Mc := MV) (c_extend hl hV) pU_l Y_X11_extend tw_741 tw_742 tw_743 (pU_l _ _ hG) rfl (by omega) rfl rfl (Nat.le_of_ble_eq_true rfl) (rc' := 0) (rs' := 0) (Nat.le_of_eq (Nat.zero_add _)) (Nat.le_of_eq (Nat.zero_add _)) dL_extend_9 (fun v M' hp hm => ?_) (fun E M' hx hm => ?_)
  · obtain ⟨⟨n9, rfl⟩, ho1, hv1, hV2⟩ := hp
    obtain ⟨eM, hd⟩ := mJ_pU (mO_d hou) hm
    rw [eM]
    have hou2 := mO_no hd
    show qJ G F _ 7 (pU M' (mO G ou f0)) 0 0 12 [(0, .ref g), (1, .int p0), (2, .int p1), (3, .int p2), (4, .int p3), (5, .ref ou)] [.int n9, .int 0, .ref ou]
    refine q_i2l X dL_extend_12 ?_
    refine q_lastN X 0 (pU_ou hou2) (rfl) (by decide) (by decide) dL_extend_13 ?_
    have m_1 : (mU (pU M' (mO G ou f0)) ou (aJ G 1 (vp_updL f0 0 n9.toInt64))) ou = some (aJ G 1 (vp_updL f0 0 n9.toInt64)) := mU_s
    refine q_goto X 29 dL_extend_14 (by decide) ?_
    refine q_iconst (v := 0) X dL_extend_29 (by decide) ?_
    exact q_iret X hr dL_extend_30 (⟨M', vp_updL f0 0 n9.toInt64, pU_up hou2, hou2, hV2, Or.inl ⟨ho1, rfl, n9, hv1.symm, updL_s⟩⟩)
  · obtain ⟨ho1, hV2⟩ := hx
    obtain ⟨eM, hd⟩ := mJ_pU (mO_d hou) hm
    rw [eM]
    have hou2 := mO_no hd
    have hE := x_extend E ho1
    simp only [List.mem_cons, List.not_mem_nil, or_false] at hE
    rcases hE with rfl | rfl | rfl
    · refine t_catch X [] ⟨0, 14, 17, 13⟩ [⟨0, 14, 21, 21⟩, ⟨0, 14, 25, 53⟩] hT (fun z hz => by cases hz) (by decide) (by decide) tw_302 tn_382 (fun q9 => ?_)
      show qJ G F _ 7 (pU M' (mO G ou f0)) 0 0 17 [(0, .ref g), (1, .int p0), (2, .int p1), (3, .int p2), (4, .int p3), (5, .ref ou)] [.ref q9]
      refine q_astore (lv' := [(6, .ref q9), (0, .ref g), (1, .int p0), (2, .int p1), (3, .int p2), (4, .int p3), (5, .ref ou)]) X dL_extend_17 (by decide) rfl ?_
      refine q_iconst (v := 1) X dL_extend_19 (by decide) ?_
      exact q_iret X hr dL_extend_20 (⟨M', f0, rfl, hou2, hV2, Or.inr ⟨_, ho1, congrArg (fun z => some (Value.int z)) (show (1 : Int32) = cOp eIA by decide)⟩⟩)
    · refine t_catch X [⟨0, 14, 17, 13⟩] ⟨0, 14, 21, 21⟩ [⟨0, 14, 25, 53⟩] hT (fun z hz => by simp only [List.mem_cons, List.not_mem_nil, or_false] at hz; subst hz; exact Or.inr ⟨by decide, _, tw_302, nc_of X (fun b hn => (ca_l (ca_l (ca_r (ca_r (ca_l (ca_l (ca_l (ca_l (ca_r hn))))))))))⟩) (by decide) (by decide) tw_402 tn_414 (fun q9 => ?_)
      show qJ G F _ 7 (pU M' (mO G ou f0)) 0 0 21 [(0, .ref g), (1, .int p0), (2, .int p1), (3, .int p2), (4, .int p3), (5, .ref ou)] [.ref q9]
      refine q_astore (lv' := [(6, .ref q9), (0, .ref g), (1, .int p0), (2, .int p1), (3, .int p2), (4, .int p3), (5, .ref ou)]) X dL_extend_21 (by decide) rfl ?_
      refine q_iconst (v := 2) X dL_extend_23 (by decide) ?_
      exact q_iret X hr dL_extend_24 (⟨M', f0, rfl, hou2, hV2, Or.inr ⟨_, ho1, congrArg (fun z => some (Value.int z)) (show (2 : Int32) = cOp eIO by decide)⟩⟩)
    · refine t_catch X [⟨0, 14, 17, 13⟩, ⟨0, 14, 21, 21⟩] ⟨0, 14, 25, 53⟩ [] hT (fun z hz => by simp only [List.mem_cons, List.not_mem_nil, or_false] at hz; rcases hz with rfl | rfl; exact Or.inr ⟨by decide, _, tw_302, nc_of X (fun b hn => (ca_l (ca_r (ca_l (ca_r (ca_r (ca_l (ca_l (ca_l (ca_l (ca_r hn)))))))))))⟩; exact Or.inr ⟨by decide, _, tw_402, nc_of X (fun b hn => (ca_l (ca_r (ca_l (ca_r (ca_l (ca_l (ca_r (ca_l (ca_l (ca_r hn)))))))))))⟩) (by decide) (by decide) tw_618 tn_677 (fun q9 => ?_)
      show qJ G F _ 7 (pU M' (mO G ou f0)) 0 0 25 [(0, .ref g), (1, .int p0), (2, .int p1), (3, .int p2), (4, .int p3), (5, .ref ou)] [.ref q9]
      refine q_astore (lv' := [(6, .ref q9), (0, .ref g), (1, .int p0), (2, .int p1), (3, .int p2), (4, .int p3), (5, .ref ou)]) X dL_extend_25 (by decide) rfl ?_
      refine q_iconst (v := 3) X dL_extend_27 (by decide) ?_
      exact q_iret X hr dL_extend_28 (⟨M', f0, rfl, hou2, hV2, Or.inr ⟨_, ho1, congrArg (fun z => some (Value.int z)) (show (3 : Int32) = cOp eUO by decide)⟩⟩)

set_option maxRecDepth 20000 in
theorem h_apply {l : Launch} {G : gV} {g ou : Nat} {σ : sA} {MV : gMem} {f0 : Nat → Int64} (hl : l.stackTraces = false) (hV : isGV G MV g σ) (hou : MV ou = none) {p0 p1 : Int32} {p2 : Int64} : hC l G yL_apply cL_apply 7 (some .int) [(0, 12, 15, 13), (0, 12, 19, 21), (0, 12, 23, 53)] 201 11 2400 [.ref g, .int p0, .int p1, .long p2, .ref ou] (pU MV (mO G ou f0)) (hlP G g ou cOp hvI (sp_apply σ p0 p1 p2)) := by
  refine hC_of (by decide +kernel) (Nat.le_of_ble_eq_true rfl) (fun F hF X hT hr => ?_)
  subst hF
  have X : qX G F cL_apply 7 RL 201 := X
  have hT : (fc F).exceptionTable.toList = [⟨0, 12, 15, 13⟩, ⟨0, 12, 19, 21⟩, ⟨0, 12, 23, 53⟩] := hT
  obtain ⟨vl, nl, kl, fr, dk, hG⟩ : ∃ vl nl kl fr dk : Nat, MV g = some (oB 11 [.ref vl, .ref nl, .ref kl, .ref fr, .ref dk, .int (nI (aOf σ)), .int (nI (aBg σ))]) := by obtain ⟨vl, nl, kl, fr, dk, _, _, _, _, _, _, _, _, _, hB⟩ := hV; exact ⟨vl, nl, kl, fr, dk, hB.1⟩
  show qJ G F _ 7 (pU MV (mO G ou f0)) 11 2400 0 [(0, .ref g), (1, .int p0), (2, .int p1), (3, .long p2), (5, .ref ou)] []
  refine q_aload X dL_apply_0 4 rfl ?_
  refine q_iconst (v := 0) X dL_apply_2 (by decide) ?_
  refine q_aload_n X dL_apply_3 0 rfl ?_
  refine q_iload_n X dL_apply_4 1 rfl ?_
  refine q_iload_n X dL_apply_5 2 rfl ?_
  refine q_lload_n X dL_apply_6 3 rfl ?_
  refine x_callVF X (Mc := MV) (c_apply hl hV) pU_l Y_X11_apply tw_749 tw_750 tw_751 (pU_l _ _ hG) rfl (by omega) rfl rfl (Nat.le_of_ble_eq_true rfl) (rc' := 0) (rs' := 0) (Nat.le_of_eq (Nat.zero_add _)) (Nat.le_of_eq (Nat.zero_add _)) dL_apply_7 (fun v M' hp hm => ?_) (fun E M' hx hm => ?_)
  · obtain ⟨⟨n9, rfl⟩, ho1, hv1, hV2⟩ := hp
    obtain ⟨eM, hd⟩ := mJ_pU (mO_d hou) hm
    rw [eM]
    have hou2 := mO_no hd
    show qJ G F _ 7 (pU M' (mO G ou f0)) 0 0 10 [(0, .ref g), (1, .int p0), (2, .int p1), (3, .long p2), (5, .ref ou)] [.int n9, .int 0, .ref ou]
    refine q_i2l X dL_apply_10 ?_
    refine q_lastN X 0 (pU_ou hou2) (rfl) (by decide) (by decide) dL_apply_11 ?_
    have m_1 : (mU (pU M' (mO G ou f0)) ou (aJ G 1 (vp_updL f0 0 n9.toInt64))) ou = some (aJ G 1 (vp_updL f0 0 n9.toInt64)) := mU_s
    refine q_goto X 27 dL_apply_12 (by decide) ?_
    refine q_iconst (v := 0) X dL_apply_27 (by decide) ?_
    exact q_iret X hr dL_apply_28 (⟨M', vp_updL f0 0 n9.toInt64, pU_up hou2, hou2, hV2, Or.inl ⟨ho1, rfl, n9, hv1.symm, updL_s⟩⟩)
  · obtain ⟨ho1, hV2⟩ := hx
    obtain ⟨eM, hd⟩ := mJ_pU (mO_d hou) hm
    rw [eM]
    have hou2 := mO_no hd
    have hE := x_apply E ho1
    simp only [List.mem_cons, List.not_mem_nil, or_false] at hE
    rcases hE with rfl | rfl | rfl
    · refine t_catch X [] ⟨0, 12, 15, 13⟩ [⟨0, 12, 19, 21⟩, ⟨0, 12, 23, 53⟩] hT (fun z hz => by cases hz) (by decide) (by decide) tw_302 tn_382 (fun q9 => ?_)
      show qJ G F _ 7 (pU M' (mO G ou f0)) 0 0 15 [(0, .ref g), (1, .int p0), (2, .int p1), (3, .long p2), (5, .ref ou)] [.ref q9]
      refine q_astore (lv' := [(6, .ref q9), (0, .ref g), (1, .int p0), (2, .int p1), (3, .long p2), (5, .ref ou)]) X dL_apply_15 (by decide) rfl ?_
      refine q_iconst (v := 1) X dL_apply_17 (by decide) ?_
      exact q_iret X hr dL_apply_18 (⟨M', f0, rfl, hou2, hV2, Or.inr ⟨_, ho1, congrArg (fun z => some (Value.int z)) (show (1 : Int32) = cOp eIA by decide)⟩⟩)
    · refine t_catch X [⟨0, 12, 15, 13⟩] ⟨0, 12, 19, 21⟩ [⟨0, 12, 23, 53⟩] hT (fun z hz => by simp only [List.mem_cons, List.not_mem_nil, or_false] at hz; subst hz; exact Or.inr ⟨by decide, _, tw_302, nc_of X (fun b hn => (ca_l (ca_l (ca_r (ca_r (ca_l (ca_l (ca_l (ca_l (ca_r hn))))))))))⟩) (by decide) (by decide) tw_402 tn_414 (fun q9 => ?_)
      show qJ G F _ 7 (pU M' (mO G ou f0)) 0 0 19 [(0, .ref g), (1, .int p0), (2, .int p1), (3, .long p2), (5, .ref ou)] [.ref q9]
      refine q_astore (lv' := [(6, .ref q9), (0, .ref g), (1, .int p0), (2, .int p1), (3, .long p2), (5, .ref ou)]) X dL_apply_19 (by decide) rfl ?_
      refine q_iconst (v := 2) X dL_apply_21 (by decide) ?_
      exact q_iret X hr dL_apply_22 (⟨M', f0, rfl, hou2, hV2, Or.inr ⟨_, ho1, congrArg (fun z => some (Value.int z)) (show (2 : Int32) = cOp eIO by decide)⟩⟩)
    · refine t_catch X [⟨0, 12, 15, 13⟩, ⟨0, 12, 19, 21⟩] ⟨0, 12, 23, 53⟩ [] hT (fun z hz => by simp only [List.mem_cons, List.not_mem_nil, or_false] at hz; rcases hz with rfl | rfl; exact Or.inr ⟨by decide, _, tw_302, nc_of X (fun b hn => (ca_l (ca_r (ca_l (ca_r (ca_r (ca_l (ca_l (ca_l (ca_l (ca_r hn)))))))))))⟩; exact Or.inr ⟨by decide, _, tw_402, nc_of X (fun b hn => (ca_l (ca_r (ca_l (ca_r (ca_l (ca_l (ca_r (ca_l (ca_l (ca_r hn)))))))))))⟩) (by decide) (by decide) tw_618 tn_677 (fun q9 => ?_)
      show qJ G F _ 7 (pU M' (mO G ou f0)) 0 0 23 [(0, .ref g), (1, .int p0), (2, .int p1), (3, .long p2), (5, .ref ou)] [.ref q9]
      refine q_astore (lv' := [(6, .ref q9), (0, .ref g), (1, .int p0), (2, .int p1), (3, .long p2), (5, .ref ou)]) X dL_apply_23 (by decide) rfl ?_
      refine q_iconst (v := 3) X dL_apply_25 (by decide) ?_
      exact q_iret X hr dL_apply_26 (⟨M', f0, rfl, hou2, hV2, Or.inr ⟨_, ho1, congrArg (fun z => some (Value.int z)) (show (3 : Int32) = cOp eUO by decide)⟩⟩)

set_option maxRecDepth 20000 in
theorem h_filter {l : Launch} {G : gV} {g ou : Nat} {σ : sA} {MV : gMem} {f0 : Nat → Int64} (hl : l.stackTraces = false) (hV : isGV G MV g σ) (hou : MV ou = none) {p0 p1 : Int32} {p2 : Int64} : hC l G yL_filter cL_filter 7 (some .int) [(0, 12, 15, 13), (0, 12, 19, 21), (0, 12, 23, 53)] 201 11 2400 [.ref g, .int p0, .int p1, .long p2, .ref ou] (pU MV (mO G ou f0)) (hlP G g ou cOp hvI (sp_filter σ p0 p1 p2)) := by
  refine hC_of (by decide +kernel) (Nat.le_of_ble_eq_true rfl) (fun F hF X hT hr => ?_)
  subst hF
  have X : qX G F cL_filter 7 RL 201 := X
  have hT : (fc F).exceptionTable.toList = [⟨0, 12, 15, 13⟩, ⟨0, 12, 19, 21⟩, ⟨0, 12, 23, 53⟩] := hT
  obtain ⟨vl, nl, kl, fr, dk, hG⟩ : ∃ vl nl kl fr dk : Nat, MV g = some (oB 11 [.ref vl, .ref nl, .ref kl, .ref fr, .ref dk, .int (nI (aOf σ)), .int (nI (aBg σ))]) := by obtain ⟨vl, nl, kl, fr, dk, _, _, _, _, _, _, _, _, _, hB⟩ := hV; exact ⟨vl, nl, kl, fr, dk, hB.1⟩
  show qJ G F _ 7 (pU MV (mO G ou f0)) 11 2400 0 [(0, .ref g), (1, .int p0), (2, .int p1), (3, .long p2), (5, .ref ou)] []
  refine q_aload X dL_filter_0 4 rfl ?_
  refine q_iconst (v := 0) X dL_filter_2 (by decide) ?_
  refine q_aload_n X dL_filter_3 0 rfl ?_
  refine q_iload_n X dL_filter_4 1 rfl ?_
  refine q_iload_n X dL_filter_5 2 rfl ?_
  refine q_lload_n X dL_filter_6 3 rfl ?_
  refine x_callVF X (Mc := MV) (c_filter hl hV) pU_l Y_X11_filter tw_778 tw_779 tw_780 (pU_l _ _ hG) rfl (by omega) rfl rfl (Nat.le_of_ble_eq_true rfl) (rc' := 0) (rs' := 0) (Nat.le_of_eq (Nat.zero_add _)) (Nat.le_of_eq (Nat.zero_add _)) dL_filter_7 (fun v M' hp hm => ?_) (fun E M' hx hm => ?_)
  · obtain ⟨⟨n9, rfl⟩, ho1, hv1, hV2⟩ := hp
    obtain ⟨eM, hd⟩ := mJ_pU (mO_d hou) hm
    rw [eM]
    have hou2 := mO_no hd
    show qJ G F _ 7 (pU M' (mO G ou f0)) 0 0 10 [(0, .ref g), (1, .int p0), (2, .int p1), (3, .long p2), (5, .ref ou)] [.int n9, .int 0, .ref ou]
    refine q_i2l X dL_filter_10 ?_
    refine q_lastN X 0 (pU_ou hou2) (rfl) (by decide) (by decide) dL_filter_11 ?_
    have m_1 : (mU (pU M' (mO G ou f0)) ou (aJ G 1 (vp_updL f0 0 n9.toInt64))) ou = some (aJ G 1 (vp_updL f0 0 n9.toInt64)) := mU_s
    refine q_goto X 27 dL_filter_12 (by decide) ?_
    refine q_iconst (v := 0) X dL_filter_27 (by decide) ?_
    exact q_iret X hr dL_filter_28 (⟨M', vp_updL f0 0 n9.toInt64, pU_up hou2, hou2, hV2, Or.inl ⟨ho1, rfl, n9, hv1.symm, updL_s⟩⟩)
  · obtain ⟨ho1, hV2⟩ := hx
    obtain ⟨eM, hd⟩ := mJ_pU (mO_d hou) hm
    rw [eM]
    have hou2 := mO_no hd
    have hE := x_filter E ho1
    simp only [List.mem_cons, List.not_mem_nil, or_false] at hE
    rcases hE with rfl | rfl | rfl
    · refine t_catch X [] ⟨0, 12, 15, 13⟩ [⟨0, 12, 19, 21⟩, ⟨0, 12, 23, 53⟩] hT (fun z hz => by cases hz) (by decide) (by decide) tw_302 tn_382 (fun q9 => ?_)
      show qJ G F _ 7 (pU M' (mO G ou f0)) 0 0 15 [(0, .ref g), (1, .int p0), (2, .int p1), (3, .long p2), (5, .ref ou)] [.ref q9]
      refine q_astore (lv' := [(6, .ref q9), (0, .ref g), (1, .int p0), (2, .int p1), (3, .long p2), (5, .ref ou)]) X dL_filter_15 (by decide) rfl ?_
      refine q_iconst (v := 1) X dL_filter_17 (by decide) ?_
      exact q_iret X hr dL_filter_18 (⟨M', f0, rfl, hou2, hV2, Or.inr ⟨_, ho1, congrArg (fun z => some (Value.int z)) (show (1 : Int32) = cOp eIA by decide)⟩⟩)
    · refine t_catch X [⟨0, 12, 15, 13⟩] ⟨0, 12, 19, 21⟩ [⟨0, 12, 23, 53⟩] hT (fun z hz => by simp only [List.mem_cons, List.not_mem_nil, or_false] at hz; subst hz; exact Or.inr ⟨by decide, _, tw_302, nc_of X (fun b hn => (ca_l (ca_l (ca_r (ca_r (ca_l (ca_l (ca_l (ca_l (ca_r hn))))))))))⟩) (by decide) (by decide) tw_402 tn_414 (fun q9 => ?_)
      show qJ G F _ 7 (pU M' (mO G ou f0)) 0 0 19 [(0, .ref g), (1, .int p0), (2, .int p1), (3, .long p2), (5, .ref ou)] [.ref q9]
      refine q_astore (lv' := [(6, .ref q9), (0, .ref g), (1, .int p0), (2, .int p1), (3, .long p2), (5, .ref ou)]) X dL_filter_19 (by decide) rfl ?_
      refine q_iconst (v := 2) X dL_filter_21 (by decide) ?_
      exact q_iret X hr dL_filter_22 (⟨M', f0, rfl, hou2, hV2, Or.inr ⟨_, ho1, congrArg (fun z => some (Value.int z)) (show (2 : Int32) = cOp eIO by decide)⟩⟩)
    · refine t_catch X [⟨0, 12, 15, 13⟩, ⟨0, 12, 19, 21⟩] ⟨0, 12, 23, 53⟩ [] hT (fun z hz => by simp only [List.mem_cons, List.not_mem_nil, or_false] at hz; rcases hz with rfl | rfl; exact Or.inr ⟨by decide, _, tw_302, nc_of X (fun b hn => (ca_l (ca_r (ca_l (ca_r (ca_r (ca_l (ca_l (ca_l (ca_l (ca_r hn)))))))))))⟩; exact Or.inr ⟨by decide, _, tw_402, nc_of X (fun b hn => (ca_l (ca_r (ca_l (ca_r (ca_l (ca_l (ca_r (ca_l (ca_l (ca_r hn)))))))))))⟩) (by decide) (by decide) tw_618 tn_677 (fun q9 => ?_)
      show qJ G F _ 7 (pU M' (mO G ou f0)) 0 0 23 [(0, .ref g), (1, .int p0), (2, .int p1), (3, .long p2), (5, .ref ou)] [.ref q9]
      refine q_astore (lv' := [(6, .ref q9), (0, .ref g), (1, .int p0), (2, .int p1), (3, .long p2), (5, .ref ou)]) X dL_filter_23 (by decide) rfl ?_
      refine q_iconst (v := 3) X dL_filter_25 (by decide) ?_
      exact q_iret X hr dL_filter_26 (⟨M', f0, rfl, hou2, hV2, Or.inr ⟨_, ho1, congrArg (fun z => some (Value.int z)) (show (3 : Int32) = cOp eUO by decide)⟩⟩)

set_option maxRecDepth 20000 in
theorem h_join {l : Launch} {G : gV} {g ou : Nat} {σ : sA} {MV : gMem} {f0 : Nat → Int64} (hl : l.stackTraces = false) (hV : isGV G MV g σ) (hou : MV ou = none) {p0 p1 p2 : Int32} : hC l G yL_join cL_join 6 (some .int) [(0, 12, 15, 13), (0, 12, 19, 21), (0, 12, 23, 53)] 201 19 2440 [.ref g, .int p0, .int p1, .int p2, .ref ou] (pU MV (mO G ou f0)) (hlP G g ou cOp hvI (sp_join σ p0 p1 p2)) := by
  refine hC_of (by decide +kernel) (Nat.le_of_ble_eq_true rfl) (fun F hF X hT hr => ?_)
  subst hF
  have X : qX G F cL_join 6 RL 201 := X
  have hT : (fc F).exceptionTable.toList = [⟨0, 12, 15, 13⟩, ⟨0, 12, 19, 21⟩, ⟨0, 12, 23, 53⟩] := hT
  obtain ⟨vl, nl, kl, fr, dk, hG⟩ : ∃ vl nl kl fr dk : Nat, MV g = some (oB 11 [.ref vl, .ref nl, .ref kl, .ref fr, .ref dk, .int (nI (aOf σ)), .int (nI (aBg σ))]) := by obtain ⟨vl, nl, kl, fr, dk, _, _, _, _, _, _, _, _, _, hB⟩ := hV; exact ⟨vl, nl, kl, fr, dk, hB.1⟩
  show qJ G F _ 6 (pU MV (mO G ou f0)) 19 2440 0 [(0, .ref g), (1, .int p0), (2, .int p1), (3, .int p2), (4, .ref ou)] []
  refine q_aload X dL_join_0 4 rfl ?_
  refine q_iconst (v := 0) X dL_join_2 (by decide) ?_
  refine q_aload_n X dL_join_3 0 rfl ?_
  refine q_iload_n X dL_join_4 1 rfl ?_
  refine q_iload_n X dL_join_5 2 rfl ?_
  refine q_iload_n X dL_join_6 3 rfl ?_
  refine x_callVF X (Mc := MV) (c_join hl hV) pU_l Y_X11_join tw_785 tw_786 tw_787 (pU_l _ _ hG) rfl (by omega) rfl rfl (Nat.le_of_ble_eq_true rfl) (rc' := 0) (rs' := 0) (Nat.le_of_eq (Nat.zero_add _)) (Nat.le_of_eq (Nat.zero_add _)) dL_join_7 (fun v M' hp hm => ?_) (fun E M' hx hm => ?_)
  · obtain ⟨⟨n9, rfl⟩, ho1, hv1, hV2⟩ := hp
    obtain ⟨eM, hd⟩ := mJ_pU (mO_d hou) hm
    rw [eM]
    have hou2 := mO_no hd
    show qJ G F _ 6 (pU M' (mO G ou f0)) 0 0 10 [(0, .ref g), (1, .int p0), (2, .int p1), (3, .int p2), (4, .ref ou)] [.int n9, .int 0, .ref ou]
    refine q_i2l X dL_join_10 ?_
    refine q_lastN X 0 (pU_ou hou2) (rfl) (by decide) (by decide) dL_join_11 ?_
    have m_1 : (mU (pU M' (mO G ou f0)) ou (aJ G 1 (vp_updL f0 0 n9.toInt64))) ou = some (aJ G 1 (vp_updL f0 0 n9.toInt64)) := mU_s
    refine q_goto X 27 dL_join_12 (by decide) ?_
    refine q_iconst (v := 0) X dL_join_27 (by decide) ?_
    exact q_iret X hr dL_join_28 (⟨M', vp_updL f0 0 n9.toInt64, pU_up hou2, hou2, hV2, Or.inl ⟨ho1, rfl, n9, hv1.symm, updL_s⟩⟩)
  · obtain ⟨ho1, hV2⟩ := hx
    obtain ⟨eM, hd⟩ := mJ_pU (mO_d hou) hm
    rw [eM]
    have hou2 := mO_no hd
    have hE := x_join E ho1
    simp only [List.mem_cons, List.not_mem_nil, or_false] at hE
    rcases hE with rfl | rfl | rfl
    · refine t_catch X [] ⟨0, 12, 15, 13⟩ [⟨0, 12, 19, 21⟩, ⟨0, 12, 23, 53⟩] hT (fun z hz => by cases hz) (by decide) (by decide) tw_302 tn_382 (fun q9 => ?_)
      show qJ G F _ 6 (pU M' (mO G ou f0)) 0 0 15 [(0, .ref g), (1, .int p0), (2, .int p1), (3, .int p2), (4, .ref ou)] [.ref q9]
      refine q_astore (lv' := [(5, .ref q9), (0, .ref g), (1, .int p0), (2, .int p1), (3, .int p2), (4, .ref ou)]) X dL_join_15 (by decide) rfl ?_
      refine q_iconst (v := 1) X dL_join_17 (by decide) ?_
      exact q_iret X hr dL_join_18 (⟨M', f0, rfl, hou2, hV2, Or.inr ⟨_, ho1, congrArg (fun z => some (Value.int z)) (show (1 : Int32) = cOp eIA by decide)⟩⟩)
    · refine t_catch X [⟨0, 12, 15, 13⟩] ⟨0, 12, 19, 21⟩ [⟨0, 12, 23, 53⟩] hT (fun z hz => by simp only [List.mem_cons, List.not_mem_nil, or_false] at hz; subst hz; exact Or.inr ⟨by decide, _, tw_302, nc_of X (fun b hn => (ca_l (ca_l (ca_r (ca_r (ca_l (ca_l (ca_l (ca_l (ca_r hn))))))))))⟩) (by decide) (by decide) tw_402 tn_414 (fun q9 => ?_)
      show qJ G F _ 6 (pU M' (mO G ou f0)) 0 0 19 [(0, .ref g), (1, .int p0), (2, .int p1), (3, .int p2), (4, .ref ou)] [.ref q9]
      refine q_astore (lv' := [(5, .ref q9), (0, .ref g), (1, .int p0), (2, .int p1), (3, .int p2), (4, .ref ou)]) X dL_join_19 (by decide) rfl ?_
      refine q_iconst (v := 2) X dL_join_21 (by decide) ?_
      exact q_iret X hr dL_join_22 (⟨M', f0, rfl, hou2, hV2, Or.inr ⟨_, ho1, congrArg (fun z => some (Value.int z)) (show (2 : Int32) = cOp eIO by decide)⟩⟩)
    · refine t_catch X [⟨0, 12, 15, 13⟩, ⟨0, 12, 19, 21⟩] ⟨0, 12, 23, 53⟩ [] hT (fun z hz => by simp only [List.mem_cons, List.not_mem_nil, or_false] at hz; rcases hz with rfl | rfl; exact Or.inr ⟨by decide, _, tw_302, nc_of X (fun b hn => (ca_l (ca_r (ca_l (ca_r (ca_r (ca_l (ca_l (ca_l (ca_l (ca_r hn)))))))))))⟩; exact Or.inr ⟨by decide, _, tw_402, nc_of X (fun b hn => (ca_l (ca_r (ca_l (ca_r (ca_l (ca_l (ca_r (ca_l (ca_l (ca_r hn)))))))))))⟩) (by decide) (by decide) tw_618 tn_677 (fun q9 => ?_)
      show qJ G F _ 6 (pU M' (mO G ou f0)) 0 0 23 [(0, .ref g), (1, .int p0), (2, .int p1), (3, .int p2), (4, .ref ou)] [.ref q9]
      refine q_astore (lv' := [(5, .ref q9), (0, .ref g), (1, .int p0), (2, .int p1), (3, .int p2), (4, .ref ou)]) X dL_join_23 (by decide) rfl ?_
      refine q_iconst (v := 3) X dL_join_25 (by decide) ?_
      exact q_iret X hr dL_join_26 (⟨M', f0, rfl, hou2, hV2, Or.inr ⟨_, ho1, congrArg (fun z => some (Value.int z)) (show (3 : Int32) = cOp eUO by decide)⟩⟩)

set_option maxRecDepth 20000 in
theorem h_gather {l : Launch} {G : gV} {g ou : Nat} {σ : sA} {MV : gMem} {f0 : Nat → Int64} (hl : l.stackTraces = false) (hV : isGV G MV g σ) (hou : MV ou = none) {p0 p1 p2 : Int32} : hC l G yL_gather cL_gather 6 (some .int) [(0, 12, 15, 13), (0, 12, 19, 21), (0, 12, 23, 53)] 201 17 2440 [.ref g, .int p0, .int p1, .int p2, .ref ou] (pU MV (mO G ou f0)) (hlP G g ou cOp hvI (sp_gather σ p0 p1 p2)) := by
  refine hC_of (by decide +kernel) (Nat.le_of_ble_eq_true rfl) (fun F hF X hT hr => ?_)
  subst hF
  have X : qX G F cL_gather 6 RL 201 := X
  have hT : (fc F).exceptionTable.toList = [⟨0, 12, 15, 13⟩, ⟨0, 12, 19, 21⟩, ⟨0, 12, 23, 53⟩] := hT
  obtain ⟨vl, nl, kl, fr, dk, hG⟩ : ∃ vl nl kl fr dk : Nat, MV g = some (oB 11 [.ref vl, .ref nl, .ref kl, .ref fr, .ref dk, .int (nI (aOf σ)), .int (nI (aBg σ))]) := by obtain ⟨vl, nl, kl, fr, dk, _, _, _, _, _, _, _, _, _, hB⟩ := hV; exact ⟨vl, nl, kl, fr, dk, hB.1⟩
  show qJ G F _ 6 (pU MV (mO G ou f0)) 17 2440 0 [(0, .ref g), (1, .int p0), (2, .int p1), (3, .int p2), (4, .ref ou)] []
  refine q_aload X dL_gather_0 4 rfl ?_
  refine q_iconst (v := 0) X dL_gather_2 (by decide) ?_
  refine q_aload_n X dL_gather_3 0 rfl ?_
  refine q_iload_n X dL_gather_4 1 rfl ?_
  refine q_iload_n X dL_gather_5 2 rfl ?_
  refine q_iload_n X dL_gather_6 3 rfl ?_
  refine x_callVF X (Mc := MV) (c_gather hl hV) pU_l Y_X11_gather tw_824 tw_825 tw_826 (pU_l _ _ hG) rfl (by omega) rfl rfl (Nat.le_of_ble_eq_true rfl) (rc' := 0) (rs' := 0) (Nat.le_of_eq (Nat.zero_add _)) (Nat.le_of_eq (Nat.zero_add _)) dL_gather_7 (fun v M' hp hm => ?_) (fun E M' hx hm => ?_)
  · obtain ⟨⟨n9, rfl⟩, ho1, hv1, hV2⟩ := hp
    obtain ⟨eM, hd⟩ := mJ_pU (mO_d hou) hm
    rw [eM]
    have hou2 := mO_no hd
    show qJ G F _ 6 (pU M' (mO G ou f0)) 0 0 10 [(0, .ref g), (1, .int p0), (2, .int p1), (3, .int p2), (4, .ref ou)] [.int n9, .int 0, .ref ou]
    refine q_i2l X dL_gather_10 ?_
    refine q_lastN X 0 (pU_ou hou2) (rfl) (by decide) (by decide) dL_gather_11 ?_
    have m_1 : (mU (pU M' (mO G ou f0)) ou (aJ G 1 (vp_updL f0 0 n9.toInt64))) ou = some (aJ G 1 (vp_updL f0 0 n9.toInt64)) := mU_s
    refine q_goto X 27 dL_gather_12 (by decide) ?_
    refine q_iconst (v := 0) X dL_gather_27 (by decide) ?_
    exact q_iret X hr dL_gather_28 (⟨M', vp_updL f0 0 n9.toInt64, pU_up hou2, hou2, hV2, Or.inl ⟨ho1, rfl, n9, hv1.symm, updL_s⟩⟩)
  · obtain ⟨ho1, hV2⟩ := hx
    obtain ⟨eM, hd⟩ := mJ_pU (mO_d hou) hm
    rw [eM]
    have hou2 := mO_no hd
    have hE := x_gather E ho1
    simp only [List.mem_cons, List.not_mem_nil, or_false] at hE
    rcases hE with rfl | rfl | rfl
    · refine t_catch X [] ⟨0, 12, 15, 13⟩ [⟨0, 12, 19, 21⟩, ⟨0, 12, 23, 53⟩] hT (fun z hz => by cases hz) (by decide) (by decide) tw_302 tn_382 (fun q9 => ?_)
      show qJ G F _ 6 (pU M' (mO G ou f0)) 0 0 15 [(0, .ref g), (1, .int p0), (2, .int p1), (3, .int p2), (4, .ref ou)] [.ref q9]
      refine q_astore (lv' := [(5, .ref q9), (0, .ref g), (1, .int p0), (2, .int p1), (3, .int p2), (4, .ref ou)]) X dL_gather_15 (by decide) rfl ?_
      refine q_iconst (v := 1) X dL_gather_17 (by decide) ?_
      exact q_iret X hr dL_gather_18 (⟨M', f0, rfl, hou2, hV2, Or.inr ⟨_, ho1, congrArg (fun z => some (Value.int z)) (show (1 : Int32) = cOp eIA by decide)⟩⟩)
    · refine t_catch X [⟨0, 12, 15, 13⟩] ⟨0, 12, 19, 21⟩ [⟨0, 12, 23, 53⟩] hT (fun z hz => by simp only [List.mem_cons, List.not_mem_nil, or_false] at hz; subst hz; exact Or.inr ⟨by decide, _, tw_302, nc_of X (fun b hn => (ca_l (ca_l (ca_r (ca_r (ca_l (ca_l (ca_l (ca_l (ca_r hn))))))))))⟩) (by decide) (by decide) tw_402 tn_414 (fun q9 => ?_)
      show qJ G F _ 6 (pU M' (mO G ou f0)) 0 0 19 [(0, .ref g), (1, .int p0), (2, .int p1), (3, .int p2), (4, .ref ou)] [.ref q9]
      refine q_astore (lv' := [(5, .ref q9), (0, .ref g), (1, .int p0), (2, .int p1), (3, .int p2), (4, .ref ou)]) X dL_gather_19 (by decide) rfl ?_
      refine q_iconst (v := 2) X dL_gather_21 (by decide) ?_
      exact q_iret X hr dL_gather_22 (⟨M', f0, rfl, hou2, hV2, Or.inr ⟨_, ho1, congrArg (fun z => some (Value.int z)) (show (2 : Int32) = cOp eIO by decide)⟩⟩)
    · refine t_catch X [⟨0, 12, 15, 13⟩, ⟨0, 12, 19, 21⟩] ⟨0, 12, 23, 53⟩ [] hT (fun z hz => by simp only [List.mem_cons, List.not_mem_nil, or_false] at hz; rcases hz with rfl | rfl; exact Or.inr ⟨by decide, _, tw_302, nc_of X (fun b hn => (ca_l (ca_r (ca_l (ca_r (ca_r (ca_l (ca_l (ca_l (ca_l (ca_r hn)))))))))))⟩; exact Or.inr ⟨by decide, _, tw_402, nc_of X (fun b hn => (ca_l (ca_r (ca_l (ca_r (ca_l (ca_l (ca_r (ca_l (ca_l (ca_r hn)))))))))))⟩) (by decide) (by decide) tw_618 tn_677 (fun q9 => ?_)
      show qJ G F _ 6 (pU M' (mO G ou f0)) 0 0 23 [(0, .ref g), (1, .int p0), (2, .int p1), (3, .int p2), (4, .ref ou)] [.ref q9]
      refine q_astore (lv' := [(5, .ref q9), (0, .ref g), (1, .int p0), (2, .int p1), (3, .int p2), (4, .ref ou)]) X dL_gather_23 (by decide) rfl ?_
      refine q_iconst (v := 3) X dL_gather_25 (by decide) ?_
      exact q_iret X hr dL_gather_26 (⟨M', f0, rfl, hou2, hV2, Or.inr ⟨_, ho1, congrArg (fun z => some (Value.int z)) (show (3 : Int32) = cOp eUO by decide)⟩⟩)

set_option maxRecDepth 20000 in
theorem h_regrid {l : Launch} {G : gV} {g ou : Nat} {σ : sA} {MV : gMem} {f0 : Nat → Int64} (hl : l.stackTraces = false) (hV : isGV G MV g σ) (hou : MV ou = none) {p0 p1 p2 p3 : Int32} : hC l G yL_regrid cL_regrid 7 (some .int) [(0, 14, 17, 13), (0, 14, 21, 21), (0, 14, 25, 53)] 201 17 2440 [.ref g, .int p0, .int p1, .int p2, .int p3, .ref ou] (pU MV (mO G ou f0)) (hlP G g ou cOp hvI (sp_regrid σ p0 p1 p2 p3)) := by
  refine hC_of (by decide +kernel) (Nat.le_of_ble_eq_true rfl) (fun F hF X hT hr => ?_)
  subst hF
  have X : qX G F cL_regrid 7 RL 201 := X
  have hT : (fc F).exceptionTable.toList = [⟨0, 14, 17, 13⟩, ⟨0, 14, 21, 21⟩, ⟨0, 14, 25, 53⟩] := hT
  obtain ⟨vl, nl, kl, fr, dk, hG⟩ : ∃ vl nl kl fr dk : Nat, MV g = some (oB 11 [.ref vl, .ref nl, .ref kl, .ref fr, .ref dk, .int (nI (aOf σ)), .int (nI (aBg σ))]) := by obtain ⟨vl, nl, kl, fr, dk, _, _, _, _, _, _, _, _, _, hB⟩ := hV; exact ⟨vl, nl, kl, fr, dk, hB.1⟩
  show qJ G F _ 7 (pU MV (mO G ou f0)) 17 2440 0 [(0, .ref g), (1, .int p0), (2, .int p1), (3, .int p2), (4, .int p3), (5, .ref ou)] []
  refine q_aload X dL_regrid_0 5 rfl ?_
  refine q_iconst (v := 0) X dL_regrid_2 (by decide) ?_
  refine q_aload_n X dL_regrid_3 0 rfl ?_
  refine q_iload_n X dL_regrid_4 1 rfl ?_
  refine q_iload_n X dL_regrid_5 2 rfl ?_
  refine q_iload_n X dL_regrid_6 3 rfl ?_
  refine q_iload X dL_regrid_7 4 rfl ?_
  refine x_callVF X (Mc := MV) (c_regrid hl hV) pU_l Y_X11_regrid tw_881 tw_882 tw_883 (pU_l _ _ hG) rfl (by omega) rfl rfl (Nat.le_of_ble_eq_true rfl) (rc' := 0) (rs' := 0) (Nat.le_of_eq (Nat.zero_add _)) (Nat.le_of_eq (Nat.zero_add _)) dL_regrid_9 (fun v M' hp hm => ?_) (fun E M' hx hm => ?_)
  · obtain ⟨⟨n9, rfl⟩, ho1, hv1, hV2⟩ := hp
    obtain ⟨eM, hd⟩ := mJ_pU (mO_d hou) hm
    rw [eM]
    have hou2 := mO_no hd
    show qJ G F _ 7 (pU M' (mO G ou f0)) 0 0 12 [(0, .ref g), (1, .int p0), (2, .int p1), (3, .int p2), (4, .int p3), (5, .ref ou)] [.int n9, .int 0, .ref ou]
    refine q_i2l X dL_regrid_12 ?_
    refine q_lastN X 0 (pU_ou hou2) (rfl) (by decide) (by decide) dL_regrid_13 ?_
    have m_1 : (mU (pU M' (mO G ou f0)) ou (aJ G 1 (vp_updL f0 0 n9.toInt64))) ou = some (aJ G 1 (vp_updL f0 0 n9.toInt64)) := mU_s
    refine q_goto X 29 dL_regrid_14 (by decide) ?_
    refine q_iconst (v := 0) X dL_regrid_29 (by decide) ?_
    exact q_iret X hr dL_regrid_30 (⟨M', vp_updL f0 0 n9.toInt64, pU_up hou2, hou2, hV2, Or.inl ⟨ho1, rfl, n9, hv1.symm, updL_s⟩⟩)
  · obtain ⟨ho1, hV2⟩ := hx
    obtain ⟨eM, hd⟩ := mJ_pU (mO_d hou) hm
    rw [eM]
    have hou2 := mO_no hd
    have hE := x_regrid E ho1
    simp only [List.mem_cons, List.not_mem_nil, or_false] at hE
    rcases hE with rfl | rfl | rfl
    · refine t_catch X [] ⟨0, 14, 17, 13⟩ [⟨0, 14, 21, 21⟩, ⟨0, 14, 25, 53⟩] hT (fun z hz => by cases hz) (by decide) (by decide) tw_302 tn_382 (fun q9 => ?_)
      show qJ G F _ 7 (pU M' (mO G ou f0)) 0 0 17 [(0, .ref g), (1, .int p0), (2, .int p1), (3, .int p2), (4, .int p3), (5, .ref ou)] [.ref q9]
      refine q_astore (lv' := [(6, .ref q9), (0, .ref g), (1, .int p0), (2, .int p1), (3, .int p2), (4, .int p3), (5, .ref ou)]) X dL_regrid_17 (by decide) rfl ?_
      refine q_iconst (v := 1) X dL_regrid_19 (by decide) ?_
      exact q_iret X hr dL_regrid_20 (⟨M', f0, rfl, hou2, hV2, Or.inr ⟨_, ho1, congrArg (fun z => some (Value.int z)) (show (1 : Int32) = cOp eIA by decide)⟩⟩)
    · refine t_catch X [⟨0, 14, 17, 13⟩] ⟨0, 14, 21, 21⟩ [⟨0, 14, 25, 53⟩] hT (fun z hz => by simp only [List.mem_cons, List.not_mem_nil, or_false] at hz; subst hz; exact Or.inr ⟨by decide, _, tw_302, nc_of X (fun b hn => (ca_l (ca_l (ca_r (ca_r (ca_l (ca_l (ca_l (ca_l (ca_r hn))))))))))⟩) (by decide) (by decide) tw_402 tn_414 (fun q9 => ?_)
      show qJ G F _ 7 (pU M' (mO G ou f0)) 0 0 21 [(0, .ref g), (1, .int p0), (2, .int p1), (3, .int p2), (4, .int p3), (5, .ref ou)] [.ref q9]
      refine q_astore (lv' := [(6, .ref q9), (0, .ref g), (1, .int p0), (2, .int p1), (3, .int p2), (4, .int p3), (5, .ref ou)]) X dL_regrid_21 (by decide) rfl ?_
      refine q_iconst (v := 2) X dL_regrid_23 (by decide) ?_
      exact q_iret X hr dL_regrid_24 (⟨M', f0, rfl, hou2, hV2, Or.inr ⟨_, ho1, congrArg (fun z => some (Value.int z)) (show (2 : Int32) = cOp eIO by decide)⟩⟩)
    · refine t_catch X [⟨0, 14, 17, 13⟩, ⟨0, 14, 21, 21⟩] ⟨0, 14, 25, 53⟩ [] hT (fun z hz => by simp only [List.mem_cons, List.not_mem_nil, or_false] at hz; rcases hz with rfl | rfl; exact Or.inr ⟨by decide, _, tw_302, nc_of X (fun b hn => (ca_l (ca_r (ca_l (ca_r (ca_r (ca_l (ca_l (ca_l (ca_l (ca_r hn)))))))))))⟩; exact Or.inr ⟨by decide, _, tw_402, nc_of X (fun b hn => (ca_l (ca_r (ca_l (ca_r (ca_l (ca_l (ca_r (ca_l (ca_l (ca_r hn)))))))))))⟩) (by decide) (by decide) tw_618 tn_677 (fun q9 => ?_)
      show qJ G F _ 7 (pU M' (mO G ou f0)) 0 0 25 [(0, .ref g), (1, .int p0), (2, .int p1), (3, .int p2), (4, .int p3), (5, .ref ou)] [.ref q9]
      refine q_astore (lv' := [(6, .ref q9), (0, .ref g), (1, .int p0), (2, .int p1), (3, .int p2), (4, .int p3), (5, .ref ou)]) X dL_regrid_25 (by decide) rfl ?_
      refine q_iconst (v := 3) X dL_regrid_27 (by decide) ?_
      exact q_iret X hr dL_regrid_28 (⟨M', f0, rfl, hou2, hV2, Or.inr ⟨_, ho1, congrArg (fun z => some (Value.int z)) (show (3 : Int32) = cOp eUO by decide)⟩⟩)

set_option maxRecDepth 20000 in
theorem h_window {l : Launch} {G : gV} {g ou : Nat} {σ : sA} {MV : gMem} {f0 : Nat → Int64} (hl : l.stackTraces = false) (hV : isGV G MV g σ) (hou : MV ou = none) {p0 p1 p2 p3 : Int32} : hC l G yL_window cL_window 7 (some .int) [(0, 14, 17, 13), (0, 14, 21, 21), (0, 14, 25, 53)] 201 12 2420 [.ref g, .int p0, .int p1, .int p2, .int p3, .ref ou] (pU MV (mO G ou f0)) (hlP G g ou cOp hvI (sp_window σ p0 p1 p2 p3)) := by
  refine hC_of (by decide +kernel) (Nat.le_of_ble_eq_true rfl) (fun F hF X hT hr => ?_)
  subst hF
  have X : qX G F cL_window 7 RL 201 := X
  have hT : (fc F).exceptionTable.toList = [⟨0, 14, 17, 13⟩, ⟨0, 14, 21, 21⟩, ⟨0, 14, 25, 53⟩] := hT
  obtain ⟨vl, nl, kl, fr, dk, hG⟩ : ∃ vl nl kl fr dk : Nat, MV g = some (oB 11 [.ref vl, .ref nl, .ref kl, .ref fr, .ref dk, .int (nI (aOf σ)), .int (nI (aBg σ))]) := by obtain ⟨vl, nl, kl, fr, dk, _, _, _, _, _, _, _, _, _, hB⟩ := hV; exact ⟨vl, nl, kl, fr, dk, hB.1⟩
  show qJ G F _ 7 (pU MV (mO G ou f0)) 12 2420 0 [(0, .ref g), (1, .int p0), (2, .int p1), (3, .int p2), (4, .int p3), (5, .ref ou)] []
  refine q_aload X dL_window_0 5 rfl ?_
  refine q_iconst (v := 0) X dL_window_2 (by decide) ?_
  refine q_aload_n X dL_window_3 0 rfl ?_
  refine q_iload_n X dL_window_4 1 rfl ?_
  refine q_iload_n X dL_window_5 2 rfl ?_
  refine q_iload_n X dL_window_6 3 rfl ?_
  refine q_iload X dL_window_7 4 rfl ?_
  refine x_callVF X (Mc := MV) (c_window hl hV) pU_l Y_X11_window tw_891 tw_892 tw_893 (pU_l _ _ hG) rfl (by omega) rfl rfl (Nat.le_of_ble_eq_true rfl) (rc' := 0) (rs' := 0) (Nat.le_of_eq (Nat.zero_add _)) (Nat.le_of_eq (Nat.zero_add _)) dL_window_9 (fun v M' hp hm => ?_) (fun E M' hx hm => ?_)
  · obtain ⟨⟨n9, rfl⟩, ho1, hv1, hV2⟩ := hp
    obtain ⟨eM, hd⟩ := mJ_pU (mO_d hou) hm
    rw [eM]
    have hou2 := mO_no hd
    show qJ G F _ 7 (pU M' (mO G ou f0)) 0 0 12 [(0, .ref g), (1, .int p0), (2, .int p1), (3, .int p2), (4, .int p3), (5, .ref ou)] [.int n9, .int 0, .ref ou]
    refine q_i2l X dL_window_12 ?_
    refine q_lastN X 0 (pU_ou hou2) (rfl) (by decide) (by decide) dL_window_13 ?_
    have m_1 : (mU (pU M' (mO G ou f0)) ou (aJ G 1 (vp_updL f0 0 n9.toInt64))) ou = some (aJ G 1 (vp_updL f0 0 n9.toInt64)) := mU_s
    refine q_goto X 29 dL_window_14 (by decide) ?_
    refine q_iconst (v := 0) X dL_window_29 (by decide) ?_
    exact q_iret X hr dL_window_30 (⟨M', vp_updL f0 0 n9.toInt64, pU_up hou2, hou2, hV2, Or.inl ⟨ho1, rfl, n9, hv1.symm, updL_s⟩⟩)
  · obtain ⟨ho1, hV2⟩ := hx
    obtain ⟨eM, hd⟩ := mJ_pU (mO_d hou) hm
    rw [eM]
    have hou2 := mO_no hd
    have hE := x_window E ho1
    simp only [List.mem_cons, List.not_mem_nil, or_false] at hE
    rcases hE with rfl | rfl | rfl
    · refine t_catch X [] ⟨0, 14, 17, 13⟩ [⟨0, 14, 21, 21⟩, ⟨0, 14, 25, 53⟩] hT (fun z hz => by cases hz) (by decide) (by decide) tw_302 tn_382 (fun q9 => ?_)
      show qJ G F _ 7 (pU M' (mO G ou f0)) 0 0 17 [(0, .ref g), (1, .int p0), (2, .int p1), (3, .int p2), (4, .int p3), (5, .ref ou)] [.ref q9]
      refine q_astore (lv' := [(6, .ref q9), (0, .ref g), (1, .int p0), (2, .int p1), (3, .int p2), (4, .int p3), (5, .ref ou)]) X dL_window_17 (by decide) rfl ?_
      refine q_iconst (v := 1) X dL_window_19 (by decide) ?_
      exact q_iret X hr dL_window_20 (⟨M', f0, rfl, hou2, hV2, Or.inr ⟨_, ho1, congrArg (fun z => some (Value.int z)) (show (1 : Int32) = cOp eIA by decide)⟩⟩)
    · refine t_catch X [⟨0, 14, 17, 13⟩] ⟨0, 14, 21, 21⟩ [⟨0, 14, 25, 53⟩] hT (fun z hz => by simp only [List.mem_cons, List.not_mem_nil, or_false] at hz; subst hz; exact Or.inr ⟨by decide, _, tw_302, nc_of X (fun b hn => (ca_l (ca_l (ca_r (ca_r (ca_l (ca_l (ca_l (ca_l (ca_r hn))))))))))⟩) (by decide) (by decide) tw_402 tn_414 (fun q9 => ?_)
      show qJ G F _ 7 (pU M' (mO G ou f0)) 0 0 21 [(0, .ref g), (1, .int p0), (2, .int p1), (3, .int p2), (4, .int p3), (5, .ref ou)] [.ref q9]
      refine q_astore (lv' := [(6, .ref q9), (0, .ref g), (1, .int p0), (2, .int p1), (3, .int p2), (4, .int p3), (5, .ref ou)]) X dL_window_21 (by decide) rfl ?_
      refine q_iconst (v := 2) X dL_window_23 (by decide) ?_
      exact q_iret X hr dL_window_24 (⟨M', f0, rfl, hou2, hV2, Or.inr ⟨_, ho1, congrArg (fun z => some (Value.int z)) (show (2 : Int32) = cOp eIO by decide)⟩⟩)
    · refine t_catch X [⟨0, 14, 17, 13⟩, ⟨0, 14, 21, 21⟩] ⟨0, 14, 25, 53⟩ [] hT (fun z hz => by simp only [List.mem_cons, List.not_mem_nil, or_false] at hz; rcases hz with rfl | rfl; exact Or.inr ⟨by decide, _, tw_302, nc_of X (fun b hn => (ca_l (ca_r (ca_l (ca_r (ca_r (ca_l (ca_l (ca_l (ca_l (ca_r hn)))))))))))⟩; exact Or.inr ⟨by decide, _, tw_402, nc_of X (fun b hn => (ca_l (ca_r (ca_l (ca_r (ca_l (ca_l (ca_r (ca_l (ca_l (ca_r hn)))))))))))⟩) (by decide) (by decide) tw_618 tn_677 (fun q9 => ?_)
      show qJ G F _ 7 (pU M' (mO G ou f0)) 0 0 25 [(0, .ref g), (1, .int p0), (2, .int p1), (3, .int p2), (4, .int p3), (5, .ref ou)] [.ref q9]
      refine q_astore (lv' := [(6, .ref q9), (0, .ref g), (1, .int p0), (2, .int p1), (3, .int p2), (4, .int p3), (5, .ref ou)]) X dL_window_25 (by decide) rfl ?_
      refine q_iconst (v := 3) X dL_window_27 (by decide) ?_
      exact q_iret X hr dL_window_28 (⟨M', f0, rfl, hou2, hV2, Or.inr ⟨_, ho1, congrArg (fun z => some (Value.int z)) (show (3 : Int32) = cOp eUO by decide)⟩⟩)

set_option maxRecDepth 20000 in
theorem h_swap {l : Launch} {G : gV} {g ou : Nat} {σ : sA} {MV : gMem} {f0 : Nat → Int64} (hl : l.stackTraces = false) (hV : isGV G MV g σ) (hou : MV ou = none) {p0 p1 p2 : Int32} : hC l G yL_swap cL_swap 6 (some .int) [(0, 12, 15, 13), (0, 12, 19, 21), (0, 12, 23, 53)] 201 26 2440 [.ref g, .int p0, .int p1, .int p2, .ref ou] (pU MV (mO G ou f0)) (hlP G g ou cOp hvI (sp_swap σ p0 p1 p2)) := by
  refine hC_of (by decide +kernel) (Nat.le_of_ble_eq_true rfl) (fun F hF X hT hr => ?_)
  subst hF
  have X : qX G F cL_swap 6 RL 201 := X
  have hT : (fc F).exceptionTable.toList = [⟨0, 12, 15, 13⟩, ⟨0, 12, 19, 21⟩, ⟨0, 12, 23, 53⟩] := hT
  obtain ⟨vl, nl, kl, fr, dk, hG⟩ : ∃ vl nl kl fr dk : Nat, MV g = some (oB 11 [.ref vl, .ref nl, .ref kl, .ref fr, .ref dk, .int (nI (aOf σ)), .int (nI (aBg σ))]) := by obtain ⟨vl, nl, kl, fr, dk, _, _, _, _, _, _, _, _, _, hB⟩ := hV; exact ⟨vl, nl, kl, fr, dk, hB.1⟩
  show qJ G F _ 6 (pU MV (mO G ou f0)) 26 2440 0 [(0, .ref g), (1, .int p0), (2, .int p1), (3, .int p2), (4, .ref ou)] []
  refine q_aload X dL_swap_0 4 rfl ?_
  refine q_iconst (v := 0) X dL_swap_2 (by decide) ?_
  refine q_aload_n X dL_swap_3 0 rfl ?_
  refine q_iload_n X dL_swap_4 1 rfl ?_
  refine q_iload_n X dL_swap_5 2 rfl ?_
  refine q_iload_n X dL_swap_6 3 rfl ?_
  refine x_callVF X (Mc := MV) (c_swap hl hV) pU_l Y_X11_swap tw_898 tw_899 tw_900 (pU_l _ _ hG) rfl (by omega) rfl rfl (Nat.le_of_ble_eq_true rfl) (rc' := 0) (rs' := 0) (Nat.le_of_eq (Nat.zero_add _)) (Nat.le_of_eq (Nat.zero_add _)) dL_swap_7 (fun v M' hp hm => ?_) (fun E M' hx hm => ?_)
  · obtain ⟨⟨n9, rfl⟩, ho1, hv1, hV2⟩ := hp
    obtain ⟨eM, hd⟩ := mJ_pU (mO_d hou) hm
    rw [eM]
    have hou2 := mO_no hd
    show qJ G F _ 6 (pU M' (mO G ou f0)) 0 0 10 [(0, .ref g), (1, .int p0), (2, .int p1), (3, .int p2), (4, .ref ou)] [.int n9, .int 0, .ref ou]
    refine q_i2l X dL_swap_10 ?_
    refine q_lastN X 0 (pU_ou hou2) (rfl) (by decide) (by decide) dL_swap_11 ?_
    have m_1 : (mU (pU M' (mO G ou f0)) ou (aJ G 1 (vp_updL f0 0 n9.toInt64))) ou = some (aJ G 1 (vp_updL f0 0 n9.toInt64)) := mU_s
    refine q_goto X 27 dL_swap_12 (by decide) ?_
    refine q_iconst (v := 0) X dL_swap_27 (by decide) ?_
    exact q_iret X hr dL_swap_28 (⟨M', vp_updL f0 0 n9.toInt64, pU_up hou2, hou2, hV2, Or.inl ⟨ho1, rfl, n9, hv1.symm, updL_s⟩⟩)
  · obtain ⟨ho1, hV2⟩ := hx
    obtain ⟨eM, hd⟩ := mJ_pU (mO_d hou) hm
    rw [eM]
    have hou2 := mO_no hd
    have hE := x_swap E ho1
    simp only [List.mem_cons, List.not_mem_nil, or_false] at hE
    rcases hE with rfl | rfl | rfl
    · refine t_catch X [] ⟨0, 12, 15, 13⟩ [⟨0, 12, 19, 21⟩, ⟨0, 12, 23, 53⟩] hT (fun z hz => by cases hz) (by decide) (by decide) tw_302 tn_382 (fun q9 => ?_)
      show qJ G F _ 6 (pU M' (mO G ou f0)) 0 0 15 [(0, .ref g), (1, .int p0), (2, .int p1), (3, .int p2), (4, .ref ou)] [.ref q9]
      refine q_astore (lv' := [(5, .ref q9), (0, .ref g), (1, .int p0), (2, .int p1), (3, .int p2), (4, .ref ou)]) X dL_swap_15 (by decide) rfl ?_
      refine q_iconst (v := 1) X dL_swap_17 (by decide) ?_
      exact q_iret X hr dL_swap_18 (⟨M', f0, rfl, hou2, hV2, Or.inr ⟨_, ho1, congrArg (fun z => some (Value.int z)) (show (1 : Int32) = cOp eIA by decide)⟩⟩)
    · refine t_catch X [⟨0, 12, 15, 13⟩] ⟨0, 12, 19, 21⟩ [⟨0, 12, 23, 53⟩] hT (fun z hz => by simp only [List.mem_cons, List.not_mem_nil, or_false] at hz; subst hz; exact Or.inr ⟨by decide, _, tw_302, nc_of X (fun b hn => (ca_l (ca_l (ca_r (ca_r (ca_l (ca_l (ca_l (ca_l (ca_r hn))))))))))⟩) (by decide) (by decide) tw_402 tn_414 (fun q9 => ?_)
      show qJ G F _ 6 (pU M' (mO G ou f0)) 0 0 19 [(0, .ref g), (1, .int p0), (2, .int p1), (3, .int p2), (4, .ref ou)] [.ref q9]
      refine q_astore (lv' := [(5, .ref q9), (0, .ref g), (1, .int p0), (2, .int p1), (3, .int p2), (4, .ref ou)]) X dL_swap_19 (by decide) rfl ?_
      refine q_iconst (v := 2) X dL_swap_21 (by decide) ?_
      exact q_iret X hr dL_swap_22 (⟨M', f0, rfl, hou2, hV2, Or.inr ⟨_, ho1, congrArg (fun z => some (Value.int z)) (show (2 : Int32) = cOp eIO by decide)⟩⟩)
    · refine t_catch X [⟨0, 12, 15, 13⟩, ⟨0, 12, 19, 21⟩] ⟨0, 12, 23, 53⟩ [] hT (fun z hz => by simp only [List.mem_cons, List.not_mem_nil, or_false] at hz; rcases hz with rfl | rfl; exact Or.inr ⟨by decide, _, tw_302, nc_of X (fun b hn => (ca_l (ca_r (ca_l (ca_r (ca_r (ca_l (ca_l (ca_l (ca_l (ca_r hn)))))))))))⟩; exact Or.inr ⟨by decide, _, tw_402, nc_of X (fun b hn => (ca_l (ca_r (ca_l (ca_r (ca_l (ca_l (ca_r (ca_l (ca_l (ca_r hn)))))))))))⟩) (by decide) (by decide) tw_618 tn_677 (fun q9 => ?_)
      show qJ G F _ 6 (pU M' (mO G ou f0)) 0 0 23 [(0, .ref g), (1, .int p0), (2, .int p1), (3, .int p2), (4, .ref ou)] [.ref q9]
      refine q_astore (lv' := [(5, .ref q9), (0, .ref g), (1, .int p0), (2, .int p1), (3, .int p2), (4, .ref ou)]) X dL_swap_23 (by decide) rfl ?_
      refine q_iconst (v := 3) X dL_swap_25 (by decide) ?_
      exact q_iret X hr dL_swap_26 (⟨M', f0, rfl, hou2, hV2, Or.inr ⟨_, ho1, congrArg (fun z => some (Value.int z)) (show (3 : Int32) = cOp eUO by decide)⟩⟩)

set_option maxRecDepth 20000 in
theorem h_product {l : Launch} {G : gV} {g ou : Nat} {σ : sA} {MV : gMem} {f0 : Nat → Int64} (hl : l.stackTraces = false) (hV : isGV G MV g σ) (hou : MV ou = none) {p0 p1 : Int32} : hC l G yL_product cL_product 5 (some .int) [(0, 10, 13, 13), (0, 10, 17, 21), (0, 10, 21, 53)] 201 19 2440 [.ref g, .int p0, .int p1, .ref ou] (pU MV (mO G ou f0)) (hlP G g ou cOp hvI (sp_product σ p0 p1)) := by
  refine hC_of (by decide +kernel) (Nat.le_of_ble_eq_true rfl) (fun F hF X hT hr => ?_)
  subst hF
  have X : qX G F cL_product 5 RL 201 := X
  have hT : (fc F).exceptionTable.toList = [⟨0, 10, 13, 13⟩, ⟨0, 10, 17, 21⟩, ⟨0, 10, 21, 53⟩] := hT
  obtain ⟨vl, nl, kl, fr, dk, hG⟩ : ∃ vl nl kl fr dk : Nat, MV g = some (oB 11 [.ref vl, .ref nl, .ref kl, .ref fr, .ref dk, .int (nI (aOf σ)), .int (nI (aBg σ))]) := by obtain ⟨vl, nl, kl, fr, dk, _, _, _, _, _, _, _, _, _, hB⟩ := hV; exact ⟨vl, nl, kl, fr, dk, hB.1⟩
  show qJ G F _ 5 (pU MV (mO G ou f0)) 19 2440 0 [(0, .ref g), (1, .int p0), (2, .int p1), (3, .ref ou)] []
  refine q_aload_n X dL_product_0 3 rfl ?_
  refine q_iconst (v := 0) X dL_product_1 (by decide) ?_
  refine q_aload_n X dL_product_2 0 rfl ?_
  refine q_iload_n X dL_product_3 1 rfl ?_
  refine q_iload_n X dL_product_4 2 rfl ?_
  refine x_callVF X (Mc := MV) (c_product hl hV) pU_l Y_X11_product tw_913 tw_914 tw_915 (pU_l _ _ hG) rfl (by omega) rfl rfl (Nat.le_of_ble_eq_true rfl) (rc' := 0) (rs' := 0) (Nat.le_of_eq (Nat.zero_add _)) (Nat.le_of_eq (Nat.zero_add _)) dL_product_5 (fun v M' hp hm => ?_) (fun E M' hx hm => ?_)
  · obtain ⟨⟨n9, rfl⟩, ho1, hv1, hV2⟩ := hp
    obtain ⟨eM, hd⟩ := mJ_pU (mO_d hou) hm
    rw [eM]
    have hou2 := mO_no hd
    show qJ G F _ 5 (pU M' (mO G ou f0)) 0 0 8 [(0, .ref g), (1, .int p0), (2, .int p1), (3, .ref ou)] [.int n9, .int 0, .ref ou]
    refine q_i2l X dL_product_8 ?_
    refine q_lastN X 0 (pU_ou hou2) (rfl) (by decide) (by decide) dL_product_9 ?_
    have m_1 : (mU (pU M' (mO G ou f0)) ou (aJ G 1 (vp_updL f0 0 n9.toInt64))) ou = some (aJ G 1 (vp_updL f0 0 n9.toInt64)) := mU_s
    refine q_goto X 25 dL_product_10 (by decide) ?_
    refine q_iconst (v := 0) X dL_product_25 (by decide) ?_
    exact q_iret X hr dL_product_26 (⟨M', vp_updL f0 0 n9.toInt64, pU_up hou2, hou2, hV2, Or.inl ⟨ho1, rfl, n9, hv1.symm, updL_s⟩⟩)
  · obtain ⟨ho1, hV2⟩ := hx
    obtain ⟨eM, hd⟩ := mJ_pU (mO_d hou) hm
    rw [eM]
    have hou2 := mO_no hd
    have hE := x_product E ho1
    simp only [List.mem_cons, List.not_mem_nil, or_false] at hE
    rcases hE with rfl | rfl | rfl
    · refine t_catch X [] ⟨0, 10, 13, 13⟩ [⟨0, 10, 17, 21⟩, ⟨0, 10, 21, 53⟩] hT (fun z hz => by cases hz) (by decide) (by decide) tw_302 tn_382 (fun q9 => ?_)
      show qJ G F _ 5 (pU M' (mO G ou f0)) 0 0 13 [(0, .ref g), (1, .int p0), (2, .int p1), (3, .ref ou)] [.ref q9]
      refine q_astore (lv' := [(4, .ref q9), (0, .ref g), (1, .int p0), (2, .int p1), (3, .ref ou)]) X dL_product_13 (by decide) rfl ?_
      refine q_iconst (v := 1) X dL_product_15 (by decide) ?_
      exact q_iret X hr dL_product_16 (⟨M', f0, rfl, hou2, hV2, Or.inr ⟨_, ho1, congrArg (fun z => some (Value.int z)) (show (1 : Int32) = cOp eIA by decide)⟩⟩)
    · refine t_catch X [⟨0, 10, 13, 13⟩] ⟨0, 10, 17, 21⟩ [⟨0, 10, 21, 53⟩] hT (fun z hz => by simp only [List.mem_cons, List.not_mem_nil, or_false] at hz; subst hz; exact Or.inr ⟨by decide, _, tw_302, nc_of X (fun b hn => (ca_l (ca_l (ca_r (ca_r (ca_l (ca_l (ca_l (ca_l (ca_r hn))))))))))⟩) (by decide) (by decide) tw_402 tn_414 (fun q9 => ?_)
      show qJ G F _ 5 (pU M' (mO G ou f0)) 0 0 17 [(0, .ref g), (1, .int p0), (2, .int p1), (3, .ref ou)] [.ref q9]
      refine q_astore (lv' := [(4, .ref q9), (0, .ref g), (1, .int p0), (2, .int p1), (3, .ref ou)]) X dL_product_17 (by decide) rfl ?_
      refine q_iconst (v := 2) X dL_product_19 (by decide) ?_
      exact q_iret X hr dL_product_20 (⟨M', f0, rfl, hou2, hV2, Or.inr ⟨_, ho1, congrArg (fun z => some (Value.int z)) (show (2 : Int32) = cOp eIO by decide)⟩⟩)
    · refine t_catch X [⟨0, 10, 13, 13⟩, ⟨0, 10, 17, 21⟩] ⟨0, 10, 21, 53⟩ [] hT (fun z hz => by simp only [List.mem_cons, List.not_mem_nil, or_false] at hz; rcases hz with rfl | rfl; exact Or.inr ⟨by decide, _, tw_302, nc_of X (fun b hn => (ca_l (ca_r (ca_l (ca_r (ca_r (ca_l (ca_l (ca_l (ca_l (ca_r hn)))))))))))⟩; exact Or.inr ⟨by decide, _, tw_402, nc_of X (fun b hn => (ca_l (ca_r (ca_l (ca_r (ca_l (ca_l (ca_r (ca_l (ca_l (ca_r hn)))))))))))⟩) (by decide) (by decide) tw_618 tn_677 (fun q9 => ?_)
      show qJ G F _ 5 (pU M' (mO G ou f0)) 0 0 21 [(0, .ref g), (1, .int p0), (2, .int p1), (3, .ref ou)] [.ref q9]
      refine q_astore (lv' := [(4, .ref q9), (0, .ref g), (1, .int p0), (2, .int p1), (3, .ref ou)]) X dL_product_21 (by decide) rfl ?_
      refine q_iconst (v := 3) X dL_product_23 (by decide) ?_
      exact q_iret X hr dL_product_24 (⟨M', f0, rfl, hou2, hV2, Or.inr ⟨_, ho1, congrArg (fun z => some (Value.int z)) (show (3 : Int32) = cOp eUO by decide)⟩⟩)

set_option maxRecDepth 20000 in
theorem h_shape {l : Launch} {G : gV} {g ou : Nat} {σ : sA} {MV : gMem} {f0 : Nat → Int64} (hl : l.stackTraces = false) (hV : isGV G MV g σ) (hou : MV ou = none) {p0 p1 : Int32} : hC l G yL_shape cL_shape 5 (some .int) [(0, 10, 13, 13)] 201 2 12 [.ref g, .int p0, .int p1, .ref ou] (pU MV (mO G ou f0)) (hlP G g ou cOne hvI (sp_shape σ p0 p1)) := by
  refine hC_of (by decide +kernel) (Nat.le_of_ble_eq_true rfl) (fun F hF X hT hr => ?_)
  subst hF
  have X : qX G F cL_shape 5 RL 201 := X
  have hT : (fc F).exceptionTable.toList = [⟨0, 10, 13, 13⟩] := hT
  obtain ⟨vl, nl, kl, fr, dk, hG⟩ : ∃ vl nl kl fr dk : Nat, MV g = some (oB 11 [.ref vl, .ref nl, .ref kl, .ref fr, .ref dk, .int (nI (aOf σ)), .int (nI (aBg σ))]) := by obtain ⟨vl, nl, kl, fr, dk, _, _, _, _, _, _, _, _, _, hB⟩ := hV; exact ⟨vl, nl, kl, fr, dk, hB.1⟩
  show qJ G F _ 5 (pU MV (mO G ou f0)) 2 12 0 [(0, .ref g), (1, .int p0), (2, .int p1), (3, .ref ou)] []
  refine q_aload_n X dL_shape_0 3 rfl ?_
  refine q_iconst (v := 0) X dL_shape_1 (by decide) ?_
  refine q_aload_n X dL_shape_2 0 rfl ?_
  refine q_iload_n X dL_shape_3 1 rfl ?_
  refine q_iload_n X dL_shape_4 2 rfl ?_
  refine x_callVF X (Mc := MV) (c_shape hl hV) pU_l Y_X11_shape tw_939 tw_940 tw_941 (pU_l _ _ hG) rfl (by omega) rfl rfl (Nat.le_of_ble_eq_true rfl) (rc' := 0) (rs' := 0) (Nat.le_of_eq (Nat.zero_add _)) (Nat.le_of_eq (Nat.zero_add _)) dL_shape_5 (fun v M' hp hm => ?_) (fun E M' hx hm => ?_)
  · obtain ⟨⟨n9, rfl⟩, ho1, hv1, hV2⟩ := hp
    obtain ⟨eM, hd⟩ := mJ_pU (mO_d hou) hm
    rw [eM]
    have hou2 := mO_no hd
    show qJ G F _ 5 (pU M' (mO G ou f0)) 0 0 8 [(0, .ref g), (1, .int p0), (2, .int p1), (3, .ref ou)] [.int n9, .int 0, .ref ou]
    refine q_i2l X dL_shape_8 ?_
    refine q_lastN X 0 (pU_ou hou2) (rfl) (by decide) (by decide) dL_shape_9 ?_
    have m_1 : (mU (pU M' (mO G ou f0)) ou (aJ G 1 (vp_updL f0 0 n9.toInt64))) ou = some (aJ G 1 (vp_updL f0 0 n9.toInt64)) := mU_s
    refine q_goto X 17 dL_shape_10 (by decide) ?_
    refine q_iconst (v := 0) X dL_shape_17 (by decide) ?_
    exact q_iret X hr dL_shape_18 (⟨M', vp_updL f0 0 n9.toInt64, pU_up hou2, hou2, hV2, Or.inl ⟨ho1, rfl, n9, hv1.symm, updL_s⟩⟩)
  · obtain ⟨ho1, hV2⟩ := hx
    obtain ⟨eM, hd⟩ := mJ_pU (mO_d hou) hm
    rw [eM]
    have hou2 := mO_no hd
    have hE := x_shape E ho1
    simp only [List.mem_cons, List.not_mem_nil, or_false] at hE
    subst hE
    refine t_catch X [] ⟨0, 10, 13, 13⟩ [] hT (fun z hz => by cases hz) (by decide) (by decide) tw_302 tn_382 (fun q9 => ?_)
    show qJ G F _ 5 (pU M' (mO G ou f0)) 0 0 13 [(0, .ref g), (1, .int p0), (2, .int p1), (3, .ref ou)] [.ref q9]
    refine q_astore (lv' := [(4, .ref q9), (0, .ref g), (1, .int p0), (2, .int p1), (3, .ref ou)]) X dL_shape_13 (by decide) rfl ?_
    refine q_iconst (v := 1) X dL_shape_15 (by decide) ?_
    exact q_iret X hr dL_shape_16 (⟨M', f0, rfl, hou2, hV2, Or.inr ⟨_, ho1, congrArg (fun z => some (Value.int z)) (show (1 : Int32) = cOne eIA by decide)⟩⟩)

set_option maxRecDepth 20000 in
theorem h_cell {l : Launch} {G : gV} {g ou : Nat} {σ : sA} {MV : gMem} {f0 : Nat → Int64} (hl : l.stackTraces = false) (hV : isGV G MV g σ) (hou : MV ou = none) {p0 p1 p2 p3 : Int32} : hC l G yL_cell cL_cell 7 (some .int) [(0, 13, 16, 13), (0, 13, 20, 21), (0, 13, 24, 53)] 201 2 12 [.ref g, .int p0, .int p1, .int p2, .int p3, .ref ou] (pU MV (mO G ou f0)) (hlP G g ou cOp hvL (sp_cell σ p0 p1 p2 p3)) := by
  refine hC_of (by decide +kernel) (Nat.le_of_ble_eq_true rfl) (fun F hF X hT hr => ?_)
  subst hF
  have X : qX G F cL_cell 7 RL 201 := X
  have hT : (fc F).exceptionTable.toList = [⟨0, 13, 16, 13⟩, ⟨0, 13, 20, 21⟩, ⟨0, 13, 24, 53⟩] := hT
  obtain ⟨vl, nl, kl, fr, dk, hG⟩ : ∃ vl nl kl fr dk : Nat, MV g = some (oB 11 [.ref vl, .ref nl, .ref kl, .ref fr, .ref dk, .int (nI (aOf σ)), .int (nI (aBg σ))]) := by obtain ⟨vl, nl, kl, fr, dk, _, _, _, _, _, _, _, _, _, hB⟩ := hV; exact ⟨vl, nl, kl, fr, dk, hB.1⟩
  show qJ G F _ 7 (pU MV (mO G ou f0)) 2 12 0 [(0, .ref g), (1, .int p0), (2, .int p1), (3, .int p2), (4, .int p3), (5, .ref ou)] []
  refine q_aload X dL_cell_0 5 rfl ?_
  refine q_iconst (v := 0) X dL_cell_2 (by decide) ?_
  refine q_aload_n X dL_cell_3 0 rfl ?_
  refine q_iload_n X dL_cell_4 1 rfl ?_
  refine q_iload_n X dL_cell_5 2 rfl ?_
  refine q_iload_n X dL_cell_6 3 rfl ?_
  refine q_iload X dL_cell_7 4 rfl ?_
  refine x_callVF X (Mc := MV) (c_cell hl hV) pU_l Y_X11_cell tw_1114 tw_1115 tw_1116 (pU_l _ _ hG) rfl (by omega) rfl rfl (Nat.le_of_ble_eq_true rfl) (rc' := 0) (rs' := 0) (Nat.le_of_eq (Nat.zero_add _)) (Nat.le_of_eq (Nat.zero_add _)) dL_cell_9 (fun v M' hp hm => ?_) (fun E M' hx hm => ?_)
  · obtain ⟨⟨n9, rfl⟩, ho1, hv1, hV2⟩ := hp
    obtain ⟨eM, hd⟩ := mJ_pU (mO_d hou) hm
    rw [eM]
    have hou2 := mO_no hd
    show qJ G F _ 7 (pU M' (mO G ou f0)) 0 0 12 [(0, .ref g), (1, .int p0), (2, .int p1), (3, .int p2), (4, .int p3), (5, .ref ou)] [.long n9, .int 0, .ref ou]
    refine q_lastN X 0 (pU_ou hou2) (rfl) (by decide) (by decide) dL_cell_12 ?_
    have m_1 : (mU (pU M' (mO G ou f0)) ou (aJ G 1 (vp_updL f0 0 n9))) ou = some (aJ G 1 (vp_updL f0 0 n9)) := mU_s
    refine q_goto X 28 dL_cell_13 (by decide) ?_
    refine q_iconst (v := 0) X dL_cell_28 (by decide) ?_
    exact q_iret X hr dL_cell_29 (⟨M', vp_updL f0 0 n9, pU_up hou2, hou2, hV2, Or.inl ⟨ho1, rfl, n9, hv1.symm, updL_s⟩⟩)
  · obtain ⟨ho1, hV2⟩ := hx
    obtain ⟨eM, hd⟩ := mJ_pU (mO_d hou) hm
    rw [eM]
    have hou2 := mO_no hd
    have hE := x_cell E ho1
    simp only [List.mem_cons, List.not_mem_nil, or_false] at hE
    rcases hE with rfl | rfl | rfl
    · refine t_catch X [] ⟨0, 13, 16, 13⟩ [⟨0, 13, 20, 21⟩, ⟨0, 13, 24, 53⟩] hT (fun z hz => by cases hz) (by decide) (by decide) tw_302 tn_382 (fun q9 => ?_)
      show qJ G F _ 7 (pU M' (mO G ou f0)) 0 0 16 [(0, .ref g), (1, .int p0), (2, .int p1), (3, .int p2), (4, .int p3), (5, .ref ou)] [.ref q9]
      refine q_astore (lv' := [(6, .ref q9), (0, .ref g), (1, .int p0), (2, .int p1), (3, .int p2), (4, .int p3), (5, .ref ou)]) X dL_cell_16 (by decide) rfl ?_
      refine q_iconst (v := 1) X dL_cell_18 (by decide) ?_
      exact q_iret X hr dL_cell_19 (⟨M', f0, rfl, hou2, hV2, Or.inr ⟨_, ho1, congrArg (fun z => some (Value.int z)) (show (1 : Int32) = cOp eIA by decide)⟩⟩)
    · refine t_catch X [⟨0, 13, 16, 13⟩] ⟨0, 13, 20, 21⟩ [⟨0, 13, 24, 53⟩] hT (fun z hz => by simp only [List.mem_cons, List.not_mem_nil, or_false] at hz; subst hz; exact Or.inr ⟨by decide, _, tw_302, nc_of X (fun b hn => (ca_l (ca_l (ca_r (ca_r (ca_l (ca_l (ca_l (ca_l (ca_r hn))))))))))⟩) (by decide) (by decide) tw_402 tn_414 (fun q9 => ?_)
      show qJ G F _ 7 (pU M' (mO G ou f0)) 0 0 20 [(0, .ref g), (1, .int p0), (2, .int p1), (3, .int p2), (4, .int p3), (5, .ref ou)] [.ref q9]
      refine q_astore (lv' := [(6, .ref q9), (0, .ref g), (1, .int p0), (2, .int p1), (3, .int p2), (4, .int p3), (5, .ref ou)]) X dL_cell_20 (by decide) rfl ?_
      refine q_iconst (v := 2) X dL_cell_22 (by decide) ?_
      exact q_iret X hr dL_cell_23 (⟨M', f0, rfl, hou2, hV2, Or.inr ⟨_, ho1, congrArg (fun z => some (Value.int z)) (show (2 : Int32) = cOp eIO by decide)⟩⟩)
    · refine t_catch X [⟨0, 13, 16, 13⟩, ⟨0, 13, 20, 21⟩] ⟨0, 13, 24, 53⟩ [] hT (fun z hz => by simp only [List.mem_cons, List.not_mem_nil, or_false] at hz; rcases hz with rfl | rfl; exact Or.inr ⟨by decide, _, tw_302, nc_of X (fun b hn => (ca_l (ca_r (ca_l (ca_r (ca_r (ca_l (ca_l (ca_l (ca_l (ca_r hn)))))))))))⟩; exact Or.inr ⟨by decide, _, tw_402, nc_of X (fun b hn => (ca_l (ca_r (ca_l (ca_r (ca_l (ca_l (ca_r (ca_l (ca_l (ca_r hn)))))))))))⟩) (by decide) (by decide) tw_618 tn_677 (fun q9 => ?_)
      show qJ G F _ 7 (pU M' (mO G ou f0)) 0 0 24 [(0, .ref g), (1, .int p0), (2, .int p1), (3, .int p2), (4, .int p3), (5, .ref ou)] [.ref q9]
      refine q_astore (lv' := [(6, .ref q9), (0, .ref g), (1, .int p0), (2, .int p1), (3, .int p2), (4, .int p3), (5, .ref ou)]) X dL_cell_24 (by decide) rfl ?_
      refine q_iconst (v := 3) X dL_cell_26 (by decide) ?_
      exact q_iret X hr dL_cell_27 (⟨M', f0, rfl, hou2, hV2, Or.inr ⟨_, ho1, congrArg (fun z => some (Value.int z)) (show (3 : Int32) = cOp eUO by decide)⟩⟩)

set_option maxRecDepth 20000 in
theorem h_all {l : Launch} {G : gV} {g ou : Nat} {σ : sA} {MV : gMem} {f0 : Nat → Int64} (hl : l.stackTraces = false) (hV : isGV G MV g σ) (hou : MV ou = none) {p0 p1 : Int32} : hC l G yL_all cL_all 5 (some .int) [(0, 9, 12, 13), (0, 9, 16, 53)] 201 4 21 [.ref g, .int p0, .int p1, .ref ou] (pU MV (mO G ou f0)) (hlP G g ou cAl hvL (sp_all σ p0 p1)) := by
  refine hC_of (by decide +kernel) (Nat.le_of_ble_eq_true rfl) (fun F hF X hT hr => ?_)
  subst hF
  have X : qX G F cL_all 5 RL 201 := X
  have hT : (fc F).exceptionTable.toList = [⟨0, 9, 12, 13⟩, ⟨0, 9, 16, 53⟩] := hT
  obtain ⟨vl, nl, kl, fr, dk, hG⟩ : ∃ vl nl kl fr dk : Nat, MV g = some (oB 11 [.ref vl, .ref nl, .ref kl, .ref fr, .ref dk, .int (nI (aOf σ)), .int (nI (aBg σ))]) := by obtain ⟨vl, nl, kl, fr, dk, _, _, _, _, _, _, _, _, _, hB⟩ := hV; exact ⟨vl, nl, kl, fr, dk, hB.1⟩
  show qJ G F _ 5 (pU MV (mO G ou f0)) 4 21 0 [(0, .ref g), (1, .int p0), (2, .int p1), (3, .ref ou)] []
  refine q_aload_n X dL_all_0 3 rfl ?_
  refine q_iconst (v := 0) X dL_all_1 (by decide) ?_
  refine q_aload_n X dL_all_2 0 rfl ?_
  refine q_iload_n X dL_all_3 1 rfl ?_
  refine q_iload_n X dL_all_4 2 rfl ?_
  refine x_callVF X (Mc := MV) (c_all hl hV) pU_l Y_X11_all tw_1124 tw_1125 tw_1126 (pU_l _ _ hG) rfl (by omega) rfl rfl (Nat.le_of_ble_eq_true rfl) (rc' := 0) (rs' := 0) (Nat.le_of_eq (Nat.zero_add _)) (Nat.le_of_eq (Nat.zero_add _)) dL_all_5 (fun v M' hp hm => ?_) (fun E M' hx hm => ?_)
  · obtain ⟨⟨n9, rfl⟩, ho1, hv1, hV2⟩ := hp
    obtain ⟨eM, hd⟩ := mJ_pU (mO_d hou) hm
    rw [eM]
    have hou2 := mO_no hd
    show qJ G F _ 5 (pU M' (mO G ou f0)) 0 0 8 [(0, .ref g), (1, .int p0), (2, .int p1), (3, .ref ou)] [.long n9, .int 0, .ref ou]
    refine q_lastN X 0 (pU_ou hou2) (rfl) (by decide) (by decide) dL_all_8 ?_
    have m_1 : (mU (pU M' (mO G ou f0)) ou (aJ G 1 (vp_updL f0 0 n9))) ou = some (aJ G 1 (vp_updL f0 0 n9)) := mU_s
    refine q_goto X 20 dL_all_9 (by decide) ?_
    refine q_iconst (v := 0) X dL_all_20 (by decide) ?_
    exact q_iret X hr dL_all_21 (⟨M', vp_updL f0 0 n9, pU_up hou2, hou2, hV2, Or.inl ⟨ho1, rfl, n9, hv1.symm, updL_s⟩⟩)
  · obtain ⟨ho1, hV2⟩ := hx
    obtain ⟨eM, hd⟩ := mJ_pU (mO_d hou) hm
    rw [eM]
    have hou2 := mO_no hd
    have hE := x_all E ho1
    simp only [List.mem_cons, List.not_mem_nil, or_false] at hE
    rcases hE with rfl | rfl
    · refine t_catch X [] ⟨0, 9, 12, 13⟩ [⟨0, 9, 16, 53⟩] hT (fun z hz => by cases hz) (by decide) (by decide) tw_302 tn_382 (fun q9 => ?_)
      show qJ G F _ 5 (pU M' (mO G ou f0)) 0 0 12 [(0, .ref g), (1, .int p0), (2, .int p1), (3, .ref ou)] [.ref q9]
      refine q_astore (lv' := [(4, .ref q9), (0, .ref g), (1, .int p0), (2, .int p1), (3, .ref ou)]) X dL_all_12 (by decide) rfl ?_
      refine q_iconst (v := 1) X dL_all_14 (by decide) ?_
      exact q_iret X hr dL_all_15 (⟨M', f0, rfl, hou2, hV2, Or.inr ⟨_, ho1, congrArg (fun z => some (Value.int z)) (show (1 : Int32) = cAl eIA by decide)⟩⟩)
    · refine t_catch X [⟨0, 9, 12, 13⟩] ⟨0, 9, 16, 53⟩ [] hT (fun z hz => by simp only [List.mem_cons, List.not_mem_nil, or_false] at hz; subst hz; exact Or.inr ⟨by decide, _, tw_302, nc_of X (fun b hn => (ca_l (ca_r (ca_l (ca_r (ca_r (ca_l (ca_l (ca_l (ca_l (ca_r hn)))))))))))⟩) (by decide) (by decide) tw_618 tn_677 (fun q9 => ?_)
      show qJ G F _ 5 (pU M' (mO G ou f0)) 0 0 16 [(0, .ref g), (1, .int p0), (2, .int p1), (3, .ref ou)] [.ref q9]
      refine q_astore (lv' := [(4, .ref q9), (0, .ref g), (1, .int p0), (2, .int p1), (3, .ref ou)]) X dL_all_16 (by decide) rfl ?_
      refine q_iconst (v := 2) X dL_all_18 (by decide) ?_
      exact q_iret X hr dL_all_19 (⟨M', f0, rfl, hou2, hV2, Or.inr ⟨_, ho1, congrArg (fun z => some (Value.int z)) (show (2 : Int32) = cAl eUO by decide)⟩⟩)

set_option maxRecDepth 20000 in
theorem h_count {l : Launch} {G : gV} {g ou : Nat} {σ : sA} {MV : gMem} {f0 : Nat → Int64} (hl : l.stackTraces = false) (hV : isGV G MV g σ) (hou : MV ou = none) {p0 : Int32} : hC l G yL_count cL_count 4 (some .int) [(0, 9, 12, 13)] 201 2 12 [.ref g, .int p0, .ref ou] (pU MV (mO G ou f0)) (hlP G g ou cOne hvI (sp_count σ p0)) := by
  refine hC_of (by decide +kernel) (Nat.le_of_ble_eq_true rfl) (fun F hF X hT hr => ?_)
  subst hF
  have X : qX G F cL_count 4 RL 201 := X
  have hT : (fc F).exceptionTable.toList = [⟨0, 9, 12, 13⟩] := hT
  obtain ⟨vl, nl, kl, fr, dk, hG⟩ : ∃ vl nl kl fr dk : Nat, MV g = some (oB 11 [.ref vl, .ref nl, .ref kl, .ref fr, .ref dk, .int (nI (aOf σ)), .int (nI (aBg σ))]) := by obtain ⟨vl, nl, kl, fr, dk, _, _, _, _, _, _, _, _, _, hB⟩ := hV; exact ⟨vl, nl, kl, fr, dk, hB.1⟩
  show qJ G F _ 4 (pU MV (mO G ou f0)) 2 12 0 [(0, .ref g), (1, .int p0), (2, .ref ou)] []
  refine q_aload_n X dL_count_0 2 rfl ?_
  refine q_iconst (v := 0) X dL_count_1 (by decide) ?_
  refine q_aload_n X dL_count_2 0 rfl ?_
  refine q_iload_n X dL_count_3 1 rfl ?_
  refine x_callVF X (Mc := MV) (c_count hl hV) pU_l Y_X11_count tw_1135 tw_1136 tw_1137 (pU_l _ _ hG) rfl (by omega) rfl rfl (Nat.le_of_ble_eq_true rfl) (rc' := 0) (rs' := 0) (Nat.le_of_eq (Nat.zero_add _)) (Nat.le_of_eq (Nat.zero_add _)) dL_count_4 (fun v M' hp hm => ?_) (fun E M' hx hm => ?_)
  · obtain ⟨ho1, hv1, hV2⟩ := hp
    obtain ⟨n9, hn9⟩ := vi_count ho1
    rw [hn9] at hv1
    subst hv1
    have hv1 := hn9.symm
    obtain ⟨eM, hd⟩ := mJ_pU (mO_d hou) hm
    rw [eM]
    have hou2 := mO_no hd
    show qJ G F _ 4 (pU M' (mO G ou f0)) 0 0 7 [(0, .ref g), (1, .int p0), (2, .ref ou)] [.int n9, .int 0, .ref ou]
    refine q_i2l X dL_count_7 ?_
    refine q_lastN X 0 (pU_ou hou2) (rfl) (by decide) (by decide) dL_count_8 ?_
    have m_1 : (mU (pU M' (mO G ou f0)) ou (aJ G 1 (vp_updL f0 0 n9.toInt64))) ou = some (aJ G 1 (vp_updL f0 0 n9.toInt64)) := mU_s
    refine q_goto X 15 dL_count_9 (by decide) ?_
    refine q_iconst (v := 0) X dL_count_15 (by decide) ?_
    exact q_iret X hr dL_count_16 (⟨M', vp_updL f0 0 n9.toInt64, pU_up hou2, hou2, hV2, Or.inl ⟨ho1, rfl, n9, hv1.symm, updL_s⟩⟩)
  · obtain ⟨ho1, hV2⟩ := hx
    obtain ⟨eM, hd⟩ := mJ_pU (mO_d hou) hm
    rw [eM]
    have hou2 := mO_no hd
    have hE := x_count E ho1
    simp only [List.mem_cons, List.not_mem_nil, or_false] at hE
    subst hE
    refine t_catch X [] ⟨0, 9, 12, 13⟩ [] hT (fun z hz => by cases hz) (by decide) (by decide) tw_302 tn_382 (fun q9 => ?_)
    show qJ G F _ 4 (pU M' (mO G ou f0)) 0 0 12 [(0, .ref g), (1, .int p0), (2, .ref ou)] [.ref q9]
    refine q_astore_n (lv' := [(3, .ref q9), (0, .ref g), (1, .int p0), (2, .ref ou)]) X dL_count_12 (by decide) rfl ?_
    refine q_iconst (v := 1) X dL_count_13 (by decide) ?_
    exact q_iret X hr dL_count_14 (⟨M', f0, rfl, hou2, hV2, Or.inr ⟨_, ho1, congrArg (fun z => some (Value.int z)) (show (1 : Int32) = cOne eIA by decide)⟩⟩)
