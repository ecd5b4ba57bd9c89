/-! GridVault's small helpers -/
section
variable {G : gV} {F : gF} {Q : State → Prop} {nL : Nat} {M : gMem} {rc rs pc k : Nat} {lv : List (Nat × Value)} {st : List Value} {cc : ByteArray} {own : String}
theorem q_castN (X : qX G F cc nL own k) {index a ci : Nat} {fs0 : List Value} (w : Cond.classLink own index "GridVault$Node" ∈ gT) (hc : isNC ci) (ha : M a = some (oB ci fs0)) (d : decode cc pc = .ok (.checkcast index, 3)) (kk : qJ G F Q nL M rc rs (pc + 3) lv (.ref a :: st)) : qJ G F Q nL M rc rs pc lv (.ref a :: st) := by
  rcases hc with rfl | rfl | rfl | rfl | rfl | rfl
  · exact q_castY X w tn_1458 ha rfl d kk
  · exact q_castY X w tn_1459 ha rfl d kk
  · exact q_castY X w tn_1460 ha rfl d kk
  · exact q_castY X w tn_1461 ha rfl d kk
  · exact q_castY X w tn_1462 ha rfl d kk
  · exact q_castY X w tn_1463 ha rfl d kk
end

set_option maxRecDepth 20000 in
theorem c_need {l : Launch} {G : gV} {M : gMem} {b : Int32} (hl : l.stackTraces = false) : xC l G yX11_need cX11_need 1 none 6 1 6 [.int b] M (fun v M' => v = none ∧ b ≠ 0 ∧ M' = M) (fun E M' => E = eIA ∧ b = 0 ∧ M' = M) := by
  refine xC_of (by decide +kernel) (Nat.le_of_ble_eq_true rfl) (fun F hF X hN hr hn => ?_)
  subst hF
  have X : qX G F cX11_need 1 RX11 6 := X
  show qJ G F _ 1 M 1 6 0 [(0, .int b)] []
  refine q_iload_n X dX11_need_0 0 rfl ?_
  refine q_if_ne X 15 dX11_need_1 (by decide) (fun c1 => ?_) (fun c1 => ?_)
  · exact x_ret (q_vret X hr dX11_need_15 (⟨rfl, c1, rfl⟩))
  · exact x_throwW X rfl hN hl xe_IA tw_380 tw_20 (s_299 X) dX11_need_4 dX11_need_7 dX11_need_8 dX11_need_11 dX11_need_14 (by omega) (Nat.le_of_ble_eq_true rfl) (by omega) (by omega) (⟨rfl, c1, rfl⟩)

set_option maxRecDepth 20000 in
theorem c_need1 {l : Launch} {G : gV} {M : gMem} : qC l G yX11_need cX11_need 1 none 1 0 0 [.int 1] M (pV M) := by
  refine qC_of (by decide +kernel) (Nat.le_of_ble_eq_true rfl) (fun F hF X hr hn => ?_)
  subst hF
  have X : qX G F cX11_need 1 RX11 1 := X
  show qJ G F _ 1 M 0 0 0 [(0, .int 1)] []
  refine q_iload_n X dX11_need_0 0 rfl ?_
  refine q_if_ne X 15 dX11_need_1 (by decide) (fun c_1 => ?_) (fun c_1 => absurd c_1 (by decide))
  exact q_vret X hr dX11_need_15 (⟨rfl, rfl⟩)

theorem nI_ltk {n k : Nat} (hn : n ≤ 4096) (hk : k ≤ 4096) : nI n < nI k ↔ n < k := by
  rw [Int32.lt_iff_toInt_lt, nI_toInt (by omega), nI_toInt (by omega)]; omega
theorem nI_lt150 {n : Nat} (hn : n ≤ 4096) : nI n < 150 ↔ n < 150 := nI_ltk hn (by decide)

set_option maxRecDepth 20000 in
theorem c_needRoom {l : Launch} {G : gV} {M : gMem} {g vl nl kl fr dk en : Nat} {ns : List Nat} {w5 w6 : Int32} (hl : l.stackTraces = false) (hG : M g = some (oB 11 [.ref vl, .ref nl, .ref kl, .ref fr, .ref dk, .int w5, .int w6])) (hL : isList G M nl en ns) : xC l G yX11_needRoom cX11_needRoom 1 none 6 1 6 [.ref g] M (fun v M' => v = none ∧ ns.length < 150 ∧ M' = M) (fun E M' => E = eIO ∧ 150 ≤ ns.length ∧ M' = M) := by
  refine xC_of (by decide +kernel) (Nat.le_of_ble_eq_true rfl) (fun F hF X hN hr hn => ?_)
  subst hF
  have X : qX G F cX11_needRoom 1 RX11 6 := X
  obtain ⟨mv, hL1⟩ := id hL.2.1
  have hlen := hL.1
  show qJ G F _ 1 M 1 6 0 [(0, .ref g)] []
  refine q_aload_n X dX11_needRoom_0 0 rfl ?_
  refine q_get X hG rfl in_RX11 1 (by decide) tw_278 rfl rfl dX11_needRoom_1 ?_
  refine q_callF X (x := ⟨"java/util/List", "size", "()I"⟩) (c_list_size hL) Y_Jx4a65c_size_8abf5 tw_471 tw_474 tw_476 tn_473 tn_472 tn_477 tn_475 tn_137 (by decide +kernel) hL1 rfl (by omega) rfl rfl (Nat.le_of_ble_eq_true rfl) (Nat.le_refl _) (Nat.le_refl _) dX11_needRoom_4 (fun v M' hp _ => ?_)
  obtain ⟨rfl, eM⟩ := hp
  rw [eM]
  clear eM
  show qJ G F _ 1 M _ _ 9 [(0, .ref g)] [.int (nI ns.length)]
  refine q_sipush (v := 150) X dX11_needRoom_9 (by decide) ?_
  refine q_icmp_lt X 26 dX11_needRoom_12 (by decide) (fun c1 => ?_) (fun c1 => ?_)
  · exact x_ret (q_vret X hr dX11_needRoom_26 (⟨rfl, (nI_lt150 hlen).mp c1, rfl⟩))
  · exact x_throwW X rfl hN hl xe_IO tw_412 tw_21 (s_301 X) dX11_needRoom_15 dX11_needRoom_18 dX11_needRoom_19 dX11_needRoom_22 dX11_needRoom_25 (by omega) (Nat.le_of_ble_eq_true rfl) (by omega) (by omega) (⟨rfl, Nat.le_of_not_lt (fun z => c1 ((nI_lt150 hlen).mpr z)), rfl⟩)

set_option maxRecDepth 20000 in
theorem c_needLimits {l : Launch} {G : gV} {M : gMem} {a : Nat} {n d : Int32} {lo hi : Nat → Int32} (hl : l.stackTraces = false) (hS : isShape G M a n lo hi) : xC l G yX11_needLimits cX11_needLimits 2 none 6 1 6 [.ref a, .int d] M (fun v M' => v = none ∧ (¬ sWithin lo hi = 0 ∧ d < 40) ∧ M' = M) (fun E M' => E = eUO ∧ ¬ (¬ sWithin lo hi = 0 ∧ d < 40) ∧ M' = M) := by
  refine xC_of (by decide +kernel) (Nat.le_of_ble_eq_true rfl) (fun F hF X hN hr hn => ?_)
  subst hF
  have X : qX G F cX11_needLimits 2 RX11 6 := X
  obtain ⟨sb, sc, sd, sp, s1, -⟩ := id hS
  show qJ G F _ 2 M 1 6 0 [(0, .ref a), (1, .int d)] []
  refine q_aload_n X dX11_needLimits_0 0 rfl ?_
  refine q_callVp X (c_X7_isWithinLimits hS) Y_X7_isWithinLimits tw_671 tw_672 tw_673 s1 rfl (by omega) rfl rfl (Nat.le_of_ble_eq_true rfl) dX11_needLimits_1 ?_
  refine q_if_eq X 13 dX11_needLimits_4 (by decide) (fun c1 => ?_) (fun c1 => ?_)
  · exact x_throwW X rfl hN hl xe_UO tw_675 tw_25 (s_306 X) dX11_needLimits_13 dX11_needLimits_16 dX11_needLimits_17 dX11_needLimits_20 dX11_needLimits_23 (by omega) (Nat.le_of_ble_eq_true rfl) (by omega) (by omega) (⟨rfl, (fun z => z.1 c1), rfl⟩)
  · refine q_iload_n X dX11_needLimits_7 1 rfl ?_
    refine q_bipush (v := 40) X dX11_needLimits_8 (by decide) ?_
    refine q_icmp_lt X 24 dX11_needLimits_10 (by decide) (fun c2 => ?_) (fun c2 => ?_)
    · exact x_ret (q_vret X hr dX11_needLimits_24 (⟨rfl, ⟨c1, c2⟩, rfl⟩))
    · exact x_throwW X rfl hN hl xe_UO tw_675 tw_25 (s_306 X) dX11_needLimits_13 dX11_needLimits_16 dX11_needLimits_17 dX11_needLimits_20 dX11_needLimits_23 (by omega) (Nat.le_of_ble_eq_true rfl) (by omega) (by omega) (⟨rfl, (fun z => c2 z.2), rfl⟩)

set_option maxRecDepth 20000 in
theorem c_deskIndex {l : Launch} {G : gV} {M : gMem} {g vl nl kl fr dk : Nat} {w5 w6 n x y z : Int32} {lo hi : Nat → Int32} (hl : l.stackTraces = false) (hG : M g = some (oB 11 [.ref vl, .ref nl, .ref kl, .ref fr, .ref dk, .int w5, .int w6])) (hS : isShape G M fr n lo hi) : xC l G yX11_deskIndex cX11_deskIndex 5 (some .int) 6 1 6 [.ref g, .int x, .int y, .int z] M (fun v M' => v = some (.int (sIdx n lo hi x y z)) ∧ 0 ≤ sIdx n lo hi x y z ∧ M' = M) (fun E M' => E = eIO ∧ ¬ 0 ≤ sIdx n lo hi x y z ∧ M' = M) := by
  refine xC_of (by decide +kernel) (Nat.le_of_ble_eq_true rfl) (fun F hF X hN hr hn => ?_)
  subst hF
  have X : qX G F cX11_deskIndex 5 RX11 6 := X
  obtain ⟨sb, sc, sd, sp, s1, -⟩ := id hS
  show qJ G F _ 5 M 1 6 0 [(0, .ref g), (1, .int x), (2, .int y), (3, .int z)] []
  refine q_aload_n X dX11_deskIndex_0 0 rfl ?_
  refine q_get X hG rfl in_RX11 3 (by decide) tw_280 rfl rfl dX11_deskIndex_1 ?_
  refine q_iload_n X dX11_deskIndex_4 1 rfl ?_
  refine q_iload_n X dX11_deskIndex_5 2 rfl ?_
  refine q_iload_n X dX11_deskIndex_6 3 rfl ?_
  refine q_callVp X (c_X7_indexOf hS) Y_X7_indexOf tw_411 tw_262 tw_263 s1 rfl (by omega) rfl rfl (Nat.le_of_ble_eq_true rfl) dX11_deskIndex_7 ?_
  refine q_istore (lv' := [(4, .int (sIdx n lo hi x y z)), (0, .ref g), (1, .int x), (2, .int y), (3, .int z)]) X dX11_deskIndex_10 (by decide) rfl ?_
  refine q_iload X dX11_deskIndex_12 0 rfl ?_
  refine q_if_ge X 27 dX11_deskIndex_14 (by decide) (fun c1 => ?_) (fun c1 => ?_)
  · refine q_iload X dX11_deskIndex_27 0 rfl ?_
    exact x_ret (q_iret X hr dX11_deskIndex_29 (⟨rfl, c1, rfl⟩))
  · exact x_throw X rfl hN hl xe_IO tw_412 tw_21 (s_253 X) dX11_deskIndex_17 dX11_deskIndex_20 dX11_deskIndex_21 dX11_deskIndex_23 dX11_deskIndex_26 (by omega) (Nat.le_of_ble_eq_true rfl) (by omega) (by omega) (⟨rfl, c1, rfl⟩)

def aRange (x y : Int32) : Int32 := if x < -100 then 0 else if 100 < y then 0 else if y < x then 0 else if 16 ≤ y - x then 0 else 1

set_option maxRecDepth 20000 in
theorem c_isArrayRange {l : Launch} {G : gV} {M : gMem} {x y : Int32} : qC l G yX11_isArrayRange cX11_isArrayRange 2 (some .boolean) 1 0 0 [.int x, .int y] M (pP (.int (aRange x y)) M) := by
  refine qC_of (by decide +kernel) (Nat.le_of_ble_eq_true rfl) (fun F hF X hr hn => ?_)
  subst hF
  have X : qX G F cX11_isArrayRange 2 RX11 1 := X
  show qJ G F _ 2 M 0 0 0 [(0, .int x), (1, .int y)] []
  refine q_iload_n X dX11_isArrayRange_0 0 rfl ?_
  refine q_bipush (v := (-100)) X dX11_isArrayRange_1 (by decide) ?_
  refine q_icmp_lt X 29 dX11_isArrayRange_3 (by decide) (fun c_1 => ?_) (fun c_1 => ?_)
  · refine q_iconst (v := 0) X dX11_isArrayRange_29 (by decide) ?_
    exact q_zret X hr (by decide) dX11_isArrayRange_30 (⟨congrArg (fun z => some (Value.int z)) (by unfold aRange; simp only [*, if_true, if_false, not_true, not_false_eq_true]), rfl⟩)
  · refine q_iload_n X dX11_isArrayRange_6 1 rfl ?_
    refine q_bipush (v := 100) X dX11_isArrayRange_7 (by decide) ?_
    refine q_icmp_gt X 29 dX11_isArrayRange_9 (by decide) (fun c_2 => ?_) (fun c_2 => ?_)
    · refine q_iconst (v := 0) X dX11_isArrayRange_29 (by decide) ?_
      exact q_zret X hr (by decide) dX11_isArrayRange_30 (⟨congrArg (fun z => some (Value.int z)) (by unfold aRange; simp only [*, if_true, if_false, not_true, not_false_eq_true]), rfl⟩)
    · refine q_iload_n X dX11_isArrayRange_12 0 rfl ?_
      refine q_iload_n X dX11_isArrayRange_13 1 rfl ?_
      refine q_icmp_gt X 29 dX11_isArrayRange_14 (by decide) (fun c_3 => ?_) (fun c_3 => ?_)
      · refine q_iconst (v := 0) X dX11_isArrayRange_29 (by decide) ?_
        exact q_zret X hr (by decide) dX11_isArrayRange_30 (⟨congrArg (fun z => some (Value.int z)) (by unfold aRange; simp only [*, if_true, if_false, not_true, not_false_eq_true]), rfl⟩)
      · refine q_iload_n X dX11_isArrayRange_17 1 rfl ?_
        refine q_iload_n X dX11_isArrayRange_18 0 rfl ?_
        refine q_isub X dX11_isArrayRange_19 ?_
        refine q_bipush (v := 16) X dX11_isArrayRange_20 (by decide) ?_
        refine q_icmp_ge X 29 dX11_isArrayRange_22 (by decide) (fun c_4 => ?_) (fun c_4 => ?_)
        · refine q_iconst (v := 0) X dX11_isArrayRange_29 (by decide) ?_
          exact q_zret X hr (by decide) dX11_isArrayRange_30 (⟨congrArg (fun z => some (Value.int z)) (by unfold aRange; simp only [*, if_true, if_false, not_true, not_false_eq_true]), rfl⟩)
        · refine q_iconst (v := 1) X dX11_isArrayRange_25 (by decide) ?_
          refine q_goto X 30 dX11_isArrayRange_26 (by decide) ?_
          exact q_zret X hr (by decide) dX11_isArrayRange_30 (⟨congrArg (fun z => some (Value.int z)) (by unfold aRange; simp only [*, if_true, if_false, not_true, not_false_eq_true]), rfl⟩)

set_option maxRecDepth 20000 in
theorem c_versionAt {l : Launch} {G : gV} {M : gMem} {g vl nl kl fr dk ev : Nat} {vs : List Nat} {w5 w6 i : Int32} (hl : l.stackTraces = false) (hG : M g = some (oB 11 [.ref vl, .ref nl, .ref kl, .ref fr, .ref dk, .int w5, .int w6])) (hL : isList G M vl ev vs) (hE : ∀ y ∈ vs, ∃ ci fs0, isNC ci ∧ ci = 9 ∧ M y = some (oB ci fs0)) : xC l G yX11_versionAt cX11_versionAt 2 (some (.object "GridVault$Version")) 7 1 6 [.ref g, .int i] M (fun v M' => ∃ j a, i = nI j ∧ vs[j]? = some a ∧ v = some (.ref a) ∧ M' = M) (fun E M' => E = eIA ∧ (i < 0 ∨ nI vs.length ≤ i) ∧ M' = M) := by
  refine xC_of (by decide +kernel) (Nat.le_of_ble_eq_true rfl) (fun F hF X hN hr hn => ?_)
  subst hF
  have X : qX G F cX11_versionAt 2 RX11 7 := X
  obtain ⟨mv, hL1⟩ := id hL.2.1
  have hlen := hL.1
  show qJ G F _ 2 M 1 6 0 [(0, .ref g), (1, .int i)] []
  refine q_iload_n X dX11_versionAt_0 1 rfl ?_
  refine q_if_lt X 21 dX11_versionAt_1 (by decide) (fun c1 => ?_) (fun c1 => ?_)
  · refine q_iconst (v := 0) X dX11_versionAt_21 (by decide) ?_
    exact x_callS X (c_need hl) Y_X11_need tw_377 tw_378 (by omega) rfl rfl (Nat.le_of_ble_eq_true rfl) (rc' := 0) (rs' := 0) (by omega) (by omega) dX11_versionAt_22 (fun v M' hp _ => absurd rfl hp.2.1) (fun E M' hx => t_out X hN (by obtain ⟨rfl, -, rfl⟩ := hx; exact ⟨rfl, Or.inl c1, rfl⟩))
  · refine q_iload_n X dX11_versionAt_4 1 rfl ?_
    refine q_aload_n X dX11_versionAt_5 0 rfl ?_
    refine q_get X hG rfl in_RX11 0 (by decide) tw_277 rfl rfl dX11_versionAt_6 ?_
    refine q_callF X (x := ⟨"java/util/List", "size", "()I"⟩) (c_list_size hL) Y_Jx4a65c_size_8abf5 tw_471 tw_474 tw_476 tn_473 tn_472 tn_477 tn_475 tn_137 (by decide +kernel) hL1 rfl (by omega) rfl rfl (Nat.le_of_ble_eq_true rfl) (Nat.le_refl _) (Nat.le_refl _) dX11_versionAt_9 (fun v M' hp _ => ?_)
    obtain ⟨rfl, eM⟩ := hp
    rw [eM]
    clear eM
    show qJ G F _ 2 M _ _ 14 [(0, .ref g), (1, .int i)] [.int (nI vs.length), .int i]
    refine q_icmp_ge X 21 dX11_versionAt_14 (by decide) (fun c2 => ?_) (fun c2 => ?_)
    · refine q_iconst (v := 0) X dX11_versionAt_21 (by decide) ?_
      exact x_callS X (c_need hl) Y_X11_need tw_377 tw_378 (by omega) rfl rfl (Nat.le_of_ble_eq_true rfl) (rc' := 0) (rs' := 0) (by omega) (by omega) dX11_versionAt_22 (fun v M' hp _ => absurd rfl hp.2.1) (fun E M' hx => t_out X hN (by obtain ⟨rfl, -, rfl⟩ := hx; exact ⟨rfl, Or.inr c2, rfl⟩))
    · refine q_iconst (v := 1) X dX11_versionAt_17 (by decide) ?_
      refine q_goto X 22 dX11_versionAt_18 (by decide) ?_
      refine q_callS X (c_need1) Y_X11_need tw_377 tw_378 (by omega) rfl rfl (Nat.le_of_ble_eq_true rfl) (rc' := 1) (rs' := 6) (by omega) (by omega) dX11_versionAt_22 (fun v M' hp _ => ?_)
      obtain ⟨rfl, eM⟩ := hp
      rw [eM]
      clear eM
      show qJ G F _ 2 M 1 6 25 [(0, .ref g), (1, .int i)] []
      obtain ⟨j, hj, rfl⟩ : ∃ j, j < vs.length ∧ i = nI j := by
        rcases pk_ix i (show vs.length < 2 ^ 31 by omega) with q | q | q
        · exact absurd q c1
        · exact absurd q c2
        · exact q
      obtain ⟨x, hx⟩ : ∃ x, vs[j]? = some x := ⟨vs[j], List.getElem?_eq_some_iff.mpr ⟨hj, rfl⟩⟩
      obtain ⟨ci, fs0, hc, rfl, hy⟩ := hE x (List.mem_of_getElem? hx)
      refine q_aload_n X dX11_versionAt_25 0 rfl ?_
      refine q_get X hG rfl in_RX11 0 (by decide) tw_277 rfl rfl dX11_versionAt_26 ?_
      refine q_iload_n X dX11_versionAt_29 1 rfl ?_
      refine q_callF X (x := ⟨"java/util/List", "get", "(I)Ljava/lang/Object;"⟩) (c_list_get hL hx) Y_Jx4a65c_get_915e3 tw_485 tw_488 tw_490 tn_487 tn_486 tn_491 tn_489 tn_137 (by decide +kernel) hL1 rfl (by omega) rfl rfl (Nat.le_of_ble_eq_true rfl) (Nat.le_refl _) (Nat.le_refl _) dX11_versionAt_30 (fun v M' hp _ => ?_)
      obtain ⟨rfl, eM⟩ := hp
      rw [eM]
      clear eM
      show qJ G F _ 2 M _ _ 35 [(0, .ref g), (1, .int (nI j))] [.ref x]
      refine q_castS X tw_143 hy rfl dX11_versionAt_35 ?_
      exact x_ret (q_aret X hr (Or.inl ⟨_, rfl⟩) dX11_versionAt_38 (⟨j, x, rfl, hx, rfl, rfl⟩))

set_option maxRecDepth 20000 in
theorem c_nodeAt {l : Launch} {G : gV} {M : gMem} {g vl nl kl fr dk en : Nat} {ns : List Nat} {w5 w6 i : Int32} (hl : l.stackTraces = false) (hG : M g = some (oB 11 [.ref vl, .ref nl, .ref kl, .ref fr, .ref dk, .int w5, .int w6])) (hL : isList G M nl en ns) (hE : ∀ y ∈ ns, ∃ ci fs0, isNC ci ∧ M y = some (oB ci fs0)) : xC l G yX11_nodeAt cX11_nodeAt 2 (some (.object "GridVault$Node")) 7 1 6 [.ref g, .int i] M (fun v M' => ∃ j a, i = nI j ∧ ns[j]? = some a ∧ v = some (.ref a) ∧ M' = M) (fun E M' => E = eIA ∧ (i < 0 ∨ nI ns.length ≤ i) ∧ M' = M) := by
  refine xC_of (by decide +kernel) (Nat.le_of_ble_eq_true rfl) (fun F hF X hN hr hn => ?_)
  subst hF
  have X : qX G F cX11_nodeAt 2 RX11 7 := X
  obtain ⟨mv, hL1⟩ := id hL.2.1
  have hlen := hL.1
  show qJ G F _ 2 M 1 6 0 [(0, .ref g), (1, .int i)] []
  refine q_iload_n X dX11_nodeAt_0 1 rfl ?_
  refine q_if_lt X 21 dX11_nodeAt_1 (by decide) (fun c1 => ?_) (fun c1 => ?_)
  · refine q_iconst (v := 0) X dX11_nodeAt_21 (by decide) ?_
    exact x_callS X (c_need hl) Y_X11_need tw_377 tw_378 (by omega) rfl rfl (Nat.le_of_ble_eq_true rfl) (rc' := 0) (rs' := 0) (by omega) (by omega) dX11_nodeAt_22 (fun v M' hp _ => absurd rfl hp.2.1) (fun E M' hx => t_out X hN (by obtain ⟨rfl, -, rfl⟩ := hx; exact ⟨rfl, Or.inl c1, rfl⟩))
  · refine q_iload_n X dX11_nodeAt_4 1 rfl ?_
    refine q_aload_n X dX11_nodeAt_5 0 rfl ?_
    refine q_get X hG rfl in_RX11 1 (by decide) tw_278 rfl rfl dX11_nodeAt_6 ?_
    refine q_callF X (x := ⟨"java/util/List", "size", "()I"⟩) (c_list_size hL) Y_Jx4a65c_size_8abf5 tw_471 tw_474 tw_476 tn_473 tn_472 tn_477 tn_475 tn_137 (by decide +kernel) hL1 rfl (by omega) rfl rfl (Nat.le_of_ble_eq_true rfl) (Nat.le_refl _) (Nat.le_refl _) dX11_nodeAt_9 (fun v M' hp _ => ?_)
    obtain ⟨rfl, eM⟩ := hp
    rw [eM]
    clear eM
    show qJ G F _ 2 M _ _ 14 [(0, .ref g), (1, .int i)] [.int (nI ns.length), .int i]
    refine q_icmp_ge X 21 dX11_nodeAt_14 (by decide) (fun c2 => ?_) (fun c2 => ?_)
    · refine q_iconst (v := 0) X dX11_nodeAt_21 (by decide) ?_
      exact x_callS X (c_need hl) Y_X11_need tw_377 tw_378 (by omega) rfl rfl (Nat.le_of_ble_eq_true rfl) (rc' := 0) (rs' := 0) (by omega) (by omega) dX11_nodeAt_22 (fun v M' hp _ => absurd rfl hp.2.1) (fun E M' hx => t_out X hN (by obtain ⟨rfl, -, rfl⟩ := hx; exact ⟨rfl, Or.inr c2, rfl⟩))
    · refine q_iconst (v := 1) X dX11_nodeAt_17 (by decide) ?_
      refine q_goto X 22 dX11_nodeAt_18 (by decide) ?_
      refine q_callS X (c_need1) Y_X11_need tw_377 tw_378 (by omega) rfl rfl (Nat.le_of_ble_eq_true rfl) (rc' := 1) (rs' := 6) (by omega) (by omega) dX11_nodeAt_22 (fun v M' hp _ => ?_)
      obtain ⟨rfl, eM⟩ := hp
      rw [eM]
      clear eM
      show qJ G F _ 2 M 1 6 25 [(0, .ref g), (1, .int i)] []
      obtain ⟨j, hj, rfl⟩ : ∃ j, j < ns.length ∧ i = nI j := by
        rcases pk_ix i (show ns.length < 2 ^ 31 by omega) with q | q | q
        · exact absurd q c1
        · exact absurd q c2
        · exact q
      obtain ⟨x, hx⟩ : ∃ x, ns[j]? = some x := ⟨ns[j], List.getElem?_eq_some_iff.mpr ⟨hj, rfl⟩⟩
      obtain ⟨ci, fs0, hc, hy⟩ := hE x (List.mem_of_getElem? hx)
      refine q_aload_n X dX11_nodeAt_25 0 rfl ?_
      refine q_get X hG rfl in_RX11 1 (by decide) tw_278 rfl rfl dX11_nodeAt_26 ?_
      refine q_iload_n X dX11_nodeAt_29 1 rfl ?_
      refine q_callF X (x := ⟨"java/util/List", "get", "(I)Ljava/lang/Object;"⟩) (c_list_get hL hx) Y_Jx4a65c_get_915e3 tw_485 tw_488 tw_490 tn_487 tn_486 tn_491 tn_489 tn_137 (by decide +kernel) hL1 rfl (by omega) rfl rfl (Nat.le_of_ble_eq_true rfl) (Nat.le_refl _) (Nat.le_refl _) dX11_nodeAt_30 (fun v M' hp _ => ?_)
      obtain ⟨rfl, eM⟩ := hp
      rw [eM]
      clear eM
      show qJ G F _ 2 M _ _ 35 [(0, .ref g), (1, .int (nI j))] [.ref x]
      refine q_castN X tw_627 hc hy dX11_nodeAt_35 ?_
      exact x_ret (q_aret X hr (Or.inl ⟨_, rfl⟩) dX11_nodeAt_38 (⟨j, x, rfl, hx, rfl, rfl⟩))

def keP (G : gV) (M : gMem) (nl en a : Nat) (ns : List Nat) : Option Value → gMem → Prop := fun v M' => v = some (.int (nI ns.length)) ∧ lP G M nl en a ns (some (.int 1)) M'

set_option maxRecDepth 20000 in
theorem c_keep {l : Launch} {G : gV} {M : gMem} {g vl nl kl fr dk en : Nat} {ns : List Nat} {w5 w6 : Int32} (hG : M g = some (oB 11 [.ref vl, .ref nl, .ref kl, .ref fr, .ref dk, .int w5, .int w6])) (hL : isList G M nl en ns) {N : gN} {a : Nat} (hs : nStat G M N a) (hE : ∀ y ∈ ns, nStat G M N y) (h150 : ns.length < 150) : qC l G yX11_keep cX11_keep 2 (some .int) 8 1 233 [.ref g, .ref a] M (keP G M nl en a ns) := by
  refine qC_of (by decide +kernel) (Nat.le_of_ble_eq_true rfl) (fun F hF X hr hn => ?_)
  subst hF
  have X : qX G F cX11_keep 2 RX11 8 := X
  obtain ⟨mv, hL1⟩ := id hL.2.1
  have hlen := hL.1
  refine q_da X (fun hda => ?_)
  show qJ G F _ 2 M 1 233 0 [(0, .ref g), (1, .ref a)] []
  refine q_aload_n X dX11_keep_0 0 rfl ?_
  refine q_get X hG rfl in_RX11 1 (by decide) tw_278 rfl rfl dX11_keep_1 ?_
  refine q_aload_n X dX11_keep_4 1 rfl ?_
  refine q_callF X (x := ⟨"java/util/List", "add", "(Ljava/lang/Object;)Z"⟩) (c_list_add (ms := 233) hL (node_okE hs) (fun y hy => node_okE (hE y hy)) (by omega) (by omega)) Y_Jx4a65c_add_9ea2d tw_179 tw_182 tw_184 tn_181 tn_180 tn_185 tn_183 tn_137 (by decide +kernel) hL1 rfl (by omega) rfl rfl (Nat.le_of_ble_eq_true rfl) (rc' := 0) (rs' := 0) (by omega) (by omega) dX11_keep_5 (fun v M' hp _ => ?_)
  have hp0 := hp
  have ev := hp.ev
  obtain ⟨rfl, ed2, j1, j2, j3⟩ := hp
  generalize M' = M4 at *
  show qJ G F _ 2 M4 0 0 10 [(0, .ref g), (1, .ref a)] [.int 1]
  obtain ⟨mv4, hL4⟩ := id j1.2.1
  have hG4 := ev.keep hG (fun z => by rcases z with z | z; exact hL.nea hG (fun _ q => by cases q) z; exact hL.ned hda hG (fun _ _ q => by cases q) z)
  refine q_pop X dX11_keep_10 rfl ?_
  refine q_aload_n X dX11_keep_11 0 rfl ?_
  refine q_get X hG4 rfl in_RX11 1 (by decide) tw_278 rfl rfl dX11_keep_12 ?_
  refine q_callF X (x := ⟨"java/util/List", "size", "()I"⟩) (c_list_size j1) Y_Jx4a65c_size_8abf5 tw_471 tw_474 tw_476 tn_473 tn_472 tn_477 tn_475 tn_137 (by decide +kernel) hL4 rfl (by omega) rfl rfl (Nat.le_of_ble_eq_true rfl) (Nat.le_refl _) (Nat.le_refl _) dX11_keep_15 (fun v M' hp _ => ?_)
  obtain ⟨rfl, eM⟩ := hp
  rw [eM]
  clear eM
  show qJ G F _ 2 M4 _ _ 20 [(0, .ref g), (1, .ref a)] [.int (nI (ns ++ [a]).length)]
  rw [show (ns ++ [a]).length = ns.length + 1 from by simp]
  refine q_iconst (v := 1) X dX11_keep_20 (by decide) ?_
  refine q_isub X dX11_keep_21 ?_
  exact q_iret X hr dX11_keep_22 (⟨congrArg (fun z => some (Value.int z)) (by rw [← nI_1, Int32.add_sub_cancel]), hp0⟩)
