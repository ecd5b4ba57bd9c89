/-! java/lang/Math -/
def mxI (x y : Int32) : Int32 := if x < y then y else x
def mnI (x y : Int32) : Int32 := if y < x then y else x
def mxJ (x y : Int64) : Int64 := if x < y then y else x
def mnJ (x y : Int64) : Int64 := if y < x then y else x
def fdI (x y : Int32) : Int32 := if 0 ≤ x ^^^ y then x / y else if x / y * y = x then x / y else x / y - 1

set_option maxRecDepth 20000 in
theorem c_J9_max_7cf53 {l : Launch} {G : gV} {M : gMem} {x y : Int32} : qC l G yJ9_max_7cf53 cJ9_max_7cf53 2 (some .int) 1 0 0 [.int x, .int y] M (pP (.int (mxI x y)) M) := by
  refine qC_of (by decide +kernel) (Nat.le_of_ble_eq_true rfl) (fun F hF X hr hn => ?_)
  subst hF
  have X : qX G F cJ9_max_7cf53 2 RJ9 1 := X
  show qJ G F _ 2 M 0 0 0 [(0, .int x), (1, .int y)] []
  refine q_iload_n X dJ9_max_7cf53_0 0 rfl ?_
  refine q_iload_n X dJ9_max_7cf53_1 1 rfl ?_
  refine q_icmp_lt X 9 dJ9_max_7cf53_2 (by decide) (fun c_1 => ?_) (fun c_1 => ?_)
  · refine q_iload_n X dJ9_max_7cf53_9 1 rfl ?_
    exact q_iret X hr dJ9_max_7cf53_10 (⟨congrArg (fun z => some (Value.int z)) (by unfold mxI; simp only [*, if_true, if_false, not_true, not_false_eq_true]), rfl⟩)
  · refine q_iload_n X dJ9_max_7cf53_5 0 rfl ?_
    refine q_goto X 10 dJ9_max_7cf53_6 (by decide) ?_
    exact q_iret X hr dJ9_max_7cf53_10 (⟨congrArg (fun z => some (Value.int z)) (by unfold mxI; simp only [*, if_true, if_false, not_true, not_false_eq_true]), rfl⟩)

set_option maxRecDepth 20000 in
theorem c_J9_min_7cf53 {l : Launch} {G : gV} {M : gMem} {x y : Int32} : qC l G yJ9_min_7cf53 cJ9_min_7cf53 2 (some .int) 1 0 0 [.int x, .int y] M (pP (.int (mnI x y)) M) := by
  refine qC_of (by decide +kernel) (Nat.le_of_ble_eq_true rfl) (fun F hF X hr hn => ?_)
  subst hF
  have X : qX G F cJ9_min_7cf53 2 RJ9 1 := X
  show qJ G F _ 2 M 0 0 0 [(0, .int x), (1, .int y)] []
  refine q_iload_n X dJ9_min_7cf53_0 0 rfl ?_
  refine q_iload_n X dJ9_min_7cf53_1 1 rfl ?_
  refine q_icmp_gt X 9 dJ9_min_7cf53_2 (by decide) (fun c_1 => ?_) (fun c_1 => ?_)
  · refine q_iload_n X dJ9_min_7cf53_9 1 rfl ?_
    exact q_iret X hr dJ9_min_7cf53_10 (⟨congrArg (fun z => some (Value.int z)) (by unfold mnI; simp only [*, if_true, if_false, not_true, not_false_eq_true]), rfl⟩)
  · refine q_iload_n X dJ9_min_7cf53_5 0 rfl ?_
    refine q_goto X 10 dJ9_min_7cf53_6 (by decide) ?_
    exact q_iret X hr dJ9_min_7cf53_10 (⟨congrArg (fun z => some (Value.int z)) (by unfold mnI; simp only [*, if_true, if_false, not_true, not_false_eq_true]), rfl⟩)

set_option maxRecDepth 20000 in
theorem c_J9_max_f86c9 {l : Launch} {G : gV} {M : gMem} {x y : Int64} : qC l G yJ9_max_f86c9 cJ9_max_f86c9 4 (some .long) 1 0 0 [.long x, .long y] M (pP (.long (mxJ x y)) M) := by
  refine qC_of (by decide +kernel) (Nat.le_of_ble_eq_true rfl) (fun F hF X hr hn => ?_)
  subst hF
  have X : qX G F cJ9_max_f86c9 4 RJ9 1 := X
  show qJ G F _ 4 M 0 0 0 [(0, .long x), (2, .long y)] []
  refine q_lload_n X dJ9_max_f86c9_0 0 rfl ?_
  refine q_lload_n X dJ9_max_f86c9_1 1 rfl ?_
  refine q_lcmp X dJ9_max_f86c9_2 ?_
  refine q_if_lt X 10 dJ9_max_f86c9_3 (by decide) (fun c1 => ?_) (fun c1 => ?_)
  · refine q_lload_n X dJ9_max_f86c9_10 1 rfl ?_
    simp only [lg_cmp_lt, lg_cmp_gt] at c1
    exact q_lret X hr dJ9_max_f86c9_11 (⟨congrArg (fun z => some (Value.long z)) (by unfold mxJ; simp only [*, if_true, if_false, not_true, not_false_eq_true]), rfl⟩)
  · refine q_lload_n X dJ9_max_f86c9_6 0 rfl ?_
    refine q_goto X 11 dJ9_max_f86c9_7 (by decide) ?_
    simp only [lg_cmp_lt, lg_cmp_gt] at c1
    exact q_lret X hr dJ9_max_f86c9_11 (⟨congrArg (fun z => some (Value.long z)) (by unfold mxJ; simp only [*, if_true, if_false, not_true, not_false_eq_true]), rfl⟩)

set_option maxRecDepth 20000 in
theorem c_J9_min_f86c9 {l : Launch} {G : gV} {M : gMem} {x y : Int64} : qC l G yJ9_min_f86c9 cJ9_min_f86c9 4 (some .long) 1 0 0 [.long x, .long y] M (pP (.long (mnJ x y)) M) := by
  refine qC_of (by decide +kernel) (Nat.le_of_ble_eq_true rfl) (fun F hF X hr hn => ?_)
  subst hF
  have X : qX G F cJ9_min_f86c9 4 RJ9 1 := X
  show qJ G F _ 4 M 0 0 0 [(0, .long x), (2, .long y)] []
  refine q_lload_n X dJ9_min_f86c9_0 0 rfl ?_
  refine q_lload_n X dJ9_min_f86c9_1 1 rfl ?_
  refine q_lcmp X dJ9_min_f86c9_2 ?_
  refine q_if_gt X 10 dJ9_min_f86c9_3 (by decide) (fun c1 => ?_) (fun c1 => ?_)
  · refine q_lload_n X dJ9_min_f86c9_10 1 rfl ?_
    simp only [lg_cmp_lt, lg_cmp_gt] at c1
    exact q_lret X hr dJ9_min_f86c9_11 (⟨congrArg (fun z => some (Value.long z)) (by unfold mnJ; simp only [*, if_true, if_false, not_true, not_false_eq_true]), rfl⟩)
  · refine q_lload_n X dJ9_min_f86c9_6 0 rfl ?_
    refine q_goto X 11 dJ9_min_f86c9_7 (by decide) ?_
    simp only [lg_cmp_lt, lg_cmp_gt] at c1
    exact q_lret X hr dJ9_min_f86c9_11 (⟨congrArg (fun z => some (Value.long z)) (by unfold mnJ; simp only [*, if_true, if_false, not_true, not_false_eq_true]), rfl⟩)

set_option maxRecDepth 20000 in
theorem c_J9_floorDiv_7cf53 {l : Launch} {G : gV} {M : gMem} {x y : Int32} (h0 : ¬ y = 0) : qC l G yJ9_floorDiv_7cf53 cJ9_floorDiv_7cf53 3 (some .int) 1 0 0 [.int x, .int y] M (pP (.int (fdI x y)) M) := by
  refine qC_of (by decide +kernel) (Nat.le_of_ble_eq_true rfl) (fun F hF X hr hn => ?_)
  subst hF
  have X : qX G F cJ9_floorDiv_7cf53 3 RJ9 1 := X
  show qJ G F _ 3 M 0 0 0 [(0, .int x), (1, .int y)] []
  refine q_iload_n X dJ9_floorDiv_7cf53_0 0 rfl ?_
  refine q_iload_n X dJ9_floorDiv_7cf53_1 1 rfl ?_
  refine q_idiv X dJ9_floorDiv_7cf53_2 (h0) ?_
  refine q_istore_n (lv' := [(2, .int (x / y)), (0, .int x), (1, .int y)]) X dJ9_floorDiv_7cf53_3 (by decide) rfl ?_
  refine q_iload_n X dJ9_floorDiv_7cf53_4 1 rfl ?_
  refine q_iload_n X dJ9_floorDiv_7cf53_5 2 rfl ?_
  refine q_ixor X dJ9_floorDiv_7cf53_6 ?_
  refine q_if_ge X 21 dJ9_floorDiv_7cf53_7 (by decide) (fun c_1 => ?_) (fun c_1 => ?_)
  · refine q_iload_n X dJ9_floorDiv_7cf53_21 0 rfl ?_
    exact q_iret X hr dJ9_floorDiv_7cf53_22 (⟨congrArg (fun z => some (Value.int z)) (by unfold fdI; simp only [*, if_true, if_false, not_true, not_false_eq_true]), rfl⟩)
  · refine q_iload_n X dJ9_floorDiv_7cf53_10 0 rfl ?_
    refine q_iload_n X dJ9_floorDiv_7cf53_11 2 rfl ?_
    refine q_imul X dJ9_floorDiv_7cf53_12 ?_
    refine q_iload_n X dJ9_floorDiv_7cf53_13 1 rfl ?_
    refine q_icmp_eq X 21 dJ9_floorDiv_7cf53_14 (by decide) (fun c_2 => ?_) (fun c_2 => ?_)
    · refine q_iload_n X dJ9_floorDiv_7cf53_21 0 rfl ?_
      exact q_iret X hr dJ9_floorDiv_7cf53_22 (⟨congrArg (fun z => some (Value.int z)) (by unfold fdI; simp only [*, if_true, if_false, not_true, not_false_eq_true]), rfl⟩)
    · refine q_iload_n X dJ9_floorDiv_7cf53_17 0 rfl ?_
      refine q_iconst (v := 1) X dJ9_floorDiv_7cf53_18 (by decide) ?_
      refine q_isub X dJ9_floorDiv_7cf53_19 ?_
      exact q_iret X hr dJ9_floorDiv_7cf53_20 (⟨congrArg (fun z => some (Value.int z)) (by unfold fdI; simp only [*, if_true, if_false, not_true, not_false_eq_true]), rfl⟩)
