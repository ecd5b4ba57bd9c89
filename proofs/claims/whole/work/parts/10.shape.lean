/-! GridVault$Shape: what its cells hold, and its reading methods -/
def sL (lo hi : Nat → Int32) (d : Nat) : Int32 := hi d - lo d + 1
def isShape (G : gV) (M : gMem) (a : Nat) (n : Int32) (lo hi : Nat → Int32) : Prop := ∃ (b c d : Nat) (sp : (Nat → Int32) × Nat × (Nat → Int32)), M a = some (oB 7 [.int n, .ref b, .ref c, .ref sp.2.1, .ref d, .int (sL lo hi 0 * sL lo hi 1 * sL lo hi 2)]) ∧ M b = some (aI G 3 lo) ∧ M c = some (aI G 3 hi) ∧ M d = some (aI G 3 sp.1) ∧ sp.1 0 = sL lo hi 1 * sL lo hi 2 ∧ sp.1 1 = sL lo hi 2 ∧ sp.1 2 = 1 ∧ M sp.2.1 = some (aI G 3 sp.2.2) ∧ sp.2.2 0 = sL lo hi 0 ∧ sp.2.2 1 = sL lo hi 1 ∧ sp.2.2 2 = sL lo hi 2
/-- a shape's lows and highs alone (its other fields may not be set yet) -/
def isLH (G : gV) (M : gMem) (a : Nat) (lo hi : Nat → Int32) : Prop := ∃ (n : Int32) (b c : Nat) (r q s : Value), M a = some (oB 7 [.int n, .ref b, .ref c, r, q, s]) ∧ M b = some (aI G 3 lo) ∧ M c = some (aI G 3 hi)
/-- its lengths alone -/
def isLN (G : gV) (M : gMem) (a : Nat) (lf : Nat → Int32) : Prop := ∃ (n : Int32) (w : Nat) (r1 r2 q s : Value), M a = some (oB 7 [.int n, r1, r2, .ref w, q, s]) ∧ M w = some (aI G 3 lf)
/-- its steps alone -/
def isSE (G : gV) (M : gMem) (a : Nat) (sf : Nat → Int32) : Prop := ∃ (n : Int32) (d : Nat) (r1 r2 q s : Value), M a = some (oB 7 [.int n, r1, r2, q, .ref d, s]) ∧ M d = some (aI G 3 sf)
theorem isShape.lh {G : gV} {M : gMem} {a : Nat} {n : Int32} {lo hi : Nat → Int32} (h : isShape G M a n lo hi) : isLH G M a lo hi := by
  obtain ⟨b, c, d, sp, h1, h2, h3, -⟩ := h
  exact ⟨n, b, c, _, _, _, h1, h2, h3⟩
theorem isShape.ln {G : gV} {M : gMem} {a : Nat} {n : Int32} {lo hi : Nat → Int32} (h : isShape G M a n lo hi) : ∃ lf : Nat → Int32, isLN G M a lf ∧ lf 0 = sL lo hi 0 ∧ lf 1 = sL lo hi 1 ∧ lf 2 = sL lo hi 2 := by
  obtain ⟨b, c, d, sp, h1, h2, h3, h4, h5, h6, h7, h8, h9⟩ := h
  exact ⟨sp.2.2, ⟨n, sp.2.1, _, _, _, _, h1, h8⟩, h9⟩
theorem isShape.se {G : gV} {M : gMem} {a : Nat} {n : Int32} {lo hi : Nat → Int32} (h : isShape G M a n lo hi) : ∃ sf : Nat → Int32, isSE G M a sf ∧ sf 0 = sL lo hi 1 * sL lo hi 2 ∧ sf 1 = sL lo hi 2 ∧ sf 2 = 1 := by
  obtain ⟨b, c, d, sp, h1, h2, h3, h4, h5, h6, h7, -⟩ := h
  exact ⟨sp.1, ⟨n, d, _, _, _, _, h1, h4⟩, h5, h6, h7⟩
/-- one of three, by a number that may be none of them -/
def s3 (f : Nat → Int32) (z : Int32) (d : Int32) : Int32 := if d < 0 then z else if nI 3 ≤ d then z else f d.toNatClampNeg
def sp3 (lo hi : Nat → Int32) : Nat → Int32 := fun d => if d = 0 then sL lo hi 1 * sL lo hi 2 else if d = 1 then sL lo hi 2 else 1
theorem s3_in {d : Int32} (c1 : ¬ d < 0) (c2 : ¬ nI 3 ≤ d) : vp_in d 3 := by
  rw [vp_in_iff]
  rw [Int32.lt_iff_toInt_lt, Int32.toInt_zero] at c1
  rw [Int32.le_iff_toInt_le, nI_toInt (by decide)] at c2
  omega
theorem s3_eq {f g : Nat → Int32} {z d : Int32} (h0 : f 0 = g 0) (h1 : f 1 = g 1) (h2 : f 2 = g 2) : s3 f z d = s3 g z d := by
  unfold s3
  by_cases c1 : d < 0
  · rw [if_pos c1, if_pos c1]
  · rw [if_neg c1, if_neg c1]
    by_cases c2 : nI 3 ≤ d
    · rw [if_pos c2, if_pos c2]
    · rw [if_neg c2, if_neg c2]
      obtain ⟨j, hj, rfl⟩ := vp_in_of (s3_in c1 c2) (by decide)
      rw [nI_clamp (by omega)]
      rcases (show j = 0 ∨ j = 1 ∨ j = 2 by omega) with rfl | rfl | rfl <;> assumption
/-- the lengths, by a number that may be none of the three -/
theorem s3_len {lf lo hi : Nat → Int32} {d : Int32} (h0 : lf 0 = sL lo hi 0) (h1 : lf 1 = sL lo hi 1) (h2 : lf 2 = sL lo hi 2) : s3 lf 1 d = s3 hi 0 d - s3 lo 0 d + 1 := by
  rw [s3_eq (g := sL lo hi) h0 h1 h2]
  unfold s3
  by_cases c1 : d < 0
  · rw [if_pos c1, if_pos c1, if_pos c1]; decide
  · rw [if_neg c1, if_neg c1, if_neg c1]
    by_cases c2 : nI 3 ≤ d
    · rw [if_pos c2, if_pos c2, if_pos c2]; decide
    · rw [if_neg c2, if_neg c2, if_neg c2]; rfl
def sHas (n d : Int32) : Int32 := if d < 0 then 0 else if n ≤ d then 0 else 1
theorem sHas_01 (n d : Int32) : sHas n d = 0 ∨ sHas n d = 1 := by
  unfold sHas
  by_cases c1 : d < 0
  · exact Or.inl (if_pos c1)
  · rw [if_neg c1]
    by_cases c2 : n ≤ d
    · exact Or.inl (if_pos c2)
    · exact Or.inr (if_neg c2)

set_option maxRecDepth 20000 in
theorem c_X7_dimensions {l : Launch} {G : gV} {M : gMem} {a : Nat} {n : Int32} {lo hi : Nat → Int32} (hS : isShape G M a n lo hi) : qC l G yX7_dimensions cX7_dimensions 1 (some .int) 1 0 0 [.ref a] M (pP (.int n) M) := by
  refine qC_of (by decide +kernel) (Nat.le_of_ble_eq_true rfl) (fun F hF X hr hn => ?_)
  subst hF
  have X : qX G F cX7_dimensions 1 RX7 1 := X
  obtain ⟨b, c, d, sp, h1, h2, h3, h4, h5, h6, h7, h8, h9⟩ := id hS
  show qJ G F _ 1 M 0 0 0 [(0, .ref a)] []
  refine q_aload_n X dX7_dimensions_0 0 rfl ?_
  refine q_get X h1 rfl in_RX7 0 (by decide) tw_88 rfl rfl dX7_dimensions_1 ?_
  exact q_iret X hr dX7_dimensions_4 (⟨rfl, rfl⟩)

set_option maxRecDepth 20000 in
theorem c_X7_size {l : Launch} {G : gV} {M : gMem} {a : Nat} {n : Int32} {lo hi : Nat → Int32} (hS : isShape G M a n lo hi) : qC l G yX7_size cX7_size 1 (some .int) 1 0 0 [.ref a] M (pP (.int (sL lo hi 0 * sL lo hi 1 * sL lo hi 2)) M) := by
  refine qC_of (by decide +kernel) (Nat.le_of_ble_eq_true rfl) (fun F hF X hr hn => ?_)
  subst hF
  have X : qX G F cX7_size 1 RX7 1 := X
  obtain ⟨b, c, d, sp, h1, h2, h3, h4, h5, h6, h7, h8, h9⟩ := id hS
  show qJ G F _ 1 M 0 0 0 [(0, .ref a)] []
  refine q_aload_n X dX7_size_0 0 rfl ?_
  refine q_get X h1 rfl in_RX7 5 (by decide) tw_93 rfl rfl dX7_size_1 ?_
  exact q_iret X hr dX7_size_4 (⟨rfl, rfl⟩)

set_option maxRecDepth 20000 in
theorem c_X7_lowL {l : Launch} {G : gV} {M : gMem} {a : Nat} {lo hi : Nat → Int32} (hS : isLH G M a lo hi) {e : Int32} : qC l G yX7_low cX7_low 2 (some .int) 1 0 0 [.ref a, .int e] M (pP (.int (s3 lo 0 e)) M) := by
  refine qC_of (by decide +kernel) (Nat.le_of_ble_eq_true rfl) (fun F hF X hr hn => ?_)
  subst hF
  have X : qX G F cX7_low 2 RX7 1 := X
  obtain ⟨n, b, c, r, q, s, h1, h2, h3⟩ := id hS
  show qJ G F _ 2 M 0 0 0 [(0, .ref a), (1, .int e)] []
  refine q_iload_n X dX7_low_0 1 rfl ?_
  refine q_if_lt X 22 dX7_low_1 (by decide) (fun c1 => ?_) (fun c1 => ?_)
  · refine q_iconst (v := 0) X dX7_low_22 (by decide) ?_
    exact q_iret X hr dX7_low_23 (⟨congrArg (fun z => some (Value.int z)) (by unfold s3; simp only [*, if_true, if_false, not_true, not_false_eq_true]), rfl⟩)
  · refine q_iload_n X dX7_low_4 1 rfl ?_
    refine q_aload_n X dX7_low_5 0 rfl ?_
    refine q_get X h1 rfl in_RX7 1 (by decide) tw_89 rfl rfl dX7_low_6 ?_
    refine q_alen X 0 h2 rfl dX7_low_9 ?_
    refine q_icmp_ge X 22 dX7_low_10 (by decide) (fun c2 => ?_) (fun c2 => ?_)
    · refine q_iconst (v := 0) X dX7_low_22 (by decide) ?_
      exact q_iret X hr dX7_low_23 (⟨congrArg (fun z => some (Value.int z)) (by unfold s3; simp only [*, if_true, if_false, not_true, not_false_eq_true]), rfl⟩)
    · refine q_aload_n X dX7_low_13 0 rfl ?_
      refine q_get X h1 rfl in_RX7 1 (by decide) tw_89 rfl rfl dX7_low_14 ?_
      refine q_iload_n X dX7_low_17 1 rfl ?_
      refine q_iald X h2 (s3_in c1 c2) dX7_low_18 ?_
      refine q_goto X 23 dX7_low_19 (by decide) ?_
      exact q_iret X hr dX7_low_23 (⟨congrArg (fun z => some (Value.int z)) (by unfold s3; simp only [*, if_true, if_false, not_true, not_false_eq_true]), rfl⟩)

theorem c_X7_low {l : Launch} {G : gV} {M : gMem} {a : Nat} {n : Int32} {lo hi : Nat → Int32} (hS : isShape G M a n lo hi) {e : Int32} : qC l G yX7_low cX7_low 2 (some .int) 1 0 0 [.ref a, .int e] M (pP (.int (s3 lo 0 e)) M) := c_X7_lowL hS.lh
set_option maxRecDepth 20000 in
theorem c_X7_highL {l : Launch} {G : gV} {M : gMem} {a : Nat} {lo hi : Nat → Int32} (hS : isLH G M a lo hi) {e : Int32} : qC l G yX7_high cX7_high 2 (some .int) 1 0 0 [.ref a, .int e] M (pP (.int (s3 hi 0 e)) M) := by
  refine qC_of (by decide +kernel) (Nat.le_of_ble_eq_true rfl) (fun F hF X hr hn => ?_)
  subst hF
  have X : qX G F cX7_high 2 RX7 1 := X
  obtain ⟨n, b, c, r, q, s, h1, h2, h3⟩ := id hS
  show qJ G F _ 2 M 0 0 0 [(0, .ref a), (1, .int e)] []
  refine q_iload_n X dX7_high_0 1 rfl ?_
  refine q_if_lt X 22 dX7_high_1 (by decide) (fun c1 => ?_) (fun c1 => ?_)
  · refine q_iconst (v := 0) X dX7_high_22 (by decide) ?_
    exact q_iret X hr dX7_high_23 (⟨congrArg (fun z => some (Value.int z)) (by unfold s3; simp only [*, if_true, if_false, not_true, not_false_eq_true]), rfl⟩)
  · refine q_iload_n X dX7_high_4 1 rfl ?_
    refine q_aload_n X dX7_high_5 0 rfl ?_
    refine q_get X h1 rfl in_RX7 2 (by decide) tw_90 rfl rfl dX7_high_6 ?_
    refine q_alen X 0 h3 rfl dX7_high_9 ?_
    refine q_icmp_ge X 22 dX7_high_10 (by decide) (fun c2 => ?_) (fun c2 => ?_)
    · refine q_iconst (v := 0) X dX7_high_22 (by decide) ?_
      exact q_iret X hr dX7_high_23 (⟨congrArg (fun z => some (Value.int z)) (by unfold s3; simp only [*, if_true, if_false, not_true, not_false_eq_true]), rfl⟩)
    · refine q_aload_n X dX7_high_13 0 rfl ?_
      refine q_get X h1 rfl in_RX7 2 (by decide) tw_90 rfl rfl dX7_high_14 ?_
      refine q_iload_n X dX7_high_17 1 rfl ?_
      refine q_iald X h3 (s3_in c1 c2) dX7_high_18 ?_
      refine q_goto X 23 dX7_high_19 (by decide) ?_
      exact q_iret X hr dX7_high_23 (⟨congrArg (fun z => some (Value.int z)) (by unfold s3; simp only [*, if_true, if_false, not_true, not_false_eq_true]), rfl⟩)

theorem c_X7_high {l : Launch} {G : gV} {M : gMem} {a : Nat} {n : Int32} {lo hi : Nat → Int32} (hS : isShape G M a n lo hi) {e : Int32} : qC l G yX7_high cX7_high 2 (some .int) 1 0 0 [.ref a, .int e] M (pP (.int (s3 hi 0 e)) M) := c_X7_highL hS.lh
set_option maxRecDepth 20000 in
theorem c_X7_stepL {l : Launch} {G : gV} {M : gMem} {a : Nat} {lf : Nat → Int32} (hS : isSE G M a lf) {e : Int32} : qC l G yX7_step cX7_step 2 (some .int) 1 0 0 [.ref a, .int e] M (pP (.int (s3 lf 1 e)) M) := by
  refine qC_of (by decide +kernel) (Nat.le_of_ble_eq_true rfl) (fun F hF X hr hn => ?_)
  subst hF
  have X : qX G F cX7_step 2 RX7 1 := X
  obtain ⟨n, w, r1, r2, q, s, h1, h2⟩ := id hS
  show qJ G F _ 2 M 0 0 0 [(0, .ref a), (1, .int e)] []
  refine q_iload_n X dX7_step_0 1 rfl ?_
  refine q_if_lt X 22 dX7_step_1 (by decide) (fun c1 => ?_) (fun c1 => ?_)
  · refine q_iconst (v := 1) X dX7_step_22 (by decide) ?_
    exact q_iret X hr dX7_step_23 (⟨congrArg (fun z => some (Value.int z)) (by unfold s3; simp only [*, if_true, if_false, not_true, not_false_eq_true]), rfl⟩)
  · refine q_iload_n X dX7_step_4 1 rfl ?_
    refine q_aload_n X dX7_step_5 0 rfl ?_
    refine q_get X h1 rfl in_RX7 4 (by decide) tw_92 rfl rfl dX7_step_6 ?_
    refine q_alen X 0 h2 rfl dX7_step_9 ?_
    refine q_icmp_ge X 22 dX7_step_10 (by decide) (fun c2 => ?_) (fun c2 => ?_)
    · refine q_iconst (v := 1) X dX7_step_22 (by decide) ?_
      exact q_iret X hr dX7_step_23 (⟨congrArg (fun z => some (Value.int z)) (by unfold s3; simp only [*, if_true, if_false, not_true, not_false_eq_true]), rfl⟩)
    · refine q_aload_n X dX7_step_13 0 rfl ?_
      refine q_get X h1 rfl in_RX7 4 (by decide) tw_92 rfl rfl dX7_step_14 ?_
      refine q_iload_n X dX7_step_17 1 rfl ?_
      refine q_iald X h2 (s3_in c1 c2) dX7_step_18 ?_
      refine q_goto X 23 dX7_step_19 (by decide) ?_
      exact q_iret X hr dX7_step_23 (⟨congrArg (fun z => some (Value.int z)) (by unfold s3; simp only [*, if_true, if_false, not_true, not_false_eq_true]), rfl⟩)

theorem c_X7_step {l : Launch} {G : gV} {M : gMem} {a : Nat} {n : Int32} {lo hi : Nat → Int32} (hS : isShape G M a n lo hi) {e : Int32} : qC l G yX7_step cX7_step 2 (some .int) 1 0 0 [.ref a, .int e] M (pP (.int (s3 (sp3 lo hi) 1 e)) M) := by
  obtain ⟨lf, h0, h1, h2, h3⟩ := hS.se
  have h := c_X7_stepL (l := l) h0 (e := e)
  rw [s3_eq (g := sp3 lo hi) h1 h2 h3] at h
  exact h
set_option maxRecDepth 20000 in
theorem c_X7_lengthL {l : Launch} {G : gV} {M : gMem} {a : Nat} {lf : Nat → Int32} (hS : isLN G M a lf) {e : Int32} : qC l G yX7_length cX7_length 2 (some .int) 2 0 0 [.ref a, .int e] M (pP (.int (s3 lf 1 e)) M) := by
  refine qC_of (by decide +kernel) (Nat.le_of_ble_eq_true rfl) (fun F hF X hr hn => ?_)
  subst hF
  have X : qX G F cX7_length 2 RX7 2 := X
  obtain ⟨n, w, r1, r2, q, s, h1, h2⟩ := id hS
  show qJ G F _ 2 M 0 0 0 [(0, .ref a), (1, .int e)] []
  refine q_iload_n X dX7_length_0 1 rfl ?_
  refine q_if_lt X 22 dX7_length_1 (by decide) (fun c1 => ?_) (fun c1 => ?_)
  · refine q_iconst (v := 1) X dX7_length_22 (by decide) ?_
    exact q_iret X hr dX7_length_23 (⟨congrArg (fun z => some (Value.int z)) (by unfold s3; simp only [*, if_true, if_false, not_true, not_false_eq_true]), rfl⟩)
  · refine q_iload_n X dX7_length_4 1 rfl ?_
    refine q_aload_n X dX7_length_5 0 rfl ?_
    refine q_get X h1 rfl in_RX7 3 (by decide) tw_91 rfl rfl dX7_length_6 ?_
    refine q_alen X 0 h2 rfl dX7_length_9 ?_
    refine q_icmp_ge X 22 dX7_length_10 (by decide) (fun c2 => ?_) (fun c2 => ?_)
    · refine q_iconst (v := 1) X dX7_length_22 (by decide) ?_
      exact q_iret X hr dX7_length_23 (⟨congrArg (fun z => some (Value.int z)) (by unfold s3; simp only [*, if_true, if_false, not_true, not_false_eq_true]), rfl⟩)
    · refine q_aload_n X dX7_length_13 0 rfl ?_
      refine q_get X h1 rfl in_RX7 3 (by decide) tw_91 rfl rfl dX7_length_14 ?_
      refine q_iload_n X dX7_length_17 1 rfl ?_
      refine q_iald X h2 (s3_in c1 c2) dX7_length_18 ?_
      refine q_goto X 23 dX7_length_19 (by decide) ?_
      exact q_iret X hr dX7_length_23 (⟨congrArg (fun z => some (Value.int z)) (by unfold s3; simp only [*, if_true, if_false, not_true, not_false_eq_true]), rfl⟩)

theorem c_X7_length {l : Launch} {G : gV} {M : gMem} {a : Nat} {n : Int32} {lo hi : Nat → Int32} (hS : isShape G M a n lo hi) {e : Int32} : qC l G yX7_length cX7_length 2 (some .int) 2 0 0 [.ref a, .int e] M (pP (.int (s3 hi 0 e - s3 lo 0 e + 1)) M) := by
  obtain ⟨lf, h0, h1, h2, h3⟩ := hS.ln
  have h := c_X7_lengthL (l := l) h0 (e := e)
  rw [s3_len h1 h2 h3] at h
  exact h
set_option maxRecDepth 20000 in
theorem c_X7_hasDimension {l : Launch} {G : gV} {M : gMem} {a : Nat} {n : Int32} {lo hi : Nat → Int32} (hS : isShape G M a n lo hi) {e : Int32} : qC l G yX7_hasDimension cX7_hasDimension 2 (some .boolean) 1 0 0 [.ref a, .int e] M (pP (.int (sHas n e)) M) := by
  refine qC_of (by decide +kernel) (Nat.le_of_ble_eq_true rfl) (fun F hF X hr hn => ?_)
  subst hF
  have X : qX G F cX7_hasDimension 2 RX7 1 := X
  obtain ⟨b, c, d, sp, h1, h2, h3, h4, h5, h6, h7, h8, h9⟩ := id hS
  show qJ G F _ 2 M 0 0 0 [(0, .ref a), (1, .int e)] []
  refine q_iload_n X dX7_hasDimension_0 1 rfl ?_
  refine q_if_lt X 16 dX7_hasDimension_1 (by decide) (fun c_1 => ?_) (fun c_1 => ?_)
  · refine q_iconst (v := 0) X dX7_hasDimension_16 (by decide) ?_
    exact q_zret X hr (by decide) dX7_hasDimension_17 (⟨congrArg (fun z => some (Value.int z)) (by unfold sHas; simp only [*, if_true, if_false, not_true, not_false_eq_true]), rfl⟩)
  · refine q_iload_n X dX7_hasDimension_4 1 rfl ?_
    refine q_aload_n X dX7_hasDimension_5 0 rfl ?_
    refine q_get X h1 rfl in_RX7 0 (by decide) tw_88 rfl rfl dX7_hasDimension_6 ?_
    refine q_icmp_ge X 16 dX7_hasDimension_9 (by decide) (fun c_2 => ?_) (fun c_2 => ?_)
    · refine q_iconst (v := 0) X dX7_hasDimension_16 (by decide) ?_
      exact q_zret X hr (by decide) dX7_hasDimension_17 (⟨congrArg (fun z => some (Value.int z)) (by unfold sHas; simp only [*, if_true, if_false, not_true, not_false_eq_true]), rfl⟩)
    · refine q_iconst (v := 1) X dX7_hasDimension_12 (by decide) ?_
      refine q_goto X 17 dX7_hasDimension_13 (by decide) ?_
      exact q_zret X hr (by decide) dX7_hasDimension_17 (⟨congrArg (fun z => some (Value.int z)) (by unfold sHas; simp only [*, if_true, if_false, not_true, not_false_eq_true]), rfl⟩)

theorem s3_N {f : Nat → Int32} {z e : Int32} (j : Nat) (hj : j < 3) (he : e = nI j) : s3 f z e = f j := by
  subst he
  unfold s3
  rw [if_neg (nI_pos (by omega)), if_neg (nI_ge hj (by decide)), nI_clamp (by omega)]
theorem s3_0 {f : Nat → Int32} {z : Int32} : s3 f z 0 = f 0 := s3_N 0 (by decide) (by decide)
theorem s3_1 {f : Nat → Int32} {z : Int32} : s3 f z 1 = f 1 := s3_N 1 (by decide) (by decide)
theorem s3_2 {f : Nat → Int32} {z : Int32} : s3 f z 2 = f 2 := s3_N 2 (by decide) (by decide)
theorem c_X7_lengthN {l : Launch} {G : gV} {M : gMem} {a : Nat} {lf : Nat → Int32} (hS : isLN G M a lf) (j : Nat) (hj : j < 3) {e x : Int32} (he : e = nI j) (hx : lf j = x) : qC l G yX7_length cX7_length 2 (some .int) 2 0 0 [.ref a, .int e] M (pP (.int x) M) := by
  have h := c_X7_lengthL (l := l) hS (e := e)
  rw [s3_N j hj he, hx] at h
  exact h
theorem c_X7_stepN {l : Launch} {G : gV} {M : gMem} {a : Nat} {lf : Nat → Int32} (hS : isSE G M a lf) (j : Nat) (hj : j < 3) {e x : Int32} (he : e = nI j) (hx : lf j = x) : qC l G yX7_step cX7_step 2 (some .int) 1 0 0 [.ref a, .int e] M (pP (.int x) M) := by
  have h := c_X7_stepL (l := l) hS (e := e)
  rw [s3_N j hj he, hx] at h
  exact h
theorem c_X7_lowN {l : Launch} {G : gV} {M : gMem} {a : Nat} {lo hi : Nat → Int32} (hS : isLH G M a lo hi) (j : Nat) (hj : j < 3) {e : Int32} (he : e = nI j) : qC l G yX7_low cX7_low 2 (some .int) 1 0 0 [.ref a, .int e] M (pP (.int (lo j)) M) := by
  have h := c_X7_lowL (l := l) hS (e := e)
  rw [s3_N j hj he] at h
  exact h
theorem c_X7_highN {l : Launch} {G : gV} {M : gMem} {a : Nat} {lo hi : Nat → Int32} (hS : isLH G M a lo hi) (j : Nat) (hj : j < 3) {e : Int32} (he : e = nI j) : qC l G yX7_high cX7_high 2 (some .int) 1 0 0 [.ref a, .int e] M (pP (.int (hi j)) M) := by
  have h := c_X7_highL (l := l) hS (e := e)
  rw [s3_N j hj he] at h
  exact h
def sRange (n : Int32) (lo hi : Nat → Int32) (d f t : Int32) : Int32 := if sHas n d = 0 then 0 else if t < f then 0 else if f < s3 lo 0 d then 0 else if s3 hi 0 d < t then 0 else 1
def sWithin (lo hi : Nat → Int32) : Int32 := if 40 < sL lo hi 0 then 0 else if 40 < sL lo hi 1 then 0 else if 40 < sL lo hi 2 then 0 else if 2048 < sL lo hi 0 * sL lo hi 1 * sL lo hi 2 then 0 else 1
def sOff (n : Int32) (lo hi : Nat → Int32) (d p : Int32) : Int32 := if sHas n d = 0 then 0 else if p < s3 lo 0 d then -1 else if p ≤ s3 hi 0 d then (p - s3 lo 0 d) * s3 (sp3 lo hi) 1 d else -1
def sIdx (n : Int32) (lo hi : Nat → Int32) (x y z : Int32) : Int32 := if sOff n lo hi 0 x < 0 then -1 else if sOff n lo hi 1 y < 0 then -1 else if 0 ≤ sOff n lo hi 2 z then sOff n lo hi 0 x + sOff n lo hi 1 y + sOff n lo hi 2 z else -1
def sPlace (lo hi : Nat → Int32) (i d : Int32) : Int32 := if s3 (sp3 lo hi) 1 d < 1 then 0 else if 1 ≤ s3 hi 0 d - s3 lo 0 d + 1 then s3 lo 0 d + (i / s3 (sp3 lo hi) 1 d - i / s3 (sp3 lo hi) 1 d / (s3 hi 0 d - s3 lo 0 d + 1) * (s3 hi 0 d - s3 lo 0 d + 1)) else 0
theorem g_ne0 {x : Int32} (h : ¬ x < 1) : ¬ x = 0 := fun e => h (by rw [e]; decide)
theorem g_ne1 {x : Int32} (h : 1 ≤ x) : ¬ x = 0 := fun e => absurd (e ▸ h) (by decide)

set_option maxRecDepth 20000 in
theorem c_X7_hasRange {l : Launch} {G : gV} {M : gMem} {a : Nat} {n : Int32} {lo hi : Nat → Int32} (hS : isShape G M a n lo hi) {e f t : Int32} : qC l G yX7_hasRange cX7_hasRange 4 (some .boolean) 2 0 0 [.ref a, .int e, .int f, .int t] M (pP (.int (sRange n lo hi e f t)) M) := by
  refine qC_of (by decide +kernel) (Nat.le_of_ble_eq_true rfl) (fun F hF X hr hn => ?_)
  subst hF
  have X : qX G F cX7_hasRange 4 RX7 2 := X
  obtain ⟨b, c, d, sp, h1, h2, h3, h4, h5, h6, h7, h8, h9⟩ := id hS
  show qJ G F _ 4 M 0 0 0 [(0, .ref a), (1, .int e), (2, .int f), (3, .int t)] []
  refine q_aload_n X dX7_hasRange_0 0 rfl ?_
  refine q_iload_n X dX7_hasRange_1 1 rfl ?_
  refine q_callVp X (c_X7_hasDimension hS) Y_X7_hasDimension tw_269 tw_270 tw_271 h1 rfl (by decide) rfl rfl (Nat.le_of_ble_eq_true rfl) dX7_hasRange_2 ?_
  refine q_if_eq X 35 dX7_hasRange_5 (by decide) (fun c_1 => ?_) (fun c_1 => ?_)
  · refine q_iconst (v := 0) X dX7_hasRange_35 (by decide) ?_
    exact q_zret X hr (by decide) dX7_hasRange_36 (⟨congrArg (fun z => some (Value.int z)) (by unfold sRange; simp only [*, s3_0, s3_1, s3_2, if_true, if_false, not_true, not_false_eq_true]), rfl⟩)
  · refine q_iload_n X dX7_hasRange_8 2 rfl ?_
    refine q_iload_n X dX7_hasRange_9 3 rfl ?_
    refine q_icmp_gt X 35 dX7_hasRange_10 (by decide) (fun c_2 => ?_) (fun c_2 => ?_)
    · refine q_iconst (v := 0) X dX7_hasRange_35 (by decide) ?_
      exact q_zret X hr (by decide) dX7_hasRange_36 (⟨congrArg (fun z => some (Value.int z)) (by unfold sRange; simp only [*, s3_0, s3_1, s3_2, if_true, if_false, not_true, not_false_eq_true]), rfl⟩)
    · refine q_iload_n X dX7_hasRange_13 2 rfl ?_
      refine q_aload_n X dX7_hasRange_14 0 rfl ?_
      refine q_iload_n X dX7_hasRange_15 1 rfl ?_
      refine q_callVp X (c_X7_low hS) Y_X7_low tw_76 tw_77 tw_78 h1 rfl (by decide) rfl rfl (Nat.le_of_ble_eq_true rfl) dX7_hasRange_16 ?_
      refine q_icmp_lt X 35 dX7_hasRange_19 (by decide) (fun c_3 => ?_) (fun c_3 => ?_)
      · refine q_iconst (v := 0) X dX7_hasRange_35 (by decide) ?_
        exact q_zret X hr (by decide) dX7_hasRange_36 (⟨congrArg (fun z => some (Value.int z)) (by unfold sRange; simp only [*, s3_0, s3_1, s3_2, if_true, if_false, not_true, not_false_eq_true]), rfl⟩)
      · refine q_iload_n X dX7_hasRange_22 3 rfl ?_
        refine q_aload_n X dX7_hasRange_23 0 rfl ?_
        refine q_iload_n X dX7_hasRange_24 1 rfl ?_
        refine q_callVp X (c_X7_high hS) Y_X7_high tw_72 tw_73 tw_74 h1 rfl (by decide) rfl rfl (Nat.le_of_ble_eq_true rfl) dX7_hasRange_25 ?_
        refine q_icmp_gt X 35 dX7_hasRange_28 (by decide) (fun c_4 => ?_) (fun c_4 => ?_)
        · refine q_iconst (v := 0) X dX7_hasRange_35 (by decide) ?_
          exact q_zret X hr (by decide) dX7_hasRange_36 (⟨congrArg (fun z => some (Value.int z)) (by unfold sRange; simp only [*, s3_0, s3_1, s3_2, if_true, if_false, not_true, not_false_eq_true]), rfl⟩)
        · refine q_iconst (v := 1) X dX7_hasRange_31 (by decide) ?_
          refine q_goto X 36 dX7_hasRange_32 (by decide) ?_
          exact q_zret X hr (by decide) dX7_hasRange_36 (⟨congrArg (fun z => some (Value.int z)) (by unfold sRange; simp only [*, s3_0, s3_1, s3_2, if_true, if_false, not_true, not_false_eq_true]), rfl⟩)

set_option maxRecDepth 20000 in
theorem c_X7_isWithinLimits {l : Launch} {G : gV} {M : gMem} {a : Nat} {n : Int32} {lo hi : Nat → Int32} (hS : isShape G M a n lo hi) : qC l G yX7_isWithinLimits cX7_isWithinLimits 1 (some .boolean) 3 0 0 [.ref a] M (pP (.int (sWithin lo hi)) M) := by
  refine qC_of (by decide +kernel) (Nat.le_of_ble_eq_true rfl) (fun F hF X hr hn => ?_)
  subst hF
  have X : qX G F cX7_isWithinLimits 1 RX7 3 := X
  obtain ⟨b, c, d, sp, h1, h2, h3, h4, h5, h6, h7, h8, h9⟩ := id hS
  show qJ G F _ 1 M 0 0 0 [(0, .ref a)] []
  refine q_aload_n X dX7_isWithinLimits_0 0 rfl ?_
  refine q_iconst (v := 0) X dX7_isWithinLimits_1 (by decide) ?_
  refine q_callVp X (c_X7_length hS) Y_X7_length tw_80 tw_81 tw_82 h1 rfl (by decide) rfl rfl (Nat.le_of_ble_eq_true rfl) dX7_isWithinLimits_2 ?_
  refine q_bipush (v := 40) X dX7_isWithinLimits_5 (by decide) ?_
  refine q_icmp_gt X 44 dX7_isWithinLimits_7 (by decide) (fun c_1 => ?_) (fun c_1 => ?_)
  · refine q_iconst (v := 0) X dX7_isWithinLimits_44 (by decide) ?_
    simp only [s3_0, s3_1, s3_2, show ∀ d, hi d - lo d + 1 = sL lo hi d from fun _ => rfl] at *
    exact q_zret X hr (by decide) dX7_isWithinLimits_45 (⟨congrArg (fun z => some (Value.int z)) (by unfold sWithin; simp only [*, s3_0, s3_1, s3_2, if_true, if_false, not_true, not_false_eq_true]), rfl⟩)
  · refine q_aload_n X dX7_isWithinLimits_10 0 rfl ?_
    refine q_iconst (v := 1) X dX7_isWithinLimits_11 (by decide) ?_
    refine q_callVp X (c_X7_length hS) Y_X7_length tw_80 tw_81 tw_82 h1 rfl (by decide) rfl rfl (Nat.le_of_ble_eq_true rfl) dX7_isWithinLimits_12 ?_
    refine q_bipush (v := 40) X dX7_isWithinLimits_15 (by decide) ?_
    refine q_icmp_gt X 44 dX7_isWithinLimits_17 (by decide) (fun c_2 => ?_) (fun c_2 => ?_)
    · refine q_iconst (v := 0) X dX7_isWithinLimits_44 (by decide) ?_
      simp only [s3_0, s3_1, s3_2, show ∀ d, hi d - lo d + 1 = sL lo hi d from fun _ => rfl] at *
      exact q_zret X hr (by decide) dX7_isWithinLimits_45 (⟨congrArg (fun z => some (Value.int z)) (by unfold sWithin; simp only [*, s3_0, s3_1, s3_2, if_true, if_false, not_true, not_false_eq_true]), rfl⟩)
    · refine q_aload_n X dX7_isWithinLimits_20 0 rfl ?_
      refine q_iconst (v := 2) X dX7_isWithinLimits_21 (by decide) ?_
      refine q_callVp X (c_X7_length hS) Y_X7_length tw_80 tw_81 tw_82 h1 rfl (by decide) rfl rfl (Nat.le_of_ble_eq_true rfl) dX7_isWithinLimits_22 ?_
      refine q_bipush (v := 40) X dX7_isWithinLimits_25 (by decide) ?_
      refine q_icmp_gt X 44 dX7_isWithinLimits_27 (by decide) (fun c_3 => ?_) (fun c_3 => ?_)
      · refine q_iconst (v := 0) X dX7_isWithinLimits_44 (by decide) ?_
        simp only [s3_0, s3_1, s3_2, show ∀ d, hi d - lo d + 1 = sL lo hi d from fun _ => rfl] at *
        exact q_zret X hr (by decide) dX7_isWithinLimits_45 (⟨congrArg (fun z => some (Value.int z)) (by unfold sWithin; simp only [*, s3_0, s3_1, s3_2, if_true, if_false, not_true, not_false_eq_true]), rfl⟩)
      · refine q_aload_n X dX7_isWithinLimits_30 0 rfl ?_
        refine q_get X h1 rfl in_RX7 5 (by decide) tw_93 rfl rfl dX7_isWithinLimits_31 ?_
        refine q_sipush (v := 2048) X dX7_isWithinLimits_34 (by decide) ?_
        refine q_icmp_gt X 44 dX7_isWithinLimits_37 (by decide) (fun c_4 => ?_) (fun c_4 => ?_)
        · refine q_iconst (v := 0) X dX7_isWithinLimits_44 (by decide) ?_
          simp only [s3_0, s3_1, s3_2, show ∀ d, hi d - lo d + 1 = sL lo hi d from fun _ => rfl] at *
          exact q_zret X hr (by decide) dX7_isWithinLimits_45 (⟨congrArg (fun z => some (Value.int z)) (by unfold sWithin; simp only [*, s3_0, s3_1, s3_2, if_true, if_false, not_true, not_false_eq_true]), rfl⟩)
        · refine q_iconst (v := 1) X dX7_isWithinLimits_40 (by decide) ?_
          refine q_goto X 45 dX7_isWithinLimits_41 (by decide) ?_
          simp only [s3_0, s3_1, s3_2, show ∀ d, hi d - lo d + 1 = sL lo hi d from fun _ => rfl] at *
          exact q_zret X hr (by decide) dX7_isWithinLimits_45 (⟨congrArg (fun z => some (Value.int z)) (by unfold sWithin; simp only [*, s3_0, s3_1, s3_2, if_true, if_false, not_true, not_false_eq_true]), rfl⟩)

set_option maxRecDepth 20000 in
theorem c_X7_offset {l : Launch} {G : gV} {M : gMem} {a : Nat} {n : Int32} {lo hi : Nat → Int32} (hS : isShape G M a n lo hi) {e p : Int32} : qC l G yX7_offset cX7_offset 3 (some .int) 2 0 0 [.ref a, .int e, .int p] M (pP (.int (sOff n lo hi e p)) M) := by
  refine qC_of (by decide +kernel) (Nat.le_of_ble_eq_true rfl) (fun F hF X hr hn => ?_)
  subst hF
  have X : qX G F cX7_offset 3 RX7 2 := X
  obtain ⟨b, c, d, sp, h1, h2, h3, h4, h5, h6, h7, h8, h9⟩ := id hS
  show qJ G F _ 3 M 0 0 0 [(0, .ref a), (1, .int e), (2, .int p)] []
  refine q_aload_n X dX7_offset_0 0 rfl ?_
  refine q_iload_n X dX7_offset_1 1 rfl ?_
  refine q_callVp X (c_X7_hasDimension hS) Y_X7_hasDimension tw_269 tw_270 tw_271 h1 rfl (by decide) rfl rfl (Nat.le_of_ble_eq_true rfl) dX7_offset_2 ?_
  refine q_if_ne X 10 dX7_offset_5 (by decide) (fun c_1 => ?_) (fun c_1 => ?_)
  · refine q_iload_n X dX7_offset_10 2 rfl ?_
    refine q_aload_n X dX7_offset_11 0 rfl ?_
    refine q_iload_n X dX7_offset_12 1 rfl ?_
    refine q_callVp X (c_X7_low hS) Y_X7_low tw_76 tw_77 tw_78 h1 rfl (by decide) rfl rfl (Nat.le_of_ble_eq_true rfl) dX7_offset_13 ?_
    refine q_icmp_lt X 28 dX7_offset_16 (by decide) (fun c_2 => ?_) (fun c_2 => ?_)
    · refine q_iconst (v := (-1)) X dX7_offset_28 (by decide) ?_
      refine q_goto X 45 dX7_offset_29 (by decide) ?_
      exact q_iret X hr dX7_offset_45 (⟨congrArg (fun z => some (Value.int z)) (by unfold sOff; simp only [*, s3_0, s3_1, s3_2, if_true, if_false, not_true, not_false_eq_true]), rfl⟩)
    · refine q_iload_n X dX7_offset_19 2 rfl ?_
      refine q_aload_n X dX7_offset_20 0 rfl ?_
      refine q_iload_n X dX7_offset_21 1 rfl ?_
      refine q_callVp X (c_X7_high hS) Y_X7_high tw_72 tw_73 tw_74 h1 rfl (by decide) rfl rfl (Nat.le_of_ble_eq_true rfl) dX7_offset_22 ?_
      refine q_icmp_le X 32 dX7_offset_25 (by decide) (fun c_3 => ?_) (fun c_3 => ?_)
      · refine q_iload_n X dX7_offset_32 2 rfl ?_
        refine q_aload_n X dX7_offset_33 0 rfl ?_
        refine q_iload_n X dX7_offset_34 1 rfl ?_
        refine q_callVp X (c_X7_low hS) Y_X7_low tw_76 tw_77 tw_78 h1 rfl (by decide) rfl rfl (Nat.le_of_ble_eq_true rfl) dX7_offset_35 ?_
        refine q_isub X dX7_offset_38 ?_
        refine q_aload_n X dX7_offset_39 0 rfl ?_
        refine q_iload_n X dX7_offset_40 1 rfl ?_
        refine q_callVp X (c_X7_step hS) Y_X7_step tw_84 tw_85 tw_86 h1 rfl (by decide) rfl rfl (Nat.le_of_ble_eq_true rfl) dX7_offset_41 ?_
        refine q_imul X dX7_offset_44 ?_
        exact q_iret X hr dX7_offset_45 (⟨congrArg (fun z => some (Value.int z)) (by unfold sOff; simp only [*, s3_0, s3_1, s3_2, if_true, if_false, not_true, not_false_eq_true]), rfl⟩)
      · refine q_iconst (v := (-1)) X dX7_offset_28 (by decide) ?_
        refine q_goto X 45 dX7_offset_29 (by decide) ?_
        exact q_iret X hr dX7_offset_45 (⟨congrArg (fun z => some (Value.int z)) (by unfold sOff; simp only [*, s3_0, s3_1, s3_2, if_true, if_false, not_true, not_false_eq_true]), rfl⟩)
  · refine q_iconst (v := 0) X dX7_offset_8 (by decide) ?_
    exact q_iret X hr dX7_offset_9 (⟨congrArg (fun z => some (Value.int z)) (by unfold sOff; simp only [*, s3_0, s3_1, s3_2, if_true, if_false, not_true, not_false_eq_true]), rfl⟩)

set_option maxRecDepth 20000 in
theorem c_X7_indexOf {l : Launch} {G : gV} {M : gMem} {a : Nat} {n : Int32} {lo hi : Nat → Int32} (hS : isShape G M a n lo hi) {x y z : Int32} : qC l G yX7_indexOf cX7_indexOf 7 (some .int) 3 0 0 [.ref a, .int x, .int y, .int z] M (pP (.int (sIdx n lo hi x y z)) M) := by
  refine qC_of (by decide +kernel) (Nat.le_of_ble_eq_true rfl) (fun F hF X hr hn => ?_)
  subst hF
  have X : qX G F cX7_indexOf 7 RX7 3 := X
  obtain ⟨b, c, d, sp, h1, h2, h3, h4, h5, h6, h7, h8, h9⟩ := id hS
  show qJ G F _ 7 M 0 0 0 [(0, .ref a), (1, .int x), (2, .int y), (3, .int z)] []
  refine q_aload_n X dX7_indexOf_0 0 rfl ?_
  refine q_iconst (v := 0) X dX7_indexOf_1 (by decide) ?_
  refine q_iload_n X dX7_indexOf_2 1 rfl ?_
  refine q_callVp X (c_X7_offset hS) Y_X7_offset tw_265 tw_267 sel_5 h1 rfl (by decide) rfl rfl (Nat.le_of_ble_eq_true rfl) dX7_indexOf_3 ?_
  refine q_istore (lv' := [(4, .int (sOff n lo hi 0 x)), (0, .ref a), (1, .int x), (2, .int y), (3, .int z)]) X dX7_indexOf_6 (by decide) rfl ?_
  refine q_aload_n X dX7_indexOf_8 1 rfl ?_
  refine q_iconst (v := 1) X dX7_indexOf_9 (by decide) ?_
  refine q_iload_n X dX7_indexOf_10 3 rfl ?_
  refine q_callVp X (c_X7_offset hS) Y_X7_offset tw_265 tw_267 sel_5 h1 rfl (by decide) rfl rfl (Nat.le_of_ble_eq_true rfl) dX7_indexOf_11 ?_
  refine q_istore (lv' := [(5, .int (sOff n lo hi 1 y)), (4, .int (sOff n lo hi 0 x)), (0, .ref a), (1, .int x), (2, .int y), (3, .int z)]) X dX7_indexOf_14 (by decide) rfl ?_
  refine q_aload_n X dX7_indexOf_16 2 rfl ?_
  refine q_iconst (v := 2) X dX7_indexOf_17 (by decide) ?_
  refine q_iload_n X dX7_indexOf_18 5 rfl ?_
  refine q_callVp X (c_X7_offset hS) Y_X7_offset tw_265 tw_267 sel_5 h1 rfl (by decide) rfl rfl (Nat.le_of_ble_eq_true rfl) dX7_indexOf_19 ?_
  refine q_istore (lv' := [(6, .int (sOff n lo hi 2 z)), (5, .int (sOff n lo hi 1 y)), (4, .int (sOff n lo hi 0 x)), (0, .ref a), (1, .int x), (2, .int y), (3, .int z)]) X dX7_indexOf_22 (by decide) rfl ?_
  refine q_iload X dX7_indexOf_24 2 rfl ?_
  refine q_if_lt X 39 dX7_indexOf_26 (by decide) (fun c_1 => ?_) (fun c_1 => ?_)
  · refine q_iconst (v := (-1)) X dX7_indexOf_39 (by decide) ?_
    refine q_goto X 51 dX7_indexOf_40 (by decide) ?_
    exact q_iret X hr dX7_indexOf_51 (⟨congrArg (fun z => some (Value.int z)) (by unfold sIdx; simp only [*, s3_0, s3_1, s3_2, if_true, if_false, not_true, not_false_eq_true]), rfl⟩)
  · refine q_iload X dX7_indexOf_29 1 rfl ?_
    refine q_if_lt X 39 dX7_indexOf_31 (by decide) (fun c_2 => ?_) (fun c_2 => ?_)
    · refine q_iconst (v := (-1)) X dX7_indexOf_39 (by decide) ?_
      refine q_goto X 51 dX7_indexOf_40 (by decide) ?_
      exact q_iret X hr dX7_indexOf_51 (⟨congrArg (fun z => some (Value.int z)) (by unfold sIdx; simp only [*, s3_0, s3_1, s3_2, if_true, if_false, not_true, not_false_eq_true]), rfl⟩)
    · refine q_iload X dX7_indexOf_34 0 rfl ?_
      refine q_if_ge X 43 dX7_indexOf_36 (by decide) (fun c_3 => ?_) (fun c_3 => ?_)
      · refine q_iload X dX7_indexOf_43 2 rfl ?_
        refine q_iload X dX7_indexOf_45 1 rfl ?_
        refine q_iadd X dX7_indexOf_47 ?_
        refine q_iload X dX7_indexOf_48 0 rfl ?_
        refine q_iadd X dX7_indexOf_50 ?_
        exact q_iret X hr dX7_indexOf_51 (⟨congrArg (fun z => some (Value.int z)) (by unfold sIdx; simp only [*, s3_0, s3_1, s3_2, if_true, if_false, not_true, not_false_eq_true]), rfl⟩)
      · refine q_iconst (v := (-1)) X dX7_indexOf_39 (by decide) ?_
        refine q_goto X 51 dX7_indexOf_40 (by decide) ?_
        exact q_iret X hr dX7_indexOf_51 (⟨congrArg (fun z => some (Value.int z)) (by unfold sIdx; simp only [*, s3_0, s3_1, s3_2, if_true, if_false, not_true, not_false_eq_true]), rfl⟩)

set_option maxRecDepth 20000 in
theorem c_X7_placeOf {l : Launch} {G : gV} {M : gMem} {a : Nat} {n : Int32} {lo hi : Nat → Int32} (hS : isShape G M a n lo hi) {i e : Int32} : qC l G yX7_placeOf cX7_placeOf 5 (some .int) 3 0 0 [.ref a, .int i, .int e] M (pP (.int (sPlace lo hi i e)) M) := by
  refine qC_of (by decide +kernel) (Nat.le_of_ble_eq_true rfl) (fun F hF X hr hn => ?_)
  subst hF
  have X : qX G F cX7_placeOf 5 RX7 3 := X
  obtain ⟨b, c, d, sp, h1, h2, h3, h4, h5, h6, h7, h8, h9⟩ := id hS
  show qJ G F _ 5 M 0 0 0 [(0, .ref a), (1, .int i), (2, .int e)] []
  refine q_aload_n X dX7_placeOf_0 0 rfl ?_
  refine q_iload_n X dX7_placeOf_1 2 rfl ?_
  refine q_callVp X (c_X7_step hS) Y_X7_step tw_84 tw_85 tw_86 h1 rfl (by decide) rfl rfl (Nat.le_of_ble_eq_true rfl) dX7_placeOf_2 ?_
  refine q_istore_n (lv' := [(3, .int (s3 (sp3 lo hi) 1 e)), (0, .ref a), (1, .int i), (2, .int e)]) X dX7_placeOf_5 (by decide) rfl ?_
  refine q_aload_n X dX7_placeOf_6 1 rfl ?_
  refine q_iload_n X dX7_placeOf_7 3 rfl ?_
  refine q_callVp X (c_X7_length hS) Y_X7_length tw_80 tw_81 tw_82 h1 rfl (by decide) rfl rfl (Nat.le_of_ble_eq_true rfl) dX7_placeOf_8 ?_
  refine q_istore (lv' := [(4, .int (s3 hi 0 e - s3 lo 0 e + 1)), (3, .int (s3 (sp3 lo hi) 1 e)), (0, .ref a), (1, .int i), (2, .int e)]) X dX7_placeOf_11 (by decide) rfl ?_
  refine q_iload_n X dX7_placeOf_13 1 rfl ?_
  refine q_iconst (v := 1) X dX7_placeOf_14 (by decide) ?_
  refine q_icmp_lt X 24 dX7_placeOf_15 (by decide) (fun c1 => ?_) (fun c1 => ?_)
  · refine q_iconst (v := 0) X dX7_placeOf_24 (by decide) ?_
    exact q_iret X hr dX7_placeOf_25 (⟨congrArg (fun z => some (Value.int z)) (by unfold sPlace; simp only [*, s3_0, s3_1, s3_2, if_true, if_false, not_true, not_false_eq_true]), rfl⟩)
  · refine q_iload X dX7_placeOf_18 0 rfl ?_
    refine q_iconst (v := 1) X dX7_placeOf_20 (by decide) ?_
    refine q_icmp_ge X 26 dX7_placeOf_21 (by decide) (fun c2 => ?_) (fun c2 => ?_)
    · refine q_aload_n X dX7_placeOf_26 2 rfl ?_
      refine q_iload_n X dX7_placeOf_27 4 rfl ?_
      refine q_callVp X (c_X7_low hS) Y_X7_low tw_76 tw_77 tw_78 h1 rfl (by decide) rfl rfl (Nat.le_of_ble_eq_true rfl) dX7_placeOf_28 ?_
      refine q_iload_n X dX7_placeOf_31 3 rfl ?_
      refine q_iload_n X dX7_placeOf_32 1 rfl ?_
      refine q_idiv X dX7_placeOf_33 (g_ne0 c1) ?_
      refine q_iload X dX7_placeOf_34 0 rfl ?_
      refine q_irem X dX7_placeOf_36 (g_ne1 c2) ?_
      refine q_iadd X dX7_placeOf_37 ?_
      exact q_iret X hr dX7_placeOf_38 (⟨congrArg (fun z => some (Value.int z)) (by unfold sPlace; simp only [*, s3_0, s3_1, s3_2, if_true, if_false, not_true, not_false_eq_true]), rfl⟩)
    · refine q_iconst (v := 0) X dX7_placeOf_24 (by decide) ?_
      exact q_iret X hr dX7_placeOf_25 (⟨congrArg (fun z => some (Value.int z)) (by unfold sPlace; simp only [*, s3_0, s3_1, s3_2, if_true, if_false, not_true, not_false_eq_true]), rfl⟩)
