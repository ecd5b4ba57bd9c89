/-! the law's loop, its start -/
/-- what later calls may still cost beyond their share -/
def pot (σ : sA) : Nat := 6200 * (41 - (aV σ).length) + 300000 * (2 - aBg σ)
def oY (σ : sA) (o : oc) : Prop := (aV o.2.2).length = (aV σ).length ∧ aBg o.2.2 = aBg σ
section OY
variable {σ : sA}
theorem oY_T {E : String} : oY σ (oT E σ) := ⟨rfl, rfl⟩
theorem oY_I {n : Int32} : oY σ (oI n σ) := ⟨rfl, rfl⟩
theorem oY_N {w : vN} : oY σ (oN σ w) := ⟨rfl, rfl⟩
theorem oY_if {c : Prop} [Decidable c] {a b : oc} (ha : oY σ a) (hb : oY σ b) : oY σ (if c then a else b) := by split; exact ha; exact hb
theorem oY_Room {k : oc} (h : oY σ k) : oY σ (gRoom σ k) := oY_if h oY_T
theorem oY_Need {b : Prop} [Decidable b] {k : oc} (h : oY σ k) : oY σ (gNeed σ b k) := oY_if h oY_T
theorem oY_Lim {lo hi : Nat → Int32} {dp : Int32} {k : oc} (h : oY σ k) : oY σ (gLim σ lo hi dp k) := oY_if h oY_T
theorem oY_Node {i : Int32} {k : vN → oc} (h : ∀ w, oY σ (k w)) : oY σ (gNode σ i k) := by
  unfold gNode; split
  · exact oY_T
  · exact h _
theorem oY_Ver {i : Int32} {k : (Nat → Option Int64) × Nat → oc} (h : ∀ w, oY σ (k w)) : oY σ (gVer σ i k) := by
  unfold gVer; split
  · exact oY_T
  · exact h _
theorem oY_L {r : Option Int64} {E : String} : oY σ (oL r E σ) := by
  unfold oL; split
  · exact oY_T
  · exact ⟨rfl, rfl⟩
theorem oY.p {o : oc} (h : oY σ o) : pot o.2.2 = pot σ := by unfold pot; rw [h.1, h.2]
theorem y_put {x y z : Int32} {v : Int64} : oY σ (sp_put σ x y z v) := oY_if ⟨rfl, rfl⟩ oY_T
theorem y_erase {x y z : Int32} : oY σ (sp_erase σ x y z) := oY_if ⟨rfl, rfl⟩ oY_T
theorem y_fill {d x y : Int32} {v : Int64} : oY σ (sp_fill σ d x y v) := oY_if oY_T ⟨rfl, rfl⟩
theorem y_open {i : Int32} : oY σ (sp_open σ i) := by
  unfold sp_open; split
  · exact oY_T
  · exact ⟨rfl, rfl⟩
theorem y_version {i w : Int32} : oY σ (sp_version σ i w) := by
  unfold sp_version; split
  · exact oY_T
  · exact oY_if oY_I (oY_if oY_I (oY_if oY_I (oY_if oY_I oY_T)))
theorem y_differ {i j : Int32} : oY σ (sp_differ σ i j) := by
  unfold sp_differ; split
  · exact oY_T
  · split
    · exact oY_T
    · exact oY_I
theorem y_read {i : Int32} : oY σ (sp_read σ i) := oY_Room (oY_Ver fun _ => oY_N)
theorem y_sub {a d x y : Int32} : oY σ (sp_sub σ a d x y) := oY_Room (oY_Node fun _ => oY_Need (oY_Lim oY_N))
theorem y_slice {a d t : Int32} : oY σ (sp_slice σ a d t) := oY_Room (oY_Node fun _ => oY_Need (oY_Lim oY_N))
theorem y_extend {a d x y : Int32} : oY σ (sp_extend σ a d x y) := oY_Room (oY_Node fun _ => oY_Need (oY_Need (oY_Lim oY_N)))
theorem y_apply {a op : Int32} {c : Int64} : oY σ (sp_apply σ a op c) := oY_Room (oY_Node fun _ => oY_Need (oY_Lim oY_N))
theorem y_filter {a op : Int32} {c : Int64} : oY σ (sp_filter σ a op c) := oY_Room (oY_Node fun _ => oY_Need (oY_Lim oY_N))
theorem y_join {a b op : Int32} : oY σ (sp_join σ a b op) := oY_Room (oY_Node fun _ => oY_Node fun _ => oY_Need (oY_Need (oY_Lim oY_N)))
theorem y_gather {a d w : Int32} : oY σ (sp_gather σ a d w) := oY_Room (oY_Node fun _ => oY_Need (oY_Lim oY_N))
theorem y_regrid {a d k w : Int32} : oY σ (sp_regrid σ a d k w) := oY_Room (oY_Node fun _ => oY_Need (oY_Lim oY_N))
theorem y_window {a d r w : Int32} : oY σ (sp_window σ a d r w) := oY_Room (oY_Node fun _ => oY_Need (oY_Lim oY_N))
theorem y_swap {a d e : Int32} : oY σ (sp_swap σ a d e) := oY_Room (oY_Node fun _ => oY_Need (oY_Lim oY_N))
theorem y_product {a b : Int32} : oY σ (sp_product σ a b) := oY_Room (oY_Node fun _ => oY_Node fun _ => oY_Need (oY_Lim oY_N))
theorem y_shape {a w : Int32} : oY σ (sp_shape σ a w) := oY_Node fun _ => oY_Need (oY_if oY_I (oY_if oY_I (oY_if oY_I (oY_if oY_I oY_I))))
theorem y_cell {a x y z : Int32} : oY σ (sp_cell σ a x y z) := oY_Node fun _ => oY_if oY_L oY_T
theorem y_all {a w : Int32} : oY σ (sp_all σ a w) := oY_Node fun _ => oY_Need oY_L
theorem y_count {w : Int32} : oY σ (sp_count σ w) := by
  unfold sp_count
  refine oY_if oY_I (oY_if oY_I (oY_if oY_I (oY_if ?_ oY_T)))
  split
  · exact oY_T
  · exact oY_I
theorem cm_y (h : (aV σ).length < 41) : (aV (sp_commit σ).2.2).length = (aV σ).length + 1 ∧ aBg (sp_commit σ).2.2 = aBg σ := by
  unfold sp_commit; rw [if_pos h]
  exact ⟨by show (aV σ ++ [(aD σ, aOf σ)]).length = _; simp, rfl⟩
theorem cm_n (h : ¬ (aV σ).length < 41) : oY σ (sp_commit σ) := by unfold sp_commit; rw [if_neg h]; exact oY_T
theorem be_y {n a b c d e f : Int32} (h : (sp_begin σ n a b c d e f).1 = none) : (aV (sp_begin σ n a b c d e f).2.2).length = 1 ∧ aBg (sp_begin σ n a b c d e f).2.2 = aBg σ + 1 ∧ nI (aBg σ) < 2 := by
  unfold sp_begin at h ⊢
  by_cases c1 : ¬ nI (aBg σ) < 2
  · rw [if_pos c1] at h; cases h
  rw [if_neg c1] at h ⊢
  by_cases c2 : n < 1
  · rw [if_pos c2] at h; cases h
  rw [if_neg c2] at h ⊢
  by_cases c3 : 3 < n
  · rw [if_pos c3] at h; cases h
  rw [if_neg c3] at h ⊢
  by_cases c4 : aRange a b = 0
  · rw [if_pos c4] at h; cases h
  rw [if_neg c4] at h ⊢
  by_cases c5 : ¬ n < 2 ∧ aRange c d = 0
  · rw [if_pos c5] at h; cases h
  rw [if_neg c5] at h ⊢
  by_cases c6 : ¬ n < 3 ∧ aRange e f = 0
  · rw [if_pos c6] at h; cases h
  rw [if_neg c6] at h ⊢
  exact ⟨rfl, rfl, Classical.not_not.mp c1⟩
theorem be_no {n a b c d e f : Int32} (h : (sp_begin σ n a b c d e f).1 ≠ none) : oY σ (sp_begin σ n a b c d e f) := by
  unfold sp_begin at h ⊢
  by_cases c1 : ¬ nI (aBg σ) < 2
  · rw [if_pos c1]; exact oY_T
  rw [if_neg c1] at h ⊢
  by_cases c2 : n < 1
  · rw [if_pos c2]; exact oY_T
  rw [if_neg c2] at h ⊢
  by_cases c3 : 3 < n
  · rw [if_pos c3]; exact oY_T
  rw [if_neg c3] at h ⊢
  by_cases c4 : aRange a b = 0
  · rw [if_pos c4]; exact oY_T
  rw [if_neg c4] at h ⊢
  by_cases c5 : ¬ n < 2 ∧ aRange c d = 0
  · rw [if_pos c5]; exact oY_T
  rw [if_neg c5] at h ⊢
  by_cases c6 : ¬ n < 3 ∧ aRange e f = 0
  · rw [if_pos c6]; exact oY_T
  rw [if_neg c6] at h
  exact absurd rfl h
theorem bg_lt {k : Nat} (hk : k ≤ 2) (h : nI k < 2) : k < 2 := by
  rcases (show k = 0 ∨ k = 1 ∨ k = 2 by omega) with rfl | rfl | rfl
  · decide
  · decide
  · exact absurd h (by decide)
theorem be_pot {n a b c d e f : Int32} (hg : aBg σ ≤ 2) (h : (sp_begin σ n a b c d e f).1 = none) : pot (sp_begin σ n a b c d e f).2.2 + 52000 ≤ pot σ := by
  obtain ⟨h1, h2, h3⟩ := be_y h
  have h4 := bg_lt hg h3
  unfold pot
  rw [h1, h2]
  omega
theorem cm_pot (h : (aV σ).length < 41) : pot (sp_commit σ).2.2 + 6200 = pot σ := by
  obtain ⟨h1, h2⟩ := cm_y h
  unfold pot
  rw [h1, h2]
  omega
end OY
theorem ls_x {t L : Nat} (h : L < 8 * t + 8) (h2 : 8 * t ≤ L) (hL : L ≤ 4096) : nI L - 8 < nI (8 * t) := by
  have e8 : (8 : Int32).toInt = 8 := by decide
  rw [Int32.lt_iff_toInt_lt, i_sub (by rw [nI_toInt (by omega), e8]; omega) (by rw [nI_toInt (by omega), e8]; omega), nI_toInt (by omega), nI_toInt (by omega), e8]; omega
theorem ls_b {t L : Nat} (h : 8 * t + 8 ≤ L) (hL : L ≤ 4096) : ¬ nI L - 8 < nI (8 * t) := by
  have e8 : (8 : Int32).toInt = 8 := by decide
  rw [Int32.lt_iff_toInt_lt, i_sub (by rw [nI_toInt (by omega), e8]; omega) (by rw [nI_toInt (by omega), e8]; omega), nI_toInt (by omega), nI_toInt (by omega), e8]; omega

set_option maxRecDepth 20000 in
theorem law_loop {G : gV} {F : gF} {Q : State → Prop} {b L g r ou : Nat} {xs : Nat → Int32} (X : qX G F cL_law 8 RL 202) (hl : (fl F).stackTraces = false) (hX : sX F b L xs) (hfin : ∀ M : gMem, qJ G F Q 8 M 0 0 2072 [(0, .ref b)] []) : ∀ (n t : Nat) (σ : sA) (M : gMem), t + n = L / 8 → lI G g r ou σ M → qJ G F Q 8 M (300 * n) (6700 * n + pot σ) 23 [(0, .ref b), (1, .ref g), (2, .ref r), (3, .ref ou), (4, .int (nI (8 * t)))] [] := by
  have h4k := hX.2.2.2
  intro n
  induction n with
  | zero =>
    intro t σ M ht hI
    refine q_iload X dL_law_23 4 rfl ?_
    refine q_aload_n X dL_law_25 0 rfl ?_
    refine q_slen X hX dL_law_26 ?_
    refine q_bipush (v := 8) X dL_law_27 (by decide) ?_
    refine q_isub X dL_law_29 ?_
    refine q_icmp_gt X 2072 dL_law_30 (by decide) (fun c_1 => ?_) (fun c_1 => absurd (ls_x (by omega) (by omega) h4k) c_1)
    refine q_room (Nat.zero_le _) (Nat.zero_le _) ?_
    refine q_sub [0] rfl ?_
    exact hfin M
  | succ n ih =>
    intro t σ M ht hI
    have h8 : 8 * t + 8 ≤ L := by omega
    have nxt : ∀ (M2 : gMem) (σ2 : sA), lI G g r ou σ2 M2 → qJ G F Q 8 M2 (300 * n) (6700 * n + pot σ2) 2066 [(0, .ref b), (1, .ref g), (2, .ref r), (3, .ref ou), (4, .int (nI (8 * t)))] [] := by
      intro M2 σ2 hI2
      refine q_iinc (v := (nI (8 * (t + 1)))) (lv' := [(4, .int (nI (8 * (t + 1)))), (0, .ref b), (1, .ref g), (2, .ref r), (3, .ref ou)]) X dL_law_2066 4 rfl (nI_add _ 8) (by decide) rfl ?_
      refine q_goto X 23 dL_law_2069 (by decide) ?_
      refine q_sub [1, 2, 3, 4, 0] rfl ?_
      exact ih (t + 1) σ2 M2 (by omega) hI2
    refine q_iload X dL_law_23 4 rfl ?_
    refine q_aload_n X dL_law_25 0 rfl ?_
    refine q_slen X hX dL_law_26 ?_
    refine q_bipush (v := 8) X dL_law_27 (by decide) ?_
    refine q_isub X dL_law_29 ?_
    refine q_icmp_gt X 2072 dL_law_30 (by decide) (fun c_2 => absurd c_2 (ls_b h8 h4k)) (fun c_2 => ?_)
    refine q_aload_n X dL_law_33 0 rfl ?_
    refine q_iload X dL_law_34 4 rfl ?_
    refine q_sld X hX (8 * t) rfl (by omega) dL_law_36 ?_
    refine q_bipush (v := 31) X dL_law_37 (by decide) ?_
    refine q_iand X dL_law_39 ?_
    refine q_topi (fun sw esw => ?_)
    clear esw
    by_cases k0 : 0 ≤ sw.toInt ∧ sw.toInt ≤ 23
    · have ko : sw = 0 ∨ sw = 1 ∨ sw = 2 ∨ sw = 3 ∨ sw = 4 ∨ sw = 5 ∨ sw = 6 ∨ sw = 7 ∨ sw = 8 ∨ sw = 9 ∨ sw = 10 ∨ sw = 11 ∨ sw = 12 ∨ sw = 13 ∨ sw = 14 ∨ sw = 15 ∨ sw = 16 ∨ sw = 17 ∨ sw = 18 ∨ sw = 19 ∨ sw = 20 ∨ sw = 21 ∨ sw = 22 ∨ sw = 23 := by
        rcases (show sw.toInt = 0 ∨ sw.toInt = 1 ∨ sw.toInt = 2 ∨ sw.toInt = 3 ∨ sw.toInt = 4 ∨ sw.toInt = 5 ∨ sw.toInt = 6 ∨ sw.toInt = 7 ∨ sw.toInt = 8 ∨ sw.toInt = 9 ∨ sw.toInt = 10 ∨ sw.toInt = 11 ∨ sw.toInt = 12 ∨ sw.toInt = 13 ∨ sw.toInt = 14 ∨ sw.toInt = 15 ∨ sw.toInt = 16 ∨ sw.toInt = 17 ∨ sw.toInt = 18 ∨ sw.toInt = 19 ∨ sw.toInt = 20 ∨ sw.toInt = 21 ∨ sw.toInt = 22 ∨ sw.toInt = 23 by omega) with q | q | q | q | q | q | q | q | q | q | q | q | q | q | q | q | q | q | q | q | q | q | q | q
        · exact (Or.inl (Int32.toInt_inj.mp q))
        · exact Or.inr ((Or.inl (Int32.toInt_inj.mp q)))
        · exact Or.inr (Or.inr ((Or.inl (Int32.toInt_inj.mp q))))
        · exact Or.inr (Or.inr (Or.inr ((Or.inl (Int32.toInt_inj.mp q)))))
        · exact Or.inr (Or.inr (Or.inr (Or.inr ((Or.inl (Int32.toInt_inj.mp q))))))
        · exact Or.inr (Or.inr (Or.inr (Or.inr (Or.inr ((Or.inl (Int32.toInt_inj.mp q)))))))
        · exact Or.inr (Or.inr (Or.inr (Or.inr (Or.inr (Or.inr ((Or.inl (Int32.toInt_inj.mp q))))))))
        · exact Or.inr (Or.inr (Or.inr (Or.inr (Or.inr (Or.inr (Or.inr ((Or.inl (Int32.toInt_inj.mp q)))))))))
        · exact Or.inr (Or.inr (Or.inr (Or.inr (Or.inr (Or.inr (Or.inr (Or.inr ((Or.inl (Int32.toInt_inj.mp q))))))))))
        · exact Or.inr (Or.inr (Or.inr (Or.inr (Or.inr (Or.inr (Or.inr (Or.inr (Or.inr ((Or.inl (Int32.toInt_inj.mp q)))))))))))
        · exact Or.inr (Or.inr (Or.inr (Or.inr (Or.inr (Or.inr (Or.inr (Or.inr (Or.inr (Or.inr ((Or.inl (Int32.toInt_inj.mp q))))))))))))
        · exact Or.inr (Or.inr (Or.inr (Or.inr (Or.inr (Or.inr (Or.inr (Or.inr (Or.inr (Or.inr (Or.inr ((Or.inl (Int32.toInt_inj.mp q)))))))))))))
        · exact Or.inr (Or.inr (Or.inr (Or.inr (Or.inr (Or.inr (Or.inr (Or.inr (Or.inr (Or.inr (Or.inr (Or.inr ((Or.inl (Int32.toInt_inj.mp q))))))))))))))
        · exact Or.inr (Or.inr (Or.inr (Or.inr (Or.inr (Or.inr (Or.inr (Or.inr (Or.inr (Or.inr (Or.inr (Or.inr (Or.inr ((Or.inl (Int32.toInt_inj.mp q)))))))))))))))
        · exact Or.inr (Or.inr (Or.inr (Or.inr (Or.inr (Or.inr (Or.inr (Or.inr (Or.inr (Or.inr (Or.inr (Or.inr (Or.inr (Or.inr ((Or.inl (Int32.toInt_inj.mp q))))))))))))))))
        · exact Or.inr (Or.inr (Or.inr (Or.inr (Or.inr (Or.inr (Or.inr (Or.inr (Or.inr (Or.inr (Or.inr (Or.inr (Or.inr (Or.inr (Or.inr ((Or.inl (Int32.toInt_inj.mp q)))))))))))))))))
        · exact Or.inr (Or.inr (Or.inr (Or.inr (Or.inr (Or.inr (Or.inr (Or.inr (Or.inr (Or.inr (Or.inr (Or.inr (Or.inr (Or.inr (Or.inr (Or.inr ((Or.inl (Int32.toInt_inj.mp q))))))))))))))))))
        · exact Or.inr (Or.inr (Or.inr (Or.inr (Or.inr (Or.inr (Or.inr (Or.inr (Or.inr (Or.inr (Or.inr (Or.inr (Or.inr (Or.inr (Or.inr (Or.inr (Or.inr ((Or.inl (Int32.toInt_inj.mp q)))))))))))))))))))
        · exact Or.inr (Or.inr (Or.inr (Or.inr (Or.inr (Or.inr (Or.inr (Or.inr (Or.inr (Or.inr (Or.inr (Or.inr (Or.inr (Or.inr (Or.inr (Or.inr (Or.inr (Or.inr ((Or.inl (Int32.toInt_inj.mp q))))))))))))))))))))
        · exact Or.inr (Or.inr (Or.inr (Or.inr (Or.inr (Or.inr (Or.inr (Or.inr (Or.inr (Or.inr (Or.inr (Or.inr (Or.inr (Or.inr (Or.inr (Or.inr (Or.inr (Or.inr (Or.inr ((Or.inl (Int32.toInt_inj.mp q)))))))))))))))))))))
        · exact Or.inr (Or.inr (Or.inr (Or.inr (Or.inr (Or.inr (Or.inr (Or.inr (Or.inr (Or.inr (Or.inr (Or.inr (Or.inr (Or.inr (Or.inr (Or.inr (Or.inr (Or.inr (Or.inr (Or.inr ((Or.inl (Int32.toInt_inj.mp q))))))))))))))))))))))
        · exact Or.inr (Or.inr (Or.inr (Or.inr (Or.inr (Or.inr (Or.inr (Or.inr (Or.inr (Or.inr (Or.inr (Or.inr (Or.inr (Or.inr (Or.inr (Or.inr (Or.inr (Or.inr (Or.inr (Or.inr (Or.inr ((Or.inl (Int32.toInt_inj.mp q)))))))))))))))))))))))
        · exact Or.inr (Or.inr (Or.inr (Or.inr (Or.inr (Or.inr (Or.inr (Or.inr (Or.inr (Or.inr (Or.inr (Or.inr (Or.inr (Or.inr (Or.inr (Or.inr (Or.inr (Or.inr (Or.inr (Or.inr (Or.inr (Or.inr ((Or.inl (Int32.toInt_inj.mp q))))))))))))))))))))))))
        · exact Or.inr (Or.inr (Or.inr (Or.inr (Or.inr (Or.inr (Or.inr (Or.inr (Or.inr (Or.inr (Or.inr (Or.inr (Or.inr (Or.inr (Or.inr (Or.inr (Or.inr (Or.inr (Or.inr (Or.inr (Or.inr (Or.inr (Or.inr ((Int32.toInt_inj.mp q))))))))))))))))))))))))
      rcases ko with rfl | rfl | rfl | rfl | rfl | rfl | rfl | rfl | rfl | rfl | rfl | rfl | rfl | rfl | rfl | rfl | rfl | rfl | rfl | rfl | rfl | rfl | rfl | rfl
      · refine q_tableIn (off := 112) X 152 dL_law_40 (by decide) (by decide) (by decide) (by decide) ?_
        by_cases hf : (sp_begin σ (xs (8 * t + 1)) (xs (8 * t + 2)) (xs (8 * t + 3)) (xs (8 * t + 4)) (xs (8 * t + 5)) (xs (8 * t + 6)) (xs (8 * t + 7))).1 = none
        · have hg : aBg σ ≤ 2 := by obtain ⟨MV, MR, f0, e0, rfl, hou, hd, hV, hR⟩ := hI; exact hV.w.1.2.2.2.2.2.2.1
          have hp := be_pot hg hf
          exact q_room (rc' := 300 * n + 220) (rs' := 6700 * n + pot (sp_begin σ (xs (8 * t + 1)) (xs (8 * t + 2)) (xs (8 * t + 3)) (xs (8 * t + 4)) (xs (8 * t + 5)) (xs (8 * t + 6)) (xs (8 * t + 7))).2.2 + 35808) (by omega) (by omega) (lc_begin X hl hX h8 hI (fun M2 hI2 => nxt M2 _ hI2))
        · have hp := (be_no hf).p
          exact q_room (rc' := 300 * n + 3) (rs' := 6700 * n + pot (sp_begin σ (xs (8 * t + 1)) (xs (8 * t + 2)) (xs (8 * t + 3)) (xs (8 * t + 4)) (xs (8 * t + 5)) (xs (8 * t + 6)) (xs (8 * t + 7))).2.2 + 18) (by omega) (by rw [hp]; omega) (lc_begin_n X hl hX h8 hI hf (fun M2 hI2 => nxt M2 _ hI2))
      · refine q_tableIn (off := 224) X 264 dL_law_40 (by decide) (by decide) (by decide) (by decide) ?_
        have hp := (show oY σ (sp_put σ (xs (8 * t + 1)) (xs (8 * t + 2)) (xs (8 * t + 3)) (((xs (8 * t + 4)).toInt64 <<< ((32 : Int32).toInt64 &&& 63)) ||| ((xs (8 * t + 5)).toInt64 &&& 4294967295))) from y_put).p
        exact q_room (rc' := 300 * n + 1) (rs' := 6700 * n + pot (sp_put σ (xs (8 * t + 1)) (xs (8 * t + 2)) (xs (8 * t + 3)) (((xs (8 * t + 4)).toInt64 <<< ((32 : Int32).toInt64 &&& 63)) ||| ((xs (8 * t + 5)).toInt64 &&& 4294967295))).2.2 + 6) (by omega) (by rw [hp]; omega) (lc_put X hl hX h8 hI (fun M2 hI2 => nxt M2 _ hI2))
      · refine q_tableIn (off := 328) X 368 dL_law_40 (by decide) (by decide) (by decide) (by decide) ?_
        have hp := (show oY σ (sp_erase σ (xs (8 * t + 1)) (xs (8 * t + 2)) (xs (8 * t + 3))) from y_erase).p
        exact q_room (rc' := 300 * n + 1) (rs' := 6700 * n + pot (sp_erase σ (xs (8 * t + 1)) (xs (8 * t + 2)) (xs (8 * t + 3))).2.2 + 6) (by omega) (by rw [hp]; omega) (lc_erase X hl hX h8 hI (fun M2 hI2 => nxt M2 _ hI2))
      · refine q_tableIn (off := 388) X 428 dL_law_40 (by decide) (by decide) (by decide) (by decide) ?_
        have hp := (show oY σ (sp_fill σ (xs (8 * t + 1)) (xs (8 * t + 2)) (xs (8 * t + 3)) (((xs (8 * t + 4)).toInt64 <<< ((32 : Int32).toInt64 &&& 63)) ||| ((xs (8 * t + 5)).toInt64 &&& 4294967295))) from y_fill).p
        exact q_room (rc' := 300 * n + 1) (rs' := 6700 * n + pot (sp_fill σ (xs (8 * t + 1)) (xs (8 * t + 2)) (xs (8 * t + 3)) (((xs (8 * t + 4)).toInt64 <<< ((32 : Int32).toInt64 &&& 63)) ||| ((xs (8 * t + 5)).toInt64 &&& 4294967295))).2.2 + 6) (by omega) (by rw [hp]; omega) (lc_fill X hl hX h8 hI (fun M2 hI2 => nxt M2 _ hI2))
      · refine q_tableIn (off := 492) X 532 dL_law_40 (by decide) (by decide) (by decide) (by decide) ?_
        by_cases h41 : (aV σ).length < 41
        · have hp := cm_pot h41
          exact q_room (rc' := 300 * n + 13) (rs' := 6700 * n + pot (sp_commit σ).2.2 + 12604) (by omega) (by omega) (lc_commit X hl hX h8 hI (fun M2 hI2 => nxt M2 _ hI2))
        · have hp := (cm_n h41).p
          exact q_room (rc' := 300 * n + 1) (rs' := 6700 * n + pot (sp_commit σ).2.2 + 6) (by omega) (by rw [hp]; omega) (lc_commit_n X hl hX h8 hI h41 (fun M2 hI2 => nxt M2 _ hI2))
      · refine q_tableIn (off := 536) X 576 dL_law_40 (by decide) (by decide) (by decide) (by decide) ?_
        have hp := (show oY σ (sp_open σ (xs (8 * t + 1))) from y_open).p
        exact q_room (rc' := 300 * n + 1) (rs' := 6700 * n + pot (sp_open σ (xs (8 * t + 1))).2.2 + 6) (by omega) (by rw [hp]; omega) (lc_open X hl hX h8 hI (fun M2 hI2 => nxt M2 _ hI2))
      · refine q_tableIn (off := 572) X 612 dL_law_40 (by decide) (by decide) (by decide) (by decide) ?_
        have hp := (show oY σ (sp_version σ (xs (8 * t + 1)) (xs (8 * t + 2))) from y_version).p
        exact q_room (rc' := 300 * n + 2) (rs' := 6700 * n + pot (sp_version σ (xs (8 * t + 1)) (xs (8 * t + 2))).2.2 + 12) (by omega) (by rw [hp]; omega) (lc_version X hl hX h8 hI (fun M2 hI2 => nxt M2 _ hI2))
      · refine q_tableIn (off := 640) X 680 dL_law_40 (by decide) (by decide) (by decide) (by decide) ?_
        have hp := (show oY σ (sp_differ σ (xs (8 * t + 1)) (xs (8 * t + 2))) from y_differ).p
        exact q_room (rc' := 300 * n + 2) (rs' := 6700 * n + pot (sp_differ σ (xs (8 * t + 1)) (xs (8 * t + 2))).2.2 + 12) (by omega) (by rw [hp]; omega) (lc_differ X hl hX h8 hI (fun M2 hI2 => nxt M2 _ hI2))
      · refine q_tableIn (off := 708) X 748 dL_law_40 (by decide) (by decide) (by decide) (by decide) ?_
        have hp := (show oY σ (sp_read σ (xs (8 * t + 1))) from y_read).p
        exact q_room (rc' := 300 * n + 7) (rs' := 6700 * n + pot (sp_read σ (xs (8 * t + 1))).2.2 + 262) (by omega) (by rw [hp]; omega) (lc_read X hl hX h8 hI (fun M2 hI2 => nxt M2 _ hI2))
      · refine q_tableIn (off := 764) X 804 dL_law_40 (by decide) (by decide) (by decide) (by decide) ?_
        have hp := (show oY σ (sp_sub σ (xs (8 * t + 1)) (xs (8 * t + 2)) (xs (8 * t + 3)) (xs (8 * t + 4))) from y_sub).p
        exact q_room (rc' := 300 * n + 21) (rs' := 6700 * n + pot (sp_sub σ (xs (8 * t + 1)) (xs (8 * t + 2)) (xs (8 * t + 3)) (xs (8 * t + 4))).2.2 + 6518) (by omega) (by rw [hp]; omega) (lc_sub X hl hX h8 hI (fun M2 hI2 => nxt M2 _ hI2))
      · refine q_tableIn (off := 856) X 896 dL_law_40 (by decide) (by decide) (by decide) (by decide) ?_
        have hp := (show oY σ (sp_slice σ (xs (8 * t + 1)) (xs (8 * t + 2)) (xs (8 * t + 3))) from y_slice).p
        exact q_room (rc' := 300 * n + 31) (rs' := 6700 * n + pot (sp_slice σ (xs (8 * t + 1)) (xs (8 * t + 2)) (xs (8 * t + 3))).2.2 + 6548) (by omega) (by rw [hp]; omega) (lc_slice X hl hX h8 hI (fun M2 hI2 => nxt M2 _ hI2))
      · refine q_tableIn (off := 936) X 976 dL_law_40 (by decide) (by decide) (by decide) (by decide) ?_
        have hp := (show oY σ (sp_extend σ (xs (8 * t + 1)) (xs (8 * t + 2)) (xs (8 * t + 3)) (xs (8 * t + 4))) from y_extend).p
        exact q_room (rc' := 300 * n + 21) (rs' := 6700 * n + pot (sp_extend σ (xs (8 * t + 1)) (xs (8 * t + 2)) (xs (8 * t + 3)) (xs (8 * t + 4))).2.2 + 6518) (by omega) (by rw [hp]; omega) (lc_extend X hl hX h8 hI (fun M2 hI2 => nxt M2 _ hI2))
      · refine q_tableIn (off := 1028) X 1068 dL_law_40 (by decide) (by decide) (by decide) (by decide) ?_
        have hp := (show oY σ (sp_apply σ (xs (8 * t + 1)) (xs (8 * t + 2)) (((xs (8 * t + 3)).toInt64 <<< ((32 : Int32).toInt64 &&& 63)) ||| ((xs (8 * t + 4)).toInt64 &&& 4294967295))) from y_apply).p
        exact q_room (rc' := 300 * n + 16) (rs' := 6700 * n + pot (sp_apply σ (xs (8 * t + 1)) (xs (8 * t + 2)) (((xs (8 * t + 3)).toInt64 <<< ((32 : Int32).toInt64 &&& 63)) ||| ((xs (8 * t + 4)).toInt64 &&& 4294967295))).2.2 + 6508) (by omega) (by rw [hp]; omega) (lc_apply X hl hX h8 hI (fun M2 hI2 => nxt M2 _ hI2))
      · refine q_tableIn (off := 1140) X 1180 dL_law_40 (by decide) (by decide) (by decide) (by decide) ?_
        have hp := (show oY σ (sp_filter σ (xs (8 * t + 1)) (xs (8 * t + 2)) (((xs (8 * t + 3)).toInt64 <<< ((32 : Int32).toInt64 &&& 63)) ||| ((xs (8 * t + 4)).toInt64 &&& 4294967295))) from y_filter).p
        exact q_room (rc' := 300 * n + 16) (rs' := 6700 * n + pot (sp_filter σ (xs (8 * t + 1)) (xs (8 * t + 2)) (((xs (8 * t + 3)).toInt64 <<< ((32 : Int32).toInt64 &&& 63)) ||| ((xs (8 * t + 4)).toInt64 &&& 4294967295))).2.2 + 6508) (by omega) (by rw [hp]; omega) (lc_filter X hl hX h8 hI (fun M2 hI2 => nxt M2 _ hI2))
      · refine q_tableIn (off := 1252) X 1292 dL_law_40 (by decide) (by decide) (by decide) (by decide) ?_
        have hp := (show oY σ (sp_join σ (xs (8 * t + 1)) (xs (8 * t + 2)) (xs (8 * t + 3))) from y_join).p
        exact q_room (rc' := 300 * n + 24) (rs' := 6700 * n + pot (sp_join σ (xs (8 * t + 1)) (xs (8 * t + 2)) (xs (8 * t + 3))).2.2 + 6548) (by omega) (by rw [hp]; omega) (lc_join X hl hX h8 hI (fun M2 hI2 => nxt M2 _ hI2))
      · refine q_tableIn (off := 1332) X 1372 dL_law_40 (by decide) (by decide) (by decide) (by decide) ?_
        have hp := (show oY σ (sp_gather σ (xs (8 * t + 1)) (xs (8 * t + 2)) (xs (8 * t + 3))) from y_gather).p
        exact q_room (rc' := 300 * n + 22) (rs' := 6700 * n + pot (sp_gather σ (xs (8 * t + 1)) (xs (8 * t + 2)) (xs (8 * t + 3))).2.2 + 6548) (by omega) (by rw [hp]; omega) (lc_gather X hl hX h8 hI (fun M2 hI2 => nxt M2 _ hI2))
      · refine q_tableIn (off := 1412) X 1452 dL_law_40 (by decide) (by decide) (by decide) (by decide) ?_
        have hp := (show oY σ (sp_regrid σ (xs (8 * t + 1)) (xs (8 * t + 2)) (xs (8 * t + 3)) (xs (8 * t + 4))) from y_regrid).p
        exact q_room (rc' := 300 * n + 22) (rs' := 6700 * n + pot (sp_regrid σ (xs (8 * t + 1)) (xs (8 * t + 2)) (xs (8 * t + 3)) (xs (8 * t + 4))).2.2 + 6548) (by omega) (by rw [hp]; omega) (lc_regrid X hl hX h8 hI (fun M2 hI2 => nxt M2 _ hI2))
      · refine q_tableIn (off := 1504) X 1544 dL_law_40 (by decide) (by decide) (by decide) (by decide) ?_
        have hp := (show oY σ (sp_window σ (xs (8 * t + 1)) (xs (8 * t + 2)) (xs (8 * t + 3)) (xs (8 * t + 4))) from y_window).p
        exact q_room (rc' := 300 * n + 17) (rs' := 6700 * n + pot (sp_window σ (xs (8 * t + 1)) (xs (8 * t + 2)) (xs (8 * t + 3)) (xs (8 * t + 4))).2.2 + 6528) (by omega) (by rw [hp]; omega) (lc_window X hl hX h8 hI (fun M2 hI2 => nxt M2 _ hI2))
      · refine q_tableIn (off := 1596) X 1636 dL_law_40 (by decide) (by decide) (by decide) (by decide) ?_
        have hp := (show oY σ (sp_swap σ (xs (8 * t + 1)) (xs (8 * t + 2)) (xs (8 * t + 3))) from y_swap).p
        exact q_room (rc' := 300 * n + 31) (rs' := 6700 * n + pot (sp_swap σ (xs (8 * t + 1)) (xs (8 * t + 2)) (xs (8 * t + 3))).2.2 + 6548) (by omega) (by rw [hp]; omega) (lc_swap X hl hX h8 hI (fun M2 hI2 => nxt M2 _ hI2))
      · refine q_tableIn (off := 1676) X 1716 dL_law_40 (by decide) (by decide) (by decide) (by decide) ?_
        have hp := (show oY σ (sp_product σ (xs (8 * t + 1)) (xs (8 * t + 2))) from y_product).p
        exact q_room (rc' := 300 * n + 24) (rs' := 6700 * n + pot (sp_product σ (xs (8 * t + 1)) (xs (8 * t + 2))).2.2 + 6548) (by omega) (by rw [hp]; omega) (lc_product X hl hX h8 hI (fun M2 hI2 => nxt M2 _ hI2))
      · refine q_tableIn (off := 1744) X 1784 dL_law_40 (by decide) (by decide) (by decide) (by decide) ?_
        have hp := (show oY σ (sp_shape σ (xs (8 * t + 1)) (xs (8 * t + 2))) from y_shape).p
        exact q_room (rc' := 300 * n + 2) (rs' := 6700 * n + pot (sp_shape σ (xs (8 * t + 1)) (xs (8 * t + 2))).2.2 + 12) (by omega) (by rw [hp]; omega) (lc_shape X hl hX h8 hI (fun M2 hI2 => nxt M2 _ hI2))
      · refine q_tableIn (off := 1812) X 1852 dL_law_40 (by decide) (by decide) (by decide) (by decide) ?_
        have hp := (show oY σ (sp_cell σ (xs (8 * t + 1)) (xs (8 * t + 2)) (xs (8 * t + 3)) (xs (8 * t + 4))) from y_cell).p
        exact q_room (rc' := 300 * n + 2) (rs' := 6700 * n + pot (sp_cell σ (xs (8 * t + 1)) (xs (8 * t + 2)) (xs (8 * t + 3)) (xs (8 * t + 4))).2.2 + 12) (by omega) (by rw [hp]; omega) (lc_cell X hl hX h8 hI (fun M2 hI2 => nxt M2 _ hI2))
      · refine q_tableIn (off := 1903) X 1943 dL_law_40 (by decide) (by decide) (by decide) (by decide) ?_
        have hp := (show oY σ (sp_all σ (xs (8 * t + 1)) (xs (8 * t + 2))) from y_all).p
        exact q_room (rc' := 300 * n + 4) (rs' := 6700 * n + pot (sp_all σ (xs (8 * t + 1)) (xs (8 * t + 2))).2.2 + 21) (by omega) (by rw [hp]; omega) (lc_all X hl hX h8 hI (fun M2 hI2 => nxt M2 _ hI2))
      · refine q_tableIn (off := 1970) X 2010 dL_law_40 (by decide) (by decide) (by decide) (by decide) ?_
        have hp := (show oY σ (sp_count σ (xs (8 * t + 1))) from y_count).p
        exact q_room (rc' := 300 * n + 2) (rs' := 6700 * n + pot (sp_count σ (xs (8 * t + 1))).2.2 + 12) (by omega) (by rw [hp]; omega) (lc_count X hl hX h8 hI (fun M2 hI2 => nxt M2 _ hI2))
    · refine q_tableOut X 2066 dL_law_40 (by omega) (by decide) ?_
      exact q_room (by omega) (by omega) (nxt M σ hI)

def mS (r : Nat) (e : va_E) : gMem := fun a => if a = r then some e else none
theorem mS_s {r : Nat} {e : va_E} : mS r e r = some e := if_pos rfl
theorem mU_mS {M : gMem} {r : Nat} {e : va_E} : mU M r e = pU (mS r e) M := by
  funext a
  unfold mU pU mS
  by_cases c : a = r
  · rw [if_pos c, if_pos c]
  · rw [if_neg c, if_neg c]
theorem mS_d {M : gMem} {r : Nat} {e : va_E} (h : M r = none) : ∀ a, mS r e a ≠ none → M a = none := fun a ha => by
  by_cases c : a = r
  · rw [c]; exact h
  · exact absurd (if_neg c) ha
theorem st_eq {G : gV} {MR MV : gMem} {ou : Nat} {f : Nat → Int64} (hd : ∀ a, MR a ≠ none → MV a = none) (ho : pU MR MV ou = none) : mU (pU MR MV) ou (aJ G 1 f) = pU (pU MV (mO G ou f)) MR ∧ ∀ a, pU MV (mO G ou f) a ≠ none → MR a = none := by
  obtain ⟨h1, h2⟩ := pU_none ho
  refine ⟨?_, fun a ha => ?_⟩
  · rw [pU_cm hd]
    funext a
    unfold mU
    by_cases c : a = ou
    · rw [if_pos c, c, pU_l ou _ (pU_ou h2)]
    · rw [if_neg c]
      cases e : MV a with
      | some x => rw [pU_l a x e, pU_l a x (pU_l a x e)]
      | none =>
        have z : pU MV (mO G ou f) a = none := by rw [pU_r e]; exact if_neg c
        rw [pU_r e, pU_r z]
  · cases e : MR a with
    | none => rfl
    | some x =>
      exfalso
      apply ha
      have hm := hd a (by rw [e]; exact fun z => by cases z)
      rw [pU_r hm]
      exact if_neg (fun z => by rw [z, h1] at e; cases e)
section LI
variable {G : gV} {F : gF} {Q : State → Prop} {nL : Nat} {M : gMem} {rc rs pc k : Nat} {lv : List (Nat × Value)} {st : List Value} {cc : ByteArray} {own : String} {Post : Option Value → gMem → Prop}
theorem q_callIF (X : qX G F cc nL own k) {Mc : gMem} {y : MethodName} {bytes : ByteArray} {nL' n index k' mc ms b : Nat} {As rest : List Value} (hM : qC (fl F) G y bytes nL' none k' mc ms (.ref b :: As) Mc Post) (hs : ∀ a e, Mc a = some e → M a = some e) (hY : qY y bytes nL' none n) (wl : Cond.methodLink own index y ∈ gT) (wi : Cond.instanceMethod y ∈ gT) (hy1 : y.name = "<init>") (hk : k' + 1 ≤ k) (hn : As.length = n) (hst : st = As.reverse ++ .ref b :: rest) (hw : (rest.map fun v => v.category).sum ≤ 8) {rc' rs' : Nat} (hrc : rc' + mc ≤ rc) (hrs : rs' + ms ≤ rs) (d : decode cc pc = .ok (.invokespecial index, 3))
    (kk : ∀ (v : Option Value) (M' : gMem), Post v M' → (∀ a, M' a ≠ none → Mc a ≠ none ∨ M a = none) → qJ G F Q nL (mJ M Mc M') rc' rs' (pc + 3) lv (v.toList ++ rest)) : qJ G F Q nL M rc rs pc lv st := by
  intro H locs ls cells slots h1 h2 h3 h4
  subst hst
  exact q_tail hs h1 (va_runI (As := As) (rest := rest) ⟨X.1, X.2.1, X.2.2.1, X.2.2.2.1, X.2.2.2.2.1⟩ (hM H.size) ⟨q_cb X hY wl hk, hy1, X.2.2.2.2.1 _ wi⟩ (q_pre X h1 hs (.ref b :: As)) rfl hn h2.1 rfl (lv_room hw) d ⟨by omega, by omega⟩) (fun v M' H' locs' g1 g2 g3 => kk v M' g1 g2 H' locs' ls _ _ g3 h2 (by omega) (by omega))
end LI

set_option maxRecDepth 20000 in
theorem law_start {G : gV} {F : gF} {Q : State → Prop} {b L : Nat} {xs : Nat → Int32} (X : qX G F cL_law 8 RL 202) (hl : (fl F).stackTraces = false) (hX : sX F b L xs) (hfin : ∀ M : gMem, qJ G F Q 8 M 0 0 2072 [(0, .ref b)] []) : qJ G F Q 8 (fun _ => none) 154000 4330000 0 [(0, .ref b)] [] := by
  have h4k := hX.2.2.2
  refine q_new X (ci := 11) rfl in_RX11 tyX11 tyX11_ok tw_32 tw_33 tw_1 (fs0 := [.null, .null, .null, .null, .null, .int 0, .int 0]) (fun j hj => by rcases (show j = 0 ∨ j = 1 ∨ j = 2 ∨ j = 3 ∨ j = 4 ∨ j = 5 ∨ j = 6 by omega) with rfl | rfl | rfl | rfl | rfl | rfl | rfl <;> rfl) (rc' := 153999) (rs' := 4329993) (by omega) (by omega) dL_law_0 (fun g fg => ?_)
  have m_1 : (mU (fun _ => none) g (oB 11 [.null, .null, .null, .null, .null, .int 0, .int 0])) g = some (oB 11 [.null, .null, .null, .null, .null, .int 0, .int 0]) := mU_s
  refine q_dup X dL_law_3 rfl ?_
  refine q_callI X (c_X11_init mU_s) Y_X11_init tw_34 tw_35 rfl (by omega) rfl rfl (Nat.le_of_ble_eq_true rfl) (rc' := 153790) (rs' := 4310666) (by omega) (by omega) dL_law_4 (fun v MV hp _ => ?_)
  obtain ⟨rfl, hV⟩ := hp
  show qJ G F _ 8 MV 153790 4310666 7 [(0, .ref b)] [.ref g]
  refine q_astore_n (lv' := [(1, .ref g), (0, .ref b)]) X dL_law_7 (by decide) rfl ?_
  refine q_new X (ci := 13) rfl in_RX13 tyX13 tyX13_ok tw_1139 tw_1140 tw_14 (fs0 := [.int 0, .null, .null, .null, .null, .null, .int 0, .int 0, .int 0, .int 0, .int 0, .long 0, .long 0, .long 0]) (fun j hj => by rcases (show j = 0 ∨ j = 1 ∨ j = 2 ∨ j = 3 ∨ j = 4 ∨ j = 5 ∨ j = 6 ∨ j = 7 ∨ j = 8 ∨ j = 9 ∨ j = 10 ∨ j = 11 ∨ j = 12 ∨ j = 13 by omega) with rfl | rfl | rfl | rfl | rfl | rfl | rfl | rfl | rfl | rfl | rfl | rfl | rfl | rfl <;> rfl) (rc' := 153789) (rs' := 4310652) (by omega) (by omega) dL_law_8 (fun r fr => ?_)
  have m_2 : (mU MV r (oB 13 [.int 0, .null, .null, .null, .null, .null, .int 0, .int 0, .int 0, .int 0, .int 0, .long 0, .long 0, .long 0])) r = some (oB 13 [.int 0, .null, .null, .null, .null, .null, .int 0, .int 0, .int 0, .int 0, .int 0, .long 0, .long 0, .long 0]) := mU_s
  refine q_dup X dL_law_11 rfl ?_
  rw [mU_mS]
  refine q_callIF X (Mc := mS r _) (c_X13_init mS_s) pU_l Y_X13_init tw_1141 tw_1142 rfl (by omega) rfl rfl (Nat.le_of_ble_eq_true rfl) (rc' := 153775) (rs' := 4294009) (by omega) (by omega) dL_law_12 (fun v MR hp hm => ?_)
  obtain ⟨rfl, hR⟩ := hp
  obtain ⟨eM, hd⟩ := mJ_pU (mS_d fr) hm
  rw [eM]
  clear eM hm
  show qJ G F _ 8 (pU MR MV) 153775 4294009 15 [(1, .ref g), (0, .ref b)] [.ref r]
  refine q_astore_n (lv' := [(2, .ref r), (1, .ref g), (0, .ref b)]) X dL_law_15 (by decide) rfl ?_
  refine q_iconst (v := 1) X dL_law_16 (by decide) ?_
  refine q_newJ X tw_132 1 (rfl) (by decide) (rc' := 153774) (rs' := 4294008) (by omega) (by omega) dL_law_17 (fun ou fou => ?_)
  have m_3 : (mU (pU MR MV) ou (aJ G 1 (fun _ => 0))) ou = some (aJ G 1 (fun _ => 0)) := mU_s
  refine q_astore_n (lv' := [(3, .ref ou), (2, .ref r), (1, .ref g), (0, .ref b)]) X dL_law_19 (by decide) rfl ?_
  refine q_iconst (v := 0) X dL_law_20 (by decide) ?_
  refine q_istore (lv' := [(4, .int (nI (8 * 0))), (3, .ref ou), (2, .ref r), (1, .ref g), (0, .ref b)]) X dL_law_21 (by decide) rfl ?_
  refine q_sub [4, 3, 2, 1, 0] rfl ?_
  obtain ⟨eM, hd2⟩ := st_eq (G := G) (f := fun _ => 0) hd fou
  refine q_room (rc' := 300 * (L / 8)) (rs' := 6700 * (L / 8) + pot (aNew 1 (fun _ => 0) (fun _ => 0) 0)) (by omega) (by rw [show pot (aNew 1 (fun _ => 0) (fun _ => 0) 0) = 848000 from rfl]; omega) ?_
  exact law_loop X hl hX hfin (L / 8) 0 _ _ (Nat.zero_add _) ⟨MV, MR, fun _ => 0, 0, eM, (pU_none fou).2, hd2, hV, hR⟩
