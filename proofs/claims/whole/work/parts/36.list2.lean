/-! ArrayList: add and clear, of a list -/
theorem c_add3 {l : Launch} {G : gV} {M : gMem} {a ed v ms : Nat} {mv : Int32} {xs : List Nat} (hA : M a = some (oB 0 [.int mv, .ref ed, .int (nI xs.length)])) (hcase : (ed = gDA G ∧ xs = []) ∨ ∃ (n : Nat) (f : Nat → Option Nat), M ed = some (aO G n f) ∧ xs.length ≤ n ∧ 2 ≤ n ∧ n ≤ 65536 ∧ ∀ i y, xs[i]? = some y → f i = some y) (hv : okE M v) (hx : ∀ y ∈ xs, okE M y) (h4 : xs.length ≤ 4096) (hms : 10 + xs.length + xs.length / 2 ≤ ms) : qC l G yJx4a65c_add_72be8 cJx4a65c_add_72be8 4 none 6 1 ms [.ref a, .ref v, .ref ed, .int (nI xs.length)] M (a3P G M a ed v mv xs none) := by
  rcases hcase with ⟨e1, e2⟩ | ⟨n, f, hE, hle, h2, hn, hf⟩
  · subst e2
    rw [e1] at hA ⊢
    exact c_add3_g (f := fun _ => none) hA hv h4 (fun F Q st lv X kk => q_alenD X dJx4a65c_add_72be8_2 kk) (c_grow_d (by omega) hA)
  · by_cases hlt : xs.length < n
    · exact c_add3_r hA hv h4 hE hlt h2 hn hf
    · have e : n = xs.length := by omega
      exact c_add3_g (f := f) hA hv h4 (fun F Q st lv X kk => q_alen X 3 hE rfl dJx4a65c_add_72be8_2 (by rw [show nI (n, (Sum.inr (Sum.inr (Sum.inr (Sum.inr f))) : (Nat → Int32) ⊕ (Nat → Int64) ⊕ (Nat → UInt32) ⊕ (Nat → UInt64) ⊕ (Nat → Option Nat))).1 = nI xs.length from congrArg nI e]; exact kk)) (by rw [← e]; exact c_grow_b (by omega) hA hE e h2 (by omega) hf hx)
/-- one more in the list -/
def lP (G : gV) (M : gMem) (a ed v : Nat) (xs : List Nat) : Option Value → gMem → Prop := fun w M' => w = some (.int 1) ∧ ∃ ed' : Nat, isList G M' a ed' (xs ++ [v]) ∧ (ed' = ed ∨ M ed' = none) ∧ ∀ p, p ≠ a → p ≠ ed' → M' p = M p

set_option maxRecDepth 20000 in
theorem c_list_add {l : Launch} {G : gV} {M : gMem} {a ed v ms : Nat} {xs : List Nat} (hL : isList G M a ed xs) (hv : okE M v) (hx : ∀ y ∈ xs, okE M y) (h4 : xs.length + 1 ≤ 4096) (hms : 10 + xs.length + xs.length / 2 ≤ ms) : qC l G yJx4a65c_add_9ea2d cJx4a65c_add_9ea2d 2 (some .boolean) 7 1 ms [.ref a, .ref v] M (lP G M a ed v xs) := by
  refine qC_of (by decide +kernel) (Nat.le_of_ble_eq_true rfl) (fun F hF X hr hn => ?_)
  subst hF
  have X : qX G F cJx4a65c_add_9ea2d 2 RJx4a65c 7 := X
  obtain ⟨h0, ⟨mv, hA⟩, hc⟩ := hL
  show qJ G F _ 2 M 1 ms 0 [(0, .ref a), (1, .ref v)] []
  refine q_aload_n X dJx4a65c_add_9ea2d_0 0 rfl ?_
  refine q_dup X dJx4a65c_add_9ea2d_1 rfl ?_
  refine q_getU X hA rfl in_RJx4a65c 0 (by decide) tw_57 tw_58 rfl dJx4a65c_add_9ea2d_2 ?_
  refine q_iconst (v := 1) X dJx4a65c_add_9ea2d_5 (by decide) ?_
  refine q_iadd X dJx4a65c_add_9ea2d_6 ?_
  refine q_putU X hA rfl in_RJx4a65c tyJx4a65c tyJx4a65c_ok nmJx4a65c 0 (by decide) tw_57 tw_58 rfl rfl rfl rfl (Nat.le_of_ble_eq_true rfl) (fs1 := [.int (mv + 1), .ref ed, .int (nI xs.length)]) rfl dJx4a65c_add_9ea2d_7 ?_
  have m_1 : (mU M a (oB 0 [.int (mv + 1), .ref ed, .int (nI xs.length)])) a = some (oB 0 [.int (mv + 1), .ref ed, .int (nI xs.length)]) := mU_s
  refine q_aload_n X dJx4a65c_add_9ea2d_10 0 rfl ?_
  refine q_aload_n X dJx4a65c_add_9ea2d_11 1 rfl ?_
  refine q_aload_n X dJx4a65c_add_9ea2d_12 0 rfl ?_
  refine q_get X m_1 rfl in_RJx4a65c 1 (by decide) tw_54 rfl rfl dJx4a65c_add_9ea2d_13 ?_
  refine q_aload_n X dJx4a65c_add_9ea2d_16 0 rfl ?_
  refine q_get X m_1 rfl in_RJx4a65c 2 (by decide) tw_55 rfl rfl dJx4a65c_add_9ea2d_17 ?_
  have hA1 : (mU M a (oB 0 [.int (mv + 1), .ref ed, .int (nI xs.length)])) a = some (oB 0 [.int (mv + 1), .ref ed, .int (nI xs.length)]) := mU_s
  have hc1 : (ed = gDA G ∧ xs = []) ∨ ∃ (n : Nat) (f : Nat → Option Nat), (mU M a (oB 0 [.int (mv + 1), .ref ed, .int (nI xs.length)])) ed = some (aO G n f) ∧ xs.length ≤ n ∧ 2 ≤ n ∧ n ≤ 65536 ∧ ∀ i y, xs[i]? = some y → f i = some y := hc.imp id (fun ⟨n, f, q1, q2⟩ => ⟨n, f, (mU_n (fun e => by rw [e, hA] at q1; cases q1)).trans q1, q2⟩)
  refine q_callV X (c_add3 hA1 hc1 (hv.upd hA) (fun y hy => (hx y hy).upd hA) (by omega) hms) Y_Jx4a65c_add_72be8 tw_187 tw_189 sel_1 m_1 rfl (by decide) rfl rfl (Nat.le_of_ble_eq_true rfl) (rc' := 0) (rs' := 0) (by omega) (by omega) dJx4a65c_add_9ea2d_20 (fun v M' hp _ => ?_)
  obtain ⟨rfl, ed', n', f', g1, g2, g3, g4, g5, g6, g7, g8⟩ := hp
  generalize M' = M2 at *
  show qJ G F _ 2 M2 0 0 23 [(0, .ref a), (1, .ref v)] []
  refine q_iconst (v := 1) X dJx4a65c_add_9ea2d_23 (by decide) ?_
  exact q_zret X hr (Or.inr rfl) dJx4a65c_add_9ea2d_24 (⟨rfl, ed', ⟨by rw [len1]; exact h4, ⟨_, g2⟩, Or.inr ⟨n', f', g3, g4, g5, g6, g7⟩⟩, g1.imp id (fun e => by
    by_cases ee : ed' = a
    · rw [ee, mU_s] at e; cases e
    · rw [mU_n ee] at e; exact e), fun p p1 p2 => (g8 p p1 p2).trans (mU_n p1)⟩)

/-- nothing in the list any more -/
def clP (G : gV) (M : gMem) (a ed : Nat) : Option Value → gMem → Prop := fun w M' => w = none ∧ isList G M' a ed [] ∧ ∀ p, p ≠ a → p ≠ ed → M' p = M p

set_option maxRecDepth 20000 in
theorem c_list_clear {l : Launch} {G : gV} {M : gMem} {a ed : Nat} {xs : List Nat} (hL : isList G M a ed xs) : qC l G yJx4a65c_clear_da8c8 cJx4a65c_clear_da8c8 4 none 1 0 0 [.ref a] M (clP G M a ed) := by
  refine qC_of (by decide +kernel) (Nat.le_of_ble_eq_true rfl) (fun F hF X hr hn => ?_)
  subst hF
  have X : qX G F cJx4a65c_clear_da8c8 4 RJx4a65c 1 := X
  obtain ⟨h0, ⟨mv, hA⟩, hc⟩ := hL
  have loop : ∀ (t j : Nat) (M1 : gMem), j + t = xs.length → M1 a = some (oB 0 [.int (mv + 1), .ref ed, .int 0]) → ((ed = gDA G ∧ xs = []) ∨ ∃ (n : Nat) (f : Nat → Option Nat), M1 ed = some (aO G n f) ∧ xs.length ≤ n ∧ 2 ≤ n ∧ n ≤ 65536) → (∀ p, p ≠ a → p ≠ ed → M1 p = M p) → qJ G F (qQ G F (clP G M a ed)) 4 M1 0 0 27 [(1, .ref ed), (2, .int (nI xs.length)), (3, .int (nI j))] [] := by
    intro t
    induction t with
    | zero =>
      intro j M1 hj hA1 hc1 hf1
      obtain rfl : j = xs.length := by omega
      refine q_iload_n X dJx4a65c_clear_da8c8_27 2 rfl ?_
      refine q_iload_n X dJx4a65c_clear_da8c8_28 1 rfl ?_
      refine q_icmp_ge X 42 dJx4a65c_clear_da8c8_29 (by decide) (fun c_1 => ?_) (fun c_1 => absurd (show nI xs.length ≤ nI xs.length from Int32.le_refl _) c_1)
      exact q_vret X hr dJx4a65c_clear_da8c8_42 (⟨rfl, ⟨by decide, ⟨_, hA1⟩, hc1.imp (fun e => ⟨e.1, rfl⟩) (fun ⟨n, f, q1, q2, q3, q4⟩ => ⟨n, f, q1, by simp, q3, q4, fun i y h => by simp at h⟩)⟩, hf1⟩)
    | succ t ih =>
      intro j M1 hj hA1 hc1 hf1
      rcases hc1 with ⟨-, e⟩ | ⟨n, f, hE, hle, h2, hn6⟩
      · rw [e] at hj; simp at hj
      have nq : a ≠ ed := fun e => by rw [e, hE] at hA1; cases hA1
      refine q_iload_n X dJx4a65c_clear_da8c8_27 2 rfl ?_
      refine q_iload_n X dJx4a65c_clear_da8c8_28 1 rfl ?_
      refine q_icmp_ge X 42 dJx4a65c_clear_da8c8_29 (by decide) (fun c_2 => absurd c_2 (nI_ge (by omega) (by omega))) (fun c_2 => ?_)
      refine q_aload_n X dJx4a65c_clear_da8c8_32 0 rfl ?_
      refine q_iload_n X dJx4a65c_clear_da8c8_33 2 rfl ?_
      refine q_null X dJx4a65c_clear_da8c8_34 ?_
      refine q_aastN X 3 hE rfl (vp_in_nI (by omega) (by omega)) dJx4a65c_clear_da8c8_35 ?_
      refine q_iinc (v := (nI (j + 1))) (lv' := [(3, .int (nI (j + 1))), (1, .ref ed), (2, .int (nI xs.length))]) X dJx4a65c_clear_da8c8_36 2 rfl (nI_1 j) (by decide) rfl ?_
      refine q_goto X 27 dJx4a65c_clear_da8c8_39 (by decide) ?_
      refine q_sub [1, 2, 0] rfl ?_
      exact ih (j + 1) _ (by omega) ((mU_n nq).trans hA1) (Or.inr ⟨n, _, mU_s, hle, h2, hn6⟩) (fun p p1 p2 => (mU_n p2).trans (hf1 p p1 p2))
  refine q_aload_n X dJx4a65c_clear_da8c8_0 0 rfl ?_
  refine q_dup X dJx4a65c_clear_da8c8_1 rfl ?_
  refine q_getU X hA rfl in_RJx4a65c 0 (by decide) tw_57 tw_58 rfl dJx4a65c_clear_da8c8_2 ?_
  refine q_iconst (v := 1) X dJx4a65c_clear_da8c8_5 (by decide) ?_
  refine q_iadd X dJx4a65c_clear_da8c8_6 ?_
  refine q_putU X hA rfl in_RJx4a65c tyJx4a65c tyJx4a65c_ok nmJx4a65c 0 (by decide) tw_57 tw_58 rfl rfl rfl rfl (Nat.le_of_ble_eq_true rfl) (fs1 := [.int (mv + 1), .ref ed, .int (nI xs.length)]) rfl dJx4a65c_clear_da8c8_7 ?_
  have m_3 : (mU M a (oB 0 [.int (mv + 1), .ref ed, .int (nI xs.length)])) a = some (oB 0 [.int (mv + 1), .ref ed, .int (nI xs.length)]) := mU_s
  refine q_aload_n X dJx4a65c_clear_da8c8_10 0 rfl ?_
  refine q_get X m_3 rfl in_RJx4a65c 1 (by decide) tw_54 rfl rfl dJx4a65c_clear_da8c8_11 ?_
  refine q_astore_n (lv' := [(1, .ref ed), (0, .ref a)]) X dJx4a65c_clear_da8c8_14 (by decide) rfl ?_
  refine q_aload_n X dJx4a65c_clear_da8c8_15 1 rfl ?_
  refine q_get X m_3 rfl in_RJx4a65c 2 (by decide) tw_55 rfl rfl dJx4a65c_clear_da8c8_16 ?_
  refine q_istore_n (lv' := [(2, .int (nI xs.length)), (1, .ref ed), (0, .ref a)]) X dJx4a65c_clear_da8c8_19 (by decide) rfl ?_
  refine q_aload_n X dJx4a65c_clear_da8c8_20 2 rfl ?_
  refine q_iconst (v := 0) X dJx4a65c_clear_da8c8_21 (by decide) ?_
  refine q_dup_x1 X dJx4a65c_clear_da8c8_22 rfl rfl ?_
  refine q_put X m_3 rfl in_RJx4a65c tyJx4a65c tyJx4a65c_ok nmJx4a65c 2 (by decide) tw_55 rfl rfl rfl rfl rfl (Nat.le_of_ble_eq_true rfl) (fs1 := [.int (mv + 1), .ref ed, .int 0]) rfl dJx4a65c_clear_da8c8_23 ?_
  have m_4 : (mU (mU M a (oB 0 [.int (mv + 1), .ref ed, .int (nI xs.length)])) a (oB 0 [.int (mv + 1), .ref ed, .int 0])) a = some (oB 0 [.int (mv + 1), .ref ed, .int 0]) := mU_s
  refine q_istore_n (lv' := [(3, .int 0), (2, .int (nI xs.length)), (1, .ref ed), (0, .ref a)]) X dJx4a65c_clear_da8c8_26 (by decide) rfl ?_
  refine q_sub [2, 1, 0] rfl ?_
  exact loop xs.length 0 _ (by omega) (by rw [mU_mU]; exact mU_s) (hc.imp id (fun ⟨n, f, q1, q2, q3, q4, _⟩ => ⟨n, f, by rw [mU_mU]; exact (mU_n (fun e => by rw [e, hA] at q1; cases q1)).trans q1, q2, q3, q4⟩)) (fun p p1 _ => by rw [mU_mU]; exact mU_n p1)
