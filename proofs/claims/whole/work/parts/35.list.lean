/-! ArrayList: <init>, size, get, add, clear -/
section QLD
variable {G : gV} {F : gF} {Q : State → Prop} {nL : Nat} {M : gMem} {rc rs pc k : Nat} {lv : List (Nat × Value)} {st : List Value} {cc : ByteArray} {own : String}
theorem q_ldcI (X : qX G F cc nL own k) {index : Nat} {v : Int32} (d : decode cc pc = .ok (.ldc index, 2)) (w : Cond.constant own index v ∈ gT) (kk : qJ G F Q nL M rc rs (pc + 2) lv (.int v :: st)) : qJ G F Q nL M rc rs pc lv st := fun H locs ls cells slots h1 h2 h3 h4 => lv_ldc X.1 X.2.1 X.2.2.2.1 (X.2.2.2.2.1 _ w) d (kk H locs ls cells slots h1 h2 h3 h4)
end QLD
/-- a list: its cell, its row, its elements -/
def isList (G : gV) (M : gMem) (a ed : Nat) (xs : List Nat) : Prop := xs.length ≤ 4096 ∧ (∃ mv : Int32, M a = some (oB 0 [.int mv, .ref ed, .int (nI xs.length)])) ∧ ((ed = gDA G ∧ xs = []) ∨ ∃ (n : Nat) (f : Nat → Option Nat), M ed = some (aO G n f) ∧ xs.length ≤ n ∧ 2 ≤ n ∧ n ≤ 65536 ∧ ∀ i y, xs[i]? = some y → f i = some y)
theorem okE.fresh {M : gMem} {y q : Nat} {e : va_E} (h : okE M y) (hq : M q = none) : okE (mU M q e) y := by
  obtain ⟨ci, fs0, C, T, N, h1, h2, h3⟩ := h
  exact ⟨ci, fs0, C, T, N, (mU_n (g_nef h1 hq)).trans h1, h2, h3⟩
theorem okE.upd {M : gMem} {y a ci : Nat} {fs0 fs1 : List Value} (h : okE M y) (ha : M a = some (oB ci fs0)) : okE (mU M a (oB ci fs1)) y := by
  obtain ⟨ci', fs', C, T, N, h1, h2, h3⟩ := h
  by_cases e : y = a
  · subst e
    rw [ha] at h1; cases h1
    exact ⟨ci, fs1, C, T, N, mU_s, h2, h3⟩
  · exact ⟨ci', fs', C, T, N, (mU_n e).trans h1, h2, h3⟩
theorem mnI_le {a b : Nat} (h : a ≤ b) (hb : b < 2 ^ 31) : mnI (nI a) (nI b) = nI a := by unfold mnI; rw [if_neg (nI_nlt h hb)]
theorem mxI_lt {a b : Nat} (h : a ≤ b) (hb : b < 2 ^ 31) : mxI (nI a) (nI b) = nI b := by
  unfold mxI
  by_cases e : a = b
  · subst e; rw [if_neg (nI_nlt (Nat.le_refl _) hb)]
  · rw [if_pos (nI_lt (by omega) hb)]
theorem nI_shr1 {n : Nat} (h : n < 2 ^ 31) : nI n >>> ((1 : Int32) &&& 31) = nI (n / 2) := by
  have k := pk_shrN (n := n) h ((1 : Int32) &&& 31) 1 (by decide)
  rw [Nat.pow_one] at k
  exact k
theorem la_idx {xs : List Nat} {v : Nat} {f : Nat → Option Nat} (h : ∀ i y, xs[i]? = some y → f i = some y) : ∀ i y, (xs ++ [v])[i]? = some y → va_up f xs.length (some v) i = some y := by
  intro i y hy
  unfold va_up
  by_cases e : i = xs.length
  · subst e
    rw [if_pos rfl]
    rw [List.getElem?_append_right (Nat.le_refl _), Nat.sub_self] at hy
    exact hy
  · rw [if_neg e]
    by_cases hl : i < xs.length
    · rw [List.getElem?_append_left hl] at hy
      exact h i y hy
    · rw [List.getElem?_append_right (by omega)] at hy
      have := (List.getElem?_eq_some_iff.mp hy).1
      simp at this
      omega
theorem la_el {M : gMem} {xs : List Nat} {n : Nat} {f : Nat → Option Nat} (hn : n = xs.length) (h : ∀ i y, xs[i]? = some y → f i = some y) (hx : ∀ y ∈ xs, okE M y) : ∀ i, i < n → ∀ y, f i = some y → okE M y := by
  intro i hi y hy
  have h1 := h i xs[i] (List.getElem?_eq_some_iff.mpr ⟨by omega, rfl⟩)
  rw [h1] at hy
  cases hy
  exact hx _ (List.getElem_mem _)

set_option maxRecDepth 20000 in
theorem c_Jxa1e45_init {l : Launch} {G : gV} {M : gMem} {a : Nat} : qC l G yJxa1e45_init_da8c8 cJxa1e45_init_da8c8 1 none 1 0 0 [.ref a] M (pV M) := by
  refine qC_of (by decide +kernel) (Nat.le_of_ble_eq_true rfl) (fun F hF X hr hn => ?_)
  subst hF
  have X : qX G F cJxa1e45_init_da8c8 1 RJxa1e45 1 := X
  show qJ G F _ 1 M 0 0 0 [(0, .ref a)] []
  refine q_aload_n X dJxa1e45_init_da8c8_0 0 rfl ?_
  refine q_obj X tw_51 tw_38 tw_39 (by decide) (Nat.le_of_ble_eq_true rfl) dJxa1e45_init_da8c8_1 ?_
  exact q_vret X hr dJxa1e45_init_da8c8_4 (⟨rfl, rfl⟩)

set_option maxRecDepth 20000 in
theorem c_Jxc12de_init {l : Launch} {G : gV} {M : gMem} {a : Nat} {mv : Int32} {v1 v2 : Value} (hA : M a = some (oB 0 [.int mv, v1, v2])) : qC l G yJxc12de_init_da8c8 cJxc12de_init_da8c8 1 none 2 0 0 [.ref a] M (pV (mU M a (oB 0 [.int 0, v1, v2]))) := by
  refine qC_of (by decide +kernel) (Nat.le_of_ble_eq_true rfl) (fun F hF X hr hn => ?_)
  subst hF
  have X : qX G F cJxc12de_init_da8c8 1 RJxc12de 2 := X
  show qJ G F _ 1 M 0 0 0 [(0, .ref a)] []
  refine q_aload_n X dJxc12de_init_da8c8_0 0 rfl ?_
  refine q_callI X (c_Jxa1e45_init) Y_Jxa1e45_init_da8c8 tw_48 tw_49 rfl (by decide) rfl rfl (Nat.le_of_ble_eq_true rfl) (rc' := 0) (rs' := 0) (Nat.le_refl _) (Nat.le_refl _) dJxc12de_init_da8c8_1 (fun v M' hp _ => ?_)
  obtain ⟨rfl, eM⟩ := hp
  rw [eM]
  show qJ G F _ 1 M 0 0 4 [(0, .ref a)] []
  refine q_aload_n X dJxc12de_init_da8c8_4 0 rfl ?_
  refine q_iconst (v := 0) X dJxc12de_init_da8c8_5 (by decide) ?_
  refine q_put X hA rfl in_RJx4a65c tyJx4a65c tyJx4a65c_ok nmJx4a65c 0 (by decide) tw_56 rfl rfl rfl rfl rfl (Nat.le_of_ble_eq_true rfl) (fs1 := [.int 0, v1, v2]) rfl dJxc12de_init_da8c8_6 ?_
  have m_1 : (mU M a (oB 0 [.int 0, v1, v2])) a = some (oB 0 [.int 0, v1, v2]) := mU_s
  exact q_vret X hr dJxc12de_init_da8c8_9 (⟨rfl, rfl⟩)

set_option maxRecDepth 20000 in
theorem c_list_init {l : Launch} {G : gV} {M : gMem} {a : Nat} {mv sz : Int32} {v1 v2 : Value} (hA : M a = some (oB 0 [.int mv, v1, v2])) : qC l G yJx4a65c_init_da8c8 cJx4a65c_init_da8c8 1 none 3 0 0 [.ref a] M (pV (mU M a (oB 0 [.int 0, .ref (gDA G), v2]))) := by
  refine qC_of (by decide +kernel) (Nat.le_of_ble_eq_true rfl) (fun F hF X hr hn => ?_)
  subst hF
  have X : qX G F cJx4a65c_init_da8c8 1 RJx4a65c 3 := X
  show qJ G F _ 1 M 0 0 0 [(0, .ref a)] []
  refine q_aload_n X dJx4a65c_init_da8c8_0 0 rfl ?_
  refine q_callI X (c_Jxc12de_init hA) Y_Jxc12de_init_da8c8 tw_45 tw_46 rfl (by decide) rfl rfl (Nat.le_of_ble_eq_true rfl) (rc' := 0) (rs' := 0) (Nat.le_refl _) (Nat.le_refl _) dJx4a65c_init_da8c8_1 (fun v M' hp _ => ?_)
  obtain ⟨rfl, eM⟩ := hp
  rw [eM]
  have hA1 : (mU M a (oB 0 [.int 0, v1, v2])) a = some (oB 0 [.int 0, v1, v2]) := mU_s
  show qJ G F _ 1 (mU M a (oB 0 [.int 0, v1, v2])) 0 0 4 [(0, .ref a)] []
  refine q_aload_n X dJx4a65c_init_da8c8_4 0 rfl ?_
  refine q_getsD X rfl tw_52 tn_53 (List.mem_filter.mp tw_4).1 dJx4a65c_init_da8c8_5 ?_
  refine q_put X hA1 rfl in_RJx4a65c tyJx4a65c tyJx4a65c_ok nmJx4a65c 1 (by decide) tw_54 rfl rfl rfl rfl rfl (Nat.le_of_ble_eq_true rfl) (fs1 := [.int 0, .ref (gDA G), v2]) rfl dJx4a65c_init_da8c8_8 ?_
  have m_1 : (mU (mU M a (oB 0 [.int 0, v1, v2])) a (oB 0 [.int 0, .ref (gDA G), v2])) a = some (oB 0 [.int 0, .ref (gDA G), v2]) := mU_s
  exact q_vret X hr dJx4a65c_init_da8c8_11 (⟨rfl, mU_mU⟩)

set_option maxRecDepth 20000 in
theorem c_list_size {l : Launch} {G : gV} {M : gMem} {a ed : Nat} {xs : List Nat} (hL : isList G M a ed xs) : qC l G yJx4a65c_size_8abf5 cJx4a65c_size_8abf5 1 (some .int) 1 0 0 [.ref a] M (pP (.int (nI xs.length)) M) := by
  refine qC_of (by decide +kernel) (Nat.le_of_ble_eq_true rfl) (fun F hF X hr hn => ?_)
  subst hF
  have X : qX G F cJx4a65c_size_8abf5 1 RJx4a65c 1 := X
  obtain ⟨-, ⟨mv, hA⟩, -⟩ := hL
  show qJ G F _ 1 M 0 0 0 [(0, .ref a)] []
  refine q_aload_n X dJx4a65c_size_8abf5_0 0 rfl ?_
  refine q_get X hA rfl in_RJx4a65c 2 (by decide) tw_55 rfl rfl dJx4a65c_size_8abf5_1 ?_
  exact q_iret X hr dJx4a65c_size_8abf5_4 (⟨rfl, rfl⟩)

set_option maxRecDepth 20000 in
theorem c_J3_check {l : Launch} {G : gV} {M : gMem} {i n : Nat} (hi : i < n) (hn0 : n ≤ 65536) : qC l G yJ3_checkIndex_8e157 cJ3_checkIndex_8e157 3 (some .int) 1 0 0 [.int (nI i), .int (nI n), .null] M (pP (.int (nI i)) M) := by
  refine qC_of (by decide +kernel) (Nat.le_of_ble_eq_true rfl) (fun F hF X hr hn => ?_)
  subst hF
  have X : qX G F cJ3_checkIndex_8e157 3 RJ3 1 := X
  show qJ G F _ 3 M 0 0 0 [(0, .int (nI i)), (1, .int (nI n)), (2, .null)] []
  refine q_iload_n X dJ3_checkIndex_8e157_0 0 rfl ?_
  refine q_if_lt X 9 dJ3_checkIndex_8e157_1 (by decide) (fun c_1 => absurd c_1 (nI_pos (by omega))) (fun c_1 => ?_)
  refine q_iload_n X dJ3_checkIndex_8e157_4 0 rfl ?_
  refine q_iload_n X dJ3_checkIndex_8e157_5 1 rfl ?_
  refine q_icmp_lt X 16 dJ3_checkIndex_8e157_6 (by decide) (fun c_2 => ?_) (fun c_2 => absurd (nI_lt hi (by omega)) c_2)
  refine q_iload_n X dJ3_checkIndex_8e157_16 0 rfl ?_
  exact q_iret X hr dJ3_checkIndex_8e157_17 (⟨rfl, rfl⟩)

set_option maxRecDepth 20000 in
theorem c_J15_check {l : Launch} {G : gV} {M : gMem} {i n : Nat} (hi : i < n) (hn0 : n ≤ 65536) : qC l G yJ15_checkIndex_7cf53 cJ15_checkIndex_7cf53 2 (some .int) 2 0 0 [.int (nI i), .int (nI n)] M (pP (.int (nI i)) M) := by
  refine qC_of (by decide +kernel) (Nat.le_of_ble_eq_true rfl) (fun F hF X hr hn => ?_)
  subst hF
  have X : qX G F cJ15_checkIndex_7cf53 2 RJ15 2 := X
  show qJ G F _ 2 M 0 0 0 [(0, .int (nI i)), (1, .int (nI n))] []
  refine q_iload_n X dJ15_checkIndex_7cf53_0 0 rfl ?_
  refine q_iload_n X dJ15_checkIndex_7cf53_1 1 rfl ?_
  refine q_null X dJ15_checkIndex_7cf53_2 ?_
  refine q_callSp X (c_J3_check hi hn0) Y_J3_checkIndex_8e157 tw_496 tw_497 (by decide) rfl rfl (Nat.le_of_ble_eq_true rfl) dJ15_checkIndex_7cf53_3 ?_
  exact q_iret X hr dJ15_checkIndex_7cf53_6 (⟨rfl, rfl⟩)

set_option maxRecDepth 20000 in
theorem c_list_elem {l : Launch} {G : gV} {M : gMem} {a ed n i x : Nat} {mv sz : Int32} {f : Nat → Option Nat} (hA : M a = some (oB 0 [.int mv, .ref ed, .int sz])) (hE : M ed = some (aO G n f)) (hi : i < n) (hn : n ≤ 65536) (hx : f i = some x) : qC l G yJx4a65c_elementData_915e3 cJx4a65c_elementData_915e3 2 (some (.object "java/lang/Object")) 1 0 0 [.ref a, .int (nI i)] M (pP (.ref x) M) := by
  refine qC_of (by decide +kernel) (Nat.le_of_ble_eq_true rfl) (fun F hF X hr hn => ?_)
  subst hF
  have X : qX G F cJx4a65c_elementData_915e3 2 RJx4a65c 1 := X
  show qJ G F _ 2 M 0 0 0 [(0, .ref a), (1, .int (nI i))] []
  refine q_aload_n X dJx4a65c_elementData_915e3_0 0 rfl ?_
  refine q_get X hA rfl in_RJx4a65c 1 (by decide) tw_54 rfl rfl dJx4a65c_elementData_915e3_1 ?_
  refine q_iload_n X dJx4a65c_elementData_915e3_4 1 rfl ?_
  refine q_aald X 3 hE rfl (vp_in_nI hi (by omega)) (v := .ref x) (by rw [nI_clamp (by omega), hx]; rfl) dJx4a65c_elementData_915e3_5 ?_
  exact q_aret X hr (Or.inl ⟨_, rfl⟩) dJx4a65c_elementData_915e3_6 (⟨rfl, rfl⟩)

set_option maxRecDepth 20000 in
theorem c_list_get {l : Launch} {G : gV} {M : gMem} {a ed i x : Nat} {xs : List Nat} (hL : isList G M a ed xs) (hx : xs[i]? = some x) : qC l G yJx4a65c_get_915e3 cJx4a65c_get_915e3 2 (some (.object "java/lang/Object")) 3 0 0 [.ref a, .int (nI i)] M (pP (.ref x) M) := by
  refine qC_of (by decide +kernel) (Nat.le_of_ble_eq_true rfl) (fun F hF X hr hn => ?_)
  subst hF
  have X : qX G F cJx4a65c_get_915e3 2 RJx4a65c 3 := X
  obtain ⟨h0, ⟨mv, hA⟩, ⟨-, e⟩ | ⟨n, f, hE, hle, -, hn, hf⟩⟩ := hL
  · rw [e] at hx; simp at hx
  have hi : i < xs.length := (List.getElem?_eq_some_iff.mp hx).1
  show qJ G F _ 2 M 0 0 0 [(0, .ref a), (1, .int (nI i))] []
  refine q_iload_n X dJx4a65c_get_915e3_0 1 rfl ?_
  refine q_aload_n X dJx4a65c_get_915e3_1 0 rfl ?_
  refine q_get X hA rfl in_RJx4a65c 2 (by decide) tw_55 rfl rfl dJx4a65c_get_915e3_2 ?_
  refine q_callSp X (c_J15_check hi (by omega)) Y_J15_checkIndex_7cf53 tw_493 tw_494 (by decide) rfl rfl (Nat.le_of_ble_eq_true rfl) dJx4a65c_get_915e3_5 ?_
  refine q_pop X dJx4a65c_get_915e3_8 rfl ?_
  refine q_aload_n X dJx4a65c_get_915e3_9 0 rfl ?_
  refine q_iload_n X dJx4a65c_get_915e3_10 1 rfl ?_
  refine q_callVp X (c_list_elem hA hE (by omega) hn (hf i x hx)) Y_Jx4a65c_elementData_915e3 tw_499 tw_500 tw_501 hA rfl (by decide) rfl rfl (Nat.le_of_ble_eq_true rfl) dJx4a65c_get_915e3_11 ?_
  exact q_aret X hr (Or.inl ⟨_, rfl⟩) dJx4a65c_get_915e3_14 (⟨rfl, rfl⟩)

set_option maxRecDepth 20000 in
theorem c_J8_newLength {l : Launch} {G : gV} {M : gMem} {n h : Nat} (h1 : 1 ≤ h) (hn : n + h ≤ 65536) : qC l G yJ8_newLength_cabcc cJ8_newLength_cabcc 4 (some .int) 2 0 0 [.int (nI n), .int (nI 1), .int (nI h)] M (pP (.int (nI (n + h))) M) := by
  refine qC_of (by decide +kernel) (Nat.le_of_ble_eq_true rfl) (fun F hF X hr hn => ?_)
  subst hF
  have X : qX G F cJ8_newLength_cabcc 4 RJ8 2 := X
  show qJ G F _ 4 M 0 0 0 [(0, .int (nI n)), (1, .int (nI 1)), (2, .int (nI h))] []
  refine q_iload_n X dJ8_newLength_cabcc_0 0 rfl ?_
  refine q_iload_n X dJ8_newLength_cabcc_1 1 rfl ?_
  refine q_iload_n X dJ8_newLength_cabcc_2 2 rfl ?_
  refine q_callSp X (c_J9_max_7cf53) Y_J9_max_7cf53 tw_202 tw_123 (by decide) rfl rfl (Nat.le_of_ble_eq_true rfl) dJ8_newLength_cabcc_3 ?_
  rw [mxI_lt (a := 1) (by omega) (by omega)]
  refine q_iadd X dJ8_newLength_cabcc_6 ?_
  rw [nI_add]
  refine q_istore_n (lv' := [(3, .int (nI (n + h))), (0, .int (nI n)), (1, .int (nI 1)), (2, .int (nI h))]) X dJ8_newLength_cabcc_7 (by decide) rfl ?_
  refine q_iconst (v := 0) X dJ8_newLength_cabcc_8 (by decide) ?_
  refine q_iload_n X dJ8_newLength_cabcc_9 0 rfl ?_
  refine q_icmp_ge X 21 dJ8_newLength_cabcc_10 (by decide) (fun c_1 => absurd c_1 (nI_nle (by omega) (by omega))) (fun c_1 => ?_)
  refine q_iload_n X dJ8_newLength_cabcc_13 0 rfl ?_
  refine q_ldcI (v := 2147483639) X dJ8_newLength_cabcc_14 tw_203 ?_
  refine q_icmp_gt X 21 dJ8_newLength_cabcc_16 (by decide) (fun c_2 => absurd c_2 (show ¬ (2147483639 : Int32) < nI (n + h) from nI_nlt (a := 2147483639) (by omega) (by decide))) (fun c_2 => ?_)
  refine q_iload_n X dJ8_newLength_cabcc_19 0 rfl ?_
  exact q_iret X hr dJ8_newLength_cabcc_20 (⟨rfl, rfl⟩)

/-- a row was copied into a new, longer one -/
def cpP (G : gV) (M : gMem) (N n1 : Nat) (f : Nat → Option Nat) : Option Value → gMem → Prop := fun v M' => ∃ q : Nat, v = some (.ref q) ∧ M q = none ∧ M' = mU M q (aO G n1 (va_cpy f (fun _ => none) 0 0 N))

set_option maxRecDepth 20000 in
theorem c_copyOf3 {l : Launch} {G : gV} {M : gMem} {a0 N n1 : Nat} {f : Nat → Option Nat} (hE : M a0 = some (aO G N f)) (hN : N ≤ n1) (hn0 : n1 ≤ 65536) (hel : ∀ i, i < N → ∀ y, f i = some y → okE M y) {mi : Nat} (hmi : va_Mi "[Ljava/lang/Object;" mi (gU G)) : qC l G yJ7_copyOf_6403c cJ7_copyOf_6403c 4 (some (.array (.object "java/lang/Object"))) 2 1 n1 [.ref a0, .int (nI n1), .ref mi] M (cpP G M N n1 f) := by
  refine qC_of (by decide +kernel) (Nat.le_of_ble_eq_true rfl) (fun F hF X hr hn => ?_)
  subst hF
  have X : qX G F cJ7_copyOf_6403c 4 RJ7 2 := X
  show qJ G F _ 4 M 1 n1 0 [(0, .ref a0), (1, .int (nI n1)), (2, .ref mi)] []
  refine q_aload_n X dJ7_copyOf_6403c_0 2 rfl ?_
  refine q_ldcM X tw_235 hmi dJ7_copyOf_6403c_1 ?_
  refine q_acmp_ne X 13 dJ7_copyOf_6403c_3 (by decide) (fun c_1 => absurd rfl c_1) (fun c_1 => ?_)
  refine q_iload_n X dJ7_copyOf_6403c_6 1 rfl ?_
  refine q_newO X 3 rfl tw_237 tn_236 n1 rfl (hn0) (rc' := 0) (rs' := 0) (by omega) (by omega) dJ7_copyOf_6403c_7 (fun q fq => ?_)
  have n_2 : a0 ≠ q := g_nef hE fq
  have m_3 : (mU M q (aO G n1 (fun _ => none))) a0 = some (aO G N f) := (mU_n n_2).trans hE
  have m_4 : (mU M q (aO G n1 (fun _ => none))) q = some (aO G n1 (fun _ => none)) := mU_s
  refine q_goto X 24 dJ7_copyOf_6403c_10 (by decide) ?_
  refine q_astore_n (lv' := [(3, .ref q), (0, .ref a0), (1, .int (nI n1)), (2, .ref mi)]) X dJ7_copyOf_6403c_24 (by decide) rfl ?_
  refine q_aload_n X dJ7_copyOf_6403c_25 1 rfl ?_
  refine q_iconst (v := 0) X dJ7_copyOf_6403c_26 (by decide) ?_
  refine q_aload_n X dJ7_copyOf_6403c_27 0 rfl ?_
  refine q_iconst (v := 0) X dJ7_copyOf_6403c_28 (by decide) ?_
  refine q_aload_n X dJ7_copyOf_6403c_29 1 rfl ?_
  refine q_alen X 3 m_3 rfl dJ7_copyOf_6403c_30 ?_
  refine q_iload_n X dJ7_copyOf_6403c_31 2 rfl ?_
  refine q_callSp X (c_J9_min_7cf53) Y_J9_min_7cf53 tw_238 tw_239 (by decide) rfl rfl (Nat.le_of_ble_eq_true rfl) dJ7_copyOf_6403c_32 ?_
  rw [mnI_le hN (by omega)]
  refine q_copyO X tw_241 tw_243 tw_242 tw_12 m_3 m_4 rfl hN (by omega) (fun i hi y hy => (hel i hi y hy).fresh fq) (by decide) (Nat.le_of_ble_eq_true rfl) dJ7_copyOf_6403c_35 ?_
  refine q_aload_n X dJ7_copyOf_6403c_38 0 rfl ?_
  exact q_aret X hr (Or.inr ⟨_, rfl⟩) dJ7_copyOf_6403c_39 (⟨q, rfl, fq, mU_mU⟩)

set_option maxRecDepth 20000 in
theorem c_copyOf {l : Launch} {G : gV} {M : gMem} {a0 N n1 : Nat} {f : Nat → Option Nat} (hE : M a0 = some (aO G N f)) (hN : N ≤ n1) (hn0 : n1 ≤ 65536) (hel : ∀ i, i < N → ∀ y, f i = some y → okE M y) : qC l G yJ7_copyOf_1904c cJ7_copyOf_1904c 2 (some (.array (.object "java/lang/Object"))) 3 1 n1 [.ref a0, .int (nI n1)] M (cpP G M N n1 f) := by
  refine qC_of (by decide +kernel) (Nat.le_of_ble_eq_true rfl) (fun F hF X hr hn => ?_)
  subst hF
  have X : qX G F cJ7_copyOf_1904c 2 RJ7 3 := X
  obtain ⟨mi, hmi⟩ := g_mi X.2.2.2.2.2.1.2.2.2
  show qJ G F _ 2 M 1 n1 0 [(0, .ref a0), (1, .int (nI n1))] []
  refine q_aload_n X dJ7_copyOf_1904c_0 0 rfl ?_
  refine q_iload_n X dJ7_copyOf_1904c_1 1 rfl ?_
  refine q_aload_n X dJ7_copyOf_1904c_2 0 rfl ?_
  refine q_getC X tw_210 tn_1466 tw_1465 tw_211 tw_231 hmi hE (by decide) (Nat.le_of_ble_eq_true rfl) dJ7_copyOf_1904c_3 ?_
  refine q_callS X (c_copyOf3 hE hN hn0 hel hmi) Y_J7_copyOf_6403c tw_232 tw_233 (by decide) rfl rfl (Nat.le_of_ble_eq_true rfl) (rc' := 0) (rs' := 0) (by omega) (by omega) dJ7_copyOf_1904c_6 (fun v M' hp _ => ?_)
  obtain ⟨q, rfl, fq, eM⟩ := hp
  subst eM
  show qJ G F _ 2 (mU M q (aO G n1 (va_cpy f (fun _ => none) 0 0 N))) 0 0 9 [(0, .ref a0), (1, .int (nI n1))] [.ref q]
  exact q_aret X hr (Or.inr ⟨_, rfl⟩) dJ7_copyOf_1904c_9 (⟨q, rfl, fq, rfl⟩)

/-- the list has a new row, with room for one more -/
def gP (G : gV) (M : gMem) (a : Nat) (mv : Int32) (xs : List Nat) : Option Value → gMem → Prop := fun v M' => ∃ (q n' : Nat) (f' : Nat → Option Nat), v = some (.ref q) ∧ M q = none ∧ M' = mU (mU M q (aO G n' f')) a (oB 0 [.int mv, .ref q, .int (nI xs.length)]) ∧ xs.length < n' ∧ 2 ≤ n' ∧ n' ≤ 65536 ∧ ∀ i y, xs[i]? = some y → f' i = some y

set_option maxRecDepth 20000 in
theorem c_grow_d {l : Launch} {G : gV} {M : gMem} {a ms : Nat} {mv : Int32} (hms : 10 ≤ ms) (hA : M a = some (oB 0 [.int mv, .ref (gDA G), .int (nI ([] : List Nat).length)])) : qC l G yJx4a65c_grow_92f84 cJx4a65c_grow_92f84 4 (some (.array (.object "java/lang/Object"))) 4 1 ms [.ref a, .int (nI 1)] M (gP G M a mv []) := by
  refine qC_of (by decide +kernel) (Nat.le_of_ble_eq_true rfl) (fun F hF X hr hn => ?_)
  subst hF
  have X : qX G F cJx4a65c_grow_92f84 4 RJx4a65c 4 := X
  show qJ G F _ 4 M 1 ms 0 [(0, .ref a), (1, .int (nI 1))] []
  refine q_aload_n X dJx4a65c_grow_92f84_0 0 rfl ?_
  refine q_get X hA rfl in_RJx4a65c 1 (by decide) tw_54 rfl rfl dJx4a65c_grow_92f84_1 ?_
  refine q_alenD X dJx4a65c_grow_92f84_4 ?_
  refine q_istore_n (lv' := [(2, .int 0), (0, .ref a), (1, .int (nI 1))]) X dJx4a65c_grow_92f84_5 (by decide) rfl ?_
  refine q_iload_n X dJx4a65c_grow_92f84_6 0 rfl ?_
  refine q_if_gt X 20 dJx4a65c_grow_92f84_7 (by decide) (fun c_1 => absurd c_1 (by decide)) (fun c_1 => ?_)
  refine q_aload_n X dJx4a65c_grow_92f84_10 1 rfl ?_
  refine q_get X hA rfl in_RJx4a65c 1 (by decide) tw_54 rfl rfl dJx4a65c_grow_92f84_11 ?_
  refine q_getsD X rfl tw_52 tn_53 (List.mem_filter.mp tw_4).1 dJx4a65c_grow_92f84_14 ?_
  refine q_acmp_eq X 45 dJx4a65c_grow_92f84_17 (by decide) (fun c_2 => ?_) (fun c_2 => absurd rfl c_2)
  refine q_aload_n X dJx4a65c_grow_92f84_45 1 rfl ?_
  refine q_bipush (v := 10) X dJx4a65c_grow_92f84_46 (by decide) ?_
  refine q_iload_n X dJx4a65c_grow_92f84_48 2 rfl ?_
  refine q_callSp X (c_J9_max_7cf53) Y_J9_max_7cf53 tw_244 tw_123 (by decide) rfl rfl (Nat.le_of_ble_eq_true rfl) dJx4a65c_grow_92f84_49 ?_
  rw [show mxI 10 (nI 1) = nI 10 by decide]
  refine q_newO X 3 rfl tw_245 tn_236 10 rfl (by decide) (rc' := 0) (rs' := 0) (by omega) (by omega) dJx4a65c_grow_92f84_52 (fun q fq => ?_)
  have n_3 : a ≠ q := g_nef hA fq
  have m_4 : (mU M q (aO G 10 (fun _ => none))) a = some (oB 0 [.int mv, .ref (gDA G), .int (nI ([] : List Nat).length)]) := (mU_n n_3).trans hA
  have m_5 : (mU M q (aO G 10 (fun _ => none))) q = some (aO G 10 (fun _ => none)) := mU_s
  refine q_dup_x1 X dJx4a65c_grow_92f84_55 rfl rfl ?_
  refine q_put X m_4 rfl in_RJx4a65c tyJx4a65c tyJx4a65c_ok nmJx4a65c 1 (by decide) tw_54 rfl rfl rfl rfl rfl (Nat.le_of_ble_eq_true rfl) (fs1 := [.int mv, .ref q, .int (nI ([] : List Nat).length)]) rfl dJx4a65c_grow_92f84_56 ?_
  have m_6 : (mU (mU M q (aO G 10 (fun _ => none))) a (oB 0 [.int mv, .ref q, .int (nI ([] : List Nat).length)])) a = some (oB 0 [.int mv, .ref q, .int (nI ([] : List Nat).length)]) := mU_s
  have m_7 : (mU (mU M q (aO G 10 (fun _ => none))) a (oB 0 [.int mv, .ref q, .int (nI ([] : List Nat).length)])) q = some (aO G 10 (fun _ => none)) := (mU_n (Ne.symm n_3)).trans m_5
  exact q_aret X hr (Or.inr ⟨_, rfl⟩) dJx4a65c_grow_92f84_59 (⟨q, 10, fun _ => none, rfl, fq, rfl, by decide, by decide, by decide, fun i y h => by simp at h⟩)

set_option maxRecDepth 20000 in
theorem c_grow_b {l : Launch} {G : gV} {M : gMem} {a ed n ms : Nat} (hms : n + n / 2 ≤ ms) {mv : Int32} {xs : List Nat} {f : Nat → Option Nat} (hA : M a = some (oB 0 [.int mv, .ref ed, .int (nI xs.length)])) (hE : M ed = some (aO G n f)) (hn0 : n = xs.length) (h2 : 2 ≤ n) (h4 : n ≤ 4096) (hf : ∀ i y, xs[i]? = some y → f i = some y) (hx : ∀ y ∈ xs, okE M y) : qC l G yJx4a65c_grow_92f84 cJx4a65c_grow_92f84 4 (some (.array (.object "java/lang/Object"))) 4 1 ms [.ref a, .int (nI (n + 1))] M (gP G M a mv xs) := by
  refine qC_of (by decide +kernel) (Nat.le_of_ble_eq_true rfl) (fun F hF X hr hn => ?_)
  subst hF
  have X : qX G F cJx4a65c_grow_92f84 4 RJx4a65c 4 := X
  show qJ G F _ 4 M 1 ms 0 [(0, .ref a), (1, .int (nI (n + 1)))] []
  refine q_aload_n X dJx4a65c_grow_92f84_0 0 rfl ?_
  refine q_get X hA rfl in_RJx4a65c 1 (by decide) tw_54 rfl rfl dJx4a65c_grow_92f84_1 ?_
  refine q_alen X 3 hE rfl dJx4a65c_grow_92f84_4 ?_
  refine q_istore_n (lv' := [(2, .int (nI n)), (0, .ref a), (1, .int (nI (n + 1)))]) X dJx4a65c_grow_92f84_5 (by decide) rfl ?_
  refine q_iload_n X dJx4a65c_grow_92f84_6 0 rfl ?_
  refine q_if_gt X 20 dJx4a65c_grow_92f84_7 (by decide) (fun c_1 => ?_) (fun c_1 => absurd (show (0 : Int32) < nI n from nI_lt (a := 0) (by omega) (by omega)) c_1)
  refine q_iload_n X dJx4a65c_grow_92f84_20 0 rfl ?_
  refine q_iload_n X dJx4a65c_grow_92f84_21 2 rfl ?_
  refine q_iload_n X dJx4a65c_grow_92f84_22 0 rfl ?_
  refine q_isub X dJx4a65c_grow_92f84_23 ?_
  rw [pk_sub (by omega), show n + 1 - n = 1 by omega]
  refine q_iload_n X dJx4a65c_grow_92f84_24 0 rfl ?_
  refine q_iconst (v := 1) X dJx4a65c_grow_92f84_25 (by decide) ?_
  refine q_ishr X dJx4a65c_grow_92f84_26 ?_
  rw [nI_shr1 (by omega)]
  refine q_callSp X (c_J8_newLength (h := n / 2) (by omega) (by omega)) Y_J8_newLength_cabcc tw_199 tw_200 (by decide) rfl rfl (Nat.le_of_ble_eq_true rfl) dJx4a65c_grow_92f84_27 ?_
  refine q_istore_n (lv' := [(3, .int (nI (n + n / 2))), (2, .int (nI n)), (0, .ref a), (1, .int (nI (n + 1)))]) X dJx4a65c_grow_92f84_30 (by decide) rfl ?_
  refine q_aload_n X dJx4a65c_grow_92f84_31 2 rfl ?_
  refine q_aload_n X dJx4a65c_grow_92f84_32 2 rfl ?_
  refine q_get X hA rfl in_RJx4a65c 1 (by decide) tw_54 rfl rfl dJx4a65c_grow_92f84_33 ?_
  refine q_iload_n X dJx4a65c_grow_92f84_36 0 rfl ?_
  refine q_callS X (c_copyOf (n1 := n + n / 2) hE (by omega) (by omega) (la_el hn0 hf hx)) Y_J7_copyOf_1904c tw_207 tw_208 (by decide) rfl rfl (Nat.le_of_ble_eq_true rfl) (rc' := 0) (rs' := 0) (by omega) (by omega) dJx4a65c_grow_92f84_37 (fun v M' hp _ => ?_)
  obtain ⟨q, rfl, fq, eM⟩ := hp
  subst eM
  have hA1 : (mU M q (aO G (n + n / 2) (va_cpy f (fun _ => none) 0 0 n))) a = some (oB 0 [.int mv, .ref ed, .int (nI xs.length)]) := (mU_n (g_nef hA fq)).trans hA
  show qJ G F _ 4 (mU M q (aO G (n + n / 2) (va_cpy f (fun _ => none) 0 0 n))) 0 0 40 [(3, .int (nI (n + n / 2))), (2, .int (nI n)), (0, .ref a), (1, .int (nI (n + 1)))] [.ref q, .ref a]
  refine q_dup_x1 X dJx4a65c_grow_92f84_40 rfl rfl ?_
  refine q_put X hA1 rfl in_RJx4a65c tyJx4a65c tyJx4a65c_ok nmJx4a65c 1 (by decide) tw_54 rfl rfl rfl rfl rfl (Nat.le_of_ble_eq_true rfl) (fs1 := [.int mv, .ref q, .int (nI xs.length)]) rfl dJx4a65c_grow_92f84_41 ?_
  have m_2 : (mU (mU M q (aO G (n + n / 2) (va_cpy f (fun _ => none) 0 0 n))) a (oB 0 [.int mv, .ref q, .int (nI xs.length)])) a = some (oB 0 [.int mv, .ref q, .int (nI xs.length)]) := mU_s
  exact q_aret X hr (Or.inr ⟨_, rfl⟩) dJx4a65c_grow_92f84_44 (⟨q, n + n / 2, va_cpy f (fun _ => none) 0 0 n, rfl, fq, rfl, by omega, by omega, by omega, fun i y h => by
    have hi := (List.getElem?_eq_some_iff.mp h).1
    rw [pk_cpy_in (by omega) (by omega), show 0 + (i - 0) = i by omega]
    exact hf i y h⟩)

set_option maxRecDepth 20000 in
theorem c_grow0 {l : Launch} {G : gV} {M : gMem} {a ed ms : Nat} {mv : Int32} {xs : List Nat} (hA : M a = some (oB 0 [.int mv, .ref ed, .int (nI xs.length)])) (hG : qC l G yJx4a65c_grow_92f84 cJx4a65c_grow_92f84 4 (some (.array (.object "java/lang/Object"))) 4 1 ms [.ref a, .int (nI (xs.length + 1))] M (gP G M a mv xs)) : qC l G yJx4a65c_grow_d5877 cJx4a65c_grow_d5877 1 (some (.array (.object "java/lang/Object"))) 5 1 ms [.ref a] M (gP G M a mv xs) := by
  refine qC_of (by decide +kernel) (Nat.le_of_ble_eq_true rfl) (fun F hF X hr hn => ?_)
  subst hF
  have X : qX G F cJx4a65c_grow_d5877 1 RJx4a65c 5 := X
  show qJ G F _ 1 M 1 ms 0 [(0, .ref a)] []
  refine q_aload_n X dJx4a65c_grow_d5877_0 0 rfl ?_
  refine q_aload_n X dJx4a65c_grow_d5877_1 0 rfl ?_
  refine q_get X hA rfl in_RJx4a65c 2 (by decide) tw_55 rfl rfl dJx4a65c_grow_d5877_2 ?_
  refine q_iconst (v := 1) X dJx4a65c_grow_d5877_5 (by decide) ?_
  refine q_iadd X dJx4a65c_grow_d5877_6 ?_
  rw [nI_1]
  refine q_callV X (hG) Y_Jx4a65c_grow_92f84 tw_195 tw_197 sel_3 hA rfl (by decide) rfl rfl (Nat.le_of_ble_eq_true rfl) (rc' := 0) (rs' := 0) (by omega) (by omega) dJx4a65c_grow_d5877_7 (fun v M' hp _ => ?_)
  obtain ⟨q, n', f', rfl, fq, eM, g1, g2, g3, g4⟩ := hp
  subst eM
  show qJ G F _ 1 (mU (mU M q (aO G n' f')) a (oB 0 [.int mv, .ref q, .int (nI xs.length)])) 0 0 10 [(0, .ref a)] [.ref q]
  exact q_aret X hr (Or.inr ⟨_, rfl⟩) dJx4a65c_grow_d5877_10 (⟨q, n', f', rfl, fq, rfl, g1, g2, g3, g4⟩)

/-- one more in the list -/
def a3P (G : gV) (M : gMem) (a ed v : Nat) (mv : Int32) (xs : List Nat) (r : Option Value) : Option Value → gMem → Prop := fun w M' => w = r ∧ ∃ (ed' n' : Nat) (f' : Nat → Option Nat), (ed' = ed ∨ M ed' = none) ∧ M' a = some (oB 0 [.int mv, .ref ed', .int (nI (xs ++ [v]).length)]) ∧ M' ed' = some (aO G n' f') ∧ (xs ++ [v]).length ≤ n' ∧ 2 ≤ n' ∧ n' ≤ 65536 ∧ (∀ i y, (xs ++ [v])[i]? = some y → f' i = some y) ∧ ∀ p, p ≠ a → p ≠ ed' → M' p = M p
theorem len1 (xs : List Nat) (v : Nat) : (xs ++ [v]).length = xs.length + 1 := by simp

set_option maxRecDepth 20000 in
theorem c_add3_g {l : Launch} {G : gV} {M : gMem} {a ed v ms : Nat} {mv : Int32} {xs : List Nat} {f : Nat → Option Nat} (hA : M a = some (oB 0 [.int mv, .ref ed, .int (nI xs.length)])) (hv : okE M v) (h4 : xs.length ≤ 4096) (hlen : ∀ (F : gF) (Q : State → Prop) (st : List Value) (lv : List (Nat × Value)), qX G F cJx4a65c_add_72be8 4 RJx4a65c 6 → qJ G F Q 4 M 1 ms (0 + 1 + 1 + 1) lv (.int (nI xs.length) :: st) → qJ G F Q 4 M 1 ms (0 + 1 + 1) lv (.ref ed :: st)) (hG : qC l G yJx4a65c_grow_92f84 cJx4a65c_grow_92f84 4 (some (.array (.object "java/lang/Object"))) 4 1 ms [.ref a, .int (nI (xs.length + 1))] M (gP G M a mv xs)) : qC l G yJx4a65c_add_72be8 cJx4a65c_add_72be8 4 none 6 1 ms [.ref a, .ref v, .ref ed, .int (nI xs.length)] M (a3P G M a ed v mv xs none) := by
  refine qC_of (by decide +kernel) (Nat.le_of_ble_eq_true rfl) (fun F hF X hr hn => ?_)
  subst hF
  have X : qX G F cJx4a65c_add_72be8 4 RJx4a65c 6 := X
  show qJ G F _ 4 M 1 ms 0 [(0, .ref a), (1, .ref v), (2, .ref ed), (3, .int (nI xs.length))] []
  refine q_iload_n X dJx4a65c_add_72be8_0 3 rfl ?_
  refine q_aload_n X dJx4a65c_add_72be8_1 2 rfl ?_
  refine hlen F _ _ _ X ?_
  refine q_icmp_ne X 11 dJx4a65c_add_72be8_3 (by decide) (fun c_1 => absurd rfl c_1) (fun c_1 => ?_)
  refine q_aload_n X dJx4a65c_add_72be8_6 0 rfl ?_
  refine q_callV X (c_grow0 hA hG) Y_Jx4a65c_grow_d5877 tw_191 tw_193 sel_2 hA rfl (by decide) rfl rfl (Nat.le_of_ble_eq_true rfl) (rc' := 0) (rs' := 0) (by omega) (by omega) dJx4a65c_add_72be8_7 (fun v M' hp _ => ?_)
  obtain ⟨q, n', f', rfl, fq, eM, g1, g2, g3, g4⟩ := hp
  subst eM
  have nq := g_nef hA fq
  have hA1 : (mU (mU M q (aO G n' f')) a (oB 0 [.int mv, .ref q, .int (nI xs.length)])) a = some (oB 0 [.int mv, .ref q, .int (nI xs.length)]) := mU_s
  have hQ1 : (mU (mU M q (aO G n' f')) a (oB 0 [.int mv, .ref q, .int (nI xs.length)])) q = some (aO G n' f') := (mU_n (Ne.symm nq)).trans mU_s
  have ok1 : okE (mU (mU M q (aO G n' f')) a (oB 0 [.int mv, .ref q, .int (nI xs.length)])) v := (hv.fresh fq).upd ((mU_n nq).trans hA)
  obtain ⟨ci, fs0, C, TT, N0, hv1, hv2, hv3⟩ := ok1
  show qJ G F _ 4 (mU (mU M q (aO G n' f')) a (oB 0 [.int mv, .ref q, .int (nI xs.length)])) 0 0 10 [(0, .ref a), (1, .ref v), (2, .ref ed), (3, .int (nI xs.length))] [.ref q]
  refine q_astore_n (lv' := [(2, .ref q), (0, .ref a), (1, .ref v), (3, .int (nI xs.length))]) X dJx4a65c_add_72be8_10 (by decide) rfl ?_
  refine q_aload_n X dJx4a65c_add_72be8_11 0 rfl ?_
  refine q_iload_n X dJx4a65c_add_72be8_12 3 rfl ?_
  refine q_aload_n X dJx4a65c_add_72be8_13 2 rfl ?_
  refine q_aastO X 3 hQ1 rfl hv1 hv2 (Or.inr hv3) (vp_in_nI (by omega) (by omega)) dJx4a65c_add_72be8_14 ?_
  rw [nI_clamp (by omega)]
  have m_2 : (mU (mU (mU M q (aO G n' f')) a (oB 0 [.int mv, .ref q, .int (nI xs.length)])) q (aO G n' (va_up f' xs.length (some v)))) a = some (oB 0 [.int mv, .ref q, .int (nI xs.length)]) := (mU_n (nq)).trans hA1
  have m_3 : (mU (mU (mU M q (aO G n' f')) a (oB 0 [.int mv, .ref q, .int (nI xs.length)])) q (aO G n' (va_up f' xs.length (some v)))) q = some (aO G n' (va_up f' xs.length (some v))) := mU_s
  refine q_aload_n X dJx4a65c_add_72be8_15 1 rfl ?_
  refine q_iload_n X dJx4a65c_add_72be8_16 3 rfl ?_
  refine q_iconst (v := 1) X dJx4a65c_add_72be8_17 (by decide) ?_
  refine q_iadd X dJx4a65c_add_72be8_18 ?_
  rw [nI_1, ← len1 xs v]
  refine q_put X m_2 rfl in_RJx4a65c tyJx4a65c tyJx4a65c_ok nmJx4a65c 2 (by decide) tw_55 rfl rfl rfl rfl rfl (Nat.le_of_ble_eq_true rfl) (fs1 := [.int mv, .ref q, .int (nI (xs ++ [v]).length)]) rfl dJx4a65c_add_72be8_19 ?_
  have m_4 : (mU (mU (mU (mU M q (aO G n' f')) a (oB 0 [.int mv, .ref q, .int (nI xs.length)])) q (aO G n' (va_up f' xs.length (some v)))) a (oB 0 [.int mv, .ref q, .int (nI (xs ++ [v]).length)])) a = some (oB 0 [.int mv, .ref q, .int (nI (xs ++ [v]).length)]) := mU_s
  have m_5 : (mU (mU (mU (mU M q (aO G n' f')) a (oB 0 [.int mv, .ref q, .int (nI xs.length)])) q (aO G n' (va_up f' xs.length (some v)))) a (oB 0 [.int mv, .ref q, .int (nI (xs ++ [v]).length)])) q = some (aO G n' (va_up f' xs.length (some v))) := (mU_n (Ne.symm nq)).trans m_3
  exact q_vret X hr dJx4a65c_add_72be8_22 (⟨rfl, q, n', va_up f' xs.length (some v), Or.inr fq, mU_s, (mU_n (Ne.symm nq)).trans mU_s, by rw [len1]; omega, g2, g3, la_idx g4, fun p p1 p2 => (mU_n p1).trans ((mU_n p2).trans ((mU_n p1).trans (mU_n p2)))⟩)

set_option maxRecDepth 20000 in
theorem c_add3_r {l : Launch} {G : gV} {M : gMem} {a ed v n ms : Nat} {mv : Int32} {xs : List Nat} {f : Nat → Option Nat} (hA : M a = some (oB 0 [.int mv, .ref ed, .int (nI xs.length)])) (hv : okE M v) (h4 : xs.length ≤ 4096) (hE : M ed = some (aO G n f)) (hn : xs.length < n) (h2 : 2 ≤ n) (hn6 : n ≤ 65536) (hf : ∀ i y, xs[i]? = some y → f i = some y) : qC l G yJx4a65c_add_72be8 cJx4a65c_add_72be8 4 none 6 1 ms [.ref a, .ref v, .ref ed, .int (nI xs.length)] M (a3P G M a ed v mv xs none) := by
  refine qC_of (by decide +kernel) (Nat.le_of_ble_eq_true rfl) (fun F hF X hr hn => ?_)
  subst hF
  have X : qX G F cJx4a65c_add_72be8 4 RJx4a65c 6 := X
  obtain ⟨ci, fs0, C, TT, N0, hv1, hv2, hv3⟩ := hv
  have nq : a ≠ ed := fun e => by rw [e, hE] at hA; cases hA
  show qJ G F _ 4 M 1 ms 0 [(0, .ref a), (1, .ref v), (2, .ref ed), (3, .int (nI xs.length))] []
  refine q_iload_n X dJx4a65c_add_72be8_0 3 rfl ?_
  refine q_aload_n X dJx4a65c_add_72be8_1 2 rfl ?_
  refine q_alen X 3 hE rfl dJx4a65c_add_72be8_2 ?_
  refine q_icmp_ne X 11 dJx4a65c_add_72be8_3 (by decide) (fun c_1 => ?_) (fun c_1 => absurd ((nI_eq (by omega) (by omega)).mp c_1) (by omega))
  refine q_aload_n X dJx4a65c_add_72be8_11 2 rfl ?_
  refine q_iload_n X dJx4a65c_add_72be8_12 3 rfl ?_
  refine q_aload_n X dJx4a65c_add_72be8_13 1 rfl ?_
  refine q_aastO X 3 hE rfl hv1 hv2 (Or.inr hv3) (vp_in_nI (by omega) (by omega)) dJx4a65c_add_72be8_14 ?_
  rw [nI_clamp (by omega)]
  have m_2 : (mU M ed (aO G n (va_up f xs.length (some v)))) a = some (oB 0 [.int mv, .ref ed, .int (nI xs.length)]) := (mU_n (nq)).trans hA
  have m_3 : (mU M ed (aO G n (va_up f xs.length (some v)))) ed = some (aO G n (va_up f xs.length (some v))) := mU_s
  refine q_aload_n X dJx4a65c_add_72be8_15 0 rfl ?_
  refine q_iload_n X dJx4a65c_add_72be8_16 3 rfl ?_
  refine q_iconst (v := 1) X dJx4a65c_add_72be8_17 (by decide) ?_
  refine q_iadd X dJx4a65c_add_72be8_18 ?_
  rw [nI_1, ← len1 xs v]
  refine q_put X m_2 rfl in_RJx4a65c tyJx4a65c tyJx4a65c_ok nmJx4a65c 2 (by decide) tw_55 rfl rfl rfl rfl rfl (Nat.le_of_ble_eq_true rfl) (fs1 := [.int mv, .ref ed, .int (nI (xs ++ [v]).length)]) rfl dJx4a65c_add_72be8_19 ?_
  have m_4 : (mU (mU M ed (aO G n (va_up f xs.length (some v)))) a (oB 0 [.int mv, .ref ed, .int (nI (xs ++ [v]).length)])) a = some (oB 0 [.int mv, .ref ed, .int (nI (xs ++ [v]).length)]) := mU_s
  have m_5 : (mU (mU M ed (aO G n (va_up f xs.length (some v)))) a (oB 0 [.int mv, .ref ed, .int (nI (xs ++ [v]).length)])) ed = some (aO G n (va_up f xs.length (some v))) := (mU_n (Ne.symm nq)).trans m_3
  exact q_vret X hr dJx4a65c_add_72be8_22 (⟨rfl, ed, n, va_up f xs.length (some v), Or.inl rfl, mU_s, (mU_n (Ne.symm nq)).trans mU_s, by rw [len1]; omega, h2, hn6, la_idx hf, fun p p1 p2 => (mU_n p1).trans (mU_n p2)⟩)
