/-! the kinds of made nodes; their shapes are in order -/
section KD
variable {G : gV} {M : gMem} {N' : gN} {q s t tl : Nat} {w u : vN} {lo hi : Nat → Int32}
theorem vP_eq {tf tf0 : Nat → Int32} {at0 : Int32} {i d : Nat} (h : tf d = tf0 d) : vP lo hi tf at0 i d = vP lo hi tf0 at0 i d := by unfold vP; rw [h]
theorem kd_view {tf tf0 : Nat → Int32} {at0 : Int32} (k1 : nci N' q = 10) (k2 : nex N' q = [.ref s, .ref tl, .int at0]) (k3 : nlo N' q = lo) (k4 : nhi N' q = hi) (k7 : nden N' q = vwD w lo hi tf0 at0) (hs : nS N' s) (hw : nVal N' s = w) (hd : ndp N' s < ndp N' q) (ht : M tl = some (aI G 3 tf)) (hf : ∀ i, i < 3 → tf i = tf0 i) : nKind G M N' q := by
  refine Or.inr (Or.inl ⟨k1, s, tl, at0, tf, k2, hs, hd, ht, fun i _ => ?_⟩)
  rw [k7]
  show _ = wAt (nVal N' s) (wIx (nVal N' s) (vP (nlo N' q) (nhi N' q) tf at0 i 0) (vP (nlo N' q) (nhi N' q) tf at0 i 1) (vP (nlo N' q) (nhi N' q) tf at0 i 2))
  rw [hw, k3, k4, vP_eq (hf 0 (by decide)), vP_eq (hf 1 (by decide)), vP_eq (hf 2 (by decide))]
  rfl
theorem kd_each {rule : Int32} {c : Int64} (k1 : nci N' q = 3) (k2 : nex N' q = [.ref s, .int rule, .long c]) (k7 : nden N' q = eaD w rule c) (hs : nS N' s) (hw : nVal N' s = w) (hd : ndp N' s < ndp N' q) (hr : ∃ r : Nat, r ≤ 9 ∧ rule = nI r) : nKind G M N' q := by
  refine Or.inr (Or.inr (Or.inl ⟨k1, s, rule, c, k2, hs, hd, hr, fun i _ => ?_⟩))
  rw [k7, nAt_w, hw]; rfl
theorem kd_join {op : Int32} (k1 : nci N' q = 5) (k2 : nex N' q = [.ref s, .ref t, .int op]) (k3 : nlo N' q = lo) (k4 : nhi N' q = hi) (k7 : nden N' q = joD w u lo hi op) (hs : nS N' s) (hw : nVal N' s = w) (hd : ndp N' s < ndp N' q) (ht : nS N' t) (hu : nVal N' t = u) (hd2 : ndp N' t < ndp N' q) : nKind G M N' q := by
  refine Or.inr (Or.inr (Or.inr (Or.inl ⟨k1, s, t, op, k2, hs, ht, hd, hd2, fun i _ => ?_⟩)))
  rw [k7, nAt_w, nIdx_w, nAt_w, nIdx_w, hw, hu, k3, k4]; rfl
theorem kd_fold {d kind reach what : Int32} {tk : Int32} {re : Int64} (k1 : nci N' q = 4) (k2 : nex N' q = [.ref s, .int d, .int kind, .int reach, .ref (nta N' q)]) (k3 : nlo N' q = lo) (k4 : nhi N' q = hi) (k7 : nden N' q = foD w lo hi d kind reach what) (hs : nS N' s) (hw : nVal N' s = w) (hd : ndp N' s < ndp N' q) (ht : M (nta N' q) = some (oB 8 [.int what, .int tk, .long re])) (hK : ∀ i, i < nsz N' q → 0 ≤ (fK w lo hi d kind reach i).toInt ∧ (fK w lo hi d kind reach i).toInt ≤ 4096) : nKind G M N' q := by
  refine Or.inr (Or.inr (Or.inr (Or.inr (Or.inl ⟨k1, s, d, kind, reach, what, k2, hs, hd, ⟨tk, re, ht⟩, fun i hi9 => ?_⟩))))
  have hk := hK i hi9
  have e0 : (fK w lo hi d kind reach i).toNatClampNeg = (fK w lo hi d kind reach i).toInt.toNat := rfl
  have fs : nlo N' s = vlo w ∧ nhi N' s = vhi w := by rw [← hw]; exact ⟨rfl, rfl⟩
  have eF : foF N' q s d kind reach i = fF w lo hi d kind reach i := by unfold foF fF pl3; rw [fs.1, k3, k4]
  have eL : foL N' q s d kind reach i = fL w lo hi d kind reach i := by unfold foL fL pl3; rw [eF, fs.2, k3, k4]
  have eP : ∀ e f, foP N' q d kind e f i = fP lo hi d kind e f i := fun e f => by unfold foP fP pl3; rw [k3, k4]
  have eK : fK w lo hi d kind reach i = nI (fK w lo hi d kind reach i).toNatClampNeg := i_nI (by rw [e0]; omega)
  refine ⟨(fK w lo hi d kind reach i).toNatClampNeg, by rw [e0]; omega, ?_, ?_⟩
  · rw [← eK, eF, eL, fs.1, fs.2]; rfl
  · rw [k7, talR_w, nIdx_w, hw, eF, eP, eP, eP, fs.1, fs.2]; rfl
theorem kd_prod (k1 : nci N' q = 6) (k2 : nex N' q = [.ref s, .ref t]) (k3 : nlo N' q = lo) (k4 : nhi N' q = hi) (k7 : nden N' q = prD w u lo hi) (hs : nS N' s) (hw : nVal N' s = w) (hd : ndp N' s < ndp N' q) (ht : nS N' t) (hu : nVal N' t = u) (hd2 : ndp N' t < ndp N' q) (hK : pK w u ≤ 4096) (h1 : ∀ k : Nat, k < pK w u → pS w u + nI k ≤ mnI (vhi w 1) (vhi u 0)) (h2 : ¬ pS w u + nI (pK w u) ≤ mnI (vhi w 1) (vhi u 0)) : nKind G M N' q := by
  have fs : nlo N' s = vlo w ∧ nhi N' s = vhi w := by rw [← hw]; exact ⟨rfl, rfl⟩
  have ft : nlo N' t = vlo u ∧ nhi N' t = vhi u := by rw [← hu]; exact ⟨rfl, rfl⟩
  refine Or.inr (Or.inr (Or.inr (Or.inr (Or.inr ⟨k1, s, t, k2, hs, ht, hd, hd2, pK w u, hK, ?_, ?_, fun i _ => ?_⟩))))
  · rw [fs.1, fs.2, ft.1, ft.2]; exact h1
  · rw [fs.1, fs.2, ft.1, ft.2]; exact h2
  · rw [k7, proR_w, nIdx_w, nIdx_w, hw, hu, fs.1, fs.2, ft.1, ft.2, k3, k4]; rfl
end KD
theorem sHas_in {m : Nat} (hm : m ≤ 3) {d : Int32} (h : ¬ sHas (nI m) d = 0) : ∃ j, j < m ∧ d = nI j := by
  unfold sHas at h
  by_cases c1 : d < 0
  · rw [if_pos c1] at h; exact absurd rfl h
  · rw [if_neg c1] at h
    by_cases c2 : nI m ≤ d
    · rw [if_pos c2] at h; exact absurd rfl h
    · rcases pk_ix d (show m < 2 ^ 31 by omega) with q | q | q
      · exact absurd q c1
      · exact absurd q c2
      · exact q
theorem okS_upd {m : Nat} {lo hi : Nat → Int32} (h : okS m lo hi) {j : Nat} (hj : j < m) {x y : Int32} (h1 : -1000 ≤ x.toInt) (h2 : x.toInt ≤ y.toInt) (h3 : y.toInt ≤ 1000) : okS m (upd lo j x) (upd hi j y) := by
  refine ⟨h.1, h.2.1, fun d hd => ?_, fun d hm hd => ?_⟩
  · unfold upd
    by_cases e : d = j
    · rw [if_pos e, if_pos e]; exact ⟨h1, h2, h3⟩
    · rw [if_neg e, if_neg e]; exact h.2.2.1 d hd
  · unfold upd
    rw [if_neg (by omega), if_neg (by omega)]; exact h.2.2.2 d hm hd
theorem rg_sub {m : Nat} {lo hi : Nat → Int32} (h : okS m lo hi) {d x y : Int32} (hr : ¬ sRange (nI m) lo hi d x y = 0) : ∃ j, j < m ∧ d = nI j ∧ okS m (rpl3 lo d x) (rpl3 hi d y) ∧ (lo j).toInt ≤ x.toInt ∧ x.toInt ≤ y.toInt ∧ y.toInt ≤ (hi j).toInt := by
  unfold sRange at hr
  by_cases c0 : sHas (nI m) d = 0
  · rw [if_pos c0] at hr; exact absurd rfl hr
  rw [if_neg c0] at hr
  by_cases c1 : y < x
  · rw [if_pos c1] at hr; exact absurd rfl hr
  rw [if_neg c1] at hr
  by_cases c2 : x < s3 lo 0 d
  · rw [if_pos c2] at hr; exact absurd rfl hr
  rw [if_neg c2] at hr
  by_cases c3 : s3 hi 0 d < y
  · rw [if_pos c3] at hr; exact absurd rfl hr
  obtain ⟨j, hj, rfl⟩ := sHas_in h.2.1 c0
  have hj3 : j < 3 := Nat.lt_of_lt_of_le hj h.2.1
  rw [s3_N j hj3 rfl, Int32.lt_iff_toInt_lt] at c2 c3
  rw [Int32.lt_iff_toInt_lt] at c1
  have := h.2.2.1 j hj3
  refine ⟨j, hj, rfl, ?_, by omega, by omega, by omega⟩
  rw [rpl3_N j hj3 rfl, rpl3_N j hj3 rfl]
  exact okS_upd h hj (by omega) (by omega) (by omega)
theorem rg_ext {m : Nat} {lo hi : Nat → Int32} (h : okS m lo hi) {d x y : Int32} (c0 : ¬ sHas (nI m) d = 0) (c1 : ¬ s3 lo 0 d < x) (c2 : ¬ y < s3 hi 0 d) (c3 : ¬ x < -1000) (c4 : ¬ 1000 < y) : ∃ j, j < m ∧ d = nI j ∧ okS m (rpl3 lo d x) (rpl3 hi d y) := by
  obtain ⟨j, hj, rfl⟩ := sHas_in h.2.1 c0
  have hj3 : j < 3 := Nat.lt_of_lt_of_le hj h.2.1
  have e1 : (-1000 : Int32).toInt = -1000 := by decide
  have e2 : (1000 : Int32).toInt = 1000 := by decide
  rw [s3_N j hj3 rfl, Int32.lt_iff_toInt_lt] at c1 c2
  rw [Int32.lt_iff_toInt_lt, e1] at c3
  rw [Int32.lt_iff_toInt_lt, e2] at c4
  have := h.2.2.1 j hj3
  refine ⟨j, hj, rfl, ?_⟩
  rw [rpl3_N j hj3 rfl, rpl3_N j hj3 rfl]
  exact okS_upd h hj (by omega) (by omega) (by omega)
theorem dr3_at {f : Nat → Int32} {j k : Nat} (hk : k < 3) : dr3 f j 3 k = if k < j then f k else if k + 1 < 3 then f (k + 1) else 0 := by
  unfold dr3; rw [if_pos hk]
theorem okS_dr {m : Nat} {lo hi : Nat → Int32} (h : okS m lo hi) {j : Nat} (hj : j < m) (hm : 2 ≤ m) : okS (m - 1) (dr3 lo j 3) (dr3 hi j 3) := by
  have h3 := h.2.1
  refine ⟨by omega, by omega, fun d hd => ?_, fun d h1 hd => ?_⟩
  · rw [dr3_at hd, dr3_at hd]
    by_cases c : d < j
    · rw [if_pos c, if_pos c]; exact h.2.2.1 d hd
    · rw [if_neg c, if_neg c]
      by_cases c2 : d + 1 < 3
      · rw [if_pos c2, if_pos c2]; exact h.2.2.1 _ c2
      · rw [if_neg c2, if_neg c2]; decide
  · rw [dr3_at hd, dr3_at hd, if_neg (show ¬ d < j by omega), if_neg (show ¬ d < j by omega)]
    by_cases c2 : d + 1 < 3
    · rw [if_pos c2, if_pos c2]; exact h.2.2.2 _ (by omega) c2
    · rw [if_neg c2, if_neg c2]; exact ⟨rfl, rfl⟩
theorem swF_at {f : Nat → Int32} {a b k : Nat} (ha : a < 3) (hb : b < 3) : swF f (nI a) (nI b) k = if k = b then f a else if k = a then f b else f k := by
  unfold swF
  rw [rpl3_N b hb rfl, rpl3_N a ha rfl, s3_N a ha rfl, s3_N b hb rfl]
  unfold upd
  rfl
theorem okS_sw {m : Nat} {lo hi : Nat → Int32} (h : okS m lo hi) {a b : Nat} (ha : a < m) (hb : b < m) : okS m (swF lo (nI a) (nI b)) (swF hi (nI a) (nI b)) := by
  have h3 := h.2.1
  refine ⟨h.1, h.2.1, fun d hd => ?_, fun d h1 hd => ?_⟩
  · rw [swF_at (by omega) (by omega), swF_at (by omega) (by omega)]
    by_cases c : d = b
    · rw [if_pos c, if_pos c]; exact h.2.2.1 a (by omega)
    · rw [if_neg c, if_neg c]
      by_cases c2 : d = a
      · rw [if_pos c2, if_pos c2]; exact h.2.2.1 b (by omega)
      · rw [if_neg c2, if_neg c2]; exact h.2.2.1 d hd
  · rw [swF_at (by omega) (by omega), swF_at (by omega) (by omega), if_neg (by omega), if_neg (by omega), if_neg (by omega), if_neg (by omega)]
    exact h.2.2.2 d h1 hd
