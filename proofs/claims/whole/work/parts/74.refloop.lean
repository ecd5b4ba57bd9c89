/-! loops over a grid: what they write -/
def vF (den : Nat → Option Int64) (c : Nat) : Nat → Int64 := fun i => if i < c then (den i).getD 0 else 0
def zF (den : Nat → Option Int64) (c : Nat) : Nat → Int32 := fun i => if i < c then bI (den i).isSome else 0
theorem vF_0 (den : Nat → Option Int64) : vF den 0 = fun _ => 0 := by funext i; unfold vF; rw [if_neg (by omega)]
theorem zF_0 (den : Nat → Option Int64) : zF den 0 = fun _ => 0 := by funext i; unfold zF; rw [if_neg (by omega)]
theorem vF_s {den : Nat → Option Int64} {c : Nat} {r : Option Int64} (h : r = den c) : upL (vF den c) c r = vF den (c + 1) := by
  subst h
  funext i
  unfold upL
  cases hd : den c with
  | none =>
    show vF den c i = vF den (c + 1) i
    unfold vF
    by_cases e : i = c
    · subst e; rw [if_neg (by omega), if_pos (by omega), hd]; rfl
    · by_cases h : i < c
      · rw [if_pos h, if_pos (by omega)]
      · rw [if_neg h, if_neg (by omega)]
  | some v =>
    show (if i = c then v else vF den c i) = vF den (c + 1) i
    unfold vF
    by_cases e : i = c
    · subst e; rw [if_pos rfl, if_pos (by omega), hd]; rfl
    · rw [if_neg e]
      by_cases h : i < c
      · rw [if_pos h, if_pos (by omega)]
      · rw [if_neg h, if_neg (by omega)]
theorem zF_s {den : Nat → Option Int64} {c : Nat} {r : Option Int64} (h : r = den c) : upZ (zF den c) c r = zF den (c + 1) := by
  subst h
  funext i
  unfold upZ
  cases hd : den c with
  | none =>
    show zF den c i = zF den (c + 1) i
    unfold zF
    by_cases e : i = c
    · subst e; rw [if_neg (by omega), if_pos (by omega), hd]; rfl
    · by_cases h : i < c
      · rw [if_pos h, if_pos (by omega)]
      · rw [if_neg h, if_neg (by omega)]
  | some v =>
    show (if i = c then 1 else zF den c i) = zF den (c + 1) i
    unfold zF
    by_cases e : i = c
    · subst e; rw [if_pos rfl, if_pos (by omega), hd]; rfl
    · rw [if_neg e]
      by_cases h : i < c
      · rw [if_pos h, if_pos (by omega)]
      · rw [if_neg h, if_neg (by omega)]
theorem gCt_F (den : Nat → Option Int64) (n : Nat) : gCt n (vF den n) (zF den n) den := fun i hi => by
  unfold vF zF
  rw [if_pos hi, if_pos hi]
  exact ⟨rfl, fun v hv => by rw [hv]; rfl⟩
/-- the places of the cell that three counters name -/
theorem pl3_c3 {m : Nat} {lo hi : Nat → Int32} (h : okS m lo hi) (hz : sz3 lo hi ≤ 4096) {e j k : Nat} (he : e < sN lo hi 0) (hj : j < sN lo hi 1) (hk : k < sN lo hi 2) :
    pl3 lo hi (c3 (sN lo hi 1) (sN lo hi 2) e j k) 0 = lo 0 + nI e ∧ pl3 lo hi (c3 (sN lo hi 1) (sN lo hi 2) e j k) 1 = lo 1 + nI j ∧ pl3 lo hi (c3 (sN lo hi 1) (sN lo hi 2) e j k) 2 = lo 2 + nI k := by
  have hc : c3 (sN lo hi 1) (sN lo hi 2) e j k < sz3 lo hi := c3_lt he hj hk
  have a0 := (pl3_in h hz hc (j := 0) (by decide)).1
  have a1 := (pl3_in h hz hc (j := 1) (by decide)).1
  have a2 := (pl3_in h hz hc (j := 2) (by decide)).1
  have b0 : plN lo hi (c3 (sN lo hi 1) (sN lo hi 2) e j k) 0 = e := by
    unfold plN sq; rw [if_pos rfl, c3_i hj hk]; exact Nat.mod_eq_of_lt he
  have b1 : plN lo hi (c3 (sN lo hi 1) (sN lo hi 2) e j k) 1 = j := by
    unfold plN sq; rw [if_neg (by decide), if_pos rfl]; exact c3_jj hj hk
  have b2 : plN lo hi (c3 (sN lo hi 1) (sN lo hi 2) e j k) 2 = k := by
    unfold plN sq; rw [if_neg (by decide), if_neg (by decide), Nat.div_one]; exact c3_kk hk
  rw [b0] at a0
  rw [b1] at a1
  rw [b2] at a2
  exact ⟨a0, a1, a2⟩
theorem c1n_id {m : Nat} {lo hi : Nat → Int32} (h : okS m lo hi) {j : Nat} (hj : j < sN lo hi 1) : c1n m (lo 1 + nI j) = lo 1 + nI j := by
  unfold c1n
  by_cases c : 1 < m
  · rw [if_pos c]
  · rw [if_neg c]
    have := h.one (d := 1) (by decide) (by omega)
    have h0 := h.2.2.2 1 (by omega) (by decide)
    rw [show j = 0 by omega, h0.1]; decide
theorem c2n_id {m : Nat} {lo hi : Nat → Int32} (h : okS m lo hi) {j : Nat} (hj : j < sN lo hi 2) : c2n m (lo 2 + nI j) = lo 2 + nI j := by
  unfold c2n
  by_cases c : 2 < m
  · rw [if_pos c]
  · rw [if_neg c]
    have := h.one (d := 2) (by decide) (by omega)
    have h0 := h.2.2.2 2 (by omega) (by decide)
    rw [show j = 0 by omega, h0.1]; decide
theorem gAt_lo {m : Nat} {lo hi : Nat → Int32} (h : okS m lo hi) {e j k : Nat} : gAt lo hi (lo 0 + nI e) (lo 1 + nI j) (lo 2 + nI k) = nI (c3 (sN lo hi 1) (sN lo hi 2) e j k) := gAt_c3 lo_sub lo_sub lo_sub (h.L (by decide)) (h.L (by decide))
/-- ranges: the same place in the source -/
theorem vwD_st {w : vN} (hw : vOk w) {lo hi : Nat → Int32} (h : okS (vm w) lo hi) (hz : sz3 lo hi ≤ 4096) {e j k : Nat} (he : e < sN lo hi 0) (hj : j < sN lo hi 1) (hk : k < sN lo hi 2) : frV w (lo 0 + nI e) (lo 1 + nI j) (lo 2 + nI k) = vwD w lo hi stT 0 (c3 (sN lo hi 1) (sN lo hi 2) e j k) := by
  obtain ⟨p0, p1, p2⟩ := pl3_c3 h hz he hj hk
  have q := frV_w hw (x := lo 0 + nI e) (y := lo 1 + nI j) (z := lo 2 + nI k)
  rw [c1n_id h hj, c2n_id h hk] at q
  rw [q]
  unfold vwD vP
  have s0 : stT 0 = 0 := rfl
  have s1 : stT 1 = 1 := rfl
  have s2 : stT 2 = 2 := rfl
  rw [s0, s1, s2, if_neg (by decide), if_neg (by decide), if_neg (by decide), p0, p1, p2]
theorem grd_mk {G : gV} {M : gMem} {B : Nat → Prop} {q la ha va za m dp : Nat} {lo hi : Nat → Int32} {den : Nat → Option Int64} {vf : Nat → Int64} {zf : Nat → Int32} (h0 : M q = some (oB 12 [.int (nI m), .int (nI dp), .ref la, .ref ha, .ref va, .ref za])) (h1 : M la = some (aI G 3 lo)) (h2 : M ha = some (aI G 3 hi)) (h3 : M va = some (aJ G (sz3 lo hi) vf)) (h4 : M za = some (aZ G (sz3 lo hi) zf)) (h5 : gCt (sz3 lo hi) vf zf den) (b1 : ¬ B la) (b2 : ¬ B ha) (b3 : ¬ B va) (b4 : ¬ B za) : isGrd G M B q (m, lo, hi, dp, den) := ⟨la, ha, va, za, vf, zf, ⟨h0, h1, h2, h3, h4, h5⟩, b1, b2, b3, b4⟩
