/-! a grid's index is the class's index -/
def c1n (m : Nat) (y : Int32) : Int32 := if 1 < m then y else 0
def c2n (m : Nat) (z : Int32) : Int32 := if 2 < m then z else 0
theorem i_asub {a b c : Int32} : a + b - c = a + (b - c) := by rw [Int32.sub_eq_add_neg, Int32.add_assoc, ← Int32.sub_eq_add_neg]
theorem gAt_c3 {lo hi : Nat → Int32} {x y z : Int32} {p0 p1 p2 s1 s2 : Nat} (h0 : x - lo 0 = nI p0) (h1 : y - lo 1 = nI p1) (h2 : z - lo 2 = nI p2) (e1 : sL lo hi 1 = nI s1) (e2 : sL lo hi 2 = nI s2) : gAt lo hi x y z = nI (c3 s1 s2 p0 p1 p2) := by
  unfold gAt c3
  rw [i_asub, i_asub, h0, h1, h2, e1, e2, nI_mul9, nI_add, nI_mul9, nI_add]
theorem lo_sub {lo : Int32} {a : Nat} : lo + nI a - lo = nI a := by rw [Int32.add_comm, Int32.add_sub_cancel]
theorem gIn_01 (lo hi : Nat → Int32) (x y z : Int32) : gIn lo hi x y z = 0 ∨ gIn lo hi x y z = 1 := by
  unfold gIn; repeat' split
  all_goals first | exact Or.inl rfl | exact Or.inr rfl
theorem gIn_1 {lo hi : Nat → Int32} {x y z : Int32} : ¬ gIn lo hi x y z = 0 ↔ ((lo 0).toInt ≤ x.toInt ∧ x.toInt ≤ (hi 0).toInt) ∧ ((lo 1).toInt ≤ y.toInt ∧ y.toInt ≤ (hi 1).toInt) ∧ ((lo 2).toInt ≤ z.toInt ∧ z.toInt ≤ (hi 2).toInt) := by
  unfold gIn
  by_cases c1 : x < lo 0
  · rw [if_pos c1]; rw [Int32.lt_iff_toInt_lt] at c1; constructor
    · intro h; exact absurd rfl h
    · intro h; omega
  rw [if_neg c1]
  by_cases c2 : hi 0 < x
  · rw [if_pos c2]; rw [Int32.lt_iff_toInt_lt] at c2; constructor
    · intro h; exact absurd rfl h
    · intro h; omega
  rw [if_neg c2]
  by_cases c3 : y < lo 1
  · rw [if_pos c3]; rw [Int32.lt_iff_toInt_lt] at c3; constructor
    · intro h; exact absurd rfl h
    · intro h; omega
  rw [if_neg c3]
  by_cases c4 : hi 1 < y
  · rw [if_pos c4]; rw [Int32.lt_iff_toInt_lt] at c4; constructor
    · intro h; exact absurd rfl h
    · intro h; omega
  rw [if_neg c4]
  by_cases c5 : z < lo 2
  · rw [if_pos c5]; rw [Int32.lt_iff_toInt_lt] at c5; constructor
    · intro h; exact absurd rfl h
    · intro h; omega
  rw [if_neg c5]
  by_cases c6 : hi 2 < z
  · rw [if_pos c6]; rw [Int32.lt_iff_toInt_lt] at c6; constructor
    · intro h; exact absurd rfl h
    · intro h; omega
  rw [if_neg c6]
  rw [Int32.lt_iff_toInt_lt] at c1 c2 c3 c4 c5 c6
  constructor
  · intro _; omega
  · intro _; decide
theorem z_toInt : (0 : Int32).toInt = 0 := by decide
/-- in the grid, for places whose idle dimensions are 0: as the class has it -/
theorem gIn_S {m : Nat} {lo hi : Nat → Int32} (h : okS m lo hi) {x y z : Int32} : ¬ gIn lo hi x (c1n m y) (c2n m z) = 0 ↔ inS m lo hi x y z := by
  have h0 := h.1
  rw [gIn_1]
  unfold inS inD c1n c2n
  have k1 : ¬ 1 < m → (lo 1).toInt = 0 ∧ (hi 1).toInt = 0 := fun c => by
    have := h.2.2.2 1 (by omega) (by decide); rw [this.1, this.2]; exact ⟨z_toInt, z_toInt⟩
  have k2 : ¬ 2 < m → (lo 2).toInt = 0 ∧ (hi 2).toInt = 0 := fun c => by
    have := h.2.2.2 2 (by omega) (by decide); rw [this.1, this.2]; exact ⟨z_toInt, z_toInt⟩
  constructor
  · intro q
    refine ⟨fun _ => q.1, fun c => ?_, fun c => ?_⟩
    · have := q.2.1; rw [if_pos c] at this; exact this
    · have := q.2.2; rw [if_pos c] at this; exact this
  · intro q
    refine ⟨q.1 (by omega), ?_, ?_⟩
    · by_cases c : 1 < m
      · rw [if_pos c]; exact q.2.1 c
      · rw [if_neg c]; have := k1 c; rw [z_toInt]; omega
    · by_cases c : 2 < m
      · rw [if_pos c]; exact q.2.2 c
      · rw [if_neg c]; have := k2 c; rw [z_toInt]; omega
theorem gAt_S {m : Nat} {lo hi : Nat → Int32} (h : okS m lo hi) {x y z : Int32} (hp : inS m lo hi x y z) : gAt lo hi x (c1n m y) (c2n m z) = nI (ixS m lo hi x y z) := by
  have h0 := h.1
  have dd : ∀ {d : Nat} {p : Int32}, d < 3 → d < m → inD m lo hi d p → p - lo d = nI (pos m lo d p) := fun {d p} hd hm q => by
    have a := h.2.2.1 d hd
    have q2 := q hm
    apply i_nI
    unfold pos
    rw [if_pos hm, i_sub (by omega) (by omega)]; omega
  have e0 := dd (by decide) (by omega) hp.1
  have e1 : c1n m y - lo 1 = nI (pos m lo 1 y) := by
    unfold c1n
    by_cases c : 1 < m
    · rw [if_pos c]; exact dd (by decide) c hp.2.1
    · rw [if_neg c, (h.2.2.2 1 (by omega) (by decide)).1]; unfold pos; rw [if_neg c]; decide
  have e2 : c2n m z - lo 2 = nI (pos m lo 2 z) := by
    unfold c2n
    by_cases c : 2 < m
    · rw [if_pos c]; exact dd (by decide) c hp.2.2
    · rw [if_neg c, (h.2.2.2 2 (by omega) (by decide)).1]; unfold pos; rw [if_neg c]; decide
  rw [gAt_c3 e0 e1 e2 (h.L (by decide)) (h.L (by decide)), c3_ix]
  rfl
/-- what a grid gives at a place -/
def frV (w : vN) (x y z : Int32) : Option Int64 := if gIn (vlo w) (vhi w) x y z = 0 then none else vden w (gAt (vlo w) (vhi w) x y z).toNatClampNeg
theorem cIn_N {n j : Nat} (hj : j < n) (hn : n ≤ 4096) : ¬ cIn n (nI j) = 0 := by rw [cIn_in hj hn]; decide
theorem frV_w {w : vN} (h : vOk w) {x y z : Int32} : frV w x (c1n (vm w) y) (c2n (vm w) z) = wAt w (wIx w x y z) := by
  have hz : sz3 (vlo w) (vhi w) ≤ 4096 := h.2.1
  unfold frV wAt wIx
  by_cases c : inS (vm w) (vlo w) (vhi w) x y z
  · rw [if_neg ((gIn_S h.1).mpr c), gAt_S h.1 c, sIdx_in h.1 rfl (by omega) c, if_neg (cIn_N (ixS_lt h.1 c) hz)]
  · have e : gIn (vlo w) (vhi w) x (c1n (vm w) y) (c2n (vm w) z) = 0 := by
      by_cases q : gIn (vlo w) (vhi w) x (c1n (vm w) y) (c2n (vm w) z) = 0
      · exact q
      · exact absurd ((gIn_S h.1).mp q) c
    rw [if_pos e, sIdx_out h.1 rfl (by omega) c, if_pos]
    unfold cIn; rw [if_pos (by decide)]
/-- the index, where it lies in the grid -/
theorem gAt_lt {w : vN} (h : vOk w) {x y z : Int32} (hx : ¬ gIn (vlo w) (vhi w) x y z = 0) : ∃ j, j < wsz w ∧ gAt (vlo w) (vhi w) x y z = nI j := by
  have hq := gIn_1.mp hx
  have dd : ∀ {d : Nat} {p : Int32}, d < 3 → (vlo w d).toInt ≤ p.toInt ∧ p.toInt ≤ (vhi w d).toInt → p - vlo w d = nI (p.toInt - (vlo w d).toInt).toNat ∧ (p.toInt - (vlo w d).toInt).toNat < sN (vlo w) (vhi w) d := fun {d p} hd q2 => by
    have a := h.1.2.2.1 d hd
    have n := h.1.N hd
    refine ⟨i_nI (by rw [i_sub (by omega) (by omega)]; omega), by omega⟩
  obtain ⟨a0, b0⟩ := dd (by decide) hq.1
  obtain ⟨a1, b1⟩ := dd (by decide) hq.2.1
  obtain ⟨a2, b2⟩ := dd (by decide) hq.2.2
  exact ⟨_, c3_lt b0 b1 b2, gAt_c3 a0 a1 a2 (h.1.L (by decide)) (h.1.L (by decide))⟩
