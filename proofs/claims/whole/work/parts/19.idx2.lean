/-! NUMBERS OF A SHAPE: the index of a place, and the place of an index -/
theorem ix_lt {a b c A B C : Nat} (ha : a < A) (hb : b < B) (hc : c < C) : a * (B * C) + b * C + c < A * B * C := by
  have h1 : b * C + c < B * C := by
    have := Nat.mul_le_mul_right C (show b + 1 ≤ B from hb)
    rw [Nat.add_mul, Nat.one_mul] at this
    omega
  have h2 := Nat.mul_le_mul_right (B * C) (show a + 1 ≤ A from ha)
  rw [Nat.add_mul, Nat.one_mul] at h2
  rw [Nat.mul_assoc]
  omega
theorem ix_0 {a b c A B C : Nat} (ha : a < A) (hb : b < B) (hc : c < C) : (a * (B * C) + b * C + c) / (B * C) % A = a := by
  have h1 : b * C + c < B * C := by
    have := Nat.mul_le_mul_right C (show b + 1 ≤ B from hb)
    rw [Nat.add_mul, Nat.one_mul] at this
    omega
  rw [Nat.add_assoc, Nat.mul_comm, Nat.mul_add_div (by omega), Nat.div_eq_of_lt h1, Nat.add_zero, Nat.mod_eq_of_lt ha]
theorem ix_1 {a b c B C : Nat} (hb : b < B) (hc : c < C) : (a * (B * C) + b * C + c) / C % B = b := by
  have e : a * (B * C) + b * C + c = C * (B * a + b) + c := by
    rw [Nat.mul_add, Nat.mul_comm C b, ← Nat.mul_assoc C B a, Nat.mul_comm C B, Nat.mul_comm (B * C) a]
  rw [e, Nat.mul_add_div (by omega), Nat.div_eq_of_lt hc, Nat.add_zero, Nat.mul_add_mod, Nat.mod_eq_of_lt hb]
theorem ix_2 {a b c B C : Nat} (hc : c < C) : (a * (B * C) + b * C + c) / 1 % C = c := by
  have e : a * (B * C) + b * C + c = C * (a * B + b) + c := by
    rw [Nat.mul_add, Nat.mul_comm C b, ← Nat.mul_assoc a B C, Nat.mul_comm C (a * B)]
  rw [Nat.div_one, e, Nat.mul_add_mod, Nat.mod_eq_of_lt hc]
theorem ix_back {i A B C : Nat} (h : i < A * B * C) : i / (B * C) % A * (B * C) + i / C % B * C + i / 1 % C = i := by
  have hBC : 0 < B * C := by
    rcases Nat.eq_zero_or_pos (B * C) with q | q
    · rw [Nat.mul_assoc, q, Nat.mul_zero] at h; omega
    · exact q
  have h0 : i / (B * C) < A := Nat.div_lt_of_lt_mul (by rw [Nat.mul_comm, ← Nat.mul_assoc]; exact h)
  rw [Nat.mod_eq_of_lt h0, Nat.div_one]
  have e1 : i / (B * C) = i / C / B := by rw [Nat.mul_comm, Nat.div_div_eq_div_mul]
  have e2 := Nat.div_add_mod (i / C) B
  have e3 := Nat.div_add_mod i C
  have e4 : i / (B * C) * (B * C) + i / C % B * C = i / C * C := by
    rw [e1]
    calc i / C / B * (B * C) + i / C % B * C = (B * (i / C / B) + i / C % B) * C := by rw [Nat.add_mul, ← Nat.mul_assoc, Nat.mul_comm (i / C / B) B]
      _ = i / C * C := by rw [e2]
  rw [e4, Nat.mul_comm]; exact e3
/-- how far from its low a place is, where the dimension is there -/
def pos (m : Nat) (lo : Nat → Int32) (d : Nat) (p : Int32) : Nat := if d < m then (p.toInt - (lo d).toInt).toNat else 0
/-- the place is one of the dimension's, if that is there -/
def inD (m : Nat) (lo hi : Nat → Int32) (d : Nat) (p : Int32) : Prop := d < m → (lo d).toInt ≤ p.toInt ∧ p.toInt ≤ (hi d).toInt
def inS (m : Nat) (lo hi : Nat → Int32) (x y z : Int32) : Prop := inD m lo hi 0 x ∧ inD m lo hi 1 y ∧ inD m lo hi 2 z
/-- the index of a place -/
def ixS (m : Nat) (lo hi : Nat → Int32) (x y z : Int32) : Nat := pos m lo 0 x * (sN lo hi 1 * sN lo hi 2) + pos m lo 1 y * sN lo hi 2 + pos m lo 2 z
theorem pos_lt {m : Nat} {lo hi : Nat → Int32} (h : okS m lo hi) {d : Nat} (hd : d < 3) {p : Int32} (hp : inD m lo hi d p) : pos m lo d p < sN lo hi d := by
  have h1 := h.N hd
  unfold pos
  by_cases c : d < m
  · have := hp c
    rw [if_pos c]; omega
  · rw [if_neg c]; omega
theorem ixS_lt {m : Nat} {lo hi : Nat → Int32} (h : okS m lo hi) {x y z : Int32} (hp : inS m lo hi x y z) : ixS m lo hi x y z < sz3 lo hi := ix_lt (pos_lt h (by decide) hp.1) (pos_lt h (by decide) hp.2.1) (pos_lt h (by decide) hp.2.2)
theorem sHas_N {m d : Nat} {n e : Int32} (hn : n = nI m) (he : e = nI d) (hm : m ≤ 3) (hd : d < 3) : sHas n e = if d < m then 1 else 0 := by
  subst hn he
  unfold sHas
  rw [if_neg (nI_pos (by omega))]
  by_cases c : d < m
  · rw [if_pos c, if_neg (nI_ge c (by omega))]
  · rw [if_neg c, if_pos (nI_le (by omega) (by omega))]
theorem sOff_in {m : Nat} {lo hi : Nat → Int32} (h : okS m lo hi) {d : Nat} {n e p : Int32} (hn : n = nI m) (he : e = nI d) (hd : d < 3) (hp : inD m lo hi d p) : sOff n lo hi e p = nI (pos m lo d p * sq lo hi d) := by
  unfold sOff
  rw [sHas_N hn he h.2.1 hd]
  unfold pos
  by_cases c : d < m
  · obtain ⟨g1, g2⟩ := hp c
    have h1 := h.2.2.1 d hd
    rw [if_pos c, if_pos c, if_neg (by decide), s3_N d hd he, s3_N d hd he, s3_N d hd he, if_neg (by rw [Int32.lt_iff_toInt_lt]; omega), if_pos (by rw [Int32.le_iff_toInt_le]; omega), h.sp hd]
    rw [show p - lo d = nI (p.toInt - (lo d).toInt).toNat from i_nI (by rw [i_sub (by omega) (by omega)]; omega), pk_mul]
  · rw [if_neg c, if_neg c, if_pos rfl, Nat.zero_mul]; rfl
theorem sOff_out {m : Nat} {lo hi : Nat → Int32} (h : okS m lo hi) {d : Nat} {n e p : Int32} (hn : n = nI m) (he : e = nI d) (hd : d < 3) (hp : ¬ inD m lo hi d p) : sOff n lo hi e p = -1 := by
  unfold sOff
  rw [sHas_N hn he h.2.1 hd]
  unfold inD at hp
  by_cases c : d < m
  · rw [if_pos c, if_neg (by decide), s3_N d hd he, s3_N d hd he]
    by_cases c1 : p < lo d
    · rw [if_pos c1]
    · rw [if_neg c1, if_neg]
      rw [Int32.lt_iff_toInt_lt] at c1
      rw [Int32.le_iff_toInt_le]
      intro q
      exact hp (fun _ => ⟨by omega, q⟩)
  · exact absurd (fun q => absurd q c) hp
theorem sIdx_in {m : Nat} {lo hi : Nat → Int32} (h : okS m lo hi) {n x y z : Int32} (hn : n = nI m) (hz : sz3 lo hi < 2 ^ 31) (hp : inS m lo hi x y z) : sIdx n lo hi x y z = nI (ixS m lo hi x y z) := by
  have hlt := ixS_lt h hp
  unfold ixS at hlt
  have e0 := sOff_in (e := 0) h hn rfl (show 0 < 3 by decide) hp.1
  have e1 := sOff_in (e := 1) h hn rfl (show 1 < 3 by decide) hp.2.1
  have e2 := sOff_in (e := 2) h hn rfl (show 2 < 3 by decide) hp.2.2
  have q0 : sq lo hi 0 = sN lo hi 1 * sN lo hi 2 := rfl
  have q1 : sq lo hi 1 = sN lo hi 2 := rfl
  have q2 : sq lo hi 2 = 1 := rfl
  rw [q0] at e0; rw [q1] at e1; rw [q2, Nat.mul_one] at e2
  unfold sIdx ixS
  rw [e0, e1, e2]
  generalize pos m lo 0 x * (sN lo hi 1 * sN lo hi 2) = A at *
  generalize pos m lo 1 y * sN lo hi 2 = B at *
  generalize pos m lo 2 z = C at *
  have a1 : ¬ nI A < 0 := nI_pos (by omega)
  have a2 : ¬ nI B < 0 := nI_pos (by omega)
  have a3 : 0 ≤ nI C := nI_pos' (by omega)
  rw [if_neg a1, if_neg a2, if_pos a3, nI_add, nI_add]
theorem sIdx_out {m : Nat} {lo hi : Nat → Int32} (h : okS m lo hi) {n x y z : Int32} (hn : n = nI m) (hz : sz3 lo hi < 2 ^ 31) (hp : ¬ inS m lo hi x y z) : sIdx n lo hi x y z = -1 := by
  unfold sIdx
  by_cases c0 : inD m lo hi 0 x
  · by_cases c1 : inD m lo hi 1 y
    · by_cases c2 : inD m lo hi 2 z
      · exact absurd ⟨c0, c1, c2⟩ hp
      · rw [sOff_out (e := 2) h hn rfl (by decide) c2]
        by_cases d0 : sOff n lo hi 0 x < 0
        · rw [if_pos d0]
        · rw [if_neg d0]
          by_cases d1 : sOff n lo hi 1 y < 0
          · rw [if_pos d1]
          · rw [if_neg d1, if_neg (by decide)]
    · rw [sOff_out (e := 1) h hn rfl (by decide) c1]
      by_cases d0 : sOff n lo hi 0 x < 0
      · rw [if_pos d0]
      · rw [if_neg d0, if_pos (by decide)]
  · rw [sOff_out (e := 0) h hn rfl (by decide) c0, if_pos (by decide)]
