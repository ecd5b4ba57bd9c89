/-! NUMBERS OF A SHAPE: places and indices -/
theorem i_add {x y : Int32} (h1 : -2147483648 ≤ x.toInt + y.toInt) (h2 : x.toInt + y.toInt < 2147483648) : (x + y).toInt = x.toInt + y.toInt := by
  rw [Int32.toInt_add]; exact Int.bmod_eq_of_le (by omega) (by omega)
theorem i_sub {x y : Int32} (h1 : -2147483648 ≤ x.toInt - y.toInt) (h2 : x.toInt - y.toInt < 2147483648) : (x - y).toInt = x.toInt - y.toInt := by
  rw [Int32.toInt_sub]; exact Int.bmod_eq_of_le (by omega) (by omega)
theorem i_mul {x y : Int32} (h1 : -2147483648 ≤ x.toInt * y.toInt) (h2 : x.toInt * y.toInt < 2147483648) : (x * y).toInt = x.toInt * y.toInt := by
  rw [Int32.toInt_mul]; exact Int.bmod_eq_of_le (by omega) (by omega)
theorem i_nI {x : Int32} {k : Nat} (h : x.toInt = k) : x = nI k := by
  have hk : k < 2 ^ 31 := by have := Int32.toInt_lt x; omega
  exact Int32.toInt_inj.mp (by rw [nI_toInt hk]; exact h)
theorem i_one : (1 : Int32).toInt = 1 := by decide
/-- how many places a dimension has -/
def sN (lo hi : Nat → Int32) (d : Nat) : Nat := ((hi d).toInt - (lo d).toInt + 1).toNat
/-- a shape's numbers are as they should be: m dimensions, each from a low to a high that isn't below, within -1000 .. 1000; those that there are not are the place 0 -/
def okS (m : Nat) (lo hi : Nat → Int32) : Prop := 1 ≤ m ∧ m ≤ 3 ∧ (∀ d, d < 3 → -1000 ≤ (lo d).toInt ∧ (lo d).toInt ≤ (hi d).toInt ∧ (hi d).toInt ≤ 1000) ∧ ∀ d, m ≤ d → d < 3 → lo d = 0 ∧ hi d = 0
theorem okS.N {m : Nat} {lo hi : Nat → Int32} (h : okS m lo hi) {d : Nat} (hd : d < 3) : ((sN lo hi d : Nat) : Int) = (hi d).toInt - (lo d).toInt + 1 ∧ 1 ≤ sN lo hi d ∧ sN lo hi d ≤ 2001 := by
  have := h.2.2.1 d hd
  unfold sN
  omega
theorem okS.L {m : Nat} {lo hi : Nat → Int32} (h : okS m lo hi) {d : Nat} (hd : d < 3) : sL lo hi d = nI (sN lo hi d) := by
  have h1 := h.2.2.1 d hd
  have h2 := h.N hd
  unfold sL
  apply i_nI
  have e1 : (hi d - lo d).toInt = (hi d).toInt - (lo d).toInt := i_sub (by omega) (by omega)
  rw [i_add (by rw [e1, i_one]; omega) (by rw [e1, i_one]; omega), e1, i_one, h2.1]
theorem okS.one {m : Nat} {lo hi : Nat → Int32} (h : okS m lo hi) {d : Nat} (hd : d < 3) (hm : m ≤ d) : sN lo hi d = 1 := by
  obtain ⟨e1, e2⟩ := h.2.2.2 d hm hd
  unfold sN
  rw [e1, e2]
  decide
/-- how many cells -/
def sz3 (lo hi : Nat → Int32) : Nat := sN lo hi 0 * sN lo hi 1 * sN lo hi 2
theorem okS.size {m : Nat} {lo hi : Nat → Int32} (h : okS m lo hi) : sL lo hi 0 * sL lo hi 1 * sL lo hi 2 = nI (sz3 lo hi) := by
  rw [h.L (by decide), h.L (by decide), h.L (by decide), pk_mul, pk_mul]
  rfl
/-- what the step along a dimension is -/
def sq (lo hi : Nat → Int32) (d : Nat) : Nat := if d = 0 then sN lo hi 1 * sN lo hi 2 else if d = 1 then sN lo hi 2 else 1
theorem okS.sp {m : Nat} {lo hi : Nat → Int32} (h : okS m lo hi) {d : Nat} (hd : d < 3) : sp3 lo hi d = nI (sq lo hi d) := by
  unfold sp3 sq
  rw [h.L (by decide), h.L (by decide), pk_mul]
  by_cases e : d = 0
  · rw [if_pos e, if_pos e]
  · rw [if_neg e, if_neg e]
    by_cases e1 : d = 1
    · rw [if_pos e1, if_pos e1]
    · rw [if_neg e1, if_neg e1]; decide
theorem okS.sqpos {m : Nat} {lo hi : Nat → Int32} (h : okS m lo hi) (d : Nat) : 1 ≤ sq lo hi d := by
  have h1 := (h.N (d := 1) (by decide)).2.1
  have h2 := (h.N (d := 2) (by decide)).2.1
  unfold sq
  split
  · exact Nat.mul_pos h1 h2
  · split <;> omega
/-- the place in dimension d of cell number i -/
def plN (lo hi : Nat → Int32) (i d : Nat) : Nat := i / sq lo hi d % sN lo hi d
theorem sPlace_N {m : Nat} {lo hi : Nat → Int32} (h : okS m lo hi) {i d : Nat} {e : Int32} (hd : d < 3) (he : e = nI d) (hi' : i < 2 ^ 31) (hq : sq lo hi d < 2 ^ 31) : sPlace lo hi (nI i) e = lo d + nI (plN lo hi i d) := by
  have h1 := h.N hd
  have h2 := h.sqpos d
  have e1 : s3 hi 0 e - s3 lo 0 e + 1 = nI (sN lo hi d) := by rw [s3_N d hd he, s3_N d hd he]; exact h.L hd
  unfold sPlace
  rw [e1, s3_N d hd he, s3_N d hd he, h.sp hd, show (1 : Int32) = nI 1 from rfl, if_neg (nI_nlt h2 hq), if_pos (nI_le h1.2.1 (by omega)), pk_div hi' (by omega) hq, pk_rem (Nat.lt_of_le_of_lt (Nat.div_le_self _ _) hi') (by omega) (by omega)]
  rfl
