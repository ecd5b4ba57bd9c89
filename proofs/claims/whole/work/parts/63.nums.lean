/-! numbers behind join, product, gather, regrid, window -/
theorem nn_msb (x : Int32) : 0 ≤ x ↔ x.toBitVec.msb = false := by
  rw [Int32.le_iff_toInt_le]
  show (0 : Int) ≤ x.toBitVec.toInt ↔ _
  rw [BitVec.toInt_eq_msb_cond]
  have := x.toBitVec.isLt
  cases h : x.toBitVec.msb
  · simp
  · simp; omega
theorem xor_nn (x y : Int32) : 0 ≤ x ^^^ y ↔ (0 ≤ x ↔ 0 ≤ y) := by
  rw [nn_msb, nn_msb, nn_msb, Int32.toBitVec_xor, BitVec.msb_xor]
  cases x.toBitVec.msb <;> cases y.toBitVec.msb <;> simp
theorem fdI_ok {x k : Int32} (h1 : -1000 ≤ x.toInt) (h2 : x.toInt ≤ 1000) (k1 : 1 ≤ k.toInt) (k2 : k.toInt ≤ 40) : (fdI x k).toInt = x.toInt / k.toInt := by
  have kz : (0 : Int32).toInt = 0 := by decide
  have kn : 0 ≤ k := by rw [Int32.le_iff_toInt_le, kz]; omega
  have hb : -1000 ≤ x.toInt.tdiv k.toInt ∧ x.toInt.tdiv k.toInt ≤ 1000 := by
    rcases Int.le_total 0 x.toInt with h | h
    · have e := Int.tdiv_eq_ediv_of_nonneg (b := k.toInt) h
      have a1 := Int.ediv_nonneg h (show 0 ≤ k.toInt by omega)
      have a2 := Int.ediv_le_self k.toInt h
      omega
    · have e : x.toInt.tdiv k.toInt = -((-x.toInt).tdiv k.toInt) := by rw [Int.neg_tdiv]; omega
      have e2 := Int.tdiv_eq_ediv_of_nonneg (a := -x.toInt) (b := k.toInt) (by omega)
      have a1 := Int.ediv_nonneg (a := -x.toInt) (b := k.toInt) (by omega) (by omega)
      have a2 := Int.ediv_le_self (a := -x.toInt) k.toInt (by omega)
      omega
  have hd : (x / k).toInt = x.toInt.tdiv k.toInt := by
    rw [Int32.toInt_div]
    exact Int.bmod_eq_of_le (by omega) (by omega)
  unfold fdI
  by_cases c : 0 ≤ x
  · have cx : 0 ≤ x.toInt := by rw [Int32.le_iff_toInt_le, kz] at c; exact c
    rw [if_pos ((xor_nn x k).mpr ⟨fun _ => kn, fun _ => c⟩), hd, Int.tdiv_eq_ediv_of_nonneg cx]
  · have cx : x.toInt < 0 := by rw [Int32.le_iff_toInt_le, kz] at c; omega
    rw [if_neg (fun z => c (((xor_nn x k).mp z).mpr kn))]
    have hm := Int.mul_tdiv_add_tmod x.toInt k.toInt
    have hm2 : -k.toInt < x.toInt.tmod k.toInt ∧ x.toInt.tmod k.toInt ≤ 0 := by
      have e : x.toInt.tmod k.toInt = -((-x.toInt).tmod k.toInt) := by rw [Int.neg_tmod]; omega
      have a1 := Int.tmod_nonneg (a := -x.toInt) k.toInt (by omega)
      have a2 := Int.tmod_lt_of_pos (-x.toInt) (show 0 < k.toInt by omega)
      omega
    have hmul : (x / k * k).toInt = x.toInt.tdiv k.toInt * k.toInt := by
      rw [i_mul, hd]
      · rw [hd, Int.mul_comm]; omega
      · rw [hd, Int.mul_comm]; omega
    by_cases c2 : x / k * k = x
    · rw [if_pos c2, hd]
      have e := congrArg Int32.toInt c2
      rw [hmul] at e
      have : x.toInt / k.toInt = x.toInt.tdiv k.toInt := by
        conv => lhs; rw [← e]
        exact Int.mul_ediv_cancel _ (by omega)
      omega
    · rw [if_neg c2]
      have one : (1 : Int32).toInt = 1 := by decide
      rw [i_sub (by rw [hd, one]; omega) (by rw [hd, one]; omega), hd, one]
      have hne : x.toInt.tdiv k.toInt * k.toInt ≠ x.toInt := fun z => c2 (Int32.toInt_inj.mp (hmul.trans z))
      generalize x.toInt.tdiv k.toInt = t at *
      generalize x.toInt.tmod k.toInt = r at *
      generalize x.toInt = a at *
      generalize k.toInt = b at *
      have e : a = (r + b) + (t - 1) * b := by rw [Int.sub_mul, ← hm, Int.mul_comm b t]; omega
      have hr0 : r ≠ 0 := fun z => hne (by rw [Int.mul_comm]; omega)
      rw [e, Int.add_mul_ediv_right _ _ (by omega), Int.ediv_eq_zero_of_lt (by omega) (by omega)]
      omega
theorem mxI_t (x y : Int32) : (mxI x y).toInt = max x.toInt y.toInt := by
  unfold mxI; by_cases c : x < y
  · rw [if_pos c]; rw [Int32.lt_iff_toInt_lt] at c; omega
  · rw [if_neg c]; rw [Int32.lt_iff_toInt_lt] at c; omega
theorem mnI_t (x y : Int32) : (mnI x y).toInt = min x.toInt y.toInt := by
  unfold mnI; by_cases c : y < x
  · rw [if_pos c]; rw [Int32.lt_iff_toInt_lt] at c; omega
  · rw [if_neg c]; rw [Int32.lt_iff_toInt_lt] at c; omega
theorem jnF_at {mx : Int32 → Int32 → Int32} {f h : Nat → Int32} {d : Nat} (hd : d < 3) : jnF mx f h d = mx (f d) (h d) := by
  rcases (show d = 0 ∨ d = 1 ∨ d = 2 by omega) with rfl | rfl | rfl <;> simp [jnF, tr3, upd]
theorem meetB_ok {z : Bool} {lo hi lo2 hi2 : Nat → Int32} {k : Nat} (h : meetB z lo hi lo2 hi2 k = true) : z = true ∧ ∀ d, d < k → lo d ≤ hi2 d ∧ lo2 d ≤ hi d := by
  induction k with
  | zero => exact ⟨h, fun d hd => absurd hd (by omega)⟩
  | succ k ih =>
    simp only [meetB, Bool.and_eq_true, decide_eq_true_eq] at h
    obtain ⟨h1, h2⟩ := ih h.1.1
    refine ⟨h1, fun d hd => ?_⟩
    by_cases e : d = k
    · subst e; exact ⟨h.1.2, h.2⟩
    · exact h2 d (by omega)
theorem okS_jn {m m2 : Nat} {lo hi lo2 hi2 : Nat → Int32} (h : okS m lo hi) (h2 : okS m2 lo2 hi2) (hm : ¬ bI (meetB (decide (nI m = nI m2)) lo hi lo2 hi2 m) = 0) : m = m2 ∧ okS m (jnF mxI lo lo2) (jnF mnI hi hi2) := by
  have hb : meetB (decide (nI m = nI m2)) lo hi lo2 hi2 m = true := by
    cases e : meetB (decide (nI m = nI m2)) lo hi lo2 hi2 m with
    | true => rfl
    | false => rw [e] at hm; exact absurd rfl hm
  obtain ⟨e1, e2⟩ := meetB_ok hb
  have em : m = m2 := nI_inj (by have := h.2.1; omega) (by have := h2.2.1; omega) (of_decide_eq_true e1)
  subst em
  refine ⟨rfl, h.1, h.2.1, fun d hd => ?_, fun d h4 hd => ?_⟩
  · rw [jnF_at hd, jnF_at hd, mxI_t, mnI_t]
    have a1 := h.2.2.1 d hd
    have a2 := h2.2.2.1 d hd
    by_cases c : d < m
    · have a3 := e2 d c
      rw [Int32.le_iff_toInt_le, Int32.le_iff_toInt_le] at a3
      omega
    · have b1 := h.2.2.2 d (Nat.le_of_not_lt c) hd
      have b2 := h2.2.2.2 d (Nat.le_of_not_lt c) hd
      rw [b1.1, b1.2, b2.1, b2.2]
      have : (0 : Int32).toInt = 0 := by decide
      omega
  · rw [jnF_at hd, jnF_at hd]
    have b1 := h.2.2.2 d h4 hd
    have b2 := h2.2.2.2 d h4 hd
    rw [b1.1, b1.2, b2.1, b2.2]
    exact ⟨by decide, by decide⟩
theorem okS_pr {m m2 : Nat} {lo hi lo2 hi2 : Nat → Int32} (h : okS m lo hi) (h2 : okS m2 lo2 hi2) (hm : 2 ≤ m) : okS m (rpl3 lo 1 (lo2 1)) (rpl3 hi 1 (hi2 1)) := by
  rw [rpl3_N (d := 1) 1 (by decide) rfl, rpl3_N (d := 1) 1 (by decide) rfl]
  have := h2.2.2.1 1 (by decide)
  exact okS_upd h (by omega) (by omega) (by omega) (by omega)
theorem pK_ok {m m2 : Nat} {w u : vN} (h : okS m (vlo w) (vhi w)) (h2 : okS m2 (vlo u) (vhi u)) : pK w u ≤ 4096 ∧ (∀ k : Nat, k < pK w u → pS w u + nI k ≤ mnI (vhi w 1) (vhi u 0)) ∧ ¬ pS w u + nI (pK w u) ≤ mnI (vhi w 1) (vhi u 0) := by
  have a1 := h.2.2.1 1 (by decide)
  have a2 := h2.2.2.1 0 (by decide)
  have s1 : (pS w u).toInt = max (vlo w 1).toInt (vlo u 0).toInt := mxI_t _ _
  have s2 : (mnI (vhi w 1) (vhi u 0)).toInt = min (vhi w 1).toInt (vhi u 0).toInt := mnI_t _ _
  have s3' : (mnI (vhi w 1) (vhi u 0) - pS w u).toInt = (mnI (vhi w 1) (vhi u 0)).toInt - (pS w u).toInt := i_sub (by omega) (by omega)
  have s4 : (mnI (vhi w 1) (vhi u 0) - pS w u + 1).toInt = (mnI (vhi w 1) (vhi u 0)).toInt - (pS w u).toInt + 1 := by rw [i_add (by rw [s3', i_one]; omega) (by rw [s3', i_one]; omega), s3', i_one]
  have e0 : pK w u = (mnI (vhi w 1) (vhi u 0) - pS w u + 1).toInt.toNat := rfl
  rw [s4] at e0
  have t : ∀ k : Nat, k ≤ 4096 → (pS w u + nI k).toInt = (pS w u).toInt + k := fun k hk => by
    rw [i_add (by rw [nI_toInt (by omega)]; omega) (by rw [nI_toInt (by omega)]; omega), nI_toInt (by omega)]
  refine ⟨by omega, fun k hk => ?_, ?_⟩
  · rw [Int32.le_iff_toInt_le, t k (by omega)]; omega
  · rw [Int32.le_iff_toInt_le, t _ (by omega)]; omega
/-- a place lies in its range -/
theorem pl3_in {m : Nat} {lo hi : Nat → Int32} (h : okS m lo hi) {i j : Nat} (hz : sz3 lo hi ≤ 4096) (hi' : i < sz3 lo hi) (hj : j < 3) : pl3 lo hi i (nI j) = lo j + nI (plN lo hi i j) ∧ (pl3 lo hi i (nI j)).toInt = (lo j).toInt + plN lo hi i j ∧ plN lo hi i j < sN lo hi j := by
  have n0 := h.N (d := 0) (by decide)
  have n1 := h.N (d := 1) (by decide)
  have n2 := h.N (d := 2) (by decide)
  have nj := h.N hj
  have hq : sq lo hi j < 2 ^ 31 := by
    unfold sq
    have : sN lo hi 1 * sN lo hi 2 ≤ 2001 * 2001 := Nat.mul_le_mul n1.2.2 n2.2.2
    split
    · omega
    · split <;> omega
  have hp : plN lo hi i j < sN lo hi j := Nat.mod_lt _ (by omega)
  have e : pl3 lo hi i (nI j) = lo j + nI (plN lo hi i j) := sPlace_N h hj rfl (by omega) hq
  have l := h.lo hj
  refine ⟨e, ?_, hp⟩
  rw [e, i_add (by rw [nI_toInt (by omega)]; omega) (by rw [nI_toInt (by omega)]; omega), nI_toInt (by omega)]
theorem fK_t {w : vN} {lo hi : Nat → Int32} {d kind reach : Int32} {i : Nat} {A B : Int} (ha : (mnI (s3 (vhi w) 0 d) (fL w lo hi d kind reach i)).toInt = B) (hb : (fS w lo hi d kind reach i).toInt = A) (h1 : -100000 ≤ A ∧ A ≤ 100000) (h2 : -100000 ≤ B ∧ B ≤ 100000) : (fK w lo hi d kind reach i).toInt = B - A + 1 := by
  unfold fK
  have e : (mnI (s3 (vhi w) 0 d) (fL w lo hi d kind reach i) - fS w lo hi d kind reach i).toInt = B - A := by rw [i_sub (by omega) (by omega), ha, hb]
  rw [i_add (by rw [e, i_one]; omega) (by rw [e, i_one]; omega), e, i_one]
theorem fK_gather {m : Nat} {w : vN} {lo hi : Nat → Int32} (h : okS m (vlo w) (vhi w)) {j : Nat} (hj : j < 3) {i : Nat} : (fS w lo hi (nI j) 0 0 i).toInt = (vlo w j).toInt ∧ (fK w lo hi (nI j) 0 0 i).toInt = (vhi w j).toInt - (vlo w j).toInt + 1 := by
  have a := h.2.2.1 j hj
  have e1 : fF w lo hi (nI j) 0 0 i = vlo w j := by unfold fF; rw [if_neg (by decide), if_neg (by decide), s3_N j hj rfl]
  have e2 : fL w lo hi (nI j) 0 0 i = vhi w j := by unfold fL; rw [if_neg (by decide), if_neg (by decide), s3_N j hj rfl]
  have b : (fS w lo hi (nI j) 0 0 i).toInt = (vlo w j).toInt := by unfold fS; rw [e1, s3_N j hj rfl, mxI_t]; omega
  exact ⟨b, fK_t (by rw [e2, s3_N j hj rfl, mnI_t]; omega) b (by omega) (by omega)⟩
theorem fK_window {m : Nat} {w : vN} (h : okS m (vlo w) (vhi w)) (hz : sz3 (vlo w) (vhi w) ≤ 4096) {j : Nat} (hj : j < 3) {i : Nat} (hi : i < sz3 (vlo w) (vhi w)) {r : Int32} (r1 : 0 ≤ r.toInt) (r2 : r.toInt ≤ 40) : (fS w (vlo w) (vhi w) (nI j) 2 r i).toInt = max (vlo w j).toInt ((pl3 (vlo w) (vhi w) i (nI j)).toInt - r.toInt) ∧ (fK w (vlo w) (vhi w) (nI j) 2 r i).toInt = min (vhi w j).toInt ((pl3 (vlo w) (vhi w) i (nI j)).toInt + r.toInt) - max (vlo w j).toInt ((pl3 (vlo w) (vhi w) i (nI j)).toInt - r.toInt) + 1 ∧ (vlo w j).toInt ≤ (pl3 (vlo w) (vhi w) i (nI j)).toInt ∧ (pl3 (vlo w) (vhi w) i (nI j)).toInt ≤ (vhi w j).toInt := by
  have a := h.2.2.1 j hj
  have n := h.N hj
  obtain ⟨-, p2, p3⟩ := pl3_in h hz hi hj
  have e1 : (fF w (vlo w) (vhi w) (nI j) 2 r i).toInt = (pl3 (vlo w) (vhi w) i (nI j)).toInt - r.toInt := by unfold fF; rw [if_neg (by decide), if_pos rfl, i_sub (by omega) (by omega)]
  have e2 : (fL w (vlo w) (vhi w) (nI j) 2 r i).toInt = (pl3 (vlo w) (vhi w) i (nI j)).toInt + r.toInt := by unfold fL; rw [if_neg (by decide), if_pos rfl, i_add (by omega) (by omega)]
  have b : (fS w (vlo w) (vhi w) (nI j) 2 r i).toInt = max (vlo w j).toInt ((pl3 (vlo w) (vhi w) i (nI j)).toInt - r.toInt) := by unfold fS; rw [mxI_t, e1, s3_N j hj rfl]
  exact ⟨b, fK_t (by rw [mnI_t, e2, s3_N j hj rfl]) b (by omega) (by omega), by omega, by omega⟩
/-- regrid's shape -/
def rgLo (w : vN) (j : Nat) (k : Int32) : Nat → Int32 := rpl3 (vlo w) (nI j) (fdI (s3 (vlo w) 0 (nI j)) k)
def rgHi (w : vN) (j : Nat) (k : Int32) : Nat → Int32 := rpl3 (vhi w) (nI j) (fdI (s3 (vhi w) 0 (nI j)) k)
theorem rg_ok {m : Nat} {w : vN} (h : okS m (vlo w) (vhi w)) {j : Nat} (hj : j < m) {k : Int32} (k1 : 1 ≤ k.toInt) (k2 : k.toInt ≤ 40) : okS m (rgLo w j k) (rgHi w j k) ∧ (rgLo w j k j).toInt = (vlo w j).toInt / k.toInt ∧ (rgHi w j k j).toInt = (vhi w j).toInt / k.toInt := by
  have hj3 : j < 3 := Nat.lt_of_lt_of_le hj h.2.1
  have a := h.2.2.1 j hj3
  have e1 : (fdI (vlo w j) k).toInt = (vlo w j).toInt / k.toInt := fdI_ok (by omega) (by omega) k1 k2
  have e2 : (fdI (vhi w j) k).toInt = (vhi w j).toInt / k.toInt := fdI_ok (by omega) (by omega) k1 k2
  unfold rgLo rgHi
  rw [rpl3_N j hj3 rfl, rpl3_N j hj3 rfl, s3_N j hj3 rfl, s3_N j hj3 rfl]
  have b1 : -1000 ≤ (vlo w j).toInt / k.toInt := by
    have := Int.le_ediv_of_mul_le (c := k.toInt) (a := -1000) (b := (vlo w j).toInt) (by omega) (by omega)
    omega
  have b2 : (vhi w j).toInt / k.toInt ≤ 1000 := Int.ediv_le_of_le_mul (by omega) (by omega)
  have b3 : (vlo w j).toInt / k.toInt ≤ (vhi w j).toInt / k.toInt := Int.ediv_le_ediv (by omega) a.2.1
  refine ⟨okS_upd h hj (by omega) (by omega) (by omega), ?_, ?_⟩
  · unfold upd; rw [if_pos rfl]; exact e1
  · unfold upd; rw [if_pos rfl]; exact e2
theorem fK_regrid {m : Nat} {w : vN} (h : okS m (vlo w) (vhi w)) {j : Nat} (hj : j < m) {k : Int32} (k1 : 1 ≤ k.toInt) (k2 : k.toInt ≤ 40) (hz : sz3 (rgLo w j k) (rgHi w j k) ≤ 4096) {i : Nat} (hi : i < sz3 (rgLo w j k) (rgHi w j k)) {p : Int} (hp : p = (pl3 (rgLo w j k) (rgHi w j k) i (nI j)).toInt) :
    (fS w (rgLo w j k) (rgHi w j k) (nI j) 1 k i).toInt = max (vlo w j).toInt (p * k.toInt) ∧ (fK w (rgLo w j k) (rgHi w j k) (nI j) 1 k i).toInt = min (vhi w j).toInt (p * k.toInt + k.toInt - 1) - max (vlo w j).toInt (p * k.toInt) + 1 ∧ (pl3 (rgLo w j k) (rgHi w j k) i (nI j) * k).toInt = p * k.toInt ∧ p * k.toInt ≤ (vhi w j).toInt ∧ (vlo w j).toInt ≤ p * k.toInt + k.toInt - 1 ∧ -2000 ≤ p * k.toInt ∧ p * k.toInt ≤ 2000 := by
  have hj3 : j < 3 := Nat.lt_of_lt_of_le hj h.2.1
  have a := h.2.2.1 j hj3
  obtain ⟨o1, o2, o3⟩ := rg_ok h hj k1 k2
  obtain ⟨-, p2, p3⟩ := pl3_in o1 hz hi hj3
  have n := o1.N hj3
  rw [← hp] at p2
  have q1 : (vlo w j).toInt / k.toInt ≤ p := by omega
  have q2 : p ≤ (vhi w j).toInt / k.toInt := by omega
  have u1 : p * k.toInt ≤ (vhi w j).toInt := by
    have h1 := Int.mul_le_mul_of_nonneg_right q2 (show 0 ≤ k.toInt by omega)
    have h2 := Int.ediv_mul_le (vhi w j).toInt (show k.toInt ≠ 0 by omega)
    omega
  have u2 : (vlo w j).toInt ≤ p * k.toInt + k.toInt - 1 := by
    have h1 := Int.mul_le_mul_of_nonneg_right q1 (show 0 ≤ k.toInt by omega)
    have h2 := Int.lt_ediv_add_one_mul_self (vlo w j).toInt (show 0 < k.toInt by omega)
    rw [Int.add_mul] at h2
    omega
  have em : (pl3 (rgLo w j k) (rgHi w j k) i (nI j) * k).toInt = p * k.toInt := by rw [i_mul (by rw [← hp]; omega) (by rw [← hp]; omega), ← hp]
  have e1 : (fF w (rgLo w j k) (rgHi w j k) (nI j) 1 k i).toInt = p * k.toInt := by unfold fF; rw [if_pos rfl]; exact em
  have e2 : (fL w (rgLo w j k) (rgHi w j k) (nI j) 1 k i).toInt = p * k.toInt + k.toInt - 1 := by
    unfold fL; rw [if_pos rfl]
    have t : (fF w (rgLo w j k) (rgHi w j k) (nI j) 1 k i + k).toInt = p * k.toInt + k.toInt := by rw [i_add (by omega) (by omega), e1]
    rw [i_sub (by rw [t, i_one]; omega) (by rw [t, i_one]; omega), t, i_one]
  have b : (fS w (rgLo w j k) (rgHi w j k) (nI j) 1 k i).toInt = max (vlo w j).toInt (p * k.toInt) := by unfold fS; rw [mxI_t, e1, s3_N j hj3 rfl]
  exact ⟨b, fK_t (by rw [mnI_t, e2, s3_N j hj3 rfl]) b (by omega) (by omega), em, u1, u2, by omega, by omega⟩
