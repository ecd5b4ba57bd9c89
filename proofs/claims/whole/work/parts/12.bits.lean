/-! BITS: one bit of a row of long words -/
theorem cb_shr {j : Nat} (h : j < 2 ^ 31) : nI j >>> ((6 : Int32) &&& 31) = nI (j / 64) := pk_shrN h _ 6 (by decide)
theorem cb_and {j : Nat} (h : j < 2 ^ 31) : nI j &&& 63 = nI (j % 64) := pk_andN (by omega) 6 (by decide)
theorem cb_cu : ∀ k, k < 64 → ((nI k).toInt64.toUInt64 &&& Int64.toUInt64 63) = UInt64.ofNat k := by decide +kernel
theorem cb_un : ∀ k, k < 64 → (UInt64.ofNat k).toNat = k := by decide +kernel
theorem cb_one : ∀ k, k < 64 → ((1 : Int64) <<< ((nI k).toInt64 &&& 63)).toBitVec = BitVec.twoPow 64 k := by decide +kernel
theorem cb_bit0 {w : Int64} {s : UInt64} {j : Nat} (hj : j < 64) (hs : s.toNat = j) : ((w.toUInt64 >>> s).toInt64 &&& 1) = 0 ↔ w.toBitVec.getLsbD j = false := by
  have e : (w.toUInt64 >>> s).toInt64.toBitVec = w.toBitVec >>> j := by
    apply BitVec.eq_of_toNat_eq
    show (w.toUInt64 >>> s).toNat = _
    rw [UInt64.toNat_shiftRight, hs, Nat.mod_eq_of_lt hj, BitVec.toNat_ushiftRight]
    rfl
  rw [← Int64.toBitVec_inj, Int64.toBitVec_and, e]
  show w.toBitVec >>> j &&& 1#64 = 0#64 ↔ _
  constructor
  · intro h
    have t := congrArg (fun x => x.getLsbD 0) h
    simpa using t
  · intro h
    apply BitVec.eq_of_getLsbD_eq
    intro i hi
    rw [BitVec.getLsbD_and]
    by_cases e : i = 0
    · subst e; simp [h]
    · simp [e, show ¬ i < 1 by omega]
/-- bit i of a row of words -/
def mkAt (mk : Nat → Int64) (i : Nat) : Bool := (mk (i / 64)).toBitVec.getLsbD (i % 64)
theorem cb_has (mk : Nat → Int64) {j : Nat} (h : j < 2 ^ 31) : lg_cmp (((mk (j / 64)).toUInt64 >>> ((nI j &&& 63).toInt64.toUInt64 &&& Int64.toUInt64 63)).toInt64 &&& 1) 0 = 0 ↔ mkAt mk j = false := by
  rw [lg_cmp_eq, cb_and h, cb_cu _ (by omega), cb_bit0 (Nat.mod_lt _ (by decide)) (cb_un _ (by omega))]
  rfl
theorem cb_bitE (mk : Nat → Int64) {j : Nat} (h : j < 2 ^ 31) : ((mk (j / 64)) &&& ((1 : Int64) <<< ((nI j &&& 63).toInt64 &&& 63))) = 0 ↔ mkAt mk j = false := by
  rw [cb_and h, ← Int64.toBitVec_inj, Int64.toBitVec_and, cb_one _ (by omega)]
  show _ = 0#64 ↔ _
  constructor
  · intro h2
    have t := congrArg (fun x => x.getLsbD (j % 64)) h2
    simp only [BitVec.getLsbD_and, BitVec.getLsbD_twoPow, BitVec.getLsbD_zero] at t
    simpa [mkAt, Nat.mod_lt] using t
  · intro h2
    apply BitVec.eq_of_getLsbD_eq
    intro i hi
    rw [BitVec.getLsbD_and, BitVec.getLsbD_twoPow, BitVec.getLsbD_zero]
    by_cases e : j % 64 = i
    · subst e
      have h3 : (mk (j / 64)).toBitVec.getLsbD (j % 64) = false := h2
      rw [h3, Bool.false_and]
    · simp [e]
theorem cb_or (mk : Nat → Int64) {j : Nat} (h : j < 2 ^ 31) (i : Nat) : mkAt (vp_updL mk (j / 64) (mk (j / 64) ||| ((1 : Int64) <<< ((nI j &&& 63).toInt64 &&& 63)))) i = (mkAt mk i || decide (i = j)) := by
  unfold mkAt vp_updL
  by_cases e : i / 64 = j / 64
  · rw [if_pos e, e, cb_and h, Int64.toBitVec_or, cb_one _ (by omega), BitVec.getLsbD_or, BitVec.getLsbD_twoPow]
    congr 1
    by_cases e2 : i % 64 = j % 64
    · rw [decide_eq_true (show i = j by omega), decide_eq_true (show j % 64 < 64 by omega), decide_eq_true e2.symm]; rfl
    · rw [decide_eq_false (show ¬ i = j by intro q; subst q; exact e2 rfl), decide_eq_false (show ¬ j % 64 = i % 64 by omega), Bool.and_false]
  · rw [if_neg e, decide_eq_false (show ¬ i = j by intro q; subst q; exact e rfl), Bool.or_false]
theorem cb_nor (mk : Nat → Int64) {j : Nat} (h : j < 2 ^ 31) (i : Nat) : mkAt (vp_updL mk (j / 64) (mk (j / 64) &&& (((1 : Int64) <<< ((nI j &&& 63).toInt64 &&& 63)) ^^^ (-1)))) i = (mkAt mk i && !decide (i = j)) := by
  have ha : (-1 : Int64).toBitVec = BitVec.allOnes 64 := by decide
  unfold mkAt vp_updL
  by_cases e : i / 64 = j / 64
  · rw [if_pos e, e, cb_and h, Int64.toBitVec_and, Int64.toBitVec_xor, cb_one _ (by omega), ha, BitVec.getLsbD_and, BitVec.getLsbD_xor, BitVec.getLsbD_twoPow, BitVec.getLsbD_allOnes]
    congr 1
    rw [decide_eq_true (show i % 64 < 64 by omega)]
    by_cases e2 : i % 64 = j % 64
    · rw [decide_eq_true (show i = j by omega), decide_eq_true (show j % 64 < 64 by omega), decide_eq_true e2.symm]; rfl
    · rw [decide_eq_false (show ¬ i = j by intro q; subst q; exact e2 rfl), decide_eq_false (show ¬ j % 64 = i % 64 by omega), Bool.and_false]; rfl
  · rw [if_neg e, decide_eq_false (show ¬ i = j by intro q; subst q; exact e rfl)]; simp
