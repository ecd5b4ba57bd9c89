/-! a row of places along one dimension, taken together -/
def rC (x y z : Int32) : Nat → Int32 := fun e => if e = 0 then x else if e = 1 then y else z
def rG (jd : Nat) (x y : Int32) : Nat → Int32 := fun e => if e = 0 then x else if e = 1 then (if jd = 0 then x else y) else y
def rP (c : Nat → Int32) (jd : Nat) (p : Int32) (e : Nat) : Int32 := if e = jd then p else c e
/-- the places of a row lie in the grid but for the dimension along which it goes -/
def rIn (w : vN) (jd : Nat) (c : Nat → Int32) : Prop := ∀ e, e < 3 → e ≠ jd → (vlo w e).toInt ≤ (c e).toInt ∧ (c e).toInt ≤ (vhi w e).toInt
theorem rP_y {c : Nat → Int32} {jd : Nat} {p : Int32} (e : Nat) (hj : jd < 3) (he : e < 3) (h : nI jd = nI e) : rP c jd p e = p := if_pos (nI_inj (by omega) (by omega) h.symm)
theorem rP_n {c : Nat → Int32} {jd : Nat} {p : Int32} (e : Nat) (h : ¬ nI jd = nI e) : rP c jd p e = c e := if_neg (fun z => h (by rw [z]))
theorem rP_fr {w : vN} (hw : vOk w) {jd : Nat} (hjd : jd < vm w) {c : Nat → Int32} (hc : rIn w jd c) (p : Int32) : frV w (rP c jd p 0) (rP c jd p 1) (rP c jd p 2) = wAt w (wIx w (rP c jd p 0) (rP c jd p 1) (rP c jd p 2)) := by
  have idle : ∀ e, e < 3 → ¬ e < vm w → rP c jd p e = 0 := fun e he hm => by
    unfold rP
    rw [if_neg (by omega)]
    have a := hc e he (by omega)
    have b := hw.1.2.2.2 e (by omega) he
    rw [b.1, b.2, z_toInt] at a
    apply Int32.toInt_inj.mp
    rw [z_toInt]; omega
  have q := frV_w hw (x := rP c jd p 0) (y := rP c jd p 1) (z := rP c jd p 2)
  have i1 : 1 < vm w ∨ rP c jd p 1 = 0 := by
    by_cases h : 1 < vm w
    · exact Or.inl h
    · exact Or.inr (idle 1 (by decide) h)
  have i2 : 2 < vm w ∨ rP c jd p 2 = 0 := by
    by_cases h : 2 < vm w
    · exact Or.inl h
    · exact Or.inr (idle 2 (by decide) h)
  rw [c1n_0 i1, c2n_0 i2] at q
  exact q
theorem rP_out {w : vN} {jd : Nat} (hjd : jd < 3) {c : Nat → Int32} {p : Int32} (h : p.toInt < (vlo w jd).toInt ∨ (vhi w jd).toInt < p.toInt) : frV w (rP c jd p 0) (rP c jd p 1) (rP c jd p 2) = none := by
  apply frV_no
  by_cases q : gIn (vlo w) (vhi w) (rP c jd p 0) (rP c jd p 1) (rP c jd p 2) = 0
  · exact q
  · have a := gIn_1.mp q
    exfalso
    rcases (show jd = 0 ∨ jd = 1 ∨ jd = 2 by omega) with rfl | rfl | rfl
    · have b := a.1; rw [show rP c 0 p 0 = p from if_pos rfl] at b; omega
    · have b := a.2.1; rw [show rP c 1 p 1 = p from if_pos rfl] at b; omega
    · have b := a.2.2; rw [show rP c 2 p 2 = p from if_pos rfl] at b; omega
theorem rP_ix {w : vN} (hw : vOk w) {jd : Nat} (hjd : jd < vm w) {c : Nat → Int32} (hc : rIn w jd c) {S : Int32} {t : Nat} (h1 : (vlo w jd).toInt ≤ S.toInt) (h2 : S.toInt + t ≤ (vhi w jd).toInt) : wIx w (rP c jd (S + nI t) 0) (rP c jd (S + nI t) 1) (rP c jd (S + nI t) 2) = wIx w (rP c jd S 0) (rP c jd S 1) (rP c jd S 2) + nI t * s3 (sp3 (vlo w) (vhi w)) 1 (nI jd) := by
  have h3 := hw.1.2.1
  have hj3 : jd < 3 := by omega
  have a := hw.1.2.2.1 jd hj3
  have hz : sz3 (vlo w) (vhi w) ≤ 4096 := hw.2.1
  have eS : (S + nI t).toInt = S.toInt + t := by rw [i_add (by rw [nI_toInt (by omega)]; omega) (by rw [nI_toInt (by omega)]; omega), nI_toInt (by omega)]
  have ins : ∀ p : Int32, (vlo w jd).toInt ≤ p.toInt → p.toInt ≤ (vhi w jd).toInt → inS (vm w) (vlo w) (vhi w) (rP c jd p 0) (rP c jd p 1) (rP c jd p 2) := fun p p1 p2 => by
    have q : ∀ e, e < 3 → inD (vm w) (vlo w) (vhi w) e (rP c jd p e) := fun e he _ => by
      unfold rP
      by_cases z : e = jd
      · rw [if_pos z, z]; exact ⟨p1, p2⟩
      · rw [if_neg z]; exact hc e he z
    exact ⟨q 0 (by decide), q 1 (by decide), q 2 (by decide)⟩
  have i1 := ins S h1 (by omega)
  have i2 := ins (S + nI t) (by omega) (by omega)
  have po : ∀ e, e ≠ jd → pos (vm w) (vlo w) e (rP c jd (S + nI t) e) = pos (vm w) (vlo w) e (rP c jd S e) := fun e he => by unfold rP; rw [if_neg he, if_neg he]
  have pj : pos (vm w) (vlo w) jd (rP c jd (S + nI t) jd) = pos (vm w) (vlo w) jd (rP c jd S jd) + t := by
    unfold rP; rw [if_pos rfl, if_pos rfl]; unfold pos; rw [if_pos hjd, if_pos hjd, eS]; omega
  have key : ixS (vm w) (vlo w) (vhi w) (rP c jd (S + nI t) 0) (rP c jd (S + nI t) 1) (rP c jd (S + nI t) 2) = ixS (vm w) (vlo w) (vhi w) (rP c jd S 0) (rP c jd S 1) (rP c jd S 2) + t * sq (vlo w) (vhi w) jd := by
    unfold ixS
    rcases (show jd = 0 ∨ jd = 1 ∨ jd = 2 by omega) with rfl | rfl | rfl
    · rw [po 1 (by decide), po 2 (by decide), pj]; unfold sq; rw [if_pos rfl, Nat.add_mul]; omega
    · rw [po 0 (by decide), po 2 (by decide), pj]; unfold sq; rw [if_neg (by decide), if_pos rfl, Nat.add_mul]; omega
    · rw [po 0 (by decide), po 1 (by decide), pj]; unfold sq; rw [if_neg (by decide), if_neg (by decide), Nat.mul_one]; omega
  have e1 : wIx w (rP c jd S 0) (rP c jd S 1) (rP c jd S 2) = nI (ixS (vm w) (vlo w) (vhi w) (rP c jd S 0) (rP c jd S 1) (rP c jd S 2)) := sIdx_in hw.1 rfl (by omega) i1
  have e2 : wIx w (rP c jd (S + nI t) 0) (rP c jd (S + nI t) 1) (rP c jd (S + nI t) 2) = nI (ixS (vm w) (vlo w) (vhi w) (rP c jd (S + nI t) 0) (rP c jd (S + nI t) 1) (rP c jd (S + nI t) 2)) := sIdx_in hw.1 rfl (by omega) i2
  rw [e1, e2, key, s3_N jd hj3 rfl, hw.1.sp hj3, nI_mul9, nI_add]
theorem row_s {w : vN} {what start step : Int32} {δ K a : Nat} {f : Option Int64} {t : tT} (hT : tOk what (talW w what start step (min (a - δ) K)) t) (h1 : a < δ → f = none) (h2 : δ + K ≤ a → f = none) (h3 : δ ≤ a → a < δ + K → f = wAt w (start + nI (a - δ) * step)) (hK : K < 2 ^ 30) : tOk what (talW w what start step (min (a + 1 - δ) K)) (tkU f t) := by
  by_cases c1 : a < δ
  · rw [h1 c1, show min (a + 1 - δ) K = min (a - δ) K by omega]; exact hT
  by_cases c2 : δ + K ≤ a
  · rw [h2 c2, show min (a + 1 - δ) K = min (a - δ) K by omega]; exact hT
  · rw [show min (a - δ) K = a - δ by omega] at hT
    rw [show min (a + 1 - δ) K = a - δ + 1 by omega]
    exact tOk_W hT (by omega) (h3 (by omega) (by omega))
def fSt (w : vN) (lo hi : Nat → Int32) (d kind reach : Int32) (i : Nat) : Int32 := wIx w (fP lo hi d kind 0 (fS w lo hi d kind reach i) i) (fP lo hi d kind 1 (fS w lo hi d kind reach i) i) (fP lo hi d kind 2 (fS w lo hi d kind reach i) i)
def rwD (w : vN) (lo hi : Nat → Int32) (d kind reach A : Int32) (i : Nat) : Nat := ((fS w lo hi d kind reach i).toInt - A.toInt).toNat
/-- what is taken together of the first a places of a row that begins at A -/
def rwT (w : vN) (lo hi : Nat → Int32) (d kind reach what A : Int32) (i a : Nat) : Nat × Int64 := talW w what (fSt w lo hi d kind reach i) (s3 (sp3 (vlo w) (vhi w)) 1 d) (min (a - rwD w lo hi d kind reach A i) (fK w lo hi d kind reach i).toNatClampNeg)
def rowOk (w : vN) (lo hi : Nat → Int32) (jd : Nat) (kind reach A : Int32) (L i : Nat) : Prop := (-5000 ≤ A.toInt ∧ A.toInt + L ≤ 5000) ∧ (fS w lo hi (nI jd) kind reach i).toInt = max (vlo w jd).toInt A.toInt ∧ (fK w lo hi (nI jd) kind reach i).toInt = min (vhi w jd).toInt (A.toInt + L - 1) - max (vlo w jd).toInt A.toInt + 1 ∧ 1 ≤ (fK w lo hi (nI jd) kind reach i).toInt
section RW
variable {w : vN} {lo hi : Nat → Int32} {jd : Nat} {kind reach what A : Int32} {L i a : Nat}
theorem rwT_0 {d : Int32} : rwT w lo hi d kind reach what A i 0 = (0, 0) := by unfold rwT; rw [Nat.zero_sub, Nat.zero_min]; rfl
theorem rwT_le {d : Int32} : (rwT w lo hi d kind reach what A i a).1 ≤ a := by
  unfold rwT
  exact Nat.le_trans (talW_le _ _ _ _ _) (by omega)
theorem rwT_L (h : rowOk w lo hi jd kind reach A L i) : foD w lo hi (nI jd) kind reach what i = talO (rwT w lo hi (nI jd) kind reach what A i L) := by
  obtain ⟨-, h2, h3, h4⟩ := h
  have eK : (fK w lo hi (nI jd) kind reach i).toNatClampNeg = (fK w lo hi (nI jd) kind reach i).toInt.toNat := rfl
  have e : min (L - rwD w lo hi (nI jd) kind reach A i) (fK w lo hi (nI jd) kind reach i).toNatClampNeg = (fK w lo hi (nI jd) kind reach i).toNatClampNeg := by unfold rwD; rw [eK]; omega
  unfold rwT
  rw [e]
  rfl
theorem rwT_s (hw : vOk w) (hjd : jd < vm w) {c : Nat → Int32} (hc : rIn w jd c) (h : rowOk w lo hi jd kind reach A L i) (ha : a < L) (e0 : ∀ S, fP lo hi (nI jd) kind 0 S i = rP c jd S 0) (e1 : ∀ S, fP lo hi (nI jd) kind 1 S i = rP c jd S 1) (e2 : ∀ S, fP lo hi (nI jd) kind 2 S i = rP c jd S 2) {t : tT} (hT : tOk what (rwT w lo hi (nI jd) kind reach what A i a) t) : tOk what (rwT w lo hi (nI jd) kind reach what A i (a + 1)) (tkU (frV w (rP c jd (A + nI a) 0) (rP c jd (A + nI a) 1) (rP c jd (A + nI a) 2)) t) := by
  obtain ⟨h1, h2, h3, h4⟩ := h
  have m3 := hw.1.2.1
  have b := hw.1.2.2.1 jd (by omega)
  have eK : (fK w lo hi (nI jd) kind reach i).toNatClampNeg = (fK w lo hi (nI jd) kind reach i).toInt.toNat := rfl
  have eA : (A + nI a).toInt = A.toInt + a := by rw [i_add (by rw [nI_toInt (by omega)]; omega) (by rw [nI_toInt (by omega)]; omega), nI_toInt (by omega)]
  have eD : rwD w lo hi (nI jd) kind reach A i = ((fS w lo hi (nI jd) kind reach i).toInt - A.toInt).toNat := rfl
  unfold rwT at hT ⊢
  refine row_s hT (fun q => rP_out (by omega) (Or.inl ?_)) (fun q => rP_out (by omega) (Or.inr ?_)) (fun q1 q2 => ?_) (by rw [eK]; omega)
  · rw [eA]; omega
  · rw [eA]; omega
  · have eS : A + nI a = fS w lo hi (nI jd) kind reach i + nI (a - rwD w lo hi (nI jd) kind reach A i) := by
      apply Int32.toInt_inj.mp
      rw [eA, i_add (by rw [nI_toInt (by omega)]; omega) (by rw [nI_toInt (by omega)]; omega), nI_toInt (by omega)]
      omega
    rw [eS, rP_fr hw hjd hc, rP_ix hw hjd hc (by omega) (by omega)]
    unfold fSt
    rw [e0, e1, e2]
end RW
theorem rIn_c {w : vN} {LO HI : Nat → Int32} {m : Nat} (h : okS m LO HI) {jd : Nat} (hLH : ∀ e, e < 3 → e ≠ jd → LO e = vlo w e ∧ HI e = vhi w e) {e j k : Nat} (he : e < sN LO HI 0) (hj : j < sN LO HI 1) (hk : k < sN LO HI 2) : rIn w jd (rC (LO 0 + nI e) (LO 1 + nI j) (LO 2 + nI k)) := fun t ht hn => by
  have dd : ∀ {d a : Nat}, d < 3 → d ≠ jd → a < sN LO HI d → (vlo w d).toInt ≤ (LO d + nI a).toInt ∧ (LO d + nI a).toInt ≤ (vhi w d).toInt := fun {d a} hd hn ha => by
    have b := h.2.2.1 d hd
    have n := h.N hd
    have q := hLH d hd hn
    rw [← q.1, ← q.2, i_add (by rw [nI_toInt (by omega)]; omega) (by rw [nI_toInt (by omega)]; omega), nI_toInt (by omega)]
    omega
  rcases (show t = 0 ∨ t = 1 ∨ t = 2 by omega) with rfl | rfl | rfl
  · exact dd ht hn he
  · exact dd ht hn hj
  · exact dd ht hn hk
theorem fP_k {lo hi : Nat → Int32} {kind S : Int32} {i jd e : Nat} {c : Nat → Int32} (hk : ¬ kind = 0) (hjd : jd < 3) (he : e < 3) (p : pl3 lo hi i (nI e) = c e) : fP lo hi (nI jd) kind (nI e) S i = rP c jd S e := by
  unfold fP
  by_cases q : nI e = nI jd
  · rw [if_pos q, rP_y e hjd he q.symm]
  · rw [if_neg q, if_neg (fun z => hk z.1), rP_n e (fun z => q z.symm)]; exact p
/-- gather's rows -/
theorem gt_wd {jd : Nat} (hjd : jd < 3) {t x y : Int32} : wd0 (nI jd) t x = rP (rG jd x y) jd t 0 ∧ wd1 (nI jd) t x y = rP (rG jd x y) jd t 1 ∧ wd2 (nI jd) t y = rP (rG jd x y) jd t 2 := by
  rcases (show jd = 0 ∨ jd = 1 ∨ jd = 2 by omega) with rfl | rfl | rfl <;> exact ⟨rfl, rfl, rfl⟩
theorem gt_fP {jd : Nat} (hjd : jd < 3) {lo hi : Nat → Int32} {i : Nat} {x y : Int32} (p0 : pl3 lo hi i 0 = x) (p1 : pl3 lo hi i 1 = y) (S : Int32) : fP lo hi (nI jd) 0 0 S i = rP (rG jd x y) jd S 0 ∧ fP lo hi (nI jd) 0 1 S i = rP (rG jd x y) jd S 1 ∧ fP lo hi (nI jd) 0 2 S i = rP (rG jd x y) jd S 2 := by
  rcases (show jd = 0 ∨ jd = 1 ∨ jd = 2 by omega) with rfl | rfl | rfl
  · refine ⟨?_, ?_, ?_⟩
    · unfold fP; rw [if_pos (by decide)]; rfl
    · unfold fP; rw [if_neg (by decide), if_pos (by decide), show (1 - 1 : Int32) = 0 from by decide, p0]; rfl
    · unfold fP; rw [if_neg (by decide), if_pos (by decide), show (2 - 1 : Int32) = 1 from by decide, p1]; rfl
  · refine ⟨?_, ?_, ?_⟩
    · unfold fP; rw [if_neg (by decide), if_neg (by decide), p0]; rfl
    · unfold fP; rw [if_pos (by decide)]; rfl
    · unfold fP; rw [if_neg (by decide), if_pos (by decide), show (2 - 1 : Int32) = 1 from by decide, p1]; rfl
  · refine ⟨?_, ?_, ?_⟩
    · unfold fP; rw [if_neg (by decide), if_neg (by decide), p0]; rfl
    · unfold fP; rw [if_neg (by decide), if_neg (by decide), p1]; rfl
    · unfold fP; rw [if_pos (by decide)]; rfl
theorem gt_in {w : vN} {jd : Nat} (hjd : jd < 3) {m : Nat} (h : okS m (dr3 (vlo w) jd 3) (dr3 (vhi w) jd 3)) {e j : Nat} (he : e < sN (dr3 (vlo w) jd 3) (dr3 (vhi w) jd 3) 0) (hj : j < sN (dr3 (vlo w) jd 3) (dr3 (vhi w) jd 3) 1) : rIn w jd (rG jd (dr3 (vlo w) jd 3 0 + nI e) (dr3 (vlo w) jd 3 1 + nI j)) := fun t ht hn => by
  have dd : ∀ {d a : Nat}, d < 3 → a < sN (dr3 (vlo w) jd 3) (dr3 (vhi w) jd 3) d → (dr3 (vlo w) jd 3 d).toInt ≤ (dr3 (vlo w) jd 3 d + nI a).toInt ∧ (dr3 (vlo w) jd 3 d + nI a).toInt ≤ (dr3 (vhi w) jd 3 d).toInt := fun {d a} hd ha => by
    have b := h.2.2.1 d hd
    have n := h.N hd
    rw [i_add (by rw [nI_toInt (by omega)]; omega) (by rw [nI_toInt (by omega)]; omega), nI_toInt (by omega)]
    omega
  have q0 := dd (d := 0) (by decide) he
  have q1 := dd (d := 1) (by decide) hj
  rcases (show jd = 0 ∨ jd = 1 ∨ jd = 2 by omega) with rfl | rfl | rfl
  · rcases (show t = 1 ∨ t = 2 by omega) with rfl | rfl
    · exact q0
    · exact q1
  · rcases (show t = 0 ∨ t = 2 by omega) with rfl | rfl
    · exact q0
    · exact q1
  · rcases (show t = 0 ∨ t = 1 by omega) with rfl | rfl
    · exact q0
    · exact q1
theorem gt_row {m : Nat} {w : vN} {lo hi : Nat → Int32} (h : okS m (vlo w) (vhi w)) {jd : Nat} (hjd : jd < 3) {i : Nat} : rowOk w lo hi jd 0 0 (vlo w jd) (sN (vlo w) (vhi w) jd) i := by
  have a := h.2.2.1 jd hjd
  have n := h.N hjd
  obtain ⟨f1, f2⟩ := fK_gather h hjd (lo := lo) (hi := hi) (i := i)
  exact ⟨⟨by omega, by omega⟩, by omega, by omega, by omega⟩
theorem A_le {A : Int32} (h1 : -5000 ≤ A.toInt) (h2 : A.toInt ≤ 5000) {a b : Nat} (ha : a < 100000) (hb : b < 100000) : A + nI b ≤ A + nI a ↔ b ≤ a := by
  rw [Int32.le_iff_toInt_le, i_add (by rw [nI_toInt (by omega)]; omega) (by rw [nI_toInt (by omega)]; omega), i_add (by rw [nI_toInt (by omega)]; omega) (by rw [nI_toInt (by omega)]; omega), nI_toInt (by omega), nI_toInt (by omega)]
  omega
theorem mU_r {M : gMem} {r va za : Nat} {x y a z : va_E} (h1 : r ≠ va) (h2 : r ≠ za) : mU (mU (mU (mU M r x) va a) za z) r y = mU (mU (mU M r y) va a) za z := by
  funext q; unfold mU
  by_cases c1 : q = r
  · subst c1; simp [h1, h2]
  · simp [c1]
theorem mU_p {M : gMem} {pl r va za : Nat} {p p' x a z : va_E} (h0 : pl ≠ r) (h1 : pl ≠ va) (h2 : pl ≠ za) : mU (mU (mU (mU (mU M pl p) r x) va a) za z) pl p' = mU (mU (mU (mU M pl p') r x) va a) za z := by
  funext q; unfold mU
  by_cases c1 : q = pl
  · subst c1; simp [h0, h1, h2]
  · simp [c1]
