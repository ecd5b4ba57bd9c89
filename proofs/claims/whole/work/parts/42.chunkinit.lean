/-! the places of a chunk -/
section
variable {G : gV} {F : gF} {Q : State → Prop} {nL : Nat} {M M' : gMem} {rc rs pc : Nat} {lv : List (Nat × Value)} {st : List Value}
theorem q_memE (e : M = M') (kk : qJ G F Q nL M' rc rs pc lv st) : qJ G F Q nL M rc rs pc lv st := e ▸ kk
end
/-- three counters as one -/
def c3 (B C i j k : Nat) : Nat := (i * B + j) * C + k
theorem c3_k {B C i j : Nat} : c3 B C i j C = c3 B C i (j + 1) 0 := by
  unfold c3; rw [← Nat.add_assoc, Nat.add_mul _ 1 C]; omega
theorem c3_j {B C i : Nat} : c3 B C i B 0 = c3 B C (i + 1) 0 0 := by
  unfold c3; rw [Nat.add_mul i 1 B]; simp
theorem c3_ix {B C i j k : Nat} : c3 B C i j k = i * (B * C) + j * C + k := by
  unfold c3; rw [Nat.add_mul, Nat.mul_assoc]
theorem c3_lt {A B C i j k : Nat} (hi : i < A) (hj : j < B) (hk : k < C) : c3 B C i j k < A * B * C := by
  rw [c3_ix]; exact ix_lt hi hj hk
theorem c3_A {A B C : Nat} : c3 B C A 0 0 = A * B * C := by unfold c3; simp
theorem c3_0 {B C : Nat} : c3 B C 0 0 0 = 0 := by unfold c3; simp
theorem c3_i {B C i j k : Nat} (hj : j < B) (hk : k < C) : c3 B C i j k / (B * C) = i := by
  have h := ix_0 (A := i + 1) (a := i) (by omega) hj hk
  have h2 : c3 B C i j k / (B * C) < i + 1 := by
    have := c3_lt (A := i + 1) (i := i) (by omega) hj hk
    rw [Nat.mul_assoc, Nat.mul_comm] at this
    exact Nat.div_lt_of_lt_mul this
  rw [c3_ix] at h2 ⊢
  rw [Nat.mod_eq_of_lt h2] at h
  exact h
theorem c3_jj {B C i j k : Nat} (hj : j < B) (hk : k < C) : c3 B C i j k / C % B = j := by rw [c3_ix]; exact ix_1 hj hk
theorem c3_kk {B C i j k : Nat} (hk : k < C) : c3 B C i j k % C = k := by
  have := ix_2 (a := i) (b := j) (B := B) hk; rw [Nat.div_one] at this; rw [c3_ix]; exact this
theorem lo_le {lo : Int32} (h1 : -1000 ≤ lo.toInt) (h2 : lo.toInt ≤ 1000) {a b : Nat} (ha : a < 100000) (hb : b < 100000) : lo + nI a ≤ lo + nI b ↔ a ≤ b := by
  have e1 : (lo + nI a).toInt = lo.toInt + a := by rw [i_add (by rw [nI_toInt (by omega)]; omega) (by rw [nI_toInt (by omega)]; omega), nI_toInt (by omega)]
  have e2 : (lo + nI b).toInt = lo.toInt + b := by rw [i_add (by rw [nI_toInt (by omega)]; omega) (by rw [nI_toInt (by omega)]; omega), nI_toInt (by omega)]
  rw [Int32.le_iff_toInt_le, e1, e2]; omega
theorem lo_lt {lo : Int32} (h1 : -1000 ≤ lo.toInt) (h2 : lo.toInt ≤ 1000) {a b : Nat} (ha : a < 100000) (hb : b < 100000) : lo + nI a < lo + nI b ↔ a < b := by
  rw [← Int32.not_le, lo_le h1 h2 hb ha]; omega
theorem lo_s {lo : Int32} {a : Nat} : lo + nI a + 1 = lo + nI (a + 1) := by rw [← nI_1, Int32.add_assoc]
theorem lo_0 {lo : Int32} : lo + nI 0 = lo := by show lo + 0 = lo; exact Int32.add_zero lo
theorem okS.lo {m : Nat} {lo hi : Nat → Int32} (h : okS m lo hi) {d : Nat} (hd : d < 3) : -1000 ≤ (lo d).toInt ∧ (lo d).toInt ≤ 1000 := by
  have := h.2.2.1 d hd; omega
theorem okS.hi {m : Nat} {lo hi : Nat → Int32} (h : okS m lo hi) {d : Nat} (hd : d < 3) : hi d = lo d + nI (sN lo hi d - 1) := by
  have h1 := h.2.2.1 d hd
  have h2 := h.N hd
  apply Int32.toInt_inj.mp
  rw [i_add (by rw [nI_toInt (by omega)]; omega) (by rw [nI_toInt (by omega)]; omega), nI_toInt (by omega)]
  omega
/-- the chunk that begins at X, Y, Z: how wide it is, its places -/
def ckW (s X : Nat) : Nat := min 4 (s - X)
def ckN (A B C X Y Z : Nat) : Nat := ckW A X * ckW B Y * ckW C Z
def ckP (B C X Y Z v w j : Nat) : Nat := (X + j / (v * w)) * (B * C) + (Y + j / w % v) * C + (Z + j % w)
theorem ckP_c3 {B C X Y Z v w i j k : Nat} (hj : j < v) (hk : k < w) : ckP B C X Y Z v w (c3 v w i j k) = (X + i) * (B * C) + (Y + j) * C + (Z + k) := by
  unfold ckP; rw [c3_i hj hk, c3_jj hj hk, c3_kk hk]
theorem ck_end {m : Nat} {lo hi : Nat → Int32} (h : okS m lo hi) {d : Nat} (hd : d < 3) {X : Nat} (hX : X < sN lo hi d) : mnI (lo d + nI X + 4 - 1) (hi d) = lo d + nI (X + (ckW (sN lo hi d) X - 1)) := by
  have h2 := h.N hd
  have e4 : lo d + nI X + 4 - 1 = lo d + nI (X + 3) := by
    apply Int32.toInt_inj.mp
    have l := h.lo hd
    have e : (4 : Int32).toInt = 4 := by decide
    have e1 : (1 : Int32).toInt = 1 := by decide
    have a1 : (lo d + nI X).toInt = (lo d).toInt + X := by rw [i_add (by rw [nI_toInt (by omega)]; omega) (by rw [nI_toInt (by omega)]; omega), nI_toInt (by omega)]
    have a2 : (lo d + nI X + 4).toInt = (lo d).toInt + X + 4 := by rw [i_add (by rw [a1, e]; omega) (by rw [a1, e]; omega), a1, e]
    rw [i_sub (by rw [a2, e1]; omega) (by rw [a2, e1]; omega), a2, e1, i_add (by rw [nI_toInt (by omega)]; omega) (by rw [nI_toInt (by omega)]; omega), nI_toInt (by omega)]
    omega
  have l := h.lo hd
  rw [e4, h.hi hd]
  unfold mnI ckW
  by_cases c : sN lo hi d - 1 < X + 3
  · rw [if_pos ((lo_lt l.1 l.2 (by omega) (by omega)).mpr c)]
    congr 2; omega
  · rw [if_neg (fun z => c ((lo_lt l.1 l.2 (by omega) (by omega)).mp z))]
    congr 2; omega
theorem ck_len {lo : Int32} (h1 : -1000 ≤ lo.toInt) (h2 : lo.toInt ≤ 1000) {X w : Nat} (hX : X < 10000) (hw : w ≤ 100) (hw1 : 1 ≤ w) : lo + nI (X + (w - 1)) - (lo + nI X) + 1 = nI w := by
  apply i_nI
  have a1 : (lo + nI X).toInt = lo.toInt + X := by rw [i_add (by rw [nI_toInt (by omega)]; omega) (by rw [nI_toInt (by omega)]; omega), nI_toInt (by omega)]
  have a2 : (lo + nI (X + (w - 1))).toInt = lo.toInt + (X + (w - 1) : Nat) := by rw [i_add (by rw [nI_toInt (by omega)]; omega) (by rw [nI_toInt (by omega)]; omega), nI_toInt (by omega)]
  have a3 : (lo + nI (X + (w - 1)) - (lo + nI X)).toInt = (w - 1 : Nat) := by rw [i_sub (by rw [a1, a2]; omega) (by rw [a1, a2]; omega), a1, a2]; omega
  rw [i_add (by rw [a3, i_one]; omega) (by rw [a3, i_one]; omega), a3, i_one]; omega
theorem ck_mul {a b c : Nat} (ha : a ≤ 4) (hb : b ≤ 4) (hc : c ≤ 4) : a * b * c ≤ 64 := Nat.le_trans (Nat.mul_le_mul (Nat.mul_le_mul ha hb) hc) (by decide)
theorem nI_mul9 {a b : Nat} : nI a * nI b = nI (a * b) := by unfold nI; rw [Int32.ofNat_mul]
theorem nI_mul3 {a b c : Nat} : nI a * nI b * nI c = nI (a * b * c) := by rw [nI_mul9, nI_mul9]
theorem mxI_N0 {n : Nat} (h : n < 2 ^ 31) : mxI (nI n) 0 = nI n := by
  unfold mxI; rw [if_neg (nI_pos h)]
theorem ck_ix {m : Nat} {lo hi : Nat → Int32} (h : okS m lo hi) {n : Int32} (hn : n = nI m) (hz : sz3 lo hi < 2 ^ 31) {a b c : Nat} (ha : a < sN lo hi 0) (hb : b < sN lo hi 1) (hc : c < sN lo hi 2) : sIdx n lo hi (lo 0 + nI a) (lo 1 + nI b) (lo 2 + nI c) = nI (a * (sN lo hi 1 * sN lo hi 2) + b * sN lo hi 2 + c) := by
  have t : ∀ {d q : Nat}, d < 3 → q < sN lo hi d → (lo d + nI q).toInt = (lo d).toInt + q := fun {d q} hd hq => by
    have l := h.lo hd; have := h.N hd
    rw [i_add (by rw [nI_toInt (by omega)]; omega) (by rw [nI_toInt (by omega)]; omega), nI_toInt (by omega)]
  have ins : ∀ {d q : Nat}, d < 3 → q < sN lo hi d → inD m lo hi d (lo d + nI q) := fun {d q} hd hq hm => by
    have := h.N hd; have := t hd hq; have := h.2.2.1 d hd; omega
  have po : ∀ {d q : Nat}, d < 3 → q < sN lo hi d → pos m lo d (lo d + nI q) = q := fun {d q} hd hq => by
    unfold pos
    by_cases hm : d < m
    · rw [if_pos hm, t hd hq]; omega
    · rw [if_neg hm]; have := h.one hd (Nat.le_of_not_lt hm); omega
  rw [sIdx_in h hn hz ⟨ins (by decide) ha, ins (by decide) hb, ins (by decide) hc⟩]
  unfold ixS
  rw [po (by decide) ha, po (by decide) hb, po (by decide) hc]
/-- the row of places, filled up to c -/
def ckF (B C X Y Z v w c : Nat) : Nat → Int32 := fun j => if j < c then nI (ckP B C X Y Z v w j) else 0
theorem ckF_0 {B C X Y Z v w : Nat} : ckF B C X Y Z v w 0 = fun _ => 0 := by funext j; simp [ckF]
theorem ckF_s {B C X Y Z v w c : Nat} : upd (ckF B C X Y Z v w c) c (nI (ckP B C X Y Z v w c)) = ckF B C X Y Z v w (c + 1) := by
  funext j; unfold upd ckF
  by_cases e : j = c
  · subst e; simp
  · rw [if_neg e]; by_cases h : j < c
    · rw [if_pos h, if_pos (by omega)]
    · rw [if_neg h, if_neg (by omega)]
/-- a chunk was made -/
def ckQ (G : gV) (M : gMem) (a A B C X Y Z : Nat) : Option Value → gMem → Prop := fun v M' => v = none ∧ isChunk G M' a (ckN A B C X Y Z) (A * B * C) (ckP B C X Y Z (ckW B Y) (ckW C Z)) ∧ (∃ p : Nat, M p = none ∧ p ≠ a ∧ ∀ q, q ≠ a → q ≠ p → M' q = M q)

theorem mU_3 {M : gMem} {p a : Nat} {e f g : va_E} (h : p ≠ a) : mU (mU (mU M p e) a f) p g = mU (mU M p g) a f := by
  funext q; unfold mU
  by_cases h1 : q = p
  · by_cases h2 : q = a
    · exact absurd (h1.symm.trans h2) h
    · rw [if_pos h1, if_neg h2, if_pos h1]
  · by_cases h2 : q = a
    · rw [if_neg h1, if_pos h2, if_pos h2]
    · rw [if_neg h1, if_neg h2, if_neg h1, if_neg h2, if_neg h1]

set_option maxRecDepth 20000 in
theorem c_X1_init {l : Launch} {G : gV} {M : gMem} {a sh m X1 Y Z : Nat} {lo hi : Nat → Int32} (hA : M a = some (oB 2 [.null])) (hS : isShape G M sh (nI m) lo hi) (hO : okS m lo hi) (hX : X1 < sN lo hi 0) (hY : Y < sN lo hi 1) (hZ : Z < sN lo hi 2) (hz : sz3 lo hi ≤ 4096) : qC l G yX1_init cX1_init 13 none 4 1 64 [.ref a, .ref sh, .int (lo 0 + nI X1), .int (lo 1 + nI Y), .int (lo 2 + nI Z)] M (ckQ G M a (sN lo hi 0) (sN lo hi 1) (sN lo hi 2) X1 Y Z) := by
  refine qC_of (by decide +kernel) (Nat.le_of_ble_eq_true rfl) (fun F hF X0 hr hn => ?_)
  subst hF
  have X : qX G F cX1_init 13 RX1 4 := X0
  clear X0
  have hN0 := hO.N (d := 0) (by decide)
  have hN1 := hO.N (d := 1) (by decide)
  have hN2 := hO.N (d := 2) (by decide)
  have l0 := hO.lo (d := 0) (by decide)
  have l1 := hO.lo (d := 1) (by decide)
  have l2 := hO.lo (d := 2) (by decide)
  obtain ⟨sb, sc, sd, sp, s1, s2, s3, s4, s5⟩ := id hS
  have u1 : 1 ≤ ckW (sN lo hi 0) X1 ∧ ckW (sN lo hi 0) X1 ≤ 4 ∧ X1 + ckW (sN lo hi 0) X1 ≤ sN lo hi 0 := by unfold ckW; omega
  have v1 : 1 ≤ ckW (sN lo hi 1) Y ∧ ckW (sN lo hi 1) Y ≤ 4 ∧ Y + ckW (sN lo hi 1) Y ≤ sN lo hi 1 := by unfold ckW; omega
  have w1 : 1 ≤ ckW (sN lo hi 2) Z ∧ ckW (sN lo hi 2) Z ≤ 4 ∧ Z + ckW (sN lo hi 2) Z ≤ sN lo hi 2 := by unfold ckW; omega
  have e64 : (ckW (sN lo hi 0) X1) * (ckW (sN lo hi 1) Y) * (ckW (sN lo hi 2) Z) ≤ 64 := ck_mul u1.2.1 v1.2.1 w1.2.1
  obtain ⟨u, eu⟩ : ∃ u, u = ckW (sN lo hi 0) X1 := ⟨_, rfl⟩
  obtain ⟨v, ev⟩ : ∃ v, v = ckW (sN lo hi 1) Y := ⟨_, rfl⟩
  obtain ⟨w, ew⟩ : ∃ w, w = ckW (sN lo hi 2) Z := ⟨_, rfl⟩
  rw [← eu] at u1 e64
  rw [← ev] at v1 e64
  rw [← ew] at w1 e64
  have loops : ∀ p : Nat, M p = none → p ≠ a → qJ G F (qQ G F (ckQ G M a (sN lo hi 0) (sN lo hi 1) (sN lo hi 2) X1 Y Z)) 13 (mU (mU M p (aI G (u * v * w) (ckF (sN lo hi 1) (sN lo hi 2) X1 Y Z v w (c3 v w 0 0 0)))) a (oB 2 [.ref p])) 0 0 91 [(0, .ref a), (1, .ref sh), (2, .int (lo 0 + nI X1)), (3, .int (lo 1 + nI Y)), (4, .int (lo 2 + nI Z)), (5, .int (lo 0 + nI (X1 + (u - 1)))), (6, .int (lo 1 + nI (Y + (v - 1)))), (7, .int (lo 2 + nI (Z + (w - 1)))), (9, .int (nI (c3 v w 0 0 0))), (10, .int (lo 0 + nI (X1 + 0)))] [] := by
    intro p hp hpa
    have hAs : ∀ c, (mU (mU M p (aI G (u * v * w) (ckF (sN lo hi 1) (sN lo hi 2) X1 Y Z v w (c)))) a (oB 2 [.ref p])) sh = some (oB 7 [.int (nI m), .ref sb, .ref sc, .ref sp.2.1, .ref sd, .int (sL lo hi 0 * sL lo hi 1 * sL lo hi 2)]) := fun c => (mU_n (fun z => by rw [z, hA] at s1; cases s1)).trans ((mU_n (fun z => by rw [z, hp] at s1; cases s1)).trans s1)
    have hSh : ∀ c, isShape G (mU (mU M p (aI G (u * v * w) (ckF (sN lo hi 1) (sN lo hi 2) X1 Y Z v w (c)))) a (oB 2 [.ref p])) sh (nI m) lo hi := fun c => hS.mv (fun x hx => (mU_n (fun z => by rw [z, hA] at hx; rcases hx with ⟨_, h⟩ | ⟨_, h⟩ <;> cases h)).trans (mU_n (fun z => by rw [z, hp] at hx; rcases hx with ⟨_, h⟩ | ⟨_, h⟩ <;> cases h)))
    have hPp : ∀ c, (mU (mU M p (aI G (u * v * w) (ckF (sN lo hi 1) (sN lo hi 2) X1 Y Z v w (c)))) a (oB 2 [.ref p])) p = some (aI G (u * v * w) (ckF (sN lo hi 1) (sN lo hi 2) X1 Y Z v w c)) := fun c => (mU_n hpa).trans mU_s
    have hfin : qJ G F (qQ G F (ckQ G M a (sN lo hi 0) (sN lo hi 1) (sN lo hi 2) X1 Y Z)) 13 (mU (mU M p (aI G (u * v * w) (ckF (sN lo hi 1) (sN lo hi 2) X1 Y Z v w (c3 v w u 0 0)))) a (oB 2 [.ref p])) 0 0 167 [(0, .ref a), (1, .ref sh), (2, .int (lo 0 + nI X1)), (3, .int (lo 1 + nI Y)), (4, .int (lo 2 + nI Z)), (5, .int (lo 0 + nI (X1 + (u - 1)))), (6, .int (lo 1 + nI (Y + (v - 1)))), (7, .int (lo 2 + nI (Z + (w - 1))))] [] := by
      refine q_vret X hr dX1_init_167 ⟨rfl, ?_, p, hp, hpa, fun q q1 q2 => (mU_n q1).trans (mU_n q2)⟩
      unfold ckN
      rw [← eu, ← ev, ← ew]
      refine ⟨p, _, mU_s, hPp _, e64, fun j hj => ⟨?_, ?_⟩⟩
      · unfold ckF; rw [if_pos (by rw [c3_A]; exact hj)]
      · unfold ckP
        have hw0 : 0 < w := by omega
        have hv0 : 0 < v := by omega
        refine ix_lt ?_ ?_ ?_
        · have : j / (v * w) < u := Nat.div_lt_of_lt_mul (by rw [Nat.mul_comm, ← Nat.mul_assoc]; exact hj)
          omega
        · have := Nat.mod_lt (j / w) hv0; omega
        · have := Nat.mod_lt j hw0; omega
    have L2 : ∀ (e j : Nat) (he : e < u) (hj : j < v) (kk : qJ G F (qQ G F (ckQ G M a (sN lo hi 0) (sN lo hi 1) (sN lo hi 2) X1 Y Z)) 13 (mU (mU M p (aI G (u * v * w) (ckF (sN lo hi 1) (sN lo hi 2) X1 Y Z v w (c3 v w e j w)))) a (oB 2 [.ref p])) 0 0 155 [(0, .ref a), (1, .ref sh), (2, .int (lo 0 + nI X1)), (3, .int (lo 1 + nI Y)), (4, .int (lo 2 + nI Z)), (5, .int (lo 0 + nI (X1 + (u - 1)))), (6, .int (lo 1 + nI (Y + (v - 1)))), (7, .int (lo 2 + nI (Z + (w - 1)))), (9, .int (nI (c3 v w e j w))), (10, .int (lo 0 + nI (X1 + e))), (11, .int (lo 1 + nI (Y + j)))] []) (t k : Nat), k + t = w → qJ G F (qQ G F (ckQ G M a (sN lo hi 0) (sN lo hi 1) (sN lo hi 2) X1 Y Z)) 13 (mU (mU M p (aI G (u * v * w) (ckF (sN lo hi 1) (sN lo hi 2) X1 Y Z v w (c3 v w e j k)))) a (oB 2 [.ref p])) 0 0 112 [(0, .ref a), (1, .ref sh), (2, .int (lo 0 + nI X1)), (3, .int (lo 1 + nI Y)), (4, .int (lo 2 + nI Z)), (5, .int (lo 0 + nI (X1 + (u - 1)))), (6, .int (lo 1 + nI (Y + (v - 1)))), (7, .int (lo 2 + nI (Z + (w - 1)))), (9, .int (nI (c3 v w e j k))), (10, .int (lo 0 + nI (X1 + e))), (11, .int (lo 1 + nI (Y + j))), (12, .int (lo 2 + nI (Z + k)))] [] := by
      intro e j he hj kk t
      induction t with
      | zero =>
        intro k hk0
        obtain rfl : k = w := by omega
        refine q_iload X dX1_init_112 11 rfl ?_
        refine q_iload X dX1_init_114 7 rfl ?_
        refine q_icmp_gt X 155 dX1_init_116 (by decide) (fun c_1 => ?_) (fun c_1 => absurd ((lo_lt l2.1 l2.2 (by omega) (by omega)).mpr (by omega)) c_1)
        refine q_sub [0, 1, 2, 3, 4, 5, 6, 7, 8, 9, 10] rfl ?_
        exact kk
      | succ t ih =>
        intro k hk0
        have hk : k < w := by omega
        have hc9 := c3_lt he hj hk
        refine q_iload X dX1_init_112 11 rfl ?_
        refine q_iload X dX1_init_114 7 rfl ?_
        refine q_icmp_gt X 155 dX1_init_116 (by decide) (fun c_2 => absurd ((lo_lt l2.1 l2.2 (by omega) (by omega)).mp c_2) (by omega)) (fun c_2 => ?_)
        refine q_iload X dX1_init_119 8 rfl ?_
        refine q_aload_n X dX1_init_121 0 rfl ?_
        refine q_get X mU_s rfl in_RX1 0 (by decide) tw_273 rfl rfl dX1_init_122 ?_
        refine q_alen X 0 (hPp _) rfl dX1_init_125 ?_
        refine q_icmp_ge X 155 dX1_init_126 (by decide) (fun c_3 => absurd c_3 (nI_ge (c3_lt he hj hk) (by omega))) (fun c_3 => ?_)
        refine q_aload_n X dX1_init_129 0 rfl ?_
        refine q_get X mU_s rfl in_RX1 0 (by decide) tw_273 rfl rfl dX1_init_130 ?_
        refine q_iload X dX1_init_133 8 rfl ?_
        refine q_aload_n X dX1_init_135 1 rfl ?_
        refine q_iload X dX1_init_136 9 rfl ?_
        refine q_iload X dX1_init_138 10 rfl ?_
        refine q_iload X dX1_init_140 11 rfl ?_
        refine q_callVp X (c_X7_indexOf (hSh _)) Y_X7_indexOf tw_261 tw_262 tw_263 (hAs _) rfl (by decide) rfl rfl (Nat.le_of_ble_eq_true rfl) dX1_init_142 ?_
        rw [ck_ix hO rfl (by omega) (show X1 + e < _ by omega) (show Y + j < _ by omega) (show Z + k < _ by omega), ← ckP_c3 (v := v) (w := w) hj hk]
        refine q_iastN X (c3 v w e j k) (hPp _) (rfl) (c3_lt he hj hk) (by omega) dX1_init_145 ?_
        have m_4 : (mU (mU (mU M p (aI G (u * v * w) (ckF (sN lo hi 1) (sN lo hi 2) X1 Y Z v w (c3 v w e j k)))) a (oB 2 [.ref p])) p (aI G (u * v * w) (upd (ckF (sN lo hi 1) (sN lo hi 2) X1 Y Z v w (c3 v w e j k)) (c3 v w e j k) (nI (ckP (sN lo hi 1) (sN lo hi 2) X1 Y Z v w (c3 v w e j k)))))) a = some (oB 2 [.ref p]) := (mU_n (Ne.symm hpa)).trans mU_s
        have m_5 : (mU (mU (mU M p (aI G (u * v * w) (ckF (sN lo hi 1) (sN lo hi 2) X1 Y Z v w (c3 v w e j k)))) a (oB 2 [.ref p])) p (aI G (u * v * w) (upd (ckF (sN lo hi 1) (sN lo hi 2) X1 Y Z v w (c3 v w e j k)) (c3 v w e j k) (nI (ckP (sN lo hi 1) (sN lo hi 2) X1 Y Z v w (c3 v w e j k)))))) p = some (aI G (u * v * w) (upd (ckF (sN lo hi 1) (sN lo hi 2) X1 Y Z v w (c3 v w e j k)) (c3 v w e j k) (nI (ckP (sN lo hi 1) (sN lo hi 2) X1 Y Z v w (c3 v w e j k))))) := mU_s
        have m_6 : (mU (mU (mU M p (aI G (u * v * w) (ckF (sN lo hi 1) (sN lo hi 2) X1 Y Z v w (c3 v w e j k)))) a (oB 2 [.ref p])) p (aI G (u * v * w) (upd (ckF (sN lo hi 1) (sN lo hi 2) X1 Y Z v w (c3 v w e j k)) (c3 v w e j k) (nI (ckP (sN lo hi 1) (sN lo hi 2) X1 Y Z v w (c3 v w e j k)))))) sh = some (oB 7 [.int (nI m), .ref sb, .ref sc, .ref sp.2.1, .ref sd, .int (sL lo hi 0 * sL lo hi 1 * sL lo hi 2)]) := (mU_n ((fun z => by rw [z, hp] at s1; cases s1))).trans (hAs _)
        refine q_iinc (v := (nI (c3 v w e j (k + 1)))) (lv' := [(9, .int (nI (c3 v w e j (k + 1)))), (0, .ref a), (1, .ref sh), (2, .int (lo 0 + nI X1)), (3, .int (lo 1 + nI Y)), (4, .int (lo 2 + nI Z)), (5, .int (lo 0 + nI (X1 + (u - 1)))), (6, .int (lo 1 + nI (Y + (v - 1)))), (7, .int (lo 2 + nI (Z + (w - 1)))), (10, .int (lo 0 + nI (X1 + e))), (11, .int (lo 1 + nI (Y + j))), (12, .int (lo 2 + nI (Z + k)))]) X dX1_init_146 8 rfl (nI_1 _) (by decide) rfl ?_
        refine q_iinc (v := (lo 2 + nI (Z + (k + 1)))) (lv' := [(12, .int (lo 2 + nI (Z + (k + 1)))), (9, .int (nI (c3 v w e j (k + 1)))), (0, .ref a), (1, .ref sh), (2, .int (lo 0 + nI X1)), (3, .int (lo 1 + nI Y)), (4, .int (lo 2 + nI Z)), (5, .int (lo 0 + nI (X1 + (u - 1)))), (6, .int (lo 1 + nI (Y + (v - 1)))), (7, .int (lo 2 + nI (Z + (w - 1)))), (10, .int (lo 0 + nI (X1 + e))), (11, .int (lo 1 + nI (Y + j)))]) X dX1_init_149 11 rfl (lo_s) (by decide) rfl ?_
        refine q_goto X 112 dX1_init_152 (by decide) ?_
        refine q_sub [2, 3, 4, 5, 6, 7, 8, 9, 1, 10, 11, 0] rfl ?_
        refine q_memE (M' := mU (mU M p (aI G (u * v * w) (ckF (sN lo hi 1) (sN lo hi 2) X1 Y Z v w (c3 v w e j (k + 1))))) a (oB 2 [.ref p])) (by rw [show c3 v w e j (k + 1) = c3 v w e j k + 1 from rfl, ← ckF_s]; exact mU_3 hpa) ?_
        exact ih (k + 1) (by omega)
    have L1 : ∀ (e : Nat) (he : e < u) (kk : qJ G F (qQ G F (ckQ G M a (sN lo hi 0) (sN lo hi 1) (sN lo hi 2) X1 Y Z)) 13 (mU (mU M p (aI G (u * v * w) (ckF (sN lo hi 1) (sN lo hi 2) X1 Y Z v w (c3 v w e v 0)))) a (oB 2 [.ref p])) 0 0 161 [(0, .ref a), (1, .ref sh), (2, .int (lo 0 + nI X1)), (3, .int (lo 1 + nI Y)), (4, .int (lo 2 + nI Z)), (5, .int (lo 0 + nI (X1 + (u - 1)))), (6, .int (lo 1 + nI (Y + (v - 1)))), (7, .int (lo 2 + nI (Z + (w - 1)))), (9, .int (nI (c3 v w e v 0))), (10, .int (lo 0 + nI (X1 + e)))] []) (t j : Nat), j + t = v → qJ G F (qQ G F (ckQ G M a (sN lo hi 0) (sN lo hi 1) (sN lo hi 2) X1 Y Z)) 13 (mU (mU M p (aI G (u * v * w) (ckF (sN lo hi 1) (sN lo hi 2) X1 Y Z v w (c3 v w e j 0)))) a (oB 2 [.ref p])) 0 0 101 [(0, .ref a), (1, .ref sh), (2, .int (lo 0 + nI X1)), (3, .int (lo 1 + nI Y)), (4, .int (lo 2 + nI Z)), (5, .int (lo 0 + nI (X1 + (u - 1)))), (6, .int (lo 1 + nI (Y + (v - 1)))), (7, .int (lo 2 + nI (Z + (w - 1)))), (9, .int (nI (c3 v w e j 0))), (10, .int (lo 0 + nI (X1 + e))), (11, .int (lo 1 + nI (Y + j)))] [] := by
      intro e he kk t
      induction t with
      | zero =>
        intro j hj0
        obtain rfl : j = v := by omega
        refine q_iload X dX1_init_101 10 rfl ?_
        refine q_iload X dX1_init_103 6 rfl ?_
        refine q_icmp_gt X 161 dX1_init_105 (by decide) (fun c_7 => ?_) (fun c_7 => absurd ((lo_lt l1.1 l1.2 (by omega) (by omega)).mpr (by omega)) c_7)
        refine q_sub [0, 1, 2, 3, 4, 5, 6, 7, 8, 9] rfl ?_
        exact kk
      | succ t ih =>
        intro j hj0
        have hj : j < v := by omega
        refine q_iload X dX1_init_101 10 rfl ?_
        refine q_iload X dX1_init_103 6 rfl ?_
        refine q_icmp_gt X 161 dX1_init_105 (by decide) (fun c_8 => absurd ((lo_lt l1.1 l1.2 (by omega) (by omega)).mp c_8) (by omega)) (fun c_8 => ?_)
        refine q_iload X dX1_init_108 4 rfl ?_
        refine q_istore (lv' := [(12, .int (lo 2 + nI Z)), (0, .ref a), (1, .ref sh), (2, .int (lo 0 + nI X1)), (3, .int (lo 1 + nI Y)), (4, .int (lo 2 + nI Z)), (5, .int (lo 0 + nI (X1 + (u - 1)))), (6, .int (lo 1 + nI (Y + (v - 1)))), (7, .int (lo 2 + nI (Z + (w - 1)))), (9, .int (nI (c3 v w e j 0))), (10, .int (lo 0 + nI (X1 + e))), (11, .int (lo 1 + nI (Y + j)))]) X dX1_init_110 (by decide) rfl ?_
        refine q_sub [1, 2, 3, 4, 5, 6, 7, 8, 9, 10, 11, 0] rfl ?_
        refine L2 e j he hj ?_ w 0 (by omega)
        rw [c3_k]
        refine q_iinc (v := (lo 1 + nI (Y + (j + 1)))) (lv' := [(11, .int (lo 1 + nI (Y + (j + 1)))), (0, .ref a), (1, .ref sh), (2, .int (lo 0 + nI X1)), (3, .int (lo 1 + nI Y)), (4, .int (lo 2 + nI Z)), (5, .int (lo 0 + nI (X1 + (u - 1)))), (6, .int (lo 1 + nI (Y + (v - 1)))), (7, .int (lo 2 + nI (Z + (w - 1)))), (9, .int (nI (c3 v w e (j + 1) 0))), (10, .int (lo 0 + nI (X1 + e)))]) X dX1_init_155 10 rfl (lo_s) (by decide) rfl ?_
        refine q_goto X 101 dX1_init_158 (by decide) ?_
        refine q_sub [1, 2, 3, 4, 5, 6, 7, 8, 9, 10, 0] rfl ?_
        exact ih (j + 1) (by omega)
    have L0 : ∀ (kk : qJ G F (qQ G F (ckQ G M a (sN lo hi 0) (sN lo hi 1) (sN lo hi 2) X1 Y Z)) 13 (mU (mU M p (aI G (u * v * w) (ckF (sN lo hi 1) (sN lo hi 2) X1 Y Z v w (c3 v w u 0 0)))) a (oB 2 [.ref p])) 0 0 167 [(0, .ref a), (1, .ref sh), (2, .int (lo 0 + nI X1)), (3, .int (lo 1 + nI Y)), (4, .int (lo 2 + nI Z)), (5, .int (lo 0 + nI (X1 + (u - 1)))), (6, .int (lo 1 + nI (Y + (v - 1)))), (7, .int (lo 2 + nI (Z + (w - 1))))] []) (t e : Nat), e + t = u → qJ G F (qQ G F (ckQ G M a (sN lo hi 0) (sN lo hi 1) (sN lo hi 2) X1 Y Z)) 13 (mU (mU M p (aI G (u * v * w) (ckF (sN lo hi 1) (sN lo hi 2) X1 Y Z v w (c3 v w e 0 0)))) a (oB 2 [.ref p])) 0 0 91 [(0, .ref a), (1, .ref sh), (2, .int (lo 0 + nI X1)), (3, .int (lo 1 + nI Y)), (4, .int (lo 2 + nI Z)), (5, .int (lo 0 + nI (X1 + (u - 1)))), (6, .int (lo 1 + nI (Y + (v - 1)))), (7, .int (lo 2 + nI (Z + (w - 1)))), (9, .int (nI (c3 v w e 0 0))), (10, .int (lo 0 + nI (X1 + e)))] [] := by
      intro  kk t
      induction t with
      | zero =>
        intro e he0
        obtain rfl : e = u := by omega
        refine q_iload X dX1_init_91 9 rfl ?_
        refine q_iload X dX1_init_93 5 rfl ?_
        refine q_icmp_gt X 167 dX1_init_95 (by decide) (fun c_9 => ?_) (fun c_9 => absurd ((lo_lt l0.1 l0.2 (by omega) (by omega)).mpr (by omega)) c_9)
        refine q_sub [0, 1, 2, 3, 4, 5, 6, 7] rfl ?_
        exact kk
      | succ t ih =>
        intro e he0
        have he : e < u := by omega
        refine q_iload X dX1_init_91 9 rfl ?_
        refine q_iload X dX1_init_93 5 rfl ?_
        refine q_icmp_gt X 167 dX1_init_95 (by decide) (fun c_10 => absurd ((lo_lt l0.1 l0.2 (by omega) (by omega)).mp c_10) (by omega)) (fun c_10 => ?_)
        refine q_iload_n X dX1_init_98 3 rfl ?_
        refine q_istore (lv' := [(11, .int (lo 1 + nI Y)), (0, .ref a), (1, .ref sh), (2, .int (lo 0 + nI X1)), (3, .int (lo 1 + nI Y)), (4, .int (lo 2 + nI Z)), (5, .int (lo 0 + nI (X1 + (u - 1)))), (6, .int (lo 1 + nI (Y + (v - 1)))), (7, .int (lo 2 + nI (Z + (w - 1)))), (9, .int (nI (c3 v w e 0 0))), (10, .int (lo 0 + nI (X1 + e)))]) X dX1_init_99 (by decide) rfl ?_
        refine q_sub [1, 2, 3, 4, 5, 6, 7, 8, 9, 10, 0] rfl ?_
        refine L1 e he ?_ v 0 (by omega)
        rw [c3_j]
        refine q_iinc (v := (lo 0 + nI (X1 + (e + 1)))) (lv' := [(10, .int (lo 0 + nI (X1 + (e + 1)))), (0, .ref a), (1, .ref sh), (2, .int (lo 0 + nI X1)), (3, .int (lo 1 + nI Y)), (4, .int (lo 2 + nI Z)), (5, .int (lo 0 + nI (X1 + (u - 1)))), (6, .int (lo 1 + nI (Y + (v - 1)))), (7, .int (lo 2 + nI (Z + (w - 1)))), (9, .int (nI (c3 v w (e + 1) 0 0)))]) X dX1_init_161 9 rfl (lo_s) (by decide) rfl ?_
        refine q_goto X 91 dX1_init_164 (by decide) ?_
        refine q_sub [1, 2, 3, 4, 5, 6, 7, 8, 9, 0] rfl ?_
        exact ih (e + 1) (by omega)
    exact L0 hfin u 0 (by omega)
  show qJ G F _ 13 M 1 64 0 [(0, .ref a), (1, .ref sh), (2, .int (lo 0 + nI X1)), (3, .int (lo 1 + nI Y)), (4, .int (lo 2 + nI Z))] []
  refine q_aload_n X dX1_init_0 0 rfl ?_
  refine q_obj X tw_257 tw_38 tw_39 (by decide) (Nat.le_of_ble_eq_true rfl) dX1_init_1 ?_
  refine q_iload_n X dX1_init_4 2 rfl ?_
  refine q_iconst (v := 4) X dX1_init_5 (by decide) ?_
  refine q_iadd X dX1_init_6 ?_
  refine q_iconst (v := 1) X dX1_init_7 (by decide) ?_
  refine q_isub X dX1_init_8 ?_
  refine q_aload_n X dX1_init_9 1 rfl ?_
  refine q_iconst (v := 0) X dX1_init_10 (by decide) ?_
  refine q_callVp X (c_X7_highN hS.lh 0 (by decide) (by decide)) Y_X7_high tw_258 tw_73 tw_74 s1 rfl (by decide) rfl rfl (Nat.le_of_ble_eq_true rfl) dX1_init_11 ?_
  refine q_callSp X (c_J9_min_7cf53) Y_J9_min_7cf53 tw_259 tw_239 (by decide) rfl rfl (Nat.le_of_ble_eq_true rfl) dX1_init_14 ?_
  rw [ck_end hO (d := 0) (by decide) hX, ← eu]
  refine q_istore (lv' := [(5, .int (lo 0 + nI (X1 + (u - 1)))), (0, .ref a), (1, .ref sh), (2, .int (lo 0 + nI X1)), (3, .int (lo 1 + nI Y)), (4, .int (lo 2 + nI Z))]) X dX1_init_17 (by decide) rfl ?_
  refine q_iload_n X dX1_init_19 4 rfl ?_
  refine q_iconst (v := 4) X dX1_init_20 (by decide) ?_
  refine q_iadd X dX1_init_21 ?_
  refine q_iconst (v := 1) X dX1_init_22 (by decide) ?_
  refine q_isub X dX1_init_23 ?_
  refine q_aload_n X dX1_init_24 2 rfl ?_
  refine q_iconst (v := 1) X dX1_init_25 (by decide) ?_
  refine q_callVp X (c_X7_highN hS.lh 1 (by decide) (by decide)) Y_X7_high tw_258 tw_73 tw_74 s1 rfl (by decide) rfl rfl (Nat.le_of_ble_eq_true rfl) dX1_init_26 ?_
  refine q_callSp X (c_J9_min_7cf53) Y_J9_min_7cf53 tw_259 tw_239 (by decide) rfl rfl (Nat.le_of_ble_eq_true rfl) dX1_init_29 ?_
  rw [ck_end hO (d := 1) (by decide) hY, ← ev]
  refine q_istore (lv' := [(6, .int (lo 1 + nI (Y + (v - 1)))), (5, .int (lo 0 + nI (X1 + (u - 1)))), (0, .ref a), (1, .ref sh), (2, .int (lo 0 + nI X1)), (3, .int (lo 1 + nI Y)), (4, .int (lo 2 + nI Z))]) X dX1_init_32 (by decide) rfl ?_
  refine q_iload X dX1_init_34 6 rfl ?_
  refine q_iconst (v := 4) X dX1_init_36 (by decide) ?_
  refine q_iadd X dX1_init_37 ?_
  refine q_iconst (v := 1) X dX1_init_38 (by decide) ?_
  refine q_isub X dX1_init_39 ?_
  refine q_aload_n X dX1_init_40 3 rfl ?_
  refine q_iconst (v := 2) X dX1_init_41 (by decide) ?_
  refine q_callVp X (c_X7_highN hS.lh 2 (by decide) (by decide)) Y_X7_high tw_258 tw_73 tw_74 s1 rfl (by decide) rfl rfl (Nat.le_of_ble_eq_true rfl) dX1_init_42 ?_
  refine q_callSp X (c_J9_min_7cf53) Y_J9_min_7cf53 tw_259 tw_239 (by decide) rfl rfl (Nat.le_of_ble_eq_true rfl) dX1_init_45 ?_
  rw [ck_end hO (d := 2) (by decide) hZ, ← ew]
  refine q_istore (lv' := [(7, .int (lo 2 + nI (Z + (w - 1)))), (6, .int (lo 1 + nI (Y + (v - 1)))), (5, .int (lo 0 + nI (X1 + (u - 1)))), (0, .ref a), (1, .ref sh), (2, .int (lo 0 + nI X1)), (3, .int (lo 1 + nI Y)), (4, .int (lo 2 + nI Z))]) X dX1_init_48 (by decide) rfl ?_
  refine q_iload X dX1_init_50 2 rfl ?_
  refine q_iload_n X dX1_init_52 5 rfl ?_
  refine q_isub X dX1_init_53 ?_
  refine q_iconst (v := 1) X dX1_init_54 (by decide) ?_
  refine q_iadd X dX1_init_55 ?_
  refine q_iload X dX1_init_56 1 rfl ?_
  refine q_iload_n X dX1_init_58 6 rfl ?_
  refine q_isub X dX1_init_59 ?_
  refine q_iconst (v := 1) X dX1_init_60 (by decide) ?_
  refine q_iadd X dX1_init_61 ?_
  refine q_imul X dX1_init_62 ?_
  refine q_iload X dX1_init_63 0 rfl ?_
  refine q_iload X dX1_init_65 7 rfl ?_
  refine q_isub X dX1_init_67 ?_
  refine q_iconst (v := 1) X dX1_init_68 (by decide) ?_
  refine q_iadd X dX1_init_69 ?_
  refine q_imul X dX1_init_70 ?_
  rw [ck_len l0.1 l0.2 (by omega) (by omega) u1.1, ck_len l1.1 l1.2 (by omega) (by omega) v1.1, ck_len l2.1 l2.2 (by omega) (by omega) w1.1, nI_mul3]
  refine q_istore (lv' := [(8, .int (nI (u * v * w))), (7, .int (lo 2 + nI (Z + (w - 1)))), (6, .int (lo 1 + nI (Y + (v - 1)))), (5, .int (lo 0 + nI (X1 + (u - 1)))), (0, .ref a), (1, .ref sh), (2, .int (lo 0 + nI X1)), (3, .int (lo 1 + nI Y)), (4, .int (lo 2 + nI Z))]) X dX1_init_71 (by decide) rfl ?_
  refine q_aload_n X dX1_init_73 4 rfl ?_
  refine q_iload X dX1_init_74 0 rfl ?_
  refine q_iconst (v := 0) X dX1_init_76 (by decide) ?_
  refine q_callSp X (c_J9_max_7cf53) Y_J9_max_7cf53 tw_260 tw_123 (by decide) rfl rfl (Nat.le_of_ble_eq_true rfl) dX1_init_77 ?_
  rw [mxI_N0 (by omega)]
  refine q_newI X tw_107 (u * v * w) (rfl) (by omega) (rc' := 0) (rs' := 0) (by omega) (by omega) dX1_init_80 (fun p fp => ?_)
  have n_11 : a ≠ p := g_nef hA fp
  have m_12 : (mU M p (aI G (u * v * w) (fun _ => 0))) a = some (oB 2 [.null]) := (mU_n n_11).trans hA
  have n_13 : sh ≠ p := g_nef s1 fp
  have m_14 : (mU M p (aI G (u * v * w) (fun _ => 0))) sh = some (oB 7 [.int (nI m), .ref sb, .ref sc, .ref sp.2.1, .ref sd, .int (sL lo hi 0 * sL lo hi 1 * sL lo hi 2)]) := (mU_n n_13).trans s1
  have m_15 : (mU M p (aI G (u * v * w) (fun _ => 0))) p = some (aI G (u * v * w) (fun _ => 0)) := mU_s
  refine q_putF X hn m_12 rfl in_RX1 tyX1 tyX1_ok nmX1 0 (by decide) tw_273 rfl rfl rfl rfl rfl rfl (Nat.le_of_ble_eq_true rfl) (fs1 := [.ref p]) rfl dX1_init_82 ?_
  have m_16 : (mU (mU M p (aI G (u * v * w) (fun _ => 0))) a (oB 2 [.ref p])) a = some (oB 2 [.ref p]) := mU_s
  have m_17 : (mU (mU M p (aI G (u * v * w) (fun _ => 0))) a (oB 2 [.ref p])) sh = some (oB 7 [.int (nI m), .ref sb, .ref sc, .ref sp.2.1, .ref sd, .int (sL lo hi 0 * sL lo hi 1 * sL lo hi 2)]) := (mU_n ((fun z => by rw [z, hA] at s1; cases s1))).trans m_14
  have m_18 : (mU (mU M p (aI G (u * v * w) (fun _ => 0))) a (oB 2 [.ref p])) p = some (aI G (u * v * w) (fun _ => 0)) := (mU_n (Ne.symm n_11)).trans m_15
  refine q_iconst (v := 0) X dX1_init_85 (by decide) ?_
  refine q_istore (lv' := [(9, .int 0), (8, .int (nI (u * v * w))), (7, .int (lo 2 + nI (Z + (w - 1)))), (6, .int (lo 1 + nI (Y + (v - 1)))), (5, .int (lo 0 + nI (X1 + (u - 1)))), (0, .ref a), (1, .ref sh), (2, .int (lo 0 + nI X1)), (3, .int (lo 1 + nI Y)), (4, .int (lo 2 + nI Z))]) X dX1_init_86 (by decide) rfl ?_
  refine q_iload_n X dX1_init_88 7 rfl ?_
  refine q_istore (lv' := [(10, .int (lo 0 + nI X1)), (9, .int 0), (8, .int (nI (u * v * w))), (7, .int (lo 2 + nI (Z + (w - 1)))), (6, .int (lo 1 + nI (Y + (v - 1)))), (5, .int (lo 0 + nI (X1 + (u - 1)))), (0, .ref a), (1, .ref sh), (2, .int (lo 0 + nI X1)), (3, .int (lo 1 + nI Y)), (4, .int (lo 2 + nI Z))]) X dX1_init_89 (by decide) rfl ?_
  refine q_sub [6, 7, 8, 9, 10, 5, 4, 3, 1, 0] rfl ?_
  have hpa : p ≠ a := fun z => by rw [z, hA] at fp; cases fp
  refine q_memE (M' := mU (mU M p (aI G (u * v * w) (ckF (sN lo hi 1) (sN lo hi 2) X1 Y Z v w (c3 v w 0 0 0)))) a (oB 2 [.ref p])) (by rw [c3_0, ckF_0]) ?_
  have G5 := loops p fp hpa
  rw [c3_0] at G5 ⊢
  exact G5
