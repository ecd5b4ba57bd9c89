/-! Long.bitCount and how many cells of a row are filled -/
def vB : List Nat → Nat
  | [] => 0
  | b :: bs => b + 256 * vB bs
theorem cntB_add (p : Nat → Bool) (m n : Nat) : cntB p (m + n) = cntB p m + cntB (fun j => p (m + j)) n := by
  induction n with
  | zero => rfl
  | succ n ih => show cntB p (m + n) + (if p (m + n) then 1 else 0) = _ + (cntB _ n + (if p (m + n) then 1 else 0)); rw [ih]; omega
theorem cntB_ext {p q : Nat → Bool} {n : Nat} (h : ∀ j, j < n → p j = q j) : cntB p n = cntB q n := by
  induction n with
  | zero => rfl
  | succ n ih => show cntB p n + _ = cntB q n + _; rw [ih (fun j hj => h j (by omega)), h n (by omega)]
theorem cntB_zero {p : Nat → Bool} {n : Nat} (h : ∀ j, j < n → p j = false) : cntB p n = 0 := by
  induction n with
  | zero => rfl
  | succ n ih => show cntB p n + _ = 0; rw [ih (fun j hj => h j (by omega)), h n (by omega)]; rfl
def pB (b : Nat) : Nat := cntB (fun j => b.testBit j) 8
theorem tB_lo {b v j : Nat} (hb : b < 256) (hj : j < 8) : (b + 256 * v).testBit j = b.testBit j := by
  have h := Nat.testBit_two_pow_mul_add (i := 8) v (b := b) hb j
  rw [Nat.add_comm] at h
  rw [h, if_pos hj]
theorem tB_hi {b v j : Nat} (hb : b < 256) : (b + 256 * v).testBit (8 + j) = v.testBit j := by
  have h := Nat.testBit_two_pow_mul_add (i := 8) v (b := b) hb (8 + j)
  rw [Nat.add_comm] at h
  rw [h, if_neg (by omega)]; congr 1; omega
theorem cnt_vB : ∀ (bs : List Nat), (∀ b ∈ bs, b < 256) → cntB (fun j => (vB bs).testBit j) (8 * bs.length) = (bs.map pB).sum
  | [], _ => rfl
  | b :: bs, h => by
      have hb := h b (List.mem_cons_self ..)
      have ih := cnt_vB bs (fun c hc => h c (List.mem_cons_of_mem _ hc))
      have e : 8 * (b :: bs).length = 8 + 8 * bs.length := by rw [List.length_cons]; omega
      rw [e, cntB_add, List.map_cons, List.sum_cons, ← ih]
      congr 1
      · exact cntB_ext (fun j hj => tB_lo hb hj)
      · exact cntB_ext (fun j hj => tB_hi hb)
theorem and_vB {a c p q : Nat} (ha : a < 256) (hc : c < 256) : (a + 256 * p) &&& (c + 256 * q) = (a &&& c) + 256 * (p &&& q) := by
  have hac : a &&& c < 256 := Nat.lt_of_le_of_lt Nat.and_le_left ha
  refine Nat.eq_of_testBit_eq (fun j => ?_)
  rw [Nat.testBit_and]
  by_cases hj : j < 8
  · rw [tB_lo ha hj, tB_lo hc hj, tB_lo hac hj, Nat.testBit_and]
  · obtain ⟨k, rfl⟩ : ∃ k, j = 8 + k := ⟨j - 8, by omega⟩
    rw [tB_hi ha, tB_hi hc, tB_hi hac, Nat.testBit_and]
theorem b1_ok : ∀ b, b < 256 → ∀ r, r < 2 → (b / 2 + 128 * r) &&& 85 = (b / 2) &&& 85 ∧ (b / 2) &&& 85 ≤ b := by decide +kernel
theorem b2_ok : ∀ b, b < 256 → ∀ r, r < 4 → (b / 4 + 64 * r) &&& 51 = (b / 4) &&& 51 := by decide +kernel
theorem vB_1 : ∀ (bs : List Nat), (∀ b ∈ bs, b < 256) → (vB bs / 2) &&& vB (bs.map (fun _ => 85)) = vB (bs.map (fun b => (b / 2) &&& 85))
  | [], _ => rfl
  | b :: bs, h => by
      have hb := h b (List.mem_cons_self ..)
      have ih := vB_1 bs (fun c hc => h c (List.mem_cons_of_mem _ hc))
      have e : (b + 256 * vB bs) / 2 = (b / 2 + 128 * (vB bs % 2)) + 256 * (vB bs / 2) := by omega
      show (b + 256 * vB bs) / 2 &&& (85 + 256 * vB (bs.map _)) = _ + 256 * vB (bs.map _)
      rw [e, and_vB (by omega) (by omega), ih, (b1_ok b hb _ (by omega)).1]
theorem vB_2 : ∀ (bs : List Nat), (∀ b ∈ bs, b < 256) → (vB bs / 4) &&& vB (bs.map (fun _ => 51)) = vB (bs.map (fun b => (b / 4) &&& 51))
  | [], _ => rfl
  | b :: bs, h => by
      have hb := h b (List.mem_cons_self ..)
      have ih := vB_2 bs (fun c hc => h c (List.mem_cons_of_mem _ hc))
      have e : (b + 256 * vB bs) / 4 = (b / 4 + 64 * (vB bs % 4)) + 256 * (vB bs / 4) := by omega
      show (b + 256 * vB bs) / 4 &&& (51 + 256 * vB (bs.map _)) = _ + 256 * vB (bs.map _)
      rw [e, and_vB (by omega) (by omega), ih, b2_ok b hb _ (by omega)]
theorem vB_and (m : Nat) (hm : m < 256) : ∀ (bs : List Nat), (∀ b ∈ bs, b < 256) → vB bs &&& vB (bs.map (fun _ => m)) = vB (bs.map (fun b => b &&& m))
  | [], _ => Nat.zero_and _
  | b :: bs, h => by
      have hb := h b (List.mem_cons_self ..)
      have ih := vB_and m hm bs (fun c hc => h c (List.mem_cons_of_mem _ hc))
      show (b + 256 * vB bs) &&& (m + 256 * vB (bs.map _)) = _ + 256 * vB (bs.map _)
      rw [and_vB hb hm, ih]
def st1 (b : Nat) : Nat := b - ((b / 2) &&& 85)
def st2 (b : Nat) : Nat := (st1 b &&& 51) + ((st1 b / 4) &&& 51)
theorem st_ok : ∀ b, b < 256 → st1 b < 256 ∧ st2 b ≤ 68 ∧ st2 b % 16 ≤ 4 ∧ (st2 b + st2 b / 16) % 16 = pB b ∧ pB b ≤ 8 := by decide +kernel
theorem and15 (n : Nat) : n &&& 15 = n % 16 := Nat.and_two_pow_sub_one_eq_mod n 4
def bcN (n : Nat) : Nat :=
  let a := n - ((n / 2) &&& 6148914691236517205)
  let c := (a &&& 3689348814741910323) + ((a / 4) &&& 3689348814741910323)
  let d := (c + c / 16) &&& 1085102592571150095
  let e := d + d / 256
  let f := e + e / 65536
  let g := f + f / 4294967296
  g % 128
theorem vB_3 : ∀ (bs : List Nat), (∀ b ∈ bs, b ≤ 68 ∧ b % 16 ≤ 4) → (vB bs + vB bs / 16) &&& vB (bs.map (fun _ => 15)) = vB (bs.map (fun b => (b + b / 16) % 16))
  | [], _ => rfl
  | b :: bs, h => by
      have hb := h b (List.mem_cons_self ..)
      have ih := vB_3 bs (fun c hc => h c (List.mem_cons_of_mem _ hc))
      have hv : vB bs % 16 ≤ 4 := by
        cases bs with
        | nil => exact Nat.zero_le _
        | cons c cs => have := h c (List.mem_cons_of_mem _ (List.mem_cons_self ..)); show (c + 256 * vB cs) % 16 ≤ 4; omega
      have e : (b + 256 * vB bs) + (b + 256 * vB bs) / 16 = (b + b / 16 + 16 * (vB bs % 16)) + 256 * (vB bs + vB bs / 16) := by omega
      show (b + 256 * vB bs) + (b + 256 * vB bs) / 16 &&& (15 + 256 * vB (bs.map _)) = _ + 256 * vB (bs.map _)
      rw [e, and_vB (by omega) (by omega), ih, and15]
      have e2 : (b + b / 16 + 16 * (vB bs % 16)) % 16 = (b + b / 16) % 16 := by omega
      rw [e2]
theorem fold8 (d0 d1 d2 d3 d4 d5 d6 d7 : Nat) (h0 : d0 ≤ 8) (h1 : d1 ≤ 8) (h2 : d2 ≤ 8) (h3 : d3 ≤ 8) (h4 : d4 ≤ 8) (h5 : d5 ≤ 8) (h6 : d6 ≤ 8) (h7 : d7 ≤ 8) :
    ∀ d e f g : Nat, d = vB [d0, d1, d2, d3, d4, d5, d6, d7] → e = d + d / 256 → f = e + e / 65536 → g = f + f / 4294967296 → g % 128 = d0 + d1 + d2 + d3 + d4 + d5 + d6 + d7 ∧ g < 18446744073709551616 ∧ f < 18446744073709551616 ∧ e < 18446744073709551616 := by
  intro d e f g hd he hf hg
  have he2 : e = vB [d0 + d1, d1 + d2, d2 + d3, d3 + d4, d4 + d5, d5 + d6, d6 + d7, d7] := by
    have : d / 256 = vB [d1, d2, d3, d4, d5, d6, d7] := by rw [hd]; simp only [vB]; omega
    rw [he, this, hd]; simp only [vB]; omega
  have hf2 : f = vB [d0 + d1 + (d2 + d3), d1 + d2 + (d3 + d4), d2 + d3 + (d4 + d5), d3 + d4 + (d5 + d6), d4 + d5 + (d6 + d7), d5 + d6 + d7, d6 + d7, d7] := by
    have : e / 65536 = vB [d2 + d3, d3 + d4, d4 + d5, d5 + d6, d6 + d7, d7] := by rw [he2]; simp only [vB]; omega
    rw [hf, this, he2]; simp only [vB]; omega
  have h9 : f / 4294967296 = vB [d4 + d5 + (d6 + d7), d5 + d6 + d7, d6 + d7, d7] := by rw [hf2]; simp only [vB]; omega
  refine ⟨?_, ?_, ?_, ?_⟩
  · rw [hg, h9, hf2]; simp only [vB]; omega
  · rw [hg, h9, hf2]; simp only [vB]; omega
  · rw [hf2]; simp only [vB]; omega
  · rw [he2]; simp only [vB]; omega

theorem vB_sub (f : Nat → Nat) : ∀ (bs : List Nat), (∀ b ∈ bs, f b ≤ b) → vB (bs.map f) ≤ vB bs ∧ vB bs - vB (bs.map f) = vB (bs.map (fun b => b - f b))
  | [], _ => ⟨Nat.le_refl _, rfl⟩
  | b :: bs, h => by
      have hb := h b (List.mem_cons_self ..)
      have ih := vB_sub f bs (fun c hc => h c (List.mem_cons_of_mem _ hc))
      simp only [vB, List.map_cons]
      omega
theorem vB_add (f g : Nat → Nat) : ∀ (bs : List Nat), vB (bs.map f) + vB (bs.map g) = vB (bs.map (fun b => f b + g b))
  | [] => rfl
  | b :: bs => by
      have ih := vB_add f g bs
      simp only [vB, List.map_cons]
      omega
theorem vB_lt : ∀ (bs : List Nat), (∀ b ∈ bs, b < 256) → vB bs < 256 ^ bs.length
  | [], _ => Nat.zero_lt_one
  | b :: bs, h => by
      have hb := h b (List.mem_cons_self ..)
      have ih := vB_lt bs (fun c hc => h c (List.mem_cons_of_mem _ hc))
      rw [List.length_cons, Nat.pow_succ]
      simp only [vB]
      omega
theorem map_lt {bs : List Nat} {f : Nat → Nat} {k : Nat} (h : ∀ b ∈ bs, b < 256) (hf : ∀ b, b < 256 → f b < k) : ∀ b ∈ bs.map f, b < k := by
  intro b hb
  obtain ⟨c, hc, rfl⟩ := List.mem_map.mp hb
  exact hf c (h c hc)
theorem vB_of (n : Nat) (hn : n < 18446744073709551616) : ∃ bs : List Nat, bs.length = 8 ∧ (∀ b ∈ bs, b < 256) ∧ n = vB bs := by
  refine ⟨[n % 256, n / 256 % 256, n / 65536 % 256, n / 16777216 % 256, n / 4294967296 % 256, n / 1099511627776 % 256, n / 281474976710656 % 256, n / 72057594037927936], rfl, ?_, ?_⟩
  · intro b hb
    simp only [List.mem_cons, List.not_mem_nil, or_false] at hb
    omega
  · simp only [vB]; omega
theorem bcN_ok (n : Nat) (hn : n < 18446744073709551616) (a c d e f g : Nat) (ha : a = n - ((n / 2) &&& 6148914691236517205)) (hc : c = (a &&& 3689348814741910323) + ((a / 4) &&& 3689348814741910323)) (hd : d = (c + c / 16) &&& 1085102592571150095) (he : e = d + d / 256) (hf : f = e + e / 65536) (hg : g = f + f / 4294967296) :
    g % 128 = cntB (fun j => n.testBit j) 64 ∧ (n / 2) &&& 6148914691236517205 ≤ n ∧ c + c / 16 < 18446744073709551616 ∧ e < 18446744073709551616 ∧ f < 18446744073709551616 ∧ g < 18446744073709551616 := by
  obtain ⟨bs, hl, hb, rfl⟩ := vB_of n hn
  have e64 : 64 = 8 * bs.length := by rw [hl]
  rw [e64, cnt_vB bs hb]
  obtain ⟨b0, b1, b2, b3, b4, b5, b6, b7, rfl⟩ : ∃ b0 b1 b2 b3 b4 b5 b6 b7, bs = [b0, b1, b2, b3, b4, b5, b6, b7] := by
    match bs, hl with
    | [b0, b1, b2, b3, b4, b5, b6, b7], _ => exact ⟨b0, b1, b2, b3, b4, b5, b6, b7, rfl⟩
  generalize hB : [b0, b1, b2, b3, b4, b5, b6, b7] = bs at *
  have k5 : 6148914691236517205 = vB (bs.map (fun _ => 85)) := by rw [← hB]; simp only [List.map_cons, List.map_nil, vB]
  have k3 : ∀ h : Nat → Nat, 3689348814741910323 = vB ((bs.map h).map (fun _ => 51)) := by intro h; rw [← hB]; simp only [List.map_cons, List.map_nil, vB]
  have kf : ∀ h : Nat → Nat, 1085102592571150095 = vB ((bs.map h).map (fun _ => 15)) := by intro h; rw [← hB]; simp only [List.map_cons, List.map_nil, vB]
  have s1 : ∀ b ∈ bs, (b / 2) &&& 85 ≤ b := fun b hbb => (b1_ok b (hb b hbb) 0 (by omega)).2
  have t1 := vB_sub (fun b => (b / 2) &&& 85) bs s1
  have ha2 : a = vB (bs.map st1) := by rw [ha, k5, vB_1 bs hb, t1.2]; rfl
  have la : ∀ b ∈ bs.map st1, b < 256 := map_lt hb (fun b h => (st_ok b h).1)
  have hc2 : c = vB (bs.map st2) := by
    rw [hc, ha2, k3 st1, vB_and 51 (by omega) _ la, vB_2 _ la, List.map_map, List.map_map, vB_add]; rfl
  have lc : ∀ b ∈ bs.map st2, b ≤ 68 ∧ b % 16 ≤ 4 := by
    intro b hbb
    obtain ⟨x, hx, rfl⟩ := List.mem_map.mp hbb
    have := st_ok x (hb x hx)
    exact ⟨this.2.1, this.2.2.1⟩
  have hd2 : d = vB (bs.map pB) := by
    rw [hd, hc2, kf st2, vB_3 _ lc, List.map_map]
    congr 1
    refine List.map_congr_left (fun x hx => (st_ok x (hb x hx)).2.2.2.1)
  have q : ∀ b ∈ bs, pB b ≤ 8 := fun b h => (st_ok b (hb b h)).2.2.2.2
  have hcl : c < 68 * 256 ^ 7 + 256 ^ 7 := by
    have h7 : ∀ b ∈ [b0, b1, b2, b3, b4, b5, b6, b7], st2 b ≤ 68 := by rw [hB]; exact fun b h => (st_ok b (hb b h)).2.1
    simp only [List.mem_cons, List.not_mem_nil, or_false, forall_eq_or_imp, forall_eq] at h7
    rw [hc2, ← hB]; simp only [vB, List.map_cons, List.map_nil]; omega
  have q8 : ∀ b ∈ [b0, b1, b2, b3, b4, b5, b6, b7], pB b ≤ 8 := by rw [hB]; exact q
  simp only [List.mem_cons, List.not_mem_nil, or_false, forall_eq_or_imp, forall_eq] at q8
  have F := fold8 (pB b0) (pB b1) (pB b2) (pB b3) (pB b4) (pB b5) (pB b6) (pB b7) q8.1 q8.2.1 q8.2.2.1 q8.2.2.2.1 q8.2.2.2.2.1 q8.2.2.2.2.2.1 q8.2.2.2.2.2.2.1 q8.2.2.2.2.2.2.2 d e f g (by rw [hd2, ← hB]; rfl) he hf hg
  refine ⟨?_, ?_, ?_, F.2.2.2, F.2.2.1, F.2.1⟩
  · rw [F.1, ← hB]; simp only [List.map_cons, List.map_nil, List.sum_cons, List.sum_nil]; omega
  · rw [k5, vB_1 bs hb]; exact t1.1
  · omega
def lsr (x : Int64) (y : Int32) : Int64 := (x.toUInt64 >>> (y.toInt64.toUInt64 &&& Int64.toUInt64 63)).toInt64
theorem lsr_u (x : Int64) (y : Int32) (k : Nat) (h : (y.toInt64.toUInt64 &&& Int64.toUInt64 63) = UInt64.ofNat k) (hk : k < 64) : (lsr x y).toUInt64.toNat = x.toUInt64.toNat / 2 ^ k := by
  unfold lsr
  rw [UInt64.toUInt64_toInt64, UInt64.toNat_shiftRight, h, Nat.shiftRight_eq_div_pow]
  congr 2
  rw [UInt64.toNat_ofNat']
  omega
theorem bc_ok (x a c d e f g : Int64) (ha : a = x - (lsr x 1 &&& 6148914691236517205)) (hc : c = (a &&& 3689348814741910323) + (lsr a 2 &&& 3689348814741910323)) (hd : d = (c + lsr c 4) &&& 1085102592571150095) (he : e = d + lsr d 8) (hf : f = e + lsr e 16) (hg : g = f + lsr f 32) :
    g.toInt32 &&& 127 = nI (cntB (fun i => x.toBitVec.getLsbD i) 64) := by
  have hn := UInt64.toNat_lt x.toUInt64
  have W := bcN_ok x.toUInt64.toNat hn _ _ _ _ _ _ rfl rfl rfl rfl rfl rfl
  have a1 : a.toUInt64.toNat = x.toUInt64.toNat - ((x.toUInt64.toNat / 2) &&& 6148914691236517205) := by
    have l1 := lsr_u x 1 1 rfl (by omega)
    rw [ha, Int64.toUInt64_sub, Int64.toUInt64_and, UInt64.toNat_sub_of_le]
    · rw [UInt64.toNat_and, l1]; rfl
    · rw [UInt64.le_iff_toNat_le, UInt64.toNat_and, l1]; exact W.2.1
  generalize hA : x.toUInt64.toNat - ((x.toUInt64.toNat / 2) &&& 6148914691236517205) = A at W a1
  have hA2 := UInt64.toNat_lt a.toUInt64
  rw [a1] at hA2
  generalize hC : (A &&& 3689348814741910323) + ((A / 4) &&& 3689348814741910323) = C at W
  have hC2 : C < 18446744073709551616 := by have := W.2.2.1; omega
  have c1 : c.toUInt64.toNat = C := by
    have l1 := lsr_u a 2 2 rfl (by omega)
    rw [hc, Int64.toUInt64_add, Int64.toUInt64_and, Int64.toUInt64_and, UInt64.toNat_add, UInt64.toNat_and, UInt64.toNat_and, l1, a1]
    show ((A &&& 3689348814741910323) + ((A / 4) &&& 3689348814741910323)) % 18446744073709551616 = C
    rw [hC]; exact Nat.mod_eq_of_lt hC2
  generalize hD : (C + C / 16) &&& 1085102592571150095 = D at W
  have d1 : d.toUInt64.toNat = D := by
    have l1 := lsr_u c 4 4 rfl (by omega)
    rw [hd, Int64.toUInt64_and, Int64.toUInt64_add, UInt64.toNat_and, UInt64.toNat_add, l1, c1]
    show ((C + C / 16) % 18446744073709551616) &&& 1085102592571150095 = D
    rw [Nat.mod_eq_of_lt W.2.2.1, hD]
  generalize hE : D + D / 256 = E at W
  have e1 : e.toUInt64.toNat = E := by
    have l1 := lsr_u d 8 8 rfl (by omega)
    rw [he, Int64.toUInt64_add, UInt64.toNat_add, l1, d1]
    show (D + D / 256) % 18446744073709551616 = E
    rw [hE]; exact Nat.mod_eq_of_lt W.2.2.2.1
  generalize hF : E + E / 65536 = F at W
  have f1 : f.toUInt64.toNat = F := by
    have l1 := lsr_u e 16 16 rfl (by omega)
    rw [hf, Int64.toUInt64_add, UInt64.toNat_add, l1, e1]
    show (E + E / 65536) % 18446744073709551616 = F
    rw [hF]; exact Nat.mod_eq_of_lt W.2.2.2.2.1
  generalize hG : F + F / 4294967296 = K at W
  have g1 : g.toUInt64.toNat = K := by
    have l1 := lsr_u f 32 32 rfl (by omega)
    rw [hg, Int64.toUInt64_add, UInt64.toNat_add, l1, f1]
    show (F + F / 4294967296) % 18446744073709551616 = K
    rw [hG]; exact Nat.mod_eq_of_lt W.2.2.2.2.2
  have t : (fun i => x.toBitVec.getLsbD i) = (fun j => x.toUInt64.toNat.testBit j) := by
    funext i; rw [← BitVec.testBit_toNat]; rfl
  rw [t, ← W.1]
  apply Int32.toBitVec_inj.mp
  rw [Int32.toBitVec_and, Int64.toBitVec_toInt32, BitVec.signExtend_eq_setWidth_of_le _ (by omega)]
  apply BitVec.eq_of_toNat_eq
  rw [BitVec.toNat_and, BitVec.toNat_setWidth]
  have g2 : g.toBitVec.toNat = K := g1
  rw [g2]
  have e7 : (Int32.toBitVec 127).toNat = 127 := rfl
  have e8 : (nI (K % 128)).toBitVec.toNat = K % 128 := by
    show (BitVec.ofNat 32 (K % 128)).toNat = K % 128
    rw [BitVec.toNat_ofNat]; omega
  rw [e7, e8]
  have := Nat.and_two_pow_sub_one_eq_mod (K % 2 ^ 32) 7
  show (K % 2 ^ 32) &&& 127 = _
  rw [show (127 : Nat) = 2 ^ 7 - 1 from rfl, this]
  omega

set_option maxRecDepth 20000 in
theorem c_bitCount {l : Launch} {G : gV} {M : gMem} {x : Int64} : qC l G yJ13_bitCount_95d88 cJ13_bitCount_95d88 2 (some .int) 1 0 0 [.long x] M (pP (.int (nI (cntB (fun i => x.toBitVec.getLsbD i) 64))) M) := by
  refine qC_of (by decide +kernel) (Nat.le_of_ble_eq_true rfl) (fun F hF X hr hn => ?_)
  subst hF
  have X : qX G F cJ13_bitCount_95d88 2 RJ13 1 := X
  show qJ G F _ 2 M 0 0 0 [(0, .long x)] []
  refine q_lload_n X dJ13_bitCount_95d88_0 0 rfl ?_
  refine q_lload_n X dJ13_bitCount_95d88_1 0 rfl ?_
  refine q_iconst (v := 1) X dJ13_bitCount_95d88_2 (by decide) ?_
  refine q_lushr X dJ13_bitCount_95d88_3 ?_
  refine q_ldc2 (v := 6148914691236517205) X dJ13_bitCount_95d88_4 tw_583 ?_
  refine q_land X dJ13_bitCount_95d88_7 ?_
  refine q_lsub X dJ13_bitCount_95d88_8 ?_
  refine q_topl (fun a ea => ?_)
  refine q_lstore_n (lv' := [(0, .long a)]) X dJ13_bitCount_95d88_9 (by decide) rfl ?_
  refine q_lload_n X dJ13_bitCount_95d88_10 0 rfl ?_
  refine q_ldc2 (v := 3689348814741910323) X dJ13_bitCount_95d88_11 tw_584 ?_
  refine q_land X dJ13_bitCount_95d88_14 ?_
  refine q_lload_n X dJ13_bitCount_95d88_15 0 rfl ?_
  refine q_iconst (v := 2) X dJ13_bitCount_95d88_16 (by decide) ?_
  refine q_lushr X dJ13_bitCount_95d88_17 ?_
  refine q_ldc2 (v := 3689348814741910323) X dJ13_bitCount_95d88_18 tw_584 ?_
  refine q_land X dJ13_bitCount_95d88_21 ?_
  refine q_ladd X dJ13_bitCount_95d88_22 ?_
  refine q_topl (fun c ec => ?_)
  refine q_lstore_n (lv' := [(0, .long c)]) X dJ13_bitCount_95d88_23 (by decide) rfl ?_
  refine q_lload_n X dJ13_bitCount_95d88_24 0 rfl ?_
  refine q_lload_n X dJ13_bitCount_95d88_25 0 rfl ?_
  refine q_iconst (v := 4) X dJ13_bitCount_95d88_26 (by decide) ?_
  refine q_lushr X dJ13_bitCount_95d88_27 ?_
  refine q_ladd X dJ13_bitCount_95d88_28 ?_
  refine q_ldc2 (v := 1085102592571150095) X dJ13_bitCount_95d88_29 tw_585 ?_
  refine q_land X dJ13_bitCount_95d88_32 ?_
  refine q_topl (fun d ed => ?_)
  refine q_lstore_n (lv' := [(0, .long d)]) X dJ13_bitCount_95d88_33 (by decide) rfl ?_
  refine q_lload_n X dJ13_bitCount_95d88_34 0 rfl ?_
  refine q_lload_n X dJ13_bitCount_95d88_35 0 rfl ?_
  refine q_bipush (v := 8) X dJ13_bitCount_95d88_36 (by decide) ?_
  refine q_lushr X dJ13_bitCount_95d88_38 ?_
  refine q_ladd X dJ13_bitCount_95d88_39 ?_
  refine q_topl (fun e ee => ?_)
  refine q_lstore_n (lv' := [(0, .long e)]) X dJ13_bitCount_95d88_40 (by decide) rfl ?_
  refine q_lload_n X dJ13_bitCount_95d88_41 0 rfl ?_
  refine q_lload_n X dJ13_bitCount_95d88_42 0 rfl ?_
  refine q_bipush (v := 16) X dJ13_bitCount_95d88_43 (by decide) ?_
  refine q_lushr X dJ13_bitCount_95d88_45 ?_
  refine q_ladd X dJ13_bitCount_95d88_46 ?_
  refine q_topl (fun f ef => ?_)
  refine q_lstore_n (lv' := [(0, .long f)]) X dJ13_bitCount_95d88_47 (by decide) rfl ?_
  refine q_lload_n X dJ13_bitCount_95d88_48 0 rfl ?_
  refine q_lload_n X dJ13_bitCount_95d88_49 0 rfl ?_
  refine q_bipush (v := 32) X dJ13_bitCount_95d88_50 (by decide) ?_
  refine q_lushr X dJ13_bitCount_95d88_52 ?_
  refine q_ladd X dJ13_bitCount_95d88_53 ?_
  refine q_topl (fun g eg => ?_)
  refine q_lstore_n (lv' := [(0, .long g)]) X dJ13_bitCount_95d88_54 (by decide) rfl ?_
  refine q_lload_n X dJ13_bitCount_95d88_55 0 rfl ?_
  refine q_l2i X dJ13_bitCount_95d88_56 ?_
  refine q_bipush (v := 127) X dJ13_bitCount_95d88_57 (by decide) ?_
  refine q_iand X dJ13_bitCount_95d88_59 ?_
  exact q_iret X hr dJ13_bitCount_95d88_60 (⟨congrArg (fun z => some (Value.int z)) (bc_ok x a c d e f g ea ec ed ee ef eg), rfl⟩)

theorem cnt_marks (mk : Nat → Int64) (j : Nat) : cntB (mkAt mk) (64 * j) + cntB (fun i => (mk j).toBitVec.getLsbD i) 64 = cntB (mkAt mk) (64 * (j + 1)) := by
  rw [Nat.mul_add, cntB_add]
  congr 1
  refine cntB_ext (fun i hi => ?_)
  unfold mkAt
  rw [show (64 * j + i) / 64 = j by omega, show (64 * j + i) % 64 = i by omega]
theorem cnt_cells {mk : Nat → Int64} {N : Nat} {f : Nat → Option Int64} (h6 : ∀ i, i < N → mkAt mk i = (f i).isSome) (h8 : ∀ i, N ≤ i → i < (N + 63) / 64 * 64 → mkAt mk i = false) : cntB (mkAt mk) (64 * ((N + 63) / 64)) = cntB (fun i => (f i).isSome) N := by
  have e : 64 * ((N + 63) / 64) = N + (64 * ((N + 63) / 64) - N) := by omega
  rw [e, cntB_add, cntB_ext h6, cntB_zero (fun i hi => h8 (N + i) (by omega) (by omega)), Nat.add_zero]

set_option maxRecDepth 20000 in
theorem c_X0_filled {l : Launch} {G : gV} {M : gMem} {a na ma N : Nat} {f : Nat → Option Int64} (hC : isCells G M a na ma N f) : qC l G yX0_filled cX0_filled 3 (some .int) 2 0 0 [.ref a] M (pP (.int (nI (cntB (fun i => (f i).isSome) N))) M) := by
  refine qC_of (by decide +kernel) (Nat.le_of_ble_eq_true rfl) (fun F hF X hr hn => ?_)
  subst hF
  have X : qX G F cX0_filled 3 RX0 2 := X
  obtain ⟨num, mk, h1, h2, h3, h4, h5, h6, h7, h8, h9⟩ := id hC
  have loop : ∀ (t j : Nat), j + t = (N + 63) / 64 → qJ G F (qQ G F (pP (.int (nI (cntB (fun i => (f i).isSome) N))) M)) 3 M 0 0 4 [(0, .ref a), (1, .int (nI (cntB (mkAt mk) (64 * j)))), (2, .int (nI j))] [] := by
    intro t
    induction t with
    | zero =>
      intro j hj
      obtain rfl : j = (N + 63) / 64 := by omega
      refine q_iload_n X dX0_filled_4 2 rfl ?_
      refine q_aload_n X dX0_filled_5 0 rfl ?_
      refine q_get X h1 rfl in_RX0 1 (by decide) tw_126 rfl rfl dX0_filled_6 ?_
      refine q_alen X 1 h3 rfl dX0_filled_9 ?_
      refine q_icmp_ge X 31 dX0_filled_10 (by decide) (fun c_1 => ?_) (fun c_1 => absurd (Int32.le_refl _) c_1)
      refine q_iload_n X dX0_filled_31 1 rfl ?_
      exact q_iret X hr dX0_filled_32 (⟨congrArg (fun z => some (Value.int (nI z))) (cnt_cells h6 h8), rfl⟩)
    | succ t ih =>
      intro j hj
      have hjK : j < (N + 63) / 64 := by omega
      refine q_iload_n X dX0_filled_4 2 rfl ?_
      refine q_aload_n X dX0_filled_5 0 rfl ?_
      refine q_get X h1 rfl in_RX0 1 (by decide) tw_126 rfl rfl dX0_filled_6 ?_
      refine q_alen X 1 h3 rfl dX0_filled_9 ?_
      refine q_icmp_ge X 31 dX0_filled_10 (by decide) (fun c_2 => absurd c_2 (nI_ge hjK (by omega))) (fun c_2 => ?_)
      refine q_iload_n X dX0_filled_13 1 rfl ?_
      refine q_aload_n X dX0_filled_14 0 rfl ?_
      refine q_get X h1 rfl in_RX0 1 (by decide) tw_126 rfl rfl dX0_filled_15 ?_
      refine q_iload_n X dX0_filled_18 2 rfl ?_
      refine q_laldN X j h3 (rfl) (hjK) (by omega) dX0_filled_19 ?_
      refine q_callSp X (c_bitCount) Y_J13_bitCount_95d88 tw_580 tw_581 (by decide) rfl rfl (Nat.le_of_ble_eq_true rfl) dX0_filled_20 ?_
      refine q_iadd X dX0_filled_23 ?_
      rw [nI_add, cnt_marks]
      refine q_istore_n (lv' := [(1, .int (nI (cntB (mkAt mk) (64 * (j + 1))))), (0, .ref a), (2, .int (nI j))]) X dX0_filled_24 (by decide) rfl ?_
      refine q_iinc (v := (nI (j + 1))) (lv' := [(2, .int (nI (j + 1))), (1, .int (nI (cntB (mkAt mk) (64 * (j + 1))))), (0, .ref a)]) X dX0_filled_25 2 rfl (nI_1 j) (by decide) rfl ?_
      refine q_goto X 4 dX0_filled_28 (by decide) ?_
      refine q_sub [2, 1, 0] rfl ?_
      exact ih (j + 1) (by omega)
  refine q_iconst (v := 0) X dX0_filled_0 (by decide) ?_
  refine q_istore_n (lv' := [(1, .int 0), (0, .ref a)]) X dX0_filled_1 (by decide) rfl ?_
  refine q_iconst (v := 0) X dX0_filled_2 (by decide) ?_
  refine q_istore_n (lv' := [(2, .int 0), (1, .int 0), (0, .ref a)]) X dX0_filled_3 (by decide) rfl ?_
  refine q_sub [2, 1, 0] rfl ?_
  exact loop ((N + 63) / 64) 0 (by omega)
