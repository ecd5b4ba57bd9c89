/-! NODES: how the picture moves -/
section NI
variable {G : gV} {M M' : gMem} {N : gN} {P P' : Nat → Nat → Prop}
theorem nAdr_kind (h : nInv G M N P) {d q : Nat} (hq : nAdr N d q) : (∃ (n : Nat) (f : Nat → Int64), M q = some (aJ G n f)) ∨ ∃ fs0 : List Value, M q = some (oB 8 fs0) := by
  obtain ⟨a, ha, -, hq⟩ := hq
  obtain ⟨hs, hk, cf, ak, hc, hak, -⟩ := h.1 a ha
  obtain ⟨num, mk, -, h2, h3, -⟩ := hc
  rcases hq with rfl | rfl | rfl | ⟨h4, rfl⟩
  · exact Or.inl ⟨_, _, h2⟩
  · exact Or.inl ⟨_, _, h3⟩
  · exact Or.inl ⟨_, _, hak⟩
  · rcases hk with k | k | k | k | k | k
    · omega
    · omega
    · omega
    · omega
    · obtain ⟨-, s, d, kind, reach, what, -, -, -, ⟨tk, re, ht⟩, -⟩ := k
      exact Or.inr ⟨_, ht⟩
    · omega
theorem nAdr_obj (h : nInv G M N P) {d x ci : Nat} {fs0 : List Value} (hx : M x = some (oB ci fs0)) (hc : ci ≠ 8) : ¬ nAdr N d x := fun hq => by
  rcases nAdr_kind h hq with ⟨n, f, h1⟩ | ⟨fs1, h1⟩
  · rw [h1] at hx; cases hx
  · rw [h1] at hx; cases hx; exact hc rfl
theorem nAdr_int (h : nInv G M N P) {d x n : Nat} {f : Nat → Int32} (hx : M x = some (aI G n f)) : ¬ nAdr N d x := fun hq => by
  rcases nAdr_kind h hq with ⟨n, f, h1⟩ | ⟨fs1, h1⟩
  · have e := congrArg (fun z : ClassId × vp_A => z.2.2) (Sum.inl.inj (Option.some.inj (h1.symm.trans hx)))
    cases e
  · rw [h1] at hx; cases hx
theorem nNC8 {ci : Nat} (h : isNC ci) : ci ≠ 8 := by rcases h with rfl | rfl | rfl | rfl | rfl | rfl <;> decide
theorem isShape.mv {M M' : gMem} {a : Nat} {n : Int32} {lo hi : Nat → Int32} (h : isShape G M a n lo hi) (hm : ∀ x, (∃ fs0, M x = some (oB 7 fs0)) ∨ (∃ f, M x = some (aI G 3 f)) → M' x = M x) : isShape G M' a n lo hi := by
  obtain ⟨b, c, d, sp, h1, h2, h3, h4, h5, h6, h7, h8, h9⟩ := h
  exact ⟨b, c, d, sp, (hm a (Or.inl ⟨_, h1⟩)).trans h1, (hm b (Or.inr ⟨_, h2⟩)).trans h2, (hm c (Or.inr ⟨_, h3⟩)).trans h3, (hm d (Or.inr ⟨_, h4⟩)).trans h4, h5, h6, h7, (hm sp.2.1 (Or.inr ⟨_, h8⟩)).trans h8, h9⟩
theorem nStat_mv (h : nInv G M N P) {d : Nat} (hm : ∀ q, ¬ nAdr N d q → M' q = M q) {a : Nat} (hs : nStat G M N a) : nStat G M' N a := by
  obtain ⟨h1, h2, h3, h4, h5, h6, h7, h8⟩ := hs
  refine ⟨h1, (hm a (nAdr_obj h h2 (nNC8 h1))).trans h2, h3.mv (fun x hx => ?_), h4, h5, h6, h7, (hm _ (nAdr_obj h h8 (by decide))).trans h8⟩
  rcases hx with ⟨fs0, hx⟩ | ⟨f, hx⟩
  · exact hm x (nAdr_obj h hx (by decide))
  · exact hm x (nAdr_int h hx)
theorem nKind_mv (h : nInv G M N P) {d : Nat} (hm : ∀ q, ¬ nAdr N d q → M' q = M q) {a : Nat} (ht : nci N a = 4 → ∀ w t r, M (nta N a) = some (oB 8 [w, .int t, .long r]) → ∃ t' r', M' (nta N a) = some (oB 8 [w, .int t', .long r'])) (hk : nKind G M N a) : nKind G M' N a := by
  rcases hk with k | k | k | k | k | k
  · exact Or.inl k
  · refine Or.inr (Or.inl ?_)
    obtain ⟨c, s, tl, at0, tf, h1, h2, h3, h4, h5⟩ := k
    exact ⟨c, s, tl, at0, tf, h1, h2, h3, (hm _ (nAdr_int h h4)).trans h4, h5⟩
  · exact Or.inr (Or.inr (Or.inl k))
  · exact Or.inr (Or.inr (Or.inr (Or.inl k)))
  · refine Or.inr (Or.inr (Or.inr (Or.inr (Or.inl ?_))))
    obtain ⟨c, s, d, kind, reach, what, h1, h2, h3, ⟨tk, re, h4⟩, h5⟩ := k
    obtain ⟨t', r', h6⟩ := ht c _ _ _ h4
    exact ⟨c, s, d, kind, reach, what, h1, h2, h3, ⟨t', r', h6⟩, h5⟩
  · exact Or.inr (Or.inr (Or.inr (Or.inr (Or.inr k))))
/-- one node's caches change -/
theorem nInv_upd (h : nInv G M N P) {a : Nat} (ha : nS N a) (hm : ∀ q, q ≠ nna N a → q ≠ nma N a → q ≠ naa N a → M' q = M q) (hc : nCache G M' N P' a) (hP : ∀ b i, b ≠ a → P' b i → P b i) (hP2 : ∀ b i, b ≠ a → P b i → P' b i) : nInv G M' N P' := by
  have hm2 : ∀ q, ¬ nAdr N (ndp N a) q → M' q = M q := fun q hq => hm q (fun e => hq ⟨a, ha, Nat.le_refl _, Or.inl e⟩) (fun e => hq ⟨a, ha, Nat.le_refl _, Or.inr (Or.inl e)⟩) (fun e => hq ⟨a, ha, Nat.le_refl _, Or.inr (Or.inr (Or.inl e))⟩)
  have arr : ∀ q, (q = nna N a ∨ q = nma N a ∨ q = naa N a) → ∃ (n : Nat) (f : Nat → Int64), M q = some (aJ G n f) := by
    obtain ⟨-, -, cf, ak, ⟨num, mk, -, g2, g3, -⟩, gak, -⟩ := h.1 a ha
    intro q hq
    rcases hq with rfl | rfl | rfl
    · exact ⟨_, _, g2⟩
    · exact ⟨_, _, g3⟩
    · exact ⟨_, _, gak⟩
  have obj : ∀ x ci fs0, M x = some (oB ci fs0) → M' x = M x := fun x ci fs0 hx => hm x (fun e => by obtain ⟨n, f, g⟩ := arr x (Or.inl e); rw [g] at hx; cases hx) (fun e => by obtain ⟨n, f, g⟩ := arr x (Or.inr (Or.inl e)); rw [g] at hx; cases hx) (fun e => by obtain ⟨n, f, g⟩ := arr x (Or.inr (Or.inr e)); rw [g] at hx; cases hx)
  refine ⟨fun b hb => ⟨nStat_mv h hm2 (h.1 b hb).1, nKind_mv h hm2 (fun _ w t r ht => ⟨t, r, (obj _ _ _ ht).trans ht⟩) (h.1 b hb).2.1, ?_⟩, h.2⟩
  by_cases e : b = a
  · rw [e]; exact hc
  · obtain ⟨-, -, cf, ak, hcc, hak, hr⟩ := h.1 b hb
    obtain ⟨d1, d2, d3, d4, d5, d6, -⟩ := h.2 b a hb ha
    obtain ⟨e1, e2, e3, e4, e5, e6, -⟩ := h.2 a b ha hb
    have k1 : M' (nna N b) = M (nna N b) := hm _ (fun q => e (d1 q)) d2 d3
    have k2 : M' (nma N b) = M (nma N b) := hm _ (fun q => e2 q.symm) (fun q => e (d4 q)) d5
    have k3 : M' (naa N b) = M (naa N b) := hm _ (fun q => e3 q.symm) (fun q => e5 q.symm) (fun q => e (d6 q))
    have k4 : M' (nca N b) = M (nca N b) := obj _ _ _ (h.1 b hb).1.2.2.2.2.2.2.2
    refine ⟨cf, ak, hcc.mv k4 k1 k2, k3.trans hak, fun i hi => ⟨(hr i hi).1, fun q => ⟨((hr i hi).2 q).1, fun p => ((hr i hi).2 q).2.1 (hP b i e p), fun q1 q2 => ((hr i hi).2 q).2.2 q1 (fun p => q2 (hP2 b i e p))⟩⟩⟩
/-- a tally changes -/
theorem nInv_tal (h : nInv G M N P) {ta : Nat} {w : Value} {t t' : Int32} {r r' : Int64} (hM : M ta = some (oB 8 [w, .int t, .long r])) : nInv G (mU M ta (oB 8 [w, .int t', .long r'])) N P := by
  have obj : ∀ x ci fs0, M x = some (oB ci fs0) → ci ≠ 8 → (mU M ta (oB 8 [w, .int t', .long r'])) x = M x := fun x ci fs0 hx hc => mU_n (fun e => by rw [e, hM] at hx; cases hx; exact hc rfl)
  have arr : ∀ x cA y, M x = some (.inl (cA, y)) → (mU M ta (oB 8 [w, .int t', .long r'])) x = M x := fun x cA y hx => mU_n (fun e => by rw [e, hM] at hx; cases hx)
  refine ⟨fun b hb => ⟨?_, ?_, ?_⟩, h.2⟩
  · obtain ⟨h1, h2, h3, h4, h5, h6, h7, h8⟩ := (h.1 b hb).1
    refine ⟨h1, (obj _ _ _ h2 (nNC8 h1)).trans h2, h3.mv (fun x hx => ?_), h4, h5, h6, h7, (obj _ _ _ h8 (by decide)).trans h8⟩
    rcases hx with ⟨fs0, hx⟩ | ⟨f, hx⟩
    · exact obj x _ _ hx (by decide)
    · exact arr x _ _ hx
  · rcases (h.1 b hb).2.1 with k | k | k | k | k | k
    · exact Or.inl k
    · refine Or.inr (Or.inl ?_)
      obtain ⟨c, s, tl, at0, tf, h1, h2, h3, h4, h5⟩ := k
      exact ⟨c, s, tl, at0, tf, h1, h2, h3, (arr _ _ _ h4).trans h4, h5⟩
    · exact Or.inr (Or.inr (Or.inl k))
    · exact Or.inr (Or.inr (Or.inr (Or.inl k)))
    · refine Or.inr (Or.inr (Or.inr (Or.inr (Or.inl ?_))))
      obtain ⟨c, s, d, kind, reach, what, h1, h2, h3, ⟨tk, re, h4⟩, h5⟩ := k
      refine ⟨c, s, d, kind, reach, what, h1, h2, h3, ?_, h5⟩
      by_cases e : nta N b = ta
      · rw [e, hM] at h4
        cases h4
        exact ⟨t', r', by rw [e]; exact mU_s⟩
      · exact ⟨tk, re, (mU_n e).trans h4⟩
    · exact Or.inr (Or.inr (Or.inr (Or.inr (Or.inr k))))
  · obtain ⟨-, -, cf, ak, hcc, hak, hr⟩ := h.1 b hb
    obtain ⟨num, mk, g1, g2, g3, -⟩ := id hcc
    exact ⟨cf, ak, hcc.mv (obj _ _ _ g1 (by decide)) (arr _ _ _ g2) (arr _ _ _ g3), (arr _ _ _ hak).trans hak, hr⟩
/-- a cell that is empty was worked out -/
theorem nInv_done {a j : Nat} (h : nInv G M N (pA P a j)) (ha : nS N a) (hv : nci N a ≠ 9) (hd : nden N a j = none) (hn : ∀ i, ¬ P a i) : nInv G M N P := by
  refine nInv_upd (P' := P) h ha (fun _ _ _ _ => rfl) ?_ (fun b i _ p => Or.inl p) (fun b i e p => by rcases p with p | ⟨p, -⟩; exact p; exact absurd p e)
  obtain ⟨-, -, cf, ak, hcc, hak, hr⟩ := h.1 a ha
  refine ⟨cf, ak, hcc, hak, fun i hi => ⟨fun q => absurd q hv, fun q => ⟨((hr i hi).2 q).1, fun p => absurd p (hn i), fun q1 _ => ?_⟩⟩⟩
  by_cases e : i = j
  · rw [e, hd, ← e]; exact ((hr i hi).2 q).2.1 (Or.inr ⟨rfl, e⟩)
  · exact ((hr i hi).2 q).2.2 q1 (fun p => by rcases p with p | ⟨-, p⟩; exact hn i p; exact e p)
/-- a cell gets its number -/
theorem nInv_set {a j : Nat} {v : Int64} (h : nInv G M N (pA P a j)) (ha : nS N a) (hv : nci N a ≠ 9) (hj : j < nsz N a) (hd : nden N a j = some v) (hn : ∀ i, ¬ P a i) {cf : Nat → Option Int64} (hcf : isCells G M (nca N a) (nna N a) (nma N a) (nsz N a) cf) (hC : isCells G M' (nca N a) (nna N a) (nma N a) (nsz N a) (cSet cf j v)) (hm : ∀ q, q ≠ nna N a → q ≠ nma N a → M' q = M q) (hask : nAsk G M N a j) : nInv G M' N P ∧ nFr G N (ndp N a) M M' := by
  obtain ⟨-, -, cf0, ak, hcc, hak, hr⟩ := h.1 a ha
  obtain ⟨d1, d2, d3, d4, d5, d6, -⟩ := h.2 a a ha ha
  have k3 : M' (naa N a) = M (naa N a) := hm _ (fun q => d3 q.symm) (fun q => d5 q.symm)
  have same : ∀ i, i < nsz N a → cf0 i = cf i := by
    obtain ⟨num, mk, g1, g2, g3, g4, g5, g6, g7, -⟩ := hcc
    obtain ⟨num', mk', l1, l2, l3, l4, l5, l6, l7, -⟩ := hcf
    rw [g2] at l2; rw [g3] at l3
    cases l2; cases l3
    intro i hi
    have e1 := (g6 i hi).symm.trans (l6 i hi)
    cases h1 : cf0 i with
    | none => rw [h1] at e1; cases h2 : cf i with
      | none => rfl
      | some w => rw [h2] at e1; cases e1
    | some u => rw [h1] at e1; cases h2 : cf i with
      | none => rw [h2] at e1; cases e1
      | some w => rw [← g7 i u hi h1, ← l7 i w hi h2]
  refine ⟨nInv_upd (P' := P) h ha (fun q q1 q2 _ => hm q q1 q2) ⟨cSet cf j v, ak, hC, k3.trans hak, fun i hi => ⟨fun q => absurd q hv, fun q => ⟨fun q1 => ?_, fun p => absurd p (hn i), fun q1 _ => ?_⟩⟩⟩ (fun b i _ p => Or.inl p) (fun b i e p => by rcases p with p | ⟨p, -⟩; exact p; exact absurd p e), fun q hq => hm q (fun e => hq ⟨a, ha, Nat.le_refl _, Or.inl e⟩) (fun e => hq ⟨a, ha, Nat.le_refl _, Or.inr (Or.inl e)⟩), fun b hb i hi => ?_⟩
  · unfold cSet
    by_cases e : i = j
    · obtain ⟨n9, ak9, g9, m9⟩ := hask
      rw [hak] at g9
      cases g9
      rw [e, m9] at q1; cases q1
    · rw [if_neg e, ← same i hi]; exact ((hr i hi).2 q).1 q1
  · unfold cSet
    by_cases e : i = j
    · rw [if_pos e, e, hd]
    · rw [if_neg e, ← same i hi]; exact ((hr i hi).2 q).2.2 q1 (fun p => by rcases p with p | ⟨-, p⟩; exact hn i p; exact e p)
  · obtain ⟨n9, ak9, g9, m9⟩ := hi
    obtain ⟨z1, z2, z3, z4, z5, z6, -⟩ := h.2 a b ha hb
    exact ⟨n9, ak9, (hm _ (fun q => z3 q.symm) (fun q => z5 q.symm)).trans g9, m9⟩
end NI
