/-! WHAT CALLS DO, said of states; how a state's pieces change -/
def aSetD (σ : sA) (f : Nat → Option Int64) : sA := (σ.1, f, σ.2.2)
def aSetO (σ : sA) (o : Nat) : sA := (σ.1, σ.2.1, σ.2.2.1, σ.2.2.2.1, o, σ.2.2.2.2.2)
/-- the version, the node, that a number names -/
def vAt (σ : sA) (i : Int32) : Option ((Nat → Option Int64) × Nat) := if i < 0 then none else (aV σ)[i.toNatClampNeg]?
def ndAt (σ : sA) (i : Int32) : Option vN := if i < 0 then none else (aN σ)[i.toNatClampNeg]?
theorem nI_nn {j : Nat} (h : j < 2 ^ 31) : (nI j).toNatClampNeg = j := by
  have := nI_toInt h
  unfold Int32.toNatClampNeg
  show (nI j).toInt.toNat = j
  omega
theorem vAt_in {σ : sA} {j : Nat} (hj : j < 2 ^ 31) : vAt σ (nI j) = (aV σ)[j]? := by
  unfold vAt; rw [if_neg (nI_pos hj), nI_nn hj]
theorem ndAt_in {σ : sA} {j : Nat} (hj : j < 2 ^ 31) : ndAt σ (nI j) = (aN σ)[j]? := by
  unfold ndAt; rw [if_neg (nI_pos hj), nI_nn hj]
theorem ge_out {n : Nat} {i : Int32} (hn : n < 2 ^ 31) (h : nI n ≤ i) : n ≤ i.toNatClampNeg := by
  rw [Int32.le_iff_toInt_le, nI_toInt hn] at h
  unfold Int32.toNatClampNeg
  show n ≤ i.toInt.toNat
  omega
theorem vAt_out {σ : sA} {i : Int32} (hn : (aV σ).length < 2 ^ 31) (h : i < 0 ∨ nI (aV σ).length ≤ i) : vAt σ i = none := by
  unfold vAt
  by_cases c : i < 0
  · rw [if_pos c]
  · rw [if_neg c]; exact List.getElem?_eq_none (ge_out hn (h.resolve_left c))
theorem ndAt_out {σ : sA} {i : Int32} (hn : (aN σ).length < 2 ^ 31) (h : i < 0 ∨ nI (aN σ).length ≤ i) : ndAt σ i = none := by
  unfold ndAt
  by_cases c : i < 0
  · rw [if_pos c]
  · rw [if_neg c]; exact List.getElem?_eq_none (ge_out hn (h.resolve_left c))
def aIx (σ : sA) (x y z : Int32) : Int32 := sIdx (nI (aM σ)) (aLo σ) (aHi σ) x y z
def sp_put (σ : sA) (x y z : Int32) (v : Int64) : oc := if 0 ≤ aIx σ x y z then oK none (aSetD σ (cSet (aD σ) (aIx σ x y z).toNatClampNeg v)) else oT eIO σ
def sp_erase (σ : sA) (x y z : Int32) : oc := if 0 ≤ aIx σ x y z then oK none (aSetD σ (cDel (aD σ) (aIx σ x y z).toNatClampNeg)) else oT eIO σ
def fillD (lo hi : Nat → Int32) (f : Nat → Option Int64) (d x y : Int32) (v : Int64) (K : Nat) : Nat → Option Int64 := fun i => if i < K ∧ ¬ sPlace lo hi (nI i) d < x ∧ ¬ y < sPlace lo hi (nI i) d then some v else f i
def sp_fill (σ : sA) (d x y : Int32) (v : Int64) : oc := if sRange (nI (aM σ)) (aLo σ) (aHi σ) d x y = 0 then oT eIA σ else oK none (aSetD σ (fillD (aLo σ) (aHi σ) (aD σ) d x y v (aSz σ)))
def sp_open (σ : sA) (i : Int32) : oc := match vAt σ i with
  | none => oT eIA σ
  | some c => oK none (aSetO (aSetD σ c.1) i.toNatClampNeg)
def difN (σ : sA) (f h : Nat → Option Int64) : Nat := cntB (fun t => !decide (f t = h t)) (aSz σ)
def filN (σ : sA) (f : Nat → Option Int64) : Nat := cntB (fun t => (f t).isSome) (aSz σ)
def oI (n : Int32) (σ : sA) : oc := oK (some (.int n)) σ
def sp_differ (σ : sA) (i j : Int32) : oc := match vAt σ i with
  | none => oT eIA σ
  | some c => match vAt σ j with
    | none => oT eIA σ
    | some e => oI (nI (difN σ c.1 e.1)) σ
def sp_version (σ : sA) (i what : Int32) : oc := match vAt σ i with
  | none => oT eIA σ
  | some c => if what = 0 then oI (aPar i.toNatClampNeg c) σ else if what = 1 then oI (nI (aEnc σ i.toNatClampNeg).1) σ else if what = 2 then oI (nI (aEnc σ i.toNatClampNeg).2) σ else if what = 3 then oI (nI (filN σ c.1)) σ else oT eIA σ
def sp_count (σ : sA) (what : Int32) : oc := if what = 0 then oI (nI (aV σ).length) σ else if what = 1 then oI (nI (aN σ).length) σ else if what = 2 then oI (nI (aOf σ)) σ else if what = 3 then (match (aV σ)[aOf σ]? with
  | none => oT eIA σ
  | some c => oI (nI (difN σ (aD σ) c.1)) σ) else oT eIA σ
def sp_commit (σ : sA) : oc := if (aV σ).length < 41 then oI (nI (aV σ).length) (σ.1, σ.2.1, aV σ ++ [(aD σ, aOf σ)], σ.2.2.2.1, (aV σ).length, σ.2.2.2.2.2) else oT eIO σ
section GB
variable {G : gV} {M M' : gMem} {g : Nat} {σ : sA} {vl nl kl fr dk dn dm ev en ek : Nat} {vs ns ks : List Nat} {N : gN}
/-- a version's own cells -/
theorem gvB.ver (h : gvB G M g σ vl nl kl fr dk dn dm ev en ek vs ns ks N) {i a : Nat} (ha : vs[i]? = some a) : ∃ c, (aV σ)[i]? = some c ∧ i < 41 ∧ nS N a ∧ nci N a = 9 ∧ isCells G M (nca N a) (nna N a) (nma N a) (aSz σ) c.1 ∧ M a = some (oB 9 [.ref (nsh N a), .int 1, .ref (nca N a), .ref (naa N a), .int (aPar i c), .int (nI (aEnc σ i).1), .int (nI (aEnc σ i).2)]) := by
  obtain ⟨b1, b2, b3, b4, b5, b6, b7, b8, b9, b10, b11, b12⟩ := h
  have hi : i < vs.length := (List.getElem?_eq_some_iff.mp ha).1
  have hi2 : i < (aV σ).length := by rw [← b9.1]; exact hi
  obtain ⟨c, hc⟩ : ∃ c, (aV σ)[i]? = some c := ⟨(aV σ)[i], List.getElem?_eq_some_iff.mpr ⟨hi2, rfl⟩⟩
  obtain ⟨q1, q2, q3, q4⟩ := b9.2 i a c ha hc
  obtain ⟨p1, -, cf, ak, p3, p4, p5⟩ := b8.1 a q1
  unfold nVal at q3
  injection q3 with r1 r2; injection r2 with r2 r3; injection r3 with r3 r4; injection r4 with r4 r5
  have esz : nsz N a = aSz σ := by unfold nsz aSz; rw [r2, r3]
  rw [esz] at p3 p5
  refine ⟨c, hc, Nat.lt_of_lt_of_le hi2 b12.2.2.2.1, q1, q2, ?_, ?_⟩
  · have ef : cf = c.1 := by
      funext t
      by_cases ht : t < aSz σ
      · rw [(p5 t ht).1 q2, r5]
      · have h9 := (b12.2.2.2.2.2.2.2 i c hc).2 t (Nat.le_of_not_lt ht)
        obtain ⟨_, _, _, _, _, _, _, _, _, _, h10⟩ := id p3
        rw [h10 t (Nat.le_of_not_lt ht), h9]
    rw [← ef]; exact p3
  · have := p1.2.1
    rw [q2, q4, r4] at this
    exact this
theorem gvB.verO (h : gvB G M g σ vl nl kl fr dk dn dm ev en ek vs ns ks N) : ∀ y ∈ vs, ∃ ci fs0, isNC ci ∧ ci = 9 ∧ M y = some (oB ci fs0) := fun y hy => by
  obtain ⟨i, hi⟩ := List.getElem?_of_mem hy
  obtain ⟨c, -, -, -, -, -, h9⟩ := h.ver hi
  exact ⟨9, _, by unfold isNC; omega, rfl, h9⟩
theorem gvB.nod (h : gvB G M g σ vl nl kl fr dk dn dm ev en ek vs ns ks N) {i a : Nat} (ha : ns[i]? = some a) : i < 150 ∧ nS N a ∧ (aN σ)[i]? = some (nVal N a) := by
  obtain ⟨b1, b2, b3, b4, b5, b6, b7, b8, b9, b10, b11, b12⟩ := h
  have hi : i < ns.length := (List.getElem?_eq_some_iff.mp ha).1
  have hi2 : i < (aN σ).length := by rw [← b10.1]; exact hi
  obtain ⟨c, hc⟩ : ∃ c, (aN σ)[i]? = some c := ⟨(aN σ)[i], List.getElem?_eq_some_iff.mpr ⟨hi2, rfl⟩⟩
  obtain ⟨q1, q2⟩ := b10.2 i a c ha hc
  exact ⟨Nat.lt_of_lt_of_le hi2 b12.2.2.2.2.1, q1, by rw [q2]; exact hc⟩
theorem gvB.nodO (h : gvB G M g σ vl nl kl fr dk dn dm ev en ek vs ns ks N) : ∀ y ∈ ns, ∃ ci fs0, isNC ci ∧ M y = some (oB ci fs0) := fun y hy => by
  obtain ⟨i, hi⟩ := List.getElem?_of_mem hy
  have hs := (h.2.2.2.2.2.2.2.1.1 y (h.nod hi).2.1).1
  exact ⟨_, _, hs.1, hs.2.1⟩
/-- the desk's cells change -/
theorem gvB.desk (h : gvB G M g σ vl nl kl fr dk dn dm ev en ek vs ns ks N) {f : Nat → Option Int64} (hC : isCells G M' dk dn dm (aSz σ) f) (hm : ∀ q, q ≠ dn → q ≠ dm → M' q = M q) : gvB G M' g (aSetD σ f) vl nl kl fr dk dn dm ev en ek vs ns ks N := by
  obtain ⟨b1, b2, b3, b4, b5, b6, b7, b8, b9, b10, b11, b12⟩ := h
  obtain ⟨a1, a2, c1, c2, c3, -⟩ := id b3
  have nj : ∀ q, (∀ n f, M q ≠ some (aJ G n f)) → M' q = M q := fun q hq => hm q (fun z => hq _ _ (z ▸ c2)) (fun z => hq _ _ (z ▸ c3))
  have ob : ∀ q ci fs0, M q = some (oB ci fs0) → M' q = M q := fun q ci fs0 hq => nj q (fun _ _ z => by rw [hq] at z; cases z)
  have ai : ∀ q n f, M q = some (aI G n f) → M' q = M q := fun q n f hq => nj q (fun _ _ z => by rw [hq] at z; simp at z)
  have ao : ∀ q n f, M q = some (aO G n f) → M' q = M q := fun q n f hq => nj q (fun _ _ z => by rw [hq] at z; simp at z)
  have no : ∀ q, M q = none → M' q = none := fun q hq => (nj q (fun _ _ z => by rw [hq] at z; cases z)).trans hq
  have li : ∀ {a ed xs}, isList G M a ed xs → isList G M' a ed xs := fun hl => by
    obtain ⟨mv, r⟩ := id hl.2.1
    exact hl.mv (ob _ _ _ r) (fun n f r2 => ao _ n f r2)
  refine ⟨(ob _ _ _ b1).trans b1, b2.mv (fun x hx => by rcases hx with ⟨_, hx⟩ | ⟨_, hx⟩; exact ob _ _ _ hx; exact ai _ _ _ hx), hC, li b4, li b5, li b6, ⟨b7.1, fun b k hb => (b7.2 b k hb).mv (fun x hx => by rcases hx with ⟨_, hx⟩ | ⟨_, _, hx⟩; exact ob _ _ _ hx; exact ai _ _ _ hx)⟩, ?_, b9, b10, b11, b12⟩
  refine nInv_keep b8 (fun q e hq hk => ?_) (fun a ha => ?_)
  · rcases hk with ⟨ci, fs0, rfl, -⟩ | ⟨n, f, rfl⟩
    · exact (ob _ _ _ hq).trans hq
    · exact (ai _ _ _ hq).trans hq
  · have d1 := fun z => (b11.2.2.2.2.2.2 (ndp N a)).1 ⟨a, ha, Nat.le_refl _, z⟩
    have d2 := fun z => (b11.2.2.2.2.2.2 (ndp N a)).2 ⟨a, ha, Nat.le_refl _, z⟩
    exact ⟨hm _ (fun z => d1 (Or.inl z.symm)) (fun z => d2 (Or.inl z.symm)), hm _ (fun z => d1 (Or.inr (Or.inl z.symm))) (fun z => d2 (Or.inr (Or.inl z.symm))), hm _ (fun z => d1 (Or.inr (Or.inr (Or.inl z.symm)))) (fun z => d2 (Or.inr (Or.inr (Or.inl z.symm))))⟩
/-- the object's own fields change -/
theorem gvB.obj (h : gvB G M g σ vl nl kl fr dk dn dm ev en ek vs ns ks N) {o b : Nat} (ho : o < (aV σ).length) (hb : b ≤ 2) : gvB G (mU M g (gvO vl nl kl fr dk (σ.1, σ.2.1, σ.2.2.1, σ.2.2.2.1, o, b))) g (σ.1, σ.2.1, σ.2.2.1, σ.2.2.2.1, o, b) vl nl kl fr dk dn dm ev en ek vs ns ks N := by
  obtain ⟨b1, b2, b3, b4, b5, b6, b7, b8, b9, b10, b11, b12⟩ := h
  generalize hM : mU M g (gvO vl nl kl fr dk (σ.1, σ.2.1, σ.2.2.1, σ.2.2.2.1, o, b)) = M'
  have ne : ∀ q e, M q = some e → (∀ fs0, e ≠ oB 11 fs0) → M' q = some e := fun q e hq he => by
    rw [← hM, mU_n (fun z => by rw [z, b1] at hq; cases hq; exact he _ rfl)]; exact hq
  have ob : ∀ q ci fs0, M q = some (oB ci fs0) → ci ≠ 11 → M' q = M q := fun q ci fs0 hq hc => (ne q _ hq (fun _ z => by cases z; exact hc rfl)).trans hq.symm
  have arr : ∀ q x, M q = some (.inl x) → M' q = M q := fun q x hq => (ne q _ hq (fun _ z => by cases z)).trans hq.symm
  have no : ∀ q, M q = none → M' q = none := fun q hq => by rw [← hM, mU_n (fun z => by rw [z, b1] at hq; cases hq)]; exact hq
  have li : ∀ {a ed xs}, isList G M a ed xs → isList G M' a ed xs := fun hl => by
    obtain ⟨mv, r⟩ := id hl.2.1
    exact hl.mv (ob _ _ _ r (by decide)) (fun n f r2 => arr _ _ r2)
  obtain ⟨a1, a2, c1, c2, c3, -⟩ := id b3
  refine ⟨by rw [← hM]; exact mU_s, b2.mv (fun x hx => by rcases hx with ⟨_, hx⟩ | ⟨_, hx⟩; exact ob _ _ _ hx (by decide); exact arr _ _ hx), b3.mv (ob _ _ _ c1 (by decide)) (arr _ _ c2) (arr _ _ c3), li b4, li b5, li b6, ⟨b7.1, fun b k hb => (b7.2 b k hb).mv (fun x hx => by rcases hx with ⟨_, hx⟩ | ⟨_, _, hx⟩; exact ob _ _ _ hx (by decide); exact arr _ _ hx)⟩, ?_, b9, b10, b11, b12.1, b12.2.1, b12.2.2.1, b12.2.2.2.1, b12.2.2.2.2.1, ho, hb, b12.2.2.2.2.2.2.2⟩
  refine nInv_keep b8 (fun q e hq hk => ?_) (fun a ha => ?_)
  · rcases hk with ⟨ci, fs0, rfl, -, h11⟩ | ⟨n, f, rfl⟩
    · exact (ob _ _ _ hq h11).trans hq
    · exact (arr _ _ hq).trans hq
  · obtain ⟨-, -, cf, ak, p3, p4, -⟩ := b8.1 a ha
    obtain ⟨_, _, d1, d2, d3, -⟩ := p3
    exact ⟨arr _ _ d2, arr _ _ d3, arr _ _ p4⟩
end GB
