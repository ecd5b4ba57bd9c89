/-! THE STATE of a GridVault, as class and reference have it -/
/-- a node: dimensions, lows, highs, depth, what its cells are -/
abbrev vN : Type := Nat × (Nat → Int32) × (Nat → Int32) × Nat × (Nat → Option Int64)
abbrev vm (w : vN) : Nat := w.1
abbrev vlo (w : vN) : Nat → Int32 := w.2.1
abbrev vhi (w : vN) : Nat → Int32 := w.2.2.1
abbrev vdp (w : vN) : Nat := w.2.2.2.1
abbrev vden (w : vN) : Nat → Option Int64 := w.2.2.2.2
def nVal (N : gN) (a : Nat) : vN := (nm N a, nlo N a, nhi N a, ndp N a, nden N a)
/-- the frame, the desk, the versions with their parents, the nodes, the desk's version, how often it began -/
abbrev sA : Type := (Nat × (Nat → Int32) × (Nat → Int32)) × (Nat → Option Int64) × List ((Nat → Option Int64) × Nat) × List vN × Nat × Nat
abbrev aM (σ : sA) : Nat := σ.1.1
abbrev aLo (σ : sA) : Nat → Int32 := σ.1.2.1
abbrev aHi (σ : sA) : Nat → Int32 := σ.1.2.2
abbrev aD (σ : sA) : Nat → Option Int64 := σ.2.1
abbrev aV (σ : sA) : List ((Nat → Option Int64) × Nat) := σ.2.2.1
abbrev aN (σ : sA) : List vN := σ.2.2.2.1
abbrev aOf (σ : sA) : Nat := σ.2.2.2.2.1
abbrev aBg (σ : sA) : Nat := σ.2.2.2.2.2
def aSz (σ : sA) : Nat := sz3 (aLo σ) (aHi σ)
def aCN (σ : sA) : Nat := chN (sN (aLo σ) (aHi σ) 0) (sN (aLo σ) (aHi σ) 1) (sN (aLo σ) (aHi σ) 2)
/-- the chunks of the frame -/
def aCs (σ : sA) : List (Nat × (Nat → Nat)) := (List.range (aCN σ)).map (fun b => (chW (sN (aLo σ) (aHi σ) 0) (sN (aLo σ) (aHi σ) 1) (sN (aLo σ) (aHi σ) 2) b, chP (sN (aLo σ) (aHi σ) 0) (sN (aLo σ) (aHi σ) 1) (sN (aLo σ) (aHi σ) 2) b))
theorem aCs_at {σ : sA} {b : Nat} (h : b < aCN σ) : (aCs σ)[b]? = some (chW (sN (aLo σ) (aHi σ) 0) (sN (aLo σ) (aHi σ) 1) (sN (aLo σ) (aHi σ) 2) b, chP (sN (aLo σ) (aHi σ) 0) (sN (aLo σ) (aHi σ) 1) (sN (aLo σ) (aHi σ) 2) b) := by
  unfold aCs; rw [List.getElem?_map, List.getElem?_range h]; rfl
/-- how version i is coded: chunks, octets -/
def aEnc (σ : sA) (i : Nat) : Nat × Nat := if i = 0 then (0, 0) else match (aV σ)[i]? with
  | none => (0, 0)
  | some c => match (aV σ)[c.2]? with
    | none => (0, 0)
    | some p => encS c.1 p.1 (aCs σ) (aCN σ)
def aPar (i : Nat) (c : (Nat → Option Int64) × Nat) : Int32 := if i = 0 then -1 else nI c.2
/-- what holds of every state -/
def gvS (σ : sA) : Prop := okS (aM σ) (aLo σ) (aHi σ) ∧ (∀ d, d < 3 → sN (aLo σ) (aHi σ) d ≤ 16) ∧ 1 ≤ (aV σ).length ∧ (aV σ).length ≤ 41 ∧ (aN σ).length ≤ 150 ∧ aOf σ < (aV σ).length ∧ aBg σ ≤ 2 ∧ ∀ i c, (aV σ)[i]? = some c → (0 < i → c.2 < i) ∧ ∀ j, aSz σ ≤ j → c.1 j = none
theorem gvS.sz {σ : sA} (h : gvS σ) : aSz σ ≤ 4096 := Nat.le_trans (Nat.mul_le_mul (Nat.mul_le_mul (h.2.1 0 (by decide)) (h.2.1 1 (by decide))) (h.2.1 2 (by decide))) (by decide)
def gvV (σ : sA) (vs : List Nat) (N : gN) : Prop := vs.length = (aV σ).length ∧ ∀ i a c, vs[i]? = some a → (aV σ)[i]? = some c → nS N a ∧ nci N a = 9 ∧ nVal N a = (aM σ, aLo σ, aHi σ, 1, c.1) ∧ nex N a = [.int (aPar i c), .int (nI (aEnc σ i).1), .int (nI (aEnc σ i).2)]
def gvN (σ : sA) (ns : List Nat) (N : gN) : Prop := ns.length = (aN σ).length ∧ ∀ (i a : Nat) (w : vN), ns[i]? = some a → (aN σ)[i]? = some w → nS N a ∧ nVal N a = w
def gvD (G : gV) (N : gN) (vl nl kl dn dm ev en ek : Nat) : Prop := vl ≠ nl ∧ vl ≠ kl ∧ nl ≠ kl ∧ (ev = en → ev = gDA G) ∧ (ev = ek → ev = gDA G) ∧ (en = ek → en = gDA G) ∧ ∀ d, ¬ nAdr N d dn ∧ ¬ nAdr N d dm
def gvC (G : gV) (M : gMem) (σ : sA) (ks : List Nat) : Prop := ks.length = aCN σ ∧ ∀ b k, ks[b]? = some k → isChunk G M k (chW (sN (aLo σ) (aHi σ) 0) (sN (aLo σ) (aHi σ) 1) (sN (aLo σ) (aHi σ) 2) b) (aSz σ) (chP (sN (aLo σ) (aHi σ) 0) (sN (aLo σ) (aHi σ) 1) (sN (aLo σ) (aHi σ) 2) b)
def gvO (vl nl kl fr dk : Nat) (σ : sA) : va_E := oB 11 [.ref vl, .ref nl, .ref kl, .ref fr, .ref dk, .int (nI (aOf σ)), .int (nI (aBg σ))]
def gvB (G : gV) (M : gMem) (g : Nat) (σ : sA) (vl nl kl fr dk dn dm ev en ek : Nat) (vs ns ks : List Nat) (N : gN) : Prop :=
  M g = some (gvO vl nl kl fr dk σ) ∧ isShape G M fr (nI (aM σ)) (aLo σ) (aHi σ) ∧ isCells G M dk dn dm (aSz σ) (aD σ) ∧ isList G M vl ev vs ∧ isList G M nl en ns ∧ isList G M kl ek ks ∧ gvC G M σ ks ∧ nInv G M N (fun _ _ => False) ∧ gvV σ vs N ∧ gvN σ ns N ∧ gvD G N vl nl kl dn dm ev en ek ∧ gvS σ
def isGV (G : gV) (M : gMem) (g : Nat) (σ : sA) : Prop := ∃ (vl nl kl fr dk dn dm ev en ek : Nat) (vs ns ks : List Nat) (N : gN), gvB G M g σ vl nl kl fr dk dn dm ev en ek vs ns ks N
/-- the kinds of cells on which the nodes stand, their numbers' rows aside -/
def kN (G : gV) (e : va_E) : Prop := (∃ ci fs0, e = oB ci fs0 ∧ ci ≠ 0 ∧ ci ≠ 11) ∨ ∃ n f, e = aI G n f
theorem kN_o {G : gV} {ci : Nat} {fs0 : List Value} (h : ci ≠ 0) (h2 : ci ≠ 11) : kN G (oB ci fs0) := Or.inl ⟨ci, fs0, rfl, h, h2⟩
theorem isNC_k {ci : Nat} (h : isNC ci) : ci ≠ 0 ∧ ci ≠ 11 := by rcases h with rfl | rfl | rfl | rfl | rfl | rfl <;> decide
theorem nInv_keep {G : gV} {M M' : gMem} {N : gN} {P : Nat → Nat → Prop} (h : nInv G M N P) (hm : ∀ q e, M q = some e → kN G e → M' q = some e) (hn : ∀ a, nS N a → M' (nna N a) = M (nna N a) ∧ M' (nma N a) = M (nma N a) ∧ M' (naa N a) = M (naa N a)) : nInv G M' N P := by
  refine ⟨fun a ha => ?_, h.2⟩
  obtain ⟨q1, q2, q3⟩ := h.1 a ha
  obtain ⟨n1, n2, n3⟩ := hn a ha
  refine ⟨?_, ?_, ?_⟩
  · obtain ⟨h1, h2, h3, h4, h5, h6, h7, h8⟩ := q1
    exact ⟨h1, hm _ _ h2 (kN_o (isNC_k h1).1 (isNC_k h1).2), h3.mv (fun x hx => by rcases hx with ⟨_, hx⟩ | ⟨_, hx⟩; exact (hm _ _ hx (kN_o (by decide) (by decide))).trans hx.symm; exact (hm _ _ hx (Or.inr ⟨_, _, rfl⟩)).trans hx.symm), h4, h5, h6, h7, hm _ _ h8 (kN_o (by decide) (by decide))⟩
  · rcases q2 with ⟨h1, h2⟩ | ⟨h1, s, tl, at0, tf, h2, h3, h4, h5, h6⟩ | h | h | ⟨h1, s, d, kind, reach, what, h2, h3, h4, ⟨tk, re, h5⟩, h6⟩ | h
    · exact Or.inl ⟨h1, h2⟩
    · exact Or.inr (Or.inl ⟨h1, s, tl, at0, tf, h2, h3, h4, hm _ _ h5 (Or.inr ⟨_, _, rfl⟩), h6⟩)
    · exact Or.inr (Or.inr (Or.inl h))
    · exact Or.inr (Or.inr (Or.inr (Or.inl h)))
    · exact Or.inr (Or.inr (Or.inr (Or.inr (Or.inl ⟨h1, s, d, kind, reach, what, h2, h3, h4, ⟨tk, re, hm _ _ h5 (kN_o (by decide) (by decide))⟩, h6⟩))))
    · exact Or.inr (Or.inr (Or.inr (Or.inr (Or.inr h))))
  · obtain ⟨cf, ak, h1, h2, h3⟩ := q3
    obtain ⟨a1, a2, c1, c2, c3, -⟩ := id h1
    exact ⟨cf, ak, h1.mv ((hm _ _ c1 (kN_o (by decide) (by decide))).trans c1.symm) n1 n2, n3.trans h2, h3⟩
theorem nFr_keep {G : gV} {M M' : gMem} {N : gN} {P : Nat → Nat → Prop} {d : Nat} (h : nInv G M N P) (hf : nFr G N d M M') {q : Nat} (hJ : ∀ n f, M q ≠ some (aJ G n f)) (h8 : ∀ fs0, M q ≠ some (oB 8 fs0)) : M' q = M q := hf.1 q (fun z => by
  rcases nAdr_kind h z with ⟨n, f, hh⟩ | ⟨fs0, hh⟩
  · exact hJ n f hh
  · exact h8 fs0 hh)
/-- cells of nodes were asked for: the state is the same -/
theorem gvB.fr {G : gV} {M M' : gMem} {g : Nat} {σ : sA} {vl nl kl fr dk dn dm ev en ek : Nat} {vs ns ks : List Nat} {N : gN} {d : Nat} (h : gvB G M g σ vl nl kl fr dk dn dm ev en ek vs ns ks N) (h2 : nInv G M' N (fun _ _ => False)) (hf : nFr G N d M M') : gvB G M' g σ vl nl kl fr dk dn dm ev en ek vs ns ks N := by
  obtain ⟨b1, b2, b3, b4, b5, b6, b7, b8, b9, b10, b11, b12⟩ := h
  have ob : ∀ q ci fs0, M q = some (oB ci fs0) → ci ≠ 8 → M' q = M q := fun q ci fs0 hq hc => nFr_keep b8 hf (fun _ _ z => by rw [hq] at z; cases z) (fun _ z => by rw [hq] at z; cases z; exact hc rfl)
  have ai : ∀ q n f, M q = some (aI G n f) → M' q = M q := fun q n f hq => nFr_keep b8 hf (fun _ _ z => by rw [hq] at z; simp at z) (fun _ z => by rw [hq] at z; cases z)
  have ao : ∀ q n f, M q = some (aO G n f) → M' q = M q := fun q n f hq => nFr_keep b8 hf (fun _ _ z => by rw [hq] at z; simp at z) (fun _ z => by rw [hq] at z; cases z)
  have no : ∀ q, M q = none → M' q = none := fun q hq => (nFr_keep b8 hf (fun _ _ z => by rw [hq] at z; cases z) (fun _ z => by rw [hq] at z; cases z)).trans hq
  have li : ∀ {a ed xs}, isList G M a ed xs → isList G M' a ed xs := fun hl => by
    obtain ⟨mv, r⟩ := id hl.2.1
    exact hl.mv (ob _ _ _ r (by decide)) (fun n f r2 => ao _ n f r2)
  obtain ⟨a1, a2, c1, c2, c3, -⟩ := id b3
  refine ⟨(ob _ _ _ b1 (by decide)).trans b1, b2.mv (fun x hx => by rcases hx with ⟨_, hx⟩ | ⟨_, hx⟩; exact ob _ _ _ hx (by decide); exact ai _ _ _ hx), b3.mv (ob _ _ _ c1 (by decide)) (hf.1 dn (b11.2.2.2.2.2.2 d).1) (hf.1 dm (b11.2.2.2.2.2.2 d).2), li b4, li b5, li b6, ⟨b7.1, fun b k hb => (b7.2 b k hb).mv (fun x hx => by rcases hx with ⟨_, hx⟩ | ⟨_, _, hx⟩; exact ob _ _ _ hx (by decide); exact ai _ _ _ hx)⟩, h2, b9, b10, b11, b12⟩
/-- the outcome of a call: an exception's class, the answer, the state behind it -/
abbrev oc : Type := Option String × Option Value × sA
def oT (E : String) (σ : sA) : oc := (some E, none, σ)
def oK (v : Option Value) (σ : sA) : oc := (none, v, σ)
def gzP (G : gV) (g : Nat) (o : oc) : Option Value → gMem → Prop := fun v M' => o.1 = none ∧ v = o.2.1 ∧ isGV G M' g o.2.2
def gzE (G : gV) (g : Nat) (o : oc) : String → gMem → Prop := fun E M' => o.1 = some E ∧ isGV G M' g o.2.2
theorem gzP_K {G : gV} {g : Nat} {o : oc} {M : gMem} {v : Option Value} {σ : sA} (e : o = oK v σ) (h : isGV G M g σ) : gzP G g o v M := by subst e; exact ⟨rfl, rfl, h⟩
theorem gzE_T {G : gV} {g : Nat} {o : oc} {M : gMem} {E : String} {σ : sA} (e : o = oT E σ) (h : isGV G M g σ) : gzE G g o E M := by subst e; exact ⟨rfl, h⟩
theorem node_okE {G : gV} {M : gMem} {N : gN} {a : Nat} (h : nStat G M N a) : okE M a := by
  obtain ⟨h1, h2, -⟩ := h
  rcases h1 with h1 | h1 | h1 | h1 | h1 | h1 <;> rw [h1] at h2
  · exact ⟨_, _, _, _, _, h2, rfl, tn_1475⟩
  · exact ⟨_, _, _, _, _, h2, rfl, tn_1477⟩
  · exact ⟨_, _, _, _, _, h2, rfl, tn_1476⟩
  · exact ⟨_, _, _, _, _, h2, rfl, tn_1479⟩
  · exact ⟨_, _, _, _, _, h2, rfl, tn_1470⟩
  · exact ⟨_, _, _, _, _, h2, rfl, tn_1474⟩
