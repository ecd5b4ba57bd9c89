/-! the state's pieces grow -/
section GG
variable {G : gV} {M M' : gMem} {g : Nat} {σ : sA} {vl nl kl fr dk dn dm eV en ek : Nat} {vs ns ks : List Nat} {N N' : gN}
theorem isCells.ev {K : Nat → Prop} {a na ma n : Nat} {f : Nat → Option Int64} (h : isCells G M a na ma n f) (x : mEv K M M') (h1 : ¬ K a) (h2 : ¬ K na) (h3 : ¬ K ma) : isCells G M' a na ma n f := by
  obtain ⟨_, _, c1, c2, c3, -⟩ := id h
  exact h.mv ((x _ (g_so c1)).2 h1) ((x _ (g_so c2)).2 h2) ((x _ (g_so c3)).2 h3)
theorem isList.ev {K : Nat → Prop} {a ed : Nat} {xs : List Nat} (h : isList G M a ed xs) (x : mEv K M M') (h1 : ¬ K a) (h2 : M ed ≠ none → ¬ K ed) : isList G M' a ed xs := by
  obtain ⟨mv, r⟩ := id h.2.1
  exact h.mv ((x _ (g_so r)).2 h1) (fun n f r2 => (x _ (g_so r2)).2 (h2 (g_so r2)))
/-- memory is made, nodes are added; the lists are as they were -/
theorem gvB.grow (h : gvB G M g σ vl nl kl fr dk dn dm eV en ek vs ns ks N) (x : mEv (fun _ => False) M M') (hN : nInv G M' N' (fun _ _ => False)) (hS : ∀ y, nS N y → nS N' y ∧ nEq N N' y) (hd : ∀ d, ¬ nAdr N' d dn ∧ ¬ nAdr N' d dm) : gvB G M' g σ vl nl kl fr dk dn dm eV en ek vs ns ks N' := by
  obtain ⟨b1, b2, b3, b4, b5, b6, b7, b8, b9, b10, b11, b12⟩ := h
  have nv : ∀ y, nS N y → nVal N' y = nVal N y := fun y hy => by
    obtain ⟨e1, e2, e3, e4, e5, e6, e7, e8, e9, e10, e11, e12, e13⟩ := (hS y hy).2
    unfold nVal; rw [e3, e4, e5, e7, e13]
  refine ⟨x.keep b1 id, b2.ev x (fun _ _ => id), b3.ev x id id id, b4.ev x id (fun _ => id), b5.ev x id (fun _ => id), b6.ev x id (fun _ => id), ⟨b7.1, fun b k hb => (b7.2 b k hb).ev x (fun _ _ => id)⟩, hN, ⟨b9.1, fun i a c ha hc => ?_⟩, ⟨b10.1, fun i a w ha hw => ?_⟩, ⟨b11.1, b11.2.1, b11.2.2.1, b11.2.2.2.1, b11.2.2.2.2.1, b11.2.2.2.2.2.1, hd⟩, b12⟩
  · obtain ⟨q1, q2, q3, q4⟩ := b9.2 i a c ha hc
    exact ⟨(hS a q1).1, (hS a q1).2.1.trans q2, (nv a q1).trans q3, (hS a q1).2.2.1.trans q4⟩
  · obtain ⟨q1, q2⟩ := b10.2 i a w ha hw
    exact ⟨(hS a q1).1, (nv a q1).trans q2⟩
theorem nEq.rf (N : gN) (x : Nat) : nEq N N x := ⟨rfl, rfl, rfl, rfl, rfl, rfl, rfl, rfl, rfl, rfl, rfl, rfl, rfl⟩
theorem gvB.ev (h : gvB G M g σ vl nl kl fr dk dn dm eV en ek vs ns ks N) (x : mEv (fun _ => False) M M') : gvB G M' g σ vl nl kl fr dk dn dm eV en ek vs ns ks N := by
  refine h.grow x ?_ (fun y hy => ⟨hy, nEq.rf N y⟩) h.2.2.2.2.2.2.2.2.2.2.1.2.2.2.2.2.2
  have b8 := h.2.2.2.2.2.2.2.1
  refine nInv_keep b8 (fun q e hq _ => x.keep hq id) (fun a ha => ?_)
  obtain ⟨-, -, cf, ak, p3, p4, -⟩ := b8.1 a ha
  obtain ⟨_, _, d1, d2, d3, -⟩ := p3
  exact ⟨(x _ (g_so d2)).2 id, (x _ (g_so d3)).2 id, (x _ (g_so p4)).2 id⟩
/-- the kinds of cells that a list's growing doesn't touch -/
theorem nInv_list (h : nInv G M N (fun _ _ => False)) {a ed : Nat} {xs : List Nat} (hl : isList G M a ed xs) (hda : M (gDA G) = none) (x : mEv (fun q => q = a ∨ q = ed) M M') : nInv G M' N (fun _ _ => False) := by
  have nk : ∀ {q : Nat} {e : va_E}, M q = some e → (∀ n f, e ≠ aO G n f) → (∀ fs0, e ≠ oB 0 fs0) → ¬ (q = a ∨ q = ed) := fun h h1 h2 z => by
    rcases z with z | z
    · exact hl.nea h h2 z
    · exact hl.ned hda h h1 z
  refine nInv_keep h (fun q e hq hk => ?_) (fun b hb => ?_)
  · rcases hk with ⟨ci, fs0, rfl, h0, -⟩ | ⟨n, f, rfl⟩
    · exact x.keep hq (nk hq (fun _ _ z => by cases z) (fun _ z => by cases z; exact h0 rfl))
    · exact x.keep hq (nk hq (fun _ _ z => by simp at z) (fun _ z => by cases z))
  · obtain ⟨-, -, cf, ak, p3, p4, -⟩ := h.1 b hb
    obtain ⟨_, _, d1, d2, d3, -⟩ := p3
    exact ⟨(x _ (g_so d2)).2 (nk d2 (fun _ _ z => by simp at z) (fun _ z => by cases z)), (x _ (g_so d3)).2 (nk d3 (fun _ _ z => by simp at z) (fun _ z => by cases z)), (x _ (g_so p4)).2 (nk p4 (fun _ _ z => by simp at z) (fun _ z => by cases z))⟩
def aPushN (σ : sA) (w : vN) : sA := (σ.1, σ.2.1, σ.2.2.1, aN σ ++ [w], σ.2.2.2.2)
theorem lst_end {A : Type} {xs : List A} {a b : A} {i : Nat} (h : (xs ++ [a])[i]? = some b) : xs[i]? = some b ∨ (i = xs.length ∧ b = a) := by
  by_cases c : i < xs.length
  · rw [List.getElem?_append_left c] at h; exact Or.inl h
  · have := (List.getElem?_eq_some_iff.mp h).1
    rw [List.length_append] at this
    have e : i = xs.length := by simp at this; omega
    subst e
    rw [List.getElem?_concat_length] at h; cases h
    exact Or.inr ⟨rfl, rfl⟩
theorem gvB.pushN (h : gvB G M g σ vl nl kl fr dk dn dm eV en ek vs ns ks N) (hda : M (gDA G) = none) {a : Nat} {w : Option Value} (hl : lP G M nl en a ns w M') (ha : nS N a) (h150 : ns.length < 150) : isGV G M' g (aPushN σ (nVal N a)) := by
  obtain ⟨b1, b2, b3, b4, b5, b6, b7, b8, b9, b10, b11, b12⟩ := h
  have x := hl.ev
  obtain ⟨-, en', j1, j2, -⟩ := hl
  have nk : ∀ {q : Nat} {e : va_E}, M q = some e → (∀ n f, e ≠ aO G n f) → (∀ fs0, e ≠ oB 0 fs0) → ¬ (q = nl ∨ q = en) := fun h h1 h2 z => by
    rcases z with z | z
    · exact b5.nea h h2 z
    · exact b5.ned hda h h1 z
  have no : ∀ {q ci : Nat} {fs0 : List Value}, M q = some (oB ci fs0) → ci ≠ 0 → ¬ (q = nl ∨ q = en) := fun h h0 => nk h (fun _ _ z => by cases z) (fun _ z => by cases z; exact h0 rfl)
  have ni : ∀ {q n : Nat} {f : Nat → Int32}, M q = some (aI G n f) → ¬ (q = nl ∨ q = en) := fun h => nk h (fun _ _ z => by simp at z) (fun _ z => by cases z)
  have nj : ∀ {q n : Nat} {f : Nat → Int64}, M q = some (aJ G n f) → ¬ (q = nl ∨ q = en) := fun h => nk h (fun _ _ z => by simp at z) (fun _ z => by cases z)
  have oth : ∀ {a2 ed : Nat} {xs : List Nat}, isList G M a2 ed xs → a2 ≠ nl → (ed = en → ed = gDA G) → isList G M' a2 ed xs := fun hl2 h1 h2 => by
    obtain ⟨mv, r⟩ := id hl2.2.1
    refine hl2.ev x (fun z => ?_) (fun hd z => ?_)
    · rcases z with z | z
      · exact h1 z
      · exact b5.ned hda r (fun _ _ z => by cases z) z
    · rcases z with z | z
      · obtain ⟨mv2, r2⟩ := id b5.2.1
        exact hl2.ned hda r2 (fun _ _ z => by cases z) z.symm
      · exact hd (by rw [h2 z]; exact hda)
  have hen : ∀ {ed xs a2}, isList G M a2 ed xs → (ed = en → ed = gDA G) → en' = ed → en' = gDA G := fun hl2 h1 z => by
    rcases j2 with j2 | j2
    · subst j2; subst z; exact h1 rfl
    · subst z
      rcases hl2.2.2 with ⟨r, -⟩ | ⟨n, f, r, -⟩
      · exact r
      · rw [r] at j2; cases j2
  obtain ⟨_, _, c1, c2, c3, -⟩ := id b3
  refine ⟨vl, nl, kl, fr, dk, dn, dm, eV, en', ek, vs, ns ++ [a], ks, N, x.keep b1 (no b1 (by decide)), b2.ev x (fun q hq => by rcases hq with ⟨_, hq⟩ | ⟨_, hq⟩; exact no hq (by decide); exact ni hq), b3.ev x (no c1 (by decide)) (nj c2) (nj c3), oth b4 b11.1 b11.2.2.2.1, j1, oth b6 (Ne.symm b11.2.2.1) (fun z => by have := b11.2.2.2.2.2.1 z.symm; rw [z]; exact this), ⟨b7.1, fun b k hb => (b7.2 b k hb).ev x (fun q hq => by rcases hq with ⟨_, hq⟩ | ⟨_, _, hq⟩; exact no hq (by decide); exact ni hq)⟩, nInv_list b8 b5 hda x, b9, ⟨?_, ?_⟩, ⟨b11.1, b11.2.1, b11.2.2.1, fun z => ?_, b11.2.2.2.2.1, fun z => ?_, b11.2.2.2.2.2.2⟩, b12.1, b12.2.1, b12.2.2.1, b12.2.2.2.1, ?_, b12.2.2.2.2.2⟩
  · show (ns ++ [a]).length = (aN σ ++ [_]).length
    rw [List.length_append, List.length_append, b10.1]; rfl
  · intro i a2 w2 h1 h2
    rcases lst_end h1 with h1 | ⟨rfl, rfl⟩
    · have hi := (List.getElem?_eq_some_iff.mp h1).1
      rw [b10.1] at hi
      have h3 : (aN σ ++ [nVal N a])[i]? = some w2 := h2
      rw [List.getElem?_append_left hi] at h3
      exact b10.2 i a2 w2 h1 h3
    · have h3 : (aN σ ++ [nVal N a2])[ns.length]? = some w2 := h2
      rw [b10.1, List.getElem?_concat_length] at h3; cases h3
      exact ⟨ha, rfl⟩
  · have := hen b4 b11.2.2.2.1 z.symm; rw [z]; exact this
  · exact hen b6 (fun z2 => by have := b11.2.2.2.2.2.1 z2.symm; rw [z2]; exact this) z
  · show (aN σ ++ [_]).length ≤ 150
    rw [List.length_append, ← b10.1]; simp; omega
end GG
