/-! NODES are added: the ghost N grows by one -/
def nAdd (N : gN) (a ci : Nat) (ex : List Value) (m : Nat) (lo hi : Nat → Int32) (sh dp ca na ma aa ta : Nat) (den : Nat → Option Int64) : gN :=
  (fun x => x = a ∨ nS N x, fun x => if x = a then ci else nci N x, fun x => if x = a then ex else nex N x, fun x => if x = a then m else nm N x, fun x => if x = a then lo else nlo N x, fun x => if x = a then hi else nhi N x, fun x => if x = a then sh else nsh N x, fun x => if x = a then dp else ndp N x, fun x => if x = a then ca else nca N x, fun x => if x = a then na else nna N x, fun x => if x = a then ma else nma N x, fun x => if x = a then aa else naa N x, fun x => if x = a then ta else nta N x, fun x => if x = a then den else nden N x)
/-- two ghosts say the same of x -/
def nEq (N N' : gN) (x : Nat) : Prop := nci N' x = nci N x ∧ nex N' x = nex N x ∧ nm N' x = nm N x ∧ nlo N' x = nlo N x ∧ nhi N' x = nhi N x ∧ nsh N' x = nsh N x ∧ ndp N' x = ndp N x ∧ nca N' x = nca N x ∧ nna N' x = nna N x ∧ nma N' x = nma N x ∧ naa N' x = naa N x ∧ nta N' x = nta N x ∧ nden N' x = nden N x
theorem nAdd_ne {N : gN} {a ci : Nat} {ex : List Value} {m : Nat} {lo hi : Nat → Int32} {sh dp ca na ma aa ta : Nat} {den : Nat → Option Int64} {x : Nat} (h : x ≠ a) : nEq N (nAdd N a ci ex m lo hi sh dp ca na ma aa ta den) x :=
  ⟨if_neg h, if_neg h, if_neg h, if_neg h, if_neg h, if_neg h, if_neg h, if_neg h, if_neg h, if_neg h, if_neg h, if_neg h, if_neg h⟩
theorem nAdd_at {N : gN} {a ci : Nat} {ex : List Value} {m : Nat} {lo hi : Nat → Int32} {sh dp ca na ma aa ta : Nat} {den : Nat → Option Int64} {N' : gN} (e : N' = nAdd N a ci ex m lo hi sh dp ca na ma aa ta den) : nci N' a = ci ∧ nex N' a = ex ∧ nm N' a = m ∧ nlo N' a = lo ∧ nhi N' a = hi ∧ nsh N' a = sh ∧ ndp N' a = dp ∧ nca N' a = ca ∧ nna N' a = na ∧ nma N' a = ma ∧ naa N' a = aa ∧ nta N' a = ta ∧ nden N' a = den := by
  subst e
  exact ⟨if_pos rfl, if_pos rfl, if_pos rfl, if_pos rfl, if_pos rfl, if_pos rfl, if_pos rfl, if_pos rfl, if_pos rfl, if_pos rfl, if_pos rfl, if_pos rfl, if_pos rfl⟩
section NE
variable {N N' : gN} {x s t : Nat}
theorem nEq.sz (h : nEq N N' x) : nsz N' x = nsz N x := by unfold nsz; rw [h.2.2.2.1, h.2.2.2.2.1]
theorem nEq.at (h : nEq N N' x) (i : Int32) : nAt N' x i = nAt N x i := by unfold nAt; rw [h.sz, h.2.2.2.2.2.2.2.2.2.2.2.2]
theorem nEq.ix (h : nEq N N' x) (a b c : Int32) : nIdx N' x a b c = nIdx N x a b c := by unfold nIdx; rw [h.2.2.1, h.2.2.2.1, h.2.2.2.2.1]
theorem nEq.tal (h : nEq N N' s) (what start step : Int32) (k : Nat) : talR N' s what start step k = talR N s what start step k := by
  induction k with
  | zero => rfl
  | succ k ih => simp only [talR, h.at, ih]
theorem nEq.pro (h : nEq N N' s) (h2 : nEq N N' t) (p q sp sq : Int32) (k : Nat) : proR N' s t p q sp sq k = proR N s t p q sp sq k := by
  induction k with
  | zero => rfl
  | succ k ih => simp only [proR, h.at, h2.at, ih]
theorem nEq.vw (h : nEq N N' x) (tf : Nat → Int32) (at0 : Int32) (i d : Nat) : vwP N' x tf at0 i d = vwP N x tf at0 i d := by unfold vwP; rw [h.2.2.2.1, h.2.2.2.2.1]
theorem nEq.fF (h : nEq N N' x) (h2 : nEq N N' s) (d kind reach : Int32) (i : Nat) : foF N' x s d kind reach i = foF N x s d kind reach i := by unfold foF; rw [h.2.2.2.1, h.2.2.2.2.1, h2.2.2.2.1]
theorem nEq.fL (h : nEq N N' x) (h2 : nEq N N' s) (d kind reach : Int32) (i : Nat) : foL N' x s d kind reach i = foL N x s d kind reach i := by unfold foL; rw [h.fF h2, h.2.2.2.1, h.2.2.2.2.1, h2.2.2.2.2.1]
theorem nEq.fP (h : nEq N N' x) (d kind e f : Int32) (i : Nat) : foP N' x d kind e f i = foP N x d kind e f i := by unfold foP; rw [h.2.2.2.1, h.2.2.2.2.1]
end NE
theorem nStat_add {G : gV} {M M' : gMem} {N N' : gN} {a : Nat} (hs : nStat G M N a) (e : nEq N N' a) (ev : mEv (fun _ => False) M M') : nStat G M' N' a := by
  obtain ⟨e1, e2, e3, e4, e5, e6, e7, e8, e9, e10, e11, e12, e13⟩ := id e
  obtain ⟨h1, h2, h3, h4, h5, h6, h7, h8⟩ := hs
  unfold nStat
  rw [e1, e2, e3, e4, e5, e6, e7, e8, e9, e10, e11, e.sz]
  exact ⟨h1, ev.keep h2 id, h3.ev ev (fun _ _ => id), h4, h5, h6, h7, ev.keep h8 id⟩
theorem nCache_add {G : gV} {M M' : gMem} {N N' : gN} {P : Nat → Nat → Prop} {a : Nat} (hs : nCache G M N P a) (e : nEq N N' a) (ev : mEv (fun _ => False) M M') : nCache G M' N' P a := by
  obtain ⟨cf, ak, h1, h2, h3⟩ := hs
  obtain ⟨e1, e2, e3, e4, e5, e6, e7, e8, e9, e10, e11, e12, e13⟩ := id e
  unfold nCache
  rw [e1, e8, e9, e10, e11, e13, e.sz]
  obtain ⟨n1, m1, c1, c2, c3, -⟩ := id h1
  exact ⟨cf, ak, h1.mv ((ev _ (g_so c1)).2 id) ((ev _ (g_so c2)).2 id) ((ev _ (g_so c3)).2 id), ev.keep h2 id, h3⟩
theorem nKind_add {G : gV} {M M' : gMem} {N N' : gN} {a : Nat} (hk : nKind G M N a) (hS : ∀ x, nS N x → nS N' x ∧ nEq N N' x) (ha : nS N a) (ev : mEv (fun _ => False) M M') : nKind G M' N' a := by
  have e := (hS a ha).2
  obtain ⟨e1, e2, e3, e4, e5, e6, e7, e8, e9, e10, e11, e12, e13⟩ := id e
  unfold nKind
  simp only [e1, e2, e4, e5, e7, e12, e13, e.sz, e.vw, e.fP]
  rcases hk with ⟨h1, h2⟩ | ⟨h1, s, tl, at0, tf, h2, h3, h4, h5, h6⟩ | ⟨h1, s, rule, c, h2, h3, h4, h5, h6⟩ | ⟨h1, s, t, op, h2, h3, h4, h5, h6, h7⟩ | ⟨h1, s, d, kind, reach, what, h2, h3, h4, ⟨tk, re, h5⟩, h6⟩ | ⟨h1, s, t, h2, h3, h4, h5, h6, K, h7, h8, h9, h10⟩
  · exact Or.inl ⟨h1, h2⟩
  · have es := (hS s h3).2
    exact Or.inr (Or.inl ⟨h1, s, tl, at0, tf, h2, (hS s h3).1, by rw [es.2.2.2.2.2.2.1]; exact h4, ev.keep h5 id, fun i hi => by rw [es.at, es.ix]; exact h6 i hi⟩)
  · have es := (hS s h3).2
    exact Or.inr (Or.inr (Or.inl ⟨h1, s, rule, c, h2, (hS s h3).1, by rw [es.2.2.2.2.2.2.1]; exact h4, h5, fun i hi => by rw [es.at]; exact h6 i hi⟩))
  · have es := (hS s h3).2
    have et := (hS t h4).2
    exact Or.inr (Or.inr (Or.inr (Or.inl ⟨h1, s, t, op, h2, (hS s h3).1, (hS t h4).1, by rw [es.2.2.2.2.2.2.1]; exact h5, by rw [et.2.2.2.2.2.2.1]; exact h6, fun i hi => by rw [es.at, es.ix, et.at, et.ix]; exact h7 i hi⟩)))
  · have es := (hS s h3).2
    refine Or.inr (Or.inr (Or.inr (Or.inr (Or.inl ⟨h1, s, d, kind, reach, what, h2, (hS s h3).1, by rw [es.2.2.2.2.2.2.1]; exact h4, ⟨tk, re, ev.keep h5 id⟩, fun i hi => ?_⟩))))
    obtain ⟨K, k1, k2, k3⟩ := h6 i hi
    refine ⟨K, k1, ?_, ?_⟩
    · rw [e.fL es, e.fF es, es.2.2.2.1, es.2.2.2.2.1]; exact k2
    · rw [e.fF es, es.2.2.2.1, es.2.2.2.2.1, es.ix, es.tal]; exact k3
  · have es := (hS s h3).2
    have et := (hS t h4).2
    refine Or.inr (Or.inr (Or.inr (Or.inr (Or.inr ⟨h1, s, t, h2, (hS s h3).1, (hS t h4).1, by rw [es.2.2.2.2.2.2.1]; exact h5, by rw [et.2.2.2.2.2.2.1]; exact h6, K, h7, ?_, ?_, fun i hi => ?_⟩))))
    · rw [es.2.2.2.1, es.2.2.2.2.1, et.2.2.2.1, et.2.2.2.2.1]; exact h8
    · rw [es.2.2.2.1, es.2.2.2.2.1, et.2.2.2.1, et.2.2.2.2.1]; exact h9
    · rw [es.2.2.2.1, es.2.2.2.2.1, et.2.2.2.1, et.2.2.2.2.1, es.ix, et.ix, es.pro et]; exact h10 i hi
/-- a node more -/
theorem nInv_add {G : gV} {M M' : gMem} {N N' : gN} {a ci : Nat} {ex : List Value} {m : Nat} {lo hi : Nat → Int32} {sh dp ca na ma aa ta : Nat} {den : Nat → Option Int64} (h : nInv G M N (fun _ _ => False)) (e : N' = nAdd N a ci ex m lo hi sh dp ca na ma aa ta den) (f0 : M a = none) (f1 : M na = none) (f2 : M ma = none) (f3 : M aa = none) (ft : ci = 4 → M ta = none) (ev : mEv (fun _ => False) M M')
    (hst : nStat G M' N' a) (hk : nKind G M' N' a) (hc : nCache G M' N' (fun _ _ => False) a) (d1 : na ≠ ma) (d2 : na ≠ aa) (d3 : ma ≠ aa) : nInv G M' N' (fun _ _ => False) := by
  have ne : ∀ x, nS N x → x ≠ a := fun x hx z => by
    have := (h.1 x hx).1.2.1; rw [z, f0] at this; cases this
  have hS : ∀ x, nS N x → nS N' x ∧ nEq N N' x := fun x hx => ⟨by rw [e]; exact Or.inr hx, by rw [e]; exact nAdd_ne (ne x hx)⟩
  have at0 := nAdd_at e
  refine ⟨fun x hx => ?_, ?_⟩
  · by_cases hxa : x = a
    · subst hxa; exact ⟨hst, hk, hc⟩
    · have hx0 : nS N x := by rw [e] at hx; exact hx.resolve_left hxa
      obtain ⟨q1, q2, q3⟩ := h.1 x hx0
      have ex := (hS x hx0).2
      exact ⟨nStat_add q1 ex ev, nKind_add q2 hS hx0 ev, nCache_add q3 ex ev⟩
  · have old : ∀ x, nS N x → M (nna N x) ≠ none ∧ M (nma N x) ≠ none ∧ M (naa N x) ≠ none ∧ (nci N x = 4 → M (nta N x) ≠ none) := fun x hx => by
      obtain ⟨-, q2, cf, ak, q3, q4, -⟩ := h.1 x hx
      obtain ⟨n1, m1, c1, c2, c3, -⟩ := q3
      refine ⟨g_so c2, g_so c3, g_so q4, fun h4 => ?_⟩
      rcases q2 with ⟨h1, -⟩ | ⟨h1, -⟩ | ⟨h1, -⟩ | ⟨h1, -⟩ | ⟨h1, s, d, kind, reach, what, -, -, -, ⟨tk, re, h5⟩, -⟩ | ⟨h1, -⟩
      all_goals first | exact g_so h5 | (rw [h4] at h1; exact absurd h1 (by decide))
    have dn : ∀ {y z : Nat}, M y = none → M z ≠ none → z ≠ y := fun h1 h2 h3 => h2 (h3 ▸ h1)
    intro x y hx hy
    obtain ⟨b1, -, -, -, -, -, -, -, b9, b10, b11, b12, -⟩ := at0
    by_cases hxa : x = a
    · by_cases hya : y = a
      · subst hxa; subst hya
        rw [b9, b10, b11]
        exact ⟨fun _ => rfl, d1, d2, fun _ => rfl, d3, fun _ => rfl, fun _ _ _ => rfl⟩
      · have hy0 : nS N y := by rw [e] at hy; exact hy.resolve_left hya
        obtain ⟨c1, c2, c3, c4⟩ := old y hy0
        obtain ⟨e1, -, -, -, -, -, -, -, e9, e10, e11, e12, -⟩ := (hS y hy0).2
        subst hxa
        rw [b1, b9, b10, b11, b12, e1, e9, e10, e11, e12]
        exact ⟨fun z => absurd z.symm (dn f1 c1), fun z => absurd z.symm (dn f1 c2), fun z => absurd z.symm (dn f1 c3), fun z => absurd z.symm (dn f2 c2), fun z => absurd z.symm (dn f2 c3), fun z => absurd z.symm (dn f3 c3), fun w1 w2 z => absurd z.symm (dn (ft w1) (c4 w2))⟩
    · have hx0 : nS N x := by rw [e] at hx; exact hx.resolve_left hxa
      obtain ⟨c1, c2, c3, c4⟩ := old x hx0
      obtain ⟨e1, -, -, -, -, -, -, -, e9, e10, e11, e12, -⟩ := (hS x hx0).2
      by_cases hya : y = a
      · subst hya
        rw [b1, b9, b10, b11, b12, e1, e9, e10, e11, e12]
        exact ⟨fun z => absurd z (dn f1 c1), fun z => absurd z (dn f2 c1), fun z => absurd z (dn f3 c1), fun z => absurd z (dn f2 c2), fun z => absurd z (dn f3 c2), fun z => absurd z (dn f3 c3), fun w1 w2 z => absurd z (dn (ft w2) (c4 w1))⟩
      · have hy0 : nS N y := by rw [e] at hy; exact hy.resolve_left hya
        obtain ⟨g1, -, -, -, -, -, -, -, g9, g10, g11, g12, -⟩ := (hS y hy0).2
        rw [e1, e9, e10, e11, e12, g1, g9, g10, g11, g12]
        exact h.2 x y hx0 hy0
