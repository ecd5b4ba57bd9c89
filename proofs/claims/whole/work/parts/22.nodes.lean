/-! NODES: what their cells hold; what a cell of a node is (nden); the caches agree with it -/
abbrev gN : Type := (Nat → Prop) × (Nat → Nat) × (Nat → List Value) × (Nat → Nat) × (Nat → Nat → Int32) × (Nat → Nat → Int32) × (Nat → Nat) × (Nat → Nat) × (Nat → Nat) × (Nat → Nat) × (Nat → Nat) × (Nat → Nat) × (Nat → Nat) × (Nat → Nat → Option Int64)
/-- the addresses of the nodes; their kinds; their own fields behind the four of all; dimensions, lows, highs; the shape's cell; depth; the cells' cell, its numbers, its marks; the asked row; the tally; the cells' meaning -/
abbrev nS (N : gN) : Nat → Prop := N.1
abbrev nci (N : gN) : Nat → Nat := N.2.1
abbrev nex (N : gN) : Nat → List Value := N.2.2.1
abbrev nm (N : gN) : Nat → Nat := N.2.2.2.1
abbrev nlo (N : gN) : Nat → Nat → Int32 := N.2.2.2.2.1
abbrev nhi (N : gN) : Nat → Nat → Int32 := N.2.2.2.2.2.1
abbrev nsh (N : gN) : Nat → Nat := N.2.2.2.2.2.2.1
abbrev ndp (N : gN) : Nat → Nat := N.2.2.2.2.2.2.2.1
abbrev nca (N : gN) : Nat → Nat := N.2.2.2.2.2.2.2.2.1
abbrev nna (N : gN) : Nat → Nat := N.2.2.2.2.2.2.2.2.2.1
abbrev nma (N : gN) : Nat → Nat := N.2.2.2.2.2.2.2.2.2.2.1
abbrev naa (N : gN) : Nat → Nat := N.2.2.2.2.2.2.2.2.2.2.2.1
abbrev nta (N : gN) : Nat → Nat := N.2.2.2.2.2.2.2.2.2.2.2.2.1
abbrev nden (N : gN) : Nat → Nat → Option Int64 := N.2.2.2.2.2.2.2.2.2.2.2.2.2
def nsz (N : gN) (a : Nat) : Nat := sz3 (nlo N a) (nhi N a)
/-- what a source gives at an index that may be none of its -/
def nAt (N : gN) (a : Nat) (i : Int32) : Option Int64 := if cIn (nsz N a) i = 0 then none else nden N a i.toNatClampNeg
/-- the cells that change while cells of nodes, of depth d at most, are worked out -/
def nAdr (N : gN) (d q : Nat) : Prop := ∃ a, nS N a ∧ ndp N a ≤ d ∧ (q = nna N a ∨ q = nma N a ∨ q = naa N a ∨ (nci N a = 4 ∧ q = nta N a))
def nStat (G : gV) (M : gMem) (N : gN) (a : Nat) : Prop := isNC (nci N a) ∧ M a = some (oB (nci N a) (.ref (nsh N a) :: .int (nI (ndp N a)) :: .ref (nca N a) :: .ref (naa N a) :: nex N a)) ∧ isShape G M (nsh N a) (nI (nm N a)) (nlo N a) (nhi N a) ∧ okS (nm N a) (nlo N a) (nhi N a) ∧ nsz N a ≤ 4096 ∧ 1 ≤ ndp N a ∧ ndp N a ≤ 40 ∧ M (nca N a) = some (oB 1 [.ref (nna N a), .ref (nma N a)])
/-- apply and filter, cell by cell -/
def eachD (rule : Int32) (c v : Int64) : Option Int64 :=
  if rule = 0 then some (v + c) else if rule = 1 then some (v * c) else if rule = 2 then (if c = 0 then none else some (v / c)) else if rule = 3 then (if c = 0 then none else some (v - v / c * c)) else if rule = 4 then some (c - v) else if rule = 5 then (if v = 0 then none else some (c / v)) else if rule = 6 then (if v = c then some v else none) else if rule = 7 then (if v = c then none else some v) else if rule = 8 then (if v < c then some v else none) else (if c ≤ v then some v else none)
def joinD (op : Int32) (v w : Int64) : Int64 := if op = 0 then v + w else if op = 1 then v - w else if op = 2 then v * w else if op = 3 then mnJ v w else if op = 4 then mxJ v w else v
/-- taking together, one number more: how many were taken, the result -/
def talS (what : Int32) (t : Nat × Int64) (v : Int64) : Nat × Int64 := (t.1 + 1, if what = 0 then t.2 + v else if what = 1 then t.2 + 1 else if what = 2 then (if t.1 = 0 then v else mnJ t.2 v) else (if t.1 = 0 then v else mxJ t.2 v))
/-- the first k of a row of a node, from 'start' on in steps, taken together -/
def talR (N : gN) (src : Nat) (what start step : Int32) : Nat → Nat × Int64
  | 0 => (0, 0)
  | k + 1 => match nAt N src (start + nI k * step) with
    | none => talR N src what start step k
    | some v => talS what (talR N src what start step k) v
def talO (t : Nat × Int64) : Option Int64 := if t.1 = 0 then none else some t.2
/-- a product's sum over k places, from p and q on -/
def proR (N : gN) (x y : Nat) (p q sp sq : Int32) : Nat → Bool × Int64
  | 0 => (false, 0)
  | k + 1 => match nAt N x (p + nI k * sp), nAt N y (q + nI k * sq) with
    | some v, some w => (true, (proR N x y p q sp sq k).2 + v * w)
    | _, _ => proR N x y p q sp sq k
/-- sub, slice, extend, swap: the place in the source -/
def vwP (N : gN) (a : Nat) (tf : Nat → Int32) (at0 : Int32) (i d : Nat) : Int32 := if tf d = -1 then at0 else sPlace (nlo N a) (nhi N a) (nI i) (tf d)
def foF (N : gN) (a src : Nat) (d kind reach : Int32) (i : Nat) : Int32 := if kind = 1 then sPlace (nlo N a) (nhi N a) (nI i) d * reach else if kind = 2 then sPlace (nlo N a) (nhi N a) (nI i) d - reach else s3 (nlo N src) 0 d
def foL (N : gN) (a src : Nat) (d kind reach : Int32) (i : Nat) : Int32 := if kind = 1 then foF N a src d kind reach i + reach - 1 else if kind = 2 then sPlace (nlo N a) (nhi N a) (nI i) d + reach else s3 (nhi N src) 0 d
def foP (N : gN) (a : Nat) (d kind e from0 : Int32) (i : Nat) : Int32 := if e = d then from0 else if kind = 0 ∧ d < e then sPlace (nlo N a) (nhi N a) (nI i) (e - 1) else sPlace (nlo N a) (nhi N a) (nI i) e
def nIdx (N : gN) (s : Nat) (x y z : Int32) : Int32 := sIdx (nI (nm N s)) (nlo N s) (nhi N s) x y z
/-- what the cells of a node mean, by its kind -/
def nKind (G : gV) (M : gMem) (N : gN) (a : Nat) : Prop :=
  (nci N a = 9 ∧ ∃ p dc oc : Int32, nex N a = [.int p, .int dc, .int oc]) ∨
  (nci N a = 10 ∧ ∃ (s tl : Nat) (at0 : Int32) (tf : Nat → Int32), nex N a = [.ref s, .ref tl, .int at0] ∧ nS N s ∧ ndp N s < ndp N a ∧ M tl = some (aI G 3 tf) ∧ ∀ i, i < nsz N a → nden N a i = nAt N s (nIdx N s (vwP N a tf at0 i 0) (vwP N a tf at0 i 1) (vwP N a tf at0 i 2))) ∨
  (nci N a = 3 ∧ ∃ (s : Nat) (rule : Int32) (c : Int64), nex N a = [.ref s, .int rule, .long c] ∧ nS N s ∧ ndp N s < ndp N a ∧ (∃ r : Nat, r ≤ 9 ∧ rule = nI r) ∧ ∀ i, i < nsz N a → nden N a i = (nAt N s (nI i)).bind (eachD rule c)) ∨
  (nci N a = 5 ∧ ∃ (s t : Nat) (op : Int32), nex N a = [.ref s, .ref t, .int op] ∧ nS N s ∧ nS N t ∧ ndp N s < ndp N a ∧ ndp N t < ndp N a ∧ ∀ i, i < nsz N a → nden N a i = (nAt N s (nIdx N s (sPlace (nlo N a) (nhi N a) (nI i) 0) (sPlace (nlo N a) (nhi N a) (nI i) 1) (sPlace (nlo N a) (nhi N a) (nI i) 2))).bind (fun v => (nAt N t (nIdx N t (sPlace (nlo N a) (nhi N a) (nI i) 0) (sPlace (nlo N a) (nhi N a) (nI i) 1) (sPlace (nlo N a) (nhi N a) (nI i) 2))).map (joinD op v))) ∨
  (nci N a = 4 ∧ ∃ (s : Nat) (d kind reach what : Int32), nex N a = [.ref s, .int d, .int kind, .int reach, .ref (nta N a)] ∧ nS N s ∧ ndp N s < ndp N a ∧ (∃ (tk : Int32) (re : Int64), M (nta N a) = some (oB 8 [.int what, .int tk, .long re])) ∧ ∀ i, i < nsz N a → ∃ K : Nat, K ≤ 4096 ∧ (mnI (s3 (nhi N s) 0 d) (foL N a s d kind reach i)) - (mxI (s3 (nlo N s) 0 d) (foF N a s d kind reach i)) + 1 = nI K ∧ nden N a i = talO (talR N s what (nIdx N s (foP N a d kind 0 (mxI (s3 (nlo N s) 0 d) (foF N a s d kind reach i)) i) (foP N a d kind 1 (mxI (s3 (nlo N s) 0 d) (foF N a s d kind reach i)) i) (foP N a d kind 2 (mxI (s3 (nlo N s) 0 d) (foF N a s d kind reach i)) i)) (s3 (sp3 (nlo N s) (nhi N s)) 1 d) K)) ∨
  (nci N a = 6 ∧ ∃ (s t : Nat), nex N a = [.ref s, .ref t] ∧ nS N s ∧ nS N t ∧ ndp N s < ndp N a ∧ ndp N t < ndp N a ∧ ∃ K : Nat, K ≤ 4096 ∧ (∀ k : Nat, k < K → mxI (nlo N s 1) (nlo N t 0) + nI k ≤ mnI (nhi N s 1) (nhi N t 0)) ∧ ¬ mxI (nlo N s 1) (nlo N t 0) + nI K ≤ mnI (nhi N s 1) (nhi N t 0) ∧ ∀ i, i < nsz N a → nden N a i = (if (proR N s t (nIdx N s (sPlace (nlo N a) (nhi N a) (nI i) 0) (mxI (nlo N s 1) (nlo N t 0)) 0) (nIdx N t (mxI (nlo N s 1) (nlo N t 0)) (sPlace (nlo N a) (nhi N a) (nI i) 1) 0) (s3 (sp3 (nlo N s) (nhi N s)) 1 1) (s3 (sp3 (nlo N t) (nhi N t)) 1 0) K).1 = true then some (proR N s t (nIdx N s (sPlace (nlo N a) (nhi N a) (nI i) 0) (mxI (nlo N s 1) (nlo N t 0)) 0) (nIdx N t (mxI (nlo N s 1) (nlo N t 0)) (sPlace (nlo N a) (nhi N a) (nI i) 1) 0) (s3 (sp3 (nlo N s) (nhi N s)) 1 1) (s3 (sp3 (nlo N t) (nhi N t)) 1 0) K).2 else none))
/-- the caches: where a cell was asked for (and isn't being worked out) it is there -/
def nCache (G : gV) (M : gMem) (N : gN) (P : Nat → Nat → Prop) (a : Nat) : Prop := ∃ (cf : Nat → Option Int64) (ak : Nat → Int64), isCells G M (nca N a) (nna N a) (nma N a) (nsz N a) cf ∧ M (naa N a) = some (aJ G ((nsz N a + 63) / 64) ak) ∧ ∀ i, i < nsz N a → (nci N a = 9 → cf i = nden N a i) ∧ (nci N a ≠ 9 → (mkAt ak i = false → cf i = none) ∧ (P a i → cf i = none) ∧ (mkAt ak i = true → ¬ P a i → cf i = nden N a i))
def nDist (N : gN) : Prop := ∀ a b, nS N a → nS N b → (nna N a = nna N b → a = b) ∧ nna N a ≠ nma N b ∧ nna N a ≠ naa N b ∧ (nma N a = nma N b → a = b) ∧ nma N a ≠ naa N b ∧ (naa N a = naa N b → a = b) ∧ (nci N a = 4 → nci N b = 4 → nta N a = nta N b → a = b)
def nInv (G : gV) (M : gMem) (N : gN) (P : Nat → Nat → Prop) : Prop := (∀ a, nS N a → nStat G M N a ∧ nKind G M N a ∧ nCache G M N P a) ∧ nDist N
def nAsk (G : gV) (M : gMem) (N : gN) (a i : Nat) : Prop := ∃ (n : Nat) (ak : Nat → Int64), M (naa N a) = some (aJ G n ak) ∧ mkAt ak i = true
/-- what the working out of cells leaves alone -/
def nFr (G : gV) (N : gN) (d : Nat) (M M' : gMem) : Prop := (∀ q, ¬ nAdr N d q → M' q = M q) ∧ ∀ b, nS N b → ∀ j, nAsk G M N b j → nAsk G M' N b j
def pA (P : Nat → Nat → Prop) (a j : Nat) : Nat → Nat → Prop := fun b i => P b i ∨ (b = a ∧ i = j)
theorem nAdr.mono {N : gN} {d d' q : Nat} (h : nAdr N d q) (hd : d ≤ d') : nAdr N d' q := by
  obtain ⟨a, h1, h2, h3⟩ := h
  exact ⟨a, h1, Nat.le_trans h2 hd, h3⟩
theorem nFr.rf (G : gV) (N : gN) (d : Nat) (M : gMem) : nFr G N d M M := ⟨fun _ _ => rfl, fun _ _ _ h => h⟩
theorem nFr.mono {G : gV} {N : gN} {d d' : Nat} {M M' : gMem} (h : nFr G N d M M') (hd : d ≤ d') : nFr G N d' M M' := ⟨fun q hq => h.1 q (fun z => hq (z.mono hd)), h.2⟩
theorem nFr.trans {G : gV} {N : gN} {d : Nat} {M M1 M2 : gMem} (h : nFr G N d M M1) (h2 : nFr G N d M1 M2) : nFr G N d M M2 := ⟨fun q hq => (h2.1 q hq).trans (h.1 q hq), fun b hb j hj => h2.2 b hb j (h.2 b hb j hj)⟩
