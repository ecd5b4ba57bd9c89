/-! COPIES: System.arraycopy of a whole row of longs; clone of a row of ints -/
section QK
variable {G : gV} {F : gF} {Q : State → Prop} {nL : Nat} {M : gMem} {rc rs pc k : Nat} {lv : List (Nat × Value)} {st : List Value} {cc : ByteArray} {own : String}
/-- a word of the tables that isn't steady, where the tables' words of the start are known -/
theorem g_cast (X : qX G F cc nL own k) {C D : String} (w : Cond.castable C D ∈ lw_tbl) : va_Nw (.castable C D) (fs F) := by
  obtain ⟨-, hW, -, -, b, hts, -⟩ := X.2.2.2.2.2.1
  have h0 : va_Nw (.castable C D) (gU G) := va_Nw.of rfl (hts _ w)
  have h1 : (Cond.castable C D).before #[] ((gU G).setVm (fs F).vm) = true := by rw [Cond.castable_setVm hW.alike]; exact h0
  exact va_Nw.same (u := (gU G).setVm (fs F).vm) rfl rfl h1
theorem g_arrE {cA : ClassId} {n : Nat} {f g : Nat → Int64} (h : ∀ i, i < n → f i = g i) : vp_cell cA (n, .inr (.inl f)) = vp_cell cA (n, .inr (.inl g)) := by
  rw [vp_cell_l, vp_cell_l]
  unfold arrV
  congr 1
  apply Array.ext
  · simp
  · intro i h1 h2
    simp only [Array.size_ofFn] at h1
    simp [h i h1]
theorem q_copyJ (X : qX G F cc nL own k) {index a0 a N : Nat} {f g : Nat → Int64} {n : Int32} {rest : List Value} (w1 : Cond.methodLink own index arraycopyName ∈ gT) (w2 : Cond.native arraycopyName ∈ gT) (w3 : Cond.static arraycopyName ∈ gT) (w4 : Cond.initialized "java/lang/System" ∈ gT) (ha0 : M a0 = some (aJ G N f)) (ha1 : M a = some (aJ G N g)) (hn : n = nI N) (hN : N < 2 ^ 31) (hk : 2 ≤ k) (hw : (rest.map fun v => v.category).sum ≤ 8) (d : decode cc pc = .ok (.invokestatic index, 3)) (kk : qJ G F Q nL (mU M a (aJ G N f)) rc rs (pc + 3) lv rest) : qJ G F Q nL M rc rs pc lv (.int n :: .int 0 :: .ref a :: .int 0 :: .ref a0 :: rest) := by
  intro H locs ls cells slots h1 h2 h3 h4
  subst hn
  have hts := X.2.2.2.2.1
  have hK : va_K G.1 vwCl (g_tys G) (fs F) := X.2.2.2.2.2.1.1
  intro T hT X0
  have hc0 : H[a0]? = some (vp_cell (G.2.1 1) (N, .inr (.inl f))) := (h1.2.1.2 a0 _ ha0).2
  have hc1 : H[a]? = some (vp_cell (G.2.1 1) (N, .inr (.inl g))) := (h1.2.1.2 a _ ha1).2
  obtain ⟨-, k0, hk0, cm0, hkk0⟩ := (hK.2 1 _ rfl).1 N (fun j => .long (f j))
  have hcl : (nI N).toNatClampNeg = N := nI_clamp hN
  have z0 : (0 : Int32).toNatClampNeg = 0 := by decide
  obtain ⟨vm', X', step⟩ := X0.arraycopy X.1 X.2.2.2.1 (hts _ w1) (hts _ w2) (hts _ w3) (hts _ w4) (src := a0) (dst := a) (cs := vp_cell (G.2.1 1) (N, .inr (.inl f))) (cd := vp_cell (G.2.1 1) (N, .inr (.inl g))) (srcPos := 0) (destPos := 0) (n := nI N) (by rw [hT]; exact hc0) (by rw [hT]; exact hc1)
    (fun _ h => by cases h) (fun _ h => by cases h) (fun h => by cases h) (fun h => by cases h) hk0 hk0 hkk0 hkk0 (show ((refKind FieldType.long != refKind FieldType.long) || (!refKind FieldType.long && FieldType.long != FieldType.long)) = false by decide) (by decide) (by decide) (nI_pos hN)
    (by rw [nI_toInt hN]; show ¬ _ > ((arrV (G.2.1 1) N (fun j => .long (f j))).slots.size : Int); rw [arrV_size, Int32.toInt_zero]; omega)
    (by rw [nI_toInt hN]; show ¬ _ > ((arrV (G.2.1 1) N (fun j => .long (g j))).slots.size : Int); rw [arrV_size, Int32.toInt_zero]; omega)
    (fun vm₁ _ i hi => by
      rw [hcl] at hi
      have e : (vp_cell (G.2.1 1) (N, .inr (.inl f))).slots.getD ((0 : Int32).toNatClampNeg + i) .null = .long (f i) := by
        rw [z0, Nat.zero_add]
        show (arrV (G.2.1 1) N (fun j => .long (f j))).slots.getD _ _ = _
        rw [Array.getD_eq_getD_getElem?, arrV_read _ _ hi]
        rfl
      rw [e]
      exact ⟨rfl, trivial⟩)
    (g := F0 (fm F) pc ls (.int (nI N) :: .int 0 :: .ref a :: .int 0 :: .ref a0 :: rest)) rfl (by rw [X.2.2.1]; exact h2.1) (rest := rest) rfl (by rw [X.2.1]; exact d) (by rw [X.2.2.2.2.2.2.2.1]; omega) (by
      rw [X.2.2.2.2.2.2.2.2.1]
      have h9 := lv_room (m := fm F) (pc := pc) (ls := ls) (rest := (.int (nI N) :: .int 0 :: .ref a :: .int 0 :: .ref a0 :: rest)) hw
      have h8 : nativeFrameWords "java/lang/System" "arraycopy" 5 ≤ 40 := by decide
      omega)
  have e1 : copied (vp_cell (G.2.1 1) (N, .inr (.inl f))) (vp_cell (G.2.1 1) (N, .inr (.inl g))) 0 0 (nI N) = vp_cell (G.2.1 1) (N, .inr (.inl f)) := by
    have e2 : copied (vp_cell (G.2.1 1) (N, .inr (.inl f))) (vp_cell (G.2.1 1) (N, .inr (.inl g))) 0 0 (nI N) = vp_cell (G.2.1 1) (N, .inr (.inl (va_cpy f g (0 : Int32).toNatClampNeg (0 : Int32).toNatClampNeg (nI N).toNatClampNeg))) := va_copied (fun z => .long z) (G.2.1 1) (G.2.1 1) f g (by rw [z0, hcl]; omega)
    rw [e2]
    apply g_arrE
    intro i hi
    rw [z0, hcl, pk_cpy_in (by omega) (by omega)]
    congr 1; omega
  rw [e1] at X' step
  have hl : a < H.size := (Array.getElem?_eq_some_iff.mp hc1).1
  have hheap : ((T.setVm vm').setCell a (vp_cell (G.2.1 1) (N, .inr (.inl f)))).heap = H.setIfInBounds a (vp_cell (G.2.1 1) (N, .inr (.inl f))) := by rw [← hT]; rfl
  have oq : ∀ q : Nat, q ≠ a → (H.setIfInBounds a (vp_cell (G.2.1 1) (N, .inr (.inl f))))[q]? = H[q]? := fun q hq => by simp [Array.getElem?_setIfInBounds, Ne.symm hq]
  have hO := g_put (i := 0) h1 ha1 (e := aJ G N f) (H1 := H.setIfInBounds a (vp_cell (G.2.1 1) (N, .inr (.inl f)))) (show (H.setIfInBounds a _)[a]? = some _ by simp [Array.getElem?_setIfInBounds, hl]) (by simp) oq
  obtain ⟨t, b1, b2⟩ := kk _ _ ls cells slots ⟨⟨hO.1.1, hO.1.2.1, fun z hz => by
      rcases List.mem_append.mp hz with h | h
      · exact h1.1.2.2 z h
      · obtain ⟨y, -, hy⟩ := List.mem_map.mp h
        rw [← hy]
        exact h1.2.2 a (by rw [ha1]; exact fun h => by cases h)⟩, hO.2⟩ h2 h3 h4 _ hheap X'
  exact ⟨t, step t b1, b2⟩
theorem q_cloneI (X : qX G F cc nL own k) {index a n : Nat} {f : Nat → Int32} {rest : List Value} (w1 : Cond.methodLink own index ⟨"[I", "clone", "()Ljava/lang/Object;"⟩ ∈ gT) (w2 : Cond.sameMethod "[I" "java/lang/Object" "clone" "()Ljava/lang/Object;" ∈ gT) (w3 : Cond.native ⟨"java/lang/Object", "clone", "()Ljava/lang/Object;"⟩ ∈ gT) (w4 : Cond.instanceMethod ⟨"java/lang/Object", "clone", "()Ljava/lang/Object;"⟩ ∈ gT) (w5 : Cond.selects "[I" ⟨"[I", "clone", "()Ljava/lang/Object;"⟩ ⟨"java/lang/Object", "clone", "()Ljava/lang/Object;"⟩ ∈ gT) (w6 : Cond.castable "[I" "java/lang/Cloneable" ∈ lw_tbl)
    (ha : M a = some (aI G n f)) (hk : 2 ≤ k) (hw : (rest.map fun v => v.category).sum ≤ 8) {rc' rs' : Nat} (hrc : rc' + 1 ≤ rc) (hrs : rs' + n ≤ rs) (d : decode cc pc = .ok (.invokevirtual index, 3)) (kk : ∀ q : Nat, M q = none → qJ G F Q nL (mU M q (aI G n f)) rc' rs' (pc + 3) lv (.ref q :: rest)) : qJ G F Q nL M rc rs pc lv (.ref a :: rest) := by
  intro H locs ls cells slots h1 h2 h3 h4
  have hts := X.2.2.2.2.1
  have hK : va_K G.1 vwCl (g_tys G) (fs F) := X.2.2.2.2.2.1.1
  have hnm : (fs F).vm.findClass "[I" = some (G.2.1 0) := va_nm_int (hK.2 0 _ rfl).2
  obtain ⟨c0, t0', f1, f2, f3⟩ := Cond.castable_spec (va_Nw.use (A := fa F) rfl (g_cast X w6))
  cases hnm.symm.trans f1
  intro T hT X0
  have hcell : H[a]? = some (vp_cell (G.2.1 0) (n, .inl f)) := (h1.2.1.2 a _ ha).2
  have hsz : (vp_cell (G.2.1 0) (n, .inl f)).slots.size = n := arrV_size _ _ _
  obtain ⟨-, kA, hkA, comp, hkind⟩ := State.isArrayOf_alike X0.warmed.alike ((hK.2 0 _ rfl).1 0 (fun _ => .null))
  obtain ⟨-, kS, hkS, compS, hkindS⟩ := (hK.2 0 _ rfl).1 0 (fun _ => .null)
  obtain ⟨vm', X', st⟩ := X0.cloneArray X.1 X.2.2.2.1 (hts _ w1) (hts _ w2) (hts _ w3) (hts _ w4) (hts _ w5) (a := a) (cell := vp_cell (G.2.1 0) (n, .inl f)) (by rw [hT]; exact hcell) (fun k h => by cases h) (fun h => by cases h) hnm f2 f3
    (fun i v hv => by
      have hk' : T.vm.classes[G.2.1 0]? = some kA := hkA
      have hf : fits .int v = true := va_fit (F := fun j => .int (f j)) (fun _ _ => rfl) i v hv
      show T.fitsSlot (G.2.1 0) _ i v = true
      simpa [State.fitsSlot, State.slotType?, hk', hkind] using hf)
    (g := F0 (fm F) pc ls (.ref a :: rest)) rfl (by rw [X.2.2.1]; exact h2.1) rfl (by rw [X.2.1]; exact d) (by rw [X.2.2.2.2.2.2.2.1]; omega) (by
      rw [X.2.2.2.2.2.2.2.2.1]
      have h9 := lv_room (m := fm F) (pc := pc) (ls := ls) (rest := .ref a :: rest) hw
      omega) (by omega) (by rw [hsz]; omega) (hloader := Vm.clonesLoader_of_array hkS hkindS)
  rw [hsz] at X'
  obtain ⟨t, b1, b2⟩ := kk H.size (g_fresh h1.2.1) (H.push (vp_cell (G.2.1 0) (n, .inl f))) locs ls (cells + 1) (slots + n) (g_new h1 (show (H.push _)[H.size]? = some _ by rw [Array.getElem?_push_size]) (by rw [Array.size_push]) (fun q hq => by rw [Array.getElem?_push, if_neg (Nat.ne_of_lt hq)])) h2 (by omega) (by omega) ((T.setVm vm').pushCell (vp_cell (G.2.1 0) (n, .inl f))) (by rw [← hT]; rfl) X'
  refine ⟨t, st t ?_, b2⟩
  rw [hT]
  exact b1
theorem q_castI (X : qX G F cc nL own k) {index a n : Nat} {f : Nat → Int32} (w : Cond.classLink own index "[I" ∈ gT) (ha : M a = some (aI G n f)) (d : decode cc pc = .ok (.checkcast index, 3)) (kk : qJ G F Q nL M rc rs (pc + 3) lv (.ref a :: st)) : qJ G F Q nL M rc rs pc lv (.ref a :: st) := fun H locs ls cells slots h1 h2 h3 h4 =>
  va_castA X.1 X.2.1 X.2.2.2.1 (X.2.2.2.2.1 _ w) (g_one h1.2.1 ha) 0 rfl (va_nm_int (X.2.2.2.2.2.1.1.2 0 _ rfl).2) d (kk H locs ls cells slots h1 h2 h3 h4)
/-- a cast of an object to its own class -/
theorem q_castS (X : qX G F cc nL own k) {index a ci N : Nat} {C : String} {T : u_T} {fs0 : List Value} (w : Cond.classLink own index C ∈ gT) (ha : M a = some (.inr (ci, fs0))) (hc : vwCl[ci]? = some (C, T, N)) (d : decode cc pc = .ok (.checkcast index, 3)) (kk : qJ G F Q nL M rc rs (pc + 3) lv (.ref a :: st)) : qJ G F Q nL M rc rs pc lv (.ref a :: st) := fun H locs ls cells slots h1 h2 h3 h4 =>
  va_castS X.1 X.2.1 X.2.2.2.1 (X.2.2.2.2.1 _ w) (X.2.2.2.2.2.1.1.1 ci _ hc).2 (va_recv X.2.2.2.2.2.1.1 (g_one h1.2.1 ha) hc (q0 := 0) rfl) d (kk H locs ls cells slots h1 h2 h3 h4)
/-- a cast of an object to a class above its own -/
theorem q_castY (X : qX G F cc nL own k) {index a ci N : Nat} {C D : String} {T : u_T} {fs0 : List Value} (w : Cond.classLink own index D ∈ gT) (w2 : Cond.castable C D ∈ lw_tbl) (ha : M a = some (.inr (ci, fs0))) (hc : vwCl[ci]? = some (C, T, N)) (d : decode cc pc = .ok (.checkcast index, 3)) (kk : qJ G F Q nL M rc rs (pc + 3) lv (.ref a :: st)) : qJ G F Q nL M rc rs pc lv (.ref a :: st) := fun H locs ls cells slots h1 h2 h3 h4 =>
  va_castY X.1 X.2.1 X.2.2.2.1 (X.2.2.2.2.1 _ w) (g_cast X w2) (va_recv X.2.2.2.2.2.1.1 (g_one h1.2.1 ha) hc (q0 := 0) rfl) d (kk H locs ls cells slots h1 h2 h3 h4)
end QK
