/-! ROWS for lists: what the law's entry says of ArrayList's empty row and of the class object of Object[]; rows of references; calls through an interface -/
theorem ca_l {a b : Cond} {args : Array Value} {s : State} (h : (Cond.and a b).before args s = true) : a.before args s = true := by
  rw [Cond.before_and] at h; exact (Bool.and_eq_true _ _ ▸ h).1
theorem ca_r {a b : Cond} {args : Array Value} {s : State} (h : (Cond.and a b).before args s = true) : b.before args s = true := by
  rw [Cond.before_and] at h; exact (Bool.and_eq_true _ _ ▸ h).2
abbrev daT : Term := .static "java/util/ArrayList" "DEFAULTCAPACITY_EMPTY_ELEMENTDATA" "[Ljava/lang/Object;"
/-- where ArrayList's empty row lies -/
def gDA (G : gV) : Nat := match daT.eval #[] (gU G) none [] (gU G) with
  | some (.ref a) => a
  | _ => 0
theorem len0 {t : Term} {args : Array Value} {s : State} {a : Nat} {cell : Cell} (h : (Cond.eq (.length t) (.int 0)).before args s = true) (ht : t.eval args s none [] s = some (.ref a)) (hc : s.heap[a]? = some cell) : cell.slots.size = 0 := by
  cases hv : (Term.length t).eval args s none [] s with
  | none => simp [Cond.before, Cond.holds, Cond.value, hv] at h
  | some w =>
    have hz : (Term.int 0).eval args s none [] s = some (.int 0) := rfl
    have hw : w = .int 0 := by
      simp only [Cond.before, Cond.holds, Cond.value, hv, hz] at h
      cases w <;> simp_all
    subst hw
    obtain ⟨a', cell', q1, q2, q3⟩ := Term.length_spec hv
    cases ht.symm.trans q1
    have hc' := (State.arrayAt?_spec q2).1
    cases hc.symm.trans hc'
    have hn : cell.slots.size < 2147483648 := by
      by_cases hn : cell.slots.size < 2147483648
      · exact hn
      · simp [Term.eval, ht, q2, hn] at hv
    have e : cell.slots.size.toInt32 = 0 := by injection q3 with q4; exact q4.symm
    have e2 := congrArg Int32.toInt e
    rw [show cell.slots.size.toInt32 = nI cell.slots.size from rfl, nI_toInt hn] at e2
    have : (0 : Int32).toInt = 0 := by decide
    omega
theorem g_da {G : gV} (h : gI G) : daT.eval #[] (gU G) none [] (gU G) = some (.ref (gDA G)) ∧ gDA G < gB G ∧ ∃ cell : Cell, (gU G).heap[gDA G]? = some cell ∧ (gU G).isArrayOf cell (.object "java/lang/Object") ∧ cell.vm ≠ .unknown ∧ cell.slots.size = 0 := by
  obtain ⟨hB, b, -, hn⟩ := h
  have hn := ca_r hn
  obtain ⟨a, c, cell, k, h1, -, h3, -, -, -, -⟩ := Cond.exactly_spec (ca_r (ca_r (ca_r (ca_l (ca_l (ca_l (ca_l (ca_l (ca_l hn)))))))))
  have h1' : daT.eval #[] (gU G) none [] (gU G) = some (.ref a) := h1
  have e : gDA G = a := by unfold gDA; rw [h1']
  rw [e]
  obtain ⟨g1, g2⟩ := Cond.arrayOf_spec (ca_l (ca_r (ca_r (ca_l (ca_l (ca_l (ca_l (ca_l (ca_l hn))))))))) h1 h3
  exact ⟨h1', by rw [hB]; exact (Array.getElem?_eq_some_iff.mp h3).1, cell, h3, g1, g2, len0 (ca_l (ca_l (ca_r (ca_l (ca_l (ca_l (ca_l (ca_l hn)))))))) h1 h3⟩
theorem g_mi {G : gV} (h : gI G) : ∃ mi : Nat, va_Mi "[Ljava/lang/Object;" mi (gU G) := by
  obtain ⟨hB, b, -, hn⟩ := h
  exact va_Mi.of (ca_r (ca_r (ca_l (ca_r (ca_l (ca_r (ca_r (ca_l (ca_l (ca_r hn))))))))))
section QL
variable {G : gV} {F : gF} {Q : State → Prop} {nL : Nat} {M : gMem} {rc rs pc k : Nat} {lv : List (Nat × Value)} {st : List Value} {cc : ByteArray} {own : String}
abbrev aQ (G : gV) (t0 n : Nat) (f : Nat → Option Nat) : va_E := .inl (G.2.1 t0, n, .inr (.inr (.inr (.inr f))))
theorem g_old (X : qX G F cc nL own k) {q : Nat} (hq : q < gB G) : ¬ fA F q := fun h => by
  rcases h with h | h
  · exact absurd (X.2.2.2.2.2.2.2.2.2.2 q h) (Nat.not_le.mpr hq)
  · exact absurd h (Nat.not_le.mpr (Nat.lt_of_lt_of_le hq X.2.2.2.2.2.2.2.2.2.1))
/-- a cell that lay there at the law's entry lies there still -/
theorem g_oldcell (X : qX G F cc nL own k) {H : Heap} {locs : List Loc} (h1 : gOk G F M H locs) {q : Nat} (hq : q < gB G) : H[q]? = (gU G).heap[q]? :=
  (h1.1.2.1 q (Nat.lt_of_lt_of_le hq X.2.2.2.2.2.2.2.2.2.1) (g_old X hq)).trans (X.2.2.2.2.2.1.2.2.1 q hq)
theorem q_getsD (X : qX G F cc nL own k) {index : Nat} (hown : own = "java/util/ArrayList") (w : Cond.fieldLink own index "java/util/ArrayList" "DEFAULTCAPACITY_EMPTY_ELEMENTDATA" "[Ljava/lang/Object;" ∈ gT) (w1 : Cond.laysStatic "java/util/ArrayList" "DEFAULTCAPACITY_EMPTY_ELEMENTDATA" "[Ljava/lang/Object;" ∈ lw_tbl) (w2 : Cond.initialized "java/util/ArrayList" ∈ lw_tbl) (d : decode cc pc = .ok (.getstatic index, 3)) (kk : qJ G F Q nL M rc rs (pc + 3) lv (.ref (gDA G) :: st)) : qJ G F Q nL M rc rs pc lv st := by
  intro H locs ls cells slots h1 h2 h3 h4
  obtain ⟨-, hW, hold, hI⟩ := X.2.2.2.2.2.1
  obtain ⟨hv, -, -⟩ := g_da hI
  obtain ⟨hB, b, hts, -⟩ := hI
  have hZ0 : va_Z "java/util/ArrayList" "DEFAULTCAPACITY_EMPTY_ELEMENTDATA" "[Ljava/lang/Object;" (.ref (gDA G)) (fun q => gB G ≤ q) (gU G) (gU G).heap := va_Zof (args := #[Value.ref b]) (hts _ w1) (hts _ w2) hv (fun a ha => Nat.not_le.mpr (by rw [hB]; exact ha))
  have hZ1 := (va_Z.moved hW.alike hZ0).kept (H1 := (fs F).heap) (fun a _ hn => hold a (Nat.not_le.mp hn))
  have hZ2 : va_Z _ _ _ _ (fA F) (fs F) (fs F).heap := hZ1.narrow (fun q h => by
    rcases h with h | h
    · exact X.2.2.2.2.2.2.2.2.2.2 q h
    · exact Nat.le_trans X.2.2.2.2.2.2.2.2.2.1 h)
  exact va_gets X.1 X.2.1 hZ2 h1.1 X.2.2.2.1 (X.2.2.2.2.1 _ w) (fun x h => h) d (kk H locs ls cells slots h1 h2 h3 h4)
theorem q_alenD (X : qX G F cc nL own k) (d : decode cc pc = .ok (.arraylength, 1)) (kk : qJ G F Q nL M rc rs (pc + 1) lv (.int 0 :: st)) : qJ G F Q nL M rc rs pc lv (.ref (gDA G) :: st) := by
  intro H locs ls cells slots h1 h2 h3 h4
  obtain ⟨-, hW, hold, hI⟩ := X.2.2.2.2.2.1
  obtain ⟨-, hlt, cell, hc, ⟨ha0, k0, hk0, comp, hkk⟩, hn, hz⟩ := g_da hI
  obtain ⟨k', hk', he⟩ := hW.alike.2.2 _ _ hk0
  exact W.alen (n := 0) (ty := .object "java/lang/Object") X.1 X.2.1 ((g_oldcell X h1 hlt).trans hc) ⟨ha0, k', hk', comp, by rw [he]; exact hkk⟩ (by rw [hz] <;> rfl) rfl rfl d (kk H locs ls cells slots h1 h2 h3 h4)
theorem q_acmp_eq (X : qX G F cc nL own k) {x y : Nat} {off : Int} (tgt : Nat) (d : decode cc pc = .ok (.if_acmp .eq off, 3)) (ht : (pc : Int) + off = (tgt : Int)) (kt : x = y → qJ G F Q nL M rc rs tgt lv st) (kf : ¬ x = y → qJ G F Q nL M rc rs (pc + 3) lv st) : qJ G F Q nL M rc rs pc lv (.ref y :: .ref x :: st) := fun H locs ls cells slots h1 h2 h3 h4 => lv_acmp_eq (rx := some x) (ry := some y) X.1 X.2.1 d ht (fun c => kt (Option.some.inj c) H locs ls cells slots h1 h2 h3 h4) (fun c => kf (fun e => c (by rw [e])) H locs ls cells slots h1 h2 h3 h4)
theorem q_acmp_ne (X : qX G F cc nL own k) {x y : Nat} {off : Int} (tgt : Nat) (d : decode cc pc = .ok (.if_acmp .ne off, 3)) (ht : (pc : Int) + off = (tgt : Int)) (kt : ¬ x = y → qJ G F Q nL M rc rs tgt lv st) (kf : x = y → qJ G F Q nL M rc rs (pc + 3) lv st) : qJ G F Q nL M rc rs pc lv (.ref y :: .ref x :: st) := fun H locs ls cells slots h1 h2 h3 h4 => lv_acmp_ne (rx := some x) (ry := some y) X.1 X.2.1 d ht (fun c => kt (fun e => c (by rw [e])) H locs ls cells slots h1 h2 h3 h4) (fun c => kf (by first | exact Option.some.inj (Classical.not_not.mp c) | exact Option.some.inj c) H locs ls cells slots h1 h2 h3 h4)
theorem q_aald (X : qX G F cc nL own k) (t0 : Nat) {C : String} {a n : Nat} {f : Nat → Option Nat} {i : Int32} {v : Value} (ha : M a = some (aQ G t0 n f)) (ht : (g_tys G)[t0]? = some (G.2.1 t0, .object C)) (hin : vp_in i n) (hv : va_rf (f i.toNatClampNeg) = v) (d : decode cc pc = .ok (.aaload, 1)) (kk : qJ G F Q nL M rc rs (pc + 1) lv (v :: st)) : qJ G F Q nL M rc rs pc lv (.int i :: .ref a :: st) := fun H locs ls cells slots h1 h2 h3 h4 => va_aldq X.1 X.2.1 X.2.2.2.2.2.1.1 (g_one h1.2.1 ha) 0 t0 rfl ht hin d (by rw [hv]; exact kk H locs ls cells slots h1 h2 h3 h4)
theorem q_aastO (X : qX G F cc nL own k) (t0 : Nat) {C E : String} {T : u_T} {N ci a n v : Nat} {f : Nat → Option Nat} {fs0 : List Value} {i : Int32} (ha : M a = some (aQ G t0 n f)) (ht : (g_tys G)[t0]? = some (G.2.1 t0, .object E)) (hv : M v = some (oB ci fs0)) (hc : vwCl[ci]? = some (C, T, N)) (w : C = E ∨ Cond.castable C E ∈ lw_tbl) (hin : vp_in i n) (d : decode cc pc = .ok (.aastore, 1)) (kk : qJ G F Q nL (mU M a (aQ G t0 n (va_up f i.toNatClampNeg (some v)))) rc rs (pc + 1) lv st) : qJ G F Q nL M rc rs pc lv (.ref v :: .int i :: .ref a :: st) := by
  intro H locs ls cells slots h1 h2 h3 h4
  have hK : va_K G.1 vwCl (g_tys G) (fs F) := X.2.2.2.2.2.1.1
  have hlt : i.toNatClampNeg < n := Nat.not_le.mp fun q => hin (Or.inr q)
  have h0 : ¬ i < 0 := fun q => hin (Or.inl q)
  obtain ⟨r', hr', cellV, g1, g2, g3, -⟩ := (h1.2.1.2 v _ hv).2
  have hcls := (hK.1 ci _ hc).2
  obtain ⟨kA, comp, k1, k2, k3, -⟩ := (hK.2 t0 _ ht).2
  obtain ⟨kE, hkE, -⟩ := Vm.findClass_spec k3
  have hass : (fs F).vm.assignable (G.1.1 ci) comp = true := by
    rcases w with w | w
    · subst w
      cases hcls.1.symm.trans k3
      exact va_assign hcls
    · obtain ⟨c0, t1, f1, f2, f3⟩ := Cond.castable_spec (va_Nw.use (A := fa F) rfl (g_cast X w))
      cases hcls.1.symm.trans f1
      cases k3.symm.trans f2
      exact f3
  obtain ⟨kC, hkC, -⟩ := hcls.2
  refine W.aast X.1 X.2.1 ((h1.2.1.2 a _ ha).2) (fun q h => by cases h) (fun h => by cases h) k1 k2 rfl hkE ⟨h0, by show _ < (arrV _ _ _).slots.size; rw [arrV_size]; exact hlt⟩ g1 (fun q h => by rw [g3] at h; cases h) (by rw [g2]; exact hkC) (by rw [g2]; exact hass) rfl rfl d fun H1 e z oq => ?_
  refine kk H1 _ ls cells slots (g_put h1 ha ?_ z oq) h2 h3 h4
  show H1[a]? = some (vp_cell _ _)
  rw [e, vp_cell_q, vp_cell_q, arrV_store]
  congr 2
  funext q
  by_cases hq : q = i.toNatClampNeg
  · subst hq; simp [updV, va_up, va_rf]
  · simp [updV, va_up, hq]
theorem q_aastN (X : qX G F cc nL own k) (t0 : Nat) {E : String} {a n : Nat} {f : Nat → Option Nat} {i : Int32} (ha : M a = some (aQ G t0 n f)) (ht : (g_tys G)[t0]? = some (G.2.1 t0, .object E)) (hin : vp_in i n) (d : decode cc pc = .ok (.aastore, 1)) (kk : qJ G F Q nL (mU M a (aQ G t0 n (va_up f i.toNatClampNeg none))) rc rs (pc + 1) lv st) : qJ G F Q nL M rc rs pc lv (.null :: .int i :: .ref a :: st) := by
  intro H locs ls cells slots h1 h2 h3 h4
  have hK : va_K G.1 vwCl (g_tys G) (fs F) := X.2.2.2.2.2.1.1
  refine va_WaastN (C := E) X.1 X.2.1 ((h1.2.1.2 a _ ha).2) ((hK.2 t0 _ ht).1 n (fun j => va_rf (f j))) (fun h => by cases h) (by show ¬ (i < 0 ∨ (arrV _ _ _).slots.size ≤ _); rw [arrV_size]; exact hin) rfl rfl d fun H1 e z oq => ?_
  refine kk H1 _ ls cells slots (g_put h1 ha ?_ z oq) h2 h3 h4
  show H1[a]? = some (vp_cell _ _)
  rw [e, vp_cell_q, vp_cell_q, arrV_store]
  congr 2
  funext q
  by_cases hq : q = i.toNatClampNeg
  · subst hq; simp [updV, va_up, va_rf]
  · simp [updV, va_up, hq]
theorem q_newO (X : qX G F cc nL own k) (t0 : Nat) {C : String} {index : Nat} (ht : (g_tys G)[t0]? = some (G.2.1 t0, .object C)) (w1 : Cond.classLink own index C ∈ gT) (w2 : Cond.arrayOver (.object C) ∈ lw_tbl) {n : Int32} (N : Nat) (hn : n = nI N) (hN : N ≤ 65536) {rc' rs' : Nat} (hrc : rc' + 1 ≤ rc) (hrs : rs' + N ≤ rs) (d : decode cc pc = .ok (.anewarray index, 3)) (kk : ∀ q : Nat, M q = none → qJ G F Q nL (mU M q (aQ G t0 N (fun _ => none))) rc' rs' (pc + 3) lv (.ref q :: st)) : qJ G F Q nL M rc rs pc lv (.int n :: st) := by
  intro H locs ls cells slots h1 h2 h3 h4
  have hK : va_K G.1 vwCl (g_tys G) (fs F) := X.2.2.2.2.2.1.1
  obtain ⟨-, hW, hold, hI⟩ := X.2.2.2.2.2.1
  obtain ⟨hB, b, hts, -⟩ := hI
  have hover : va_AO C (fs F) := va_AO.moved hW.alike (va_AO.of (hts _ w2))
  subst hn
  have hcl : (nI N).toNatClampNeg = N := nI_clamp (by omega)
  refine W.anew X.1 X.2.1 X.2.2.2.1 (X.2.2.2.2.1 _ w1) (va_AO.use hover) rfl d rfl (nI_pos (by omega)) (by rw [hcl]; omega) (by omega) (by rw [hcl]; omega) fun cA kA comp f1 f2 f3 f4 => ?_
  rw [hcl]
  obtain ⟨kA', comp', r1, r2, r3, r4⟩ := (hK.2 t0 _ ht).2
  have hcA : cA = G.2.1 t0 := Option.some.inj (f1.symm.trans r4)
  subst hcA
  generalize hH1 : H.push ({ cls := G.2.1 t0, slots := Array.replicate N .null, vm := .none } : Cell) = H1
  have z1 : H1.size = H.size + 1 := by rw [← hH1, Array.size_push]
  have e1 : H1[H.size]? = some (arrV (G.2.1 t0) N (fun _ => .null)) := by rw [← hH1, Array.getElem?_push_size, ← arrV_new]
  have o1 : ∀ q : Nat, q < H.size → H1[q]? = H[q]? := fun q hq => by rw [← hH1, Array.getElem?_push, if_neg (Nat.ne_of_lt hq)]
  exact kk H.size (g_fresh h1.2.1) H1 locs ls (cells + 1) (slots + N) (g_new h1 (show H1[H.size]? = some (vp_cell _ _) by rw [vp_cell_q]; exact e1) z1 o1) h2 (by omega) (by omega)
/-- the class object of Object[]: by its name, and of a row -/
theorem q_ldcM (X : qX G F cc nL own k) {index mi : Nat} (w : Cond.classLink own index "[Ljava/lang/Object;" ∈ gT) (hM : va_Mi "[Ljava/lang/Object;" mi (gU G)) (d : decode cc pc = .ok (.ldc index, 2)) (kk : qJ G F Q nL M rc rs (pc + 2) lv (.ref mi :: st)) : qJ G F Q nL M rc rs pc lv st := fun H locs ls cells slots h1 h2 h3 h4 => va_ldcM X.1 X.2.1 X.2.2.2.1 (X.2.2.2.2.1 _ w) (va_Mi.moved X.2.2.2.2.2.1.2.1.alike hM) d (kk H locs ls cells slots h1 h2 h3 h4)
theorem q_getC (X : qX G F cc nL own k) {index mi a n : Nat} {f : Nat → Option Nat} (w1 : Cond.methodLink own index ⟨"java/lang/Object", "getClass", "()Ljava/lang/Class;"⟩ ∈ gT) (w2 : Cond.declares ⟨"java/lang/Object", "getClass", "()Ljava/lang/Class;"⟩ ∈ lw_tbl) (w3 : Cond.selects "[Ljava/lang/Object;" ⟨"java/lang/Object", "getClass", "()Ljava/lang/Class;"⟩ ⟨"java/lang/Object", "getClass", "()Ljava/lang/Class;"⟩ ∈ gT) (w4 : Cond.instanceMethod ⟨"java/lang/Object", "getClass", "()Ljava/lang/Class;"⟩ ∈ gT) (w5 : Cond.native ⟨"java/lang/Object", "getClass", "()Ljava/lang/Class;"⟩ ∈ gT) (hM : va_Mi "[Ljava/lang/Object;" mi (gU G)) (ha : M a = some (aO G n f)) (hk : 1 ≤ k) (hw : (st.map fun v => v.category).sum ≤ 8) (d : decode cc pc = .ok (.invokevirtual index, 3)) (kk : qJ G F Q nL M rc rs (pc + 3) lv (.ref mi :: st)) : qJ G F Q nL M rc rs pc lv (.ref a :: st) := by
  intro H locs ls cells slots h1 h2 h3 h4
  have hK : va_K G.1 vwCl (g_tys G) (fs F) := X.2.2.2.2.2.1.1
  obtain ⟨-, hW, hold, hI⟩ := X.2.2.2.2.2.1
  obtain ⟨hB, b, hts, -⟩ := hI
  have hDc : va_Dc (fs F) := va_Dc.moved hW.alike (va_Dc.of (hts _ w2))
  obtain ⟨kA', comp', r1, r2, r3, r4⟩ := (hK.2 3 _ rfl).2
  exact va_getC X.1 X.2.1 (by rw [X.2.2.1]; exact h2.1.symm) X.2.2.2.1 (X.2.2.2.2.1 _ w1) (va_Dc.use hDc) (X.2.2.2.2.1 _ w3) (X.2.2.2.2.1 _ w4) (X.2.2.2.2.1 _ w5) (va_Mi.moved hW.alike hM) ⟨_, (h1.2.1.2 a _ ha).2, rfl, r4⟩ (by rw [X.2.2.2.2.2.2.2.1]; exact hk) (by rw [X.2.2.2.2.2.2.2.2.1]; omega) d (kk H locs ls cells slots h1 h2 h3 h4)
end QL
