/-! ROWS OVER THE MEMORY: fields, arrays, new cells, ends, calls -/
section QH
variable {G : gV} {F : gF} {Q : State → Prop} {nL : Nat} {M : gMem} {rc rs pc k : Nat} {lv : List (Nat × Value)} {st : List Value} {cc : ByteArray} {own : String}
theorem g_one {H : Heap} {a : Nat} {e : va_E} (h : gRep G M H) (ha : M a = some e) : va_P G.1 vwCl [(a, e)] H := by
  intro j q hq
  have hz : j < 1 := (List.getElem?_eq_some_iff.mp hq).1
  have hz : j = 0 := by omega
  subst hz
  cases hq
  exact (h.2 a e ha).2
theorem g_lt {H : Heap} (hR : gRep G M H) {a : Nat} {e : va_E} (h : M a = some e) : a < H.size := (hR.2 a e h).2.lt
theorem g_fresh {H : Heap} (hR : gRep G M H) : M H.size = none := by
  cases h : M H.size with
  | none => rfl
  | some e => exact absurd (g_lt hR h) (Nat.lt_irrefl _)
theorem g_put {H H1 : Heap} {locs : List Loc} {a i : Nat} {e0 e : va_E} (hO : gOk G F M H locs) (ha : M a = some e0) (he : va_at G.1 vwCl (a, e) H1) (z : H1.size = H.size) (oq : ∀ q : Nat, q ≠ a → H1[q]? = H[q]?) : gOk G F (mU M a e) H1 (locs ++ [⟨a, i⟩]) := by
  obtain ⟨hS, hR, hA⟩ := hO
  have hAa : fA F a := hA a (by rw [ha]; exact fun h => by cases h)
  refine ⟨hS.put z oq hAa, ⟨by rw [z]; exact hR.1, fun b f hf => ?_⟩, fun b hb => ?_⟩
  · by_cases hba : b = a
    · subst hba
      rw [mU_s] at hf; cases hf
      exact ⟨(hR.2 b e0 ha).1, he⟩
    · rw [mU_n hba] at hf
      exact ⟨(hR.2 b f hf).1, (hR.2 b f hf).2.kept (oq b hba)⟩
  · by_cases hba : b = a
    · subst hba; exact hAa
    · rw [mU_n hba] at hb; exact hA b hb
theorem g_new {H H1 : Heap} {locs : List Loc} {e : va_E} (hO : gOk G F M H locs) (he : va_at G.1 vwCl (H.size, e) H1) (z : H1.size = H.size + 1) (o : ∀ q : Nat, q < H.size → H1[q]? = H[q]?) : gOk G F (mU M H.size e) H1 locs := by
  obtain ⟨hS, hR, hA⟩ := hO
  refine ⟨⟨Nat.le_trans hS.1 (by omega), fun q h1 h2 => (o q (Nat.lt_of_lt_of_le h1 hS.1)).trans (hS.2.1 q h1 h2), hS.2.2⟩, ⟨by have := hR.1; omega, fun b f hf => ?_⟩, fun b hb => ?_⟩
  · by_cases hba : b = H.size
    · subst hba; rw [mU_s] at hf; cases hf; exact ⟨hR.1, he⟩
    · rw [mU_n hba] at hf
      exact ⟨(hR.2 b f hf).1, (hR.2 b f hf).2.kept (o b (g_lt hR hf))⟩
  · by_cases hba : b = H.size
    · subst hba; exact Or.inr hS.1
    · rw [mU_n hba] at hb; exact hA b hb
theorem q_get (X : qX G F cc nL own k) {ref C : String} {T : u_T} {N ci index a : Nat} {fs0 : List Value} {v : Value} (ha : M a = some (.inr (ci, fs0))) (hc : vwCl[ci]? = some (C, T, N)) (hin : ∀ w ∈ u_ws C T N, w ∈ gT) (j : Nat) (hj : j < N) (hlink : Cond.fieldLink own index ref (T j).2.1 (T j).2.2.1 ∈ gT) (hsame : (T j).1 = ref) (hv : fs0[j]? = some v) (d : decode cc pc = .ok (.getfield index, 3)) (kk : qJ G F Q nL M rc rs (pc + 3) lv (v :: st)) : qJ G F Q nL M rc rs pc lv (.ref a :: st) := by
  intro H locs ls cells slots h1 h2 h3 h4
  exact va_get (D := G.1) (cl := vwCl) (tys := g_tys G) X.1 X.2.1 X.2.2.2.2.1 hin X.2.2.2.1 X.2.2.2.2.2.1.1 (g_one h1.2.1 ha) 0 rfl hc j hj (X.2.2.2.2.1 _ hlink) (fun x h => by rw [← hsame]; exact h) hv d (kk H locs ls cells slots h1 h2 h3 h4)
theorem q_put (X : qX G F cc nL own k) {ref C : String} {T : u_T} {N ci index a : Nat} {fs0 fs1 : List Value} {v : Value} {ty : FieldType} (ha : M a = some (.inr (ci, fs0))) (hc : vwCl[ci]? = some (C, T, N)) (hin : ∀ w ∈ u_ws C T N, w ∈ gT) (ty0 : Nat → FieldType) (hty : ∀ k, k < N → parseFieldDescriptor (T k).2.2.1 = some (ty0 k)) (hnm : ∀ a, a < N → ∀ b, b < N → a ≠ b → (T a).2.1 ≠ (T b).2.1) (j : Nat) (hj : j < N) (hlink : Cond.fieldLink own index ref (T j).2.1 (T j).2.2.1 ∈ gT) (hsame : (T j).1 = ref) (hfin : (T j).2.2.2 = false) (hty1 : ty0 j = ty) (hn : narrow ty v = v) (hfit : fits ty v = true) (hl : j < fs0.length) (hs1 : fs0.set j v = fs1) (d : decode cc pc = .ok (.putfield index, 3)) (kk : qJ G F Q nL (mU M a (.inr (ci, fs1))) rc rs (pc + 3) lv st) : qJ G F Q nL M rc rs pc lv (v :: .ref a :: st) := by
  intro H locs ls cells slots h1 h2 h3 h4
  have hK : va_K G.1 vwCl (g_tys G) (fs F) := X.2.2.2.2.2.1.1
  have hts := X.2.2.2.2.1
  have hap := va_apart (own := own) hts hin ty0 hty hnm hK hc
  obtain ⟨r, g1, cell, q1, q2, q3, q4⟩ := (h1.2.1.2 a _ ha).2
  have hr : r = (C, T, N) := Option.some.inj (g1.symm.trans hc)
  subst hr
  obtain ⟨hS, hfc, kC, hkC, hkind⟩ := hK.1 ci _ hc
  obtain ⟨cf, kf, fi, f, hi, hsl⟩ := hS j hj
  have hlay := hts _ (hin _ (u_in_lay hj))
  unfold u_lay at hlay
  rw [if_neg (by rw [hfin]; decide)] at hlay
  have hst := (u_facts hfc hkC (u_lays hts hin hj) hi).1
  have h6 := u_store hfc hkC hkind hlay hi (by rw [hty j hj, hty1]) hn hfit
  refine W.putK X.1 X.2.1 (f := f) ⟨X.2.2.2.1, hts _ hlink, ⟨_, _, _, by rw [← hsame]; exact hi⟩, hst⟩ (by rw [q2]; exact h6) q1 q3 (by rw [hsl]; exact k2_hasslot (q4 j hj)) rfl rfl d fun H' e1 e2 e3 => ?_
  rw [hsl] at e1 ⊢
  exact kk H' _ ls cells slots (g_put h1 ha (by subst hs1; exact ⟨_, hc, t_OB.to (V := updV (vp_V fs0) j v) ⟨_, e1, q2, q3, t_set q4 hap hj v⟩ (fun i _ => vp_updV_set hl v i)⟩) e2 e3) h2 h3 h4
theorem q_putF (X : qX G F cc nL own k) {ref C : String} {T : u_T} {N ci index a : Nat} {fs0 fs1 : List Value} {v : Value} {ty : FieldType} (hname : (fh F).name = "<init>") (ha : M a = some (.inr (ci, fs0))) (hc : vwCl[ci]? = some (C, T, N)) (hin : ∀ w ∈ u_ws C T N, w ∈ gT) (ty0 : Nat → FieldType) (hty : ∀ k, k < N → parseFieldDescriptor (T k).2.2.1 = some (ty0 k)) (hnm : ∀ a, a < N → ∀ b, b < N → a ≠ b → (T a).2.1 ≠ (T b).2.1) (j : Nat) (hj : j < N) (hlink : Cond.fieldLink own index ref (T j).2.1 (T j).2.2.1 ∈ gT) (hsame : (T j).1 = ref) (hfin : (T j).2.2.2 = true) (hdecl : (T j).1 = own) (hty1 : ty0 j = ty) (hn : narrow ty v = v) (hfit : fits ty v = true) (hl : j < fs0.length) (hs1 : fs0.set j v = fs1) (d : decode cc pc = .ok (.putfield index, 3)) (kk : qJ G F Q nL (mU M a (.inr (ci, fs1))) rc rs (pc + 3) lv st) : qJ G F Q nL M rc rs pc lv (v :: .ref a :: st) := by
  intro H locs ls cells slots h1 h2 h3 h4
  have hK : va_K G.1 vwCl (g_tys G) (fs F) := X.2.2.2.2.2.1.1
  have hts := X.2.2.2.2.1
  have hown := X.2.2.2.1
  have hap := va_apart (own := own) hts hin ty0 hty hnm hK hc
  obtain ⟨r, g1, cell, q1, q2, q3, q4⟩ := (h1.2.1.2 a _ ha).2
  have hr : r = (C, T, N) := Option.some.inj (g1.symm.trans hc)
  subst hr
  obtain ⟨hS, hfc, kC, hkC, hkind⟩ := hK.1 ci _ hc
  obtain ⟨cf, kf, fi, f, hi, hsl⟩ := hS j hj
  have hlay := hts _ (hin _ (u_in_lay hj))
  unfold u_lay at hlay
  rw [if_pos hfin] at hlay
  have hst := (u_facts hfc hkC (u_lays hts hin hj) hi).1
  have hcf : (fm F).cls = cf := by
    obtain ⟨_, _, c', _, _, _, -, -, hf', -, -, -, hown2, -⟩ := Cond.laysFinal_spec hlay
    have e1 : c' = cf := by have := hi.symm.trans hf'; simp at this; exact this.1.symm
    rw [hdecl] at hown2
    rw [← e1]; exact Option.some.inj (hown.symm.trans hown2)
  have h6 := u_fits hfc hkC hkind (Or.inr hlay) hi (by rw [hty j hj, hty1]) hn hfit
  refine W.putFinK X.1 X.2.1 hown (hts _ hlink) (by rw [← hsame]; exact hi) hst hcf hname (by rw [q2]; exact h6) q1 q3 (by rw [hsl]; exact k2_hasslot (q4 j hj)) rfl rfl d fun H' e1 e2 e3 => ?_
  rw [hsl] at e1 ⊢
  exact kk H' _ ls cells slots (g_put h1 ha (by subst hs1; exact ⟨_, hc, t_OB.to (V := updV (vp_V fs0) j v) ⟨_, e1, q2, q3, t_set q4 hap hj v⟩ (fun i _ => vp_updV_set hl v i)⟩) e2 e3) h2 h3 h4
theorem q_new (X : qX G F cc nL own k) {C : String} {T : u_T} {N ci index : Nat} (hc : vwCl[ci]? = some (C, T, N)) (hin : ∀ w ∈ u_ws C T N, w ∈ gT) (ty : Nat → FieldType) (hty : ∀ k, k < N → parseFieldDescriptor (T k).2.2.1 = some (ty k)) (w1 : Cond.classLink own index C ∈ gT) (w2 : Cond.instantiable C N ∈ gT) (w3 : Cond.initialized C ∈ gT) {fs0 : List Value} (hfs : ∀ j, j < N → defaultValue (ty j) = vp_V fs0 j) {rc' rs' : Nat} (hrc : rc' + 1 ≤ rc) (hrs : rs' + N ≤ rs) (d : decode cc pc = .ok (.new index, 3)) (kk : ∀ q : Nat, M q = none → qJ G F Q nL (mU M q (.inr (ci, fs0))) rc' rs' (pc + 3) lv (.ref q :: st)) : qJ G F Q nL M rc rs pc lv st := by
  intro H locs ls cells slots h1 h2 h3 h4
  have hK : va_K G.1 vwCl (g_tys G) (fs F) := X.2.2.2.2.2.1.1
  have hts := X.2.2.2.2.1
  have hKn := hK.1 ci _ hc
  refine W.newcK X.1 X.2.1 X.2.2.2.1 (hts _ w1) (hts _ w2) (hts _ w3) rfl d (by omega) (by omega) hKn.2.1 rfl fun H1 kC hkC e1 z1 o1 => ?_
  exact kk H.size (g_fresh h1.2.1) H1 locs ls (cells + 1) (slots + N) (g_new h1 ⟨_, hc, (u_born ty hts hin hKn hkC e1 hty).to hfs⟩ z1 o1) h2 (by omega) (by omega)
theorem g_cA {s : State} (hK : va_K G.1 vwCl (g_tys G) s) (j : Nat) {cA : ClassId} {t : FieldType} (hj : (g_tys G)[j]? = some (G.2.1 j, t)) (hr : ∀ C, t ≠ .object C) (h : s.vm.findClass ("[" ++ t.toString) = some cA) : cA = G.2.1 j := by
  have h1 := (hK.2 j _ hj).2
  unfold va_RA at h1
  cases t <;> first | exact absurd rfl (hr _) | exact Option.some.inj (h.symm.trans h1)
theorem q_newI (X : qX G F cc nL own k) (w : Cond.arrayClass .int ∈ gT) {n : Int32} (N : Nat) (hn : n = nI N) (hN : N ≤ 65536) {rc' rs' : Nat} (hrc : rc' + 1 ≤ rc) (hrs : rs' + N ≤ rs) (d : decode cc pc = .ok (.newarray .int, 2)) (kk : ∀ q : Nat, M q = none → qJ G F Q nL (mU M q (aI G N (fun _ => 0))) rc' rs' (pc + 2) lv (.ref q :: st)) : qJ G F Q nL M rc rs pc lv (.int n :: st) := by
  intro H locs ls cells slots h1 h2 h3 h4
  have hK : va_K G.1 vwCl (g_tys G) (fs F) := X.2.2.2.2.2.1.1
  subst hn
  refine va_newaK (atype := .int) X.1 X.2.1 (X.2.2.2.2.1 _ w) rfl d rfl (nI_pos (by omega)) (nI_clamp (by omega)) (by show N * 4 ≤ _; omega) (by omega) (by omega) rfl fun H1 cA e1 z1 o1 hAr hNm => ?_
  have hcA := g_cA (G := G) hK 0 (t := .int) rfl (fun _ h => by cases h) hNm
  subst hcA
  exact kk H.size (g_fresh h1.2.1) H1 locs ls (cells + 1) (slots + N) (g_new h1 (show H1[H.size]? = some (vp_cell _ _) by rw [vp_cell_i]; exact e1) z1 o1) h2 (by omega) (by omega)
theorem q_newJ (X : qX G F cc nL own k) (w : Cond.arrayClass .long ∈ gT) {n : Int32} (N : Nat) (hn : n = nI N) (hN : N ≤ 65536) {rc' rs' : Nat} (hrc : rc' + 1 ≤ rc) (hrs : rs' + N ≤ rs) (d : decode cc pc = .ok (.newarray .long, 2)) (kk : ∀ q : Nat, M q = none → qJ G F Q nL (mU M q (aJ G N (fun _ => 0))) rc' rs' (pc + 2) lv (.ref q :: st)) : qJ G F Q nL M rc rs pc lv (.int n :: st) := by
  intro H locs ls cells slots h1 h2 h3 h4
  have hK : va_K G.1 vwCl (g_tys G) (fs F) := X.2.2.2.2.2.1.1
  subst hn
  refine va_newaK (atype := .long) X.1 X.2.1 (X.2.2.2.2.1 _ w) rfl d rfl (nI_pos (by omega)) (nI_clamp (by omega)) (by show N * 8 ≤ _; omega) (by omega) (by omega) rfl fun H1 cA e1 z1 o1 hAr hNm => ?_
  have hcA := g_cA (G := G) hK 1 (t := .long) rfl (fun _ h => by cases h) hNm
  subst hcA
  exact kk H.size (g_fresh h1.2.1) H1 locs ls (cells + 1) (slots + N) (g_new h1 (show H1[H.size]? = some (vp_cell _ _) by rw [vp_cell_l]; exact e1) z1 o1) h2 (by omega) (by omega)
theorem q_newZ (X : qX G F cc nL own k) (w : Cond.arrayClass .boolean ∈ gT) {n : Int32} (N : Nat) (hn : n = nI N) (hN : N ≤ 65536) {rc' rs' : Nat} (hrc : rc' + 1 ≤ rc) (hrs : rs' + N ≤ rs) (d : decode cc pc = .ok (.newarray .boolean, 2)) (kk : ∀ q : Nat, M q = none → qJ G F Q nL (mU M q (aZ G N (fun _ => 0))) rc' rs' (pc + 2) lv (.ref q :: st)) : qJ G F Q nL M rc rs pc lv (.int n :: st) := by
  intro H locs ls cells slots h1 h2 h3 h4
  have hK : va_K G.1 vwCl (g_tys G) (fs F) := X.2.2.2.2.2.1.1
  subst hn
  refine va_newaK (atype := .boolean) X.1 X.2.1 (X.2.2.2.2.1 _ w) rfl d rfl (nI_pos (by omega)) (nI_clamp (by omega)) (by show N * 1 ≤ _; omega) (by omega) (by omega) rfl fun H1 cA e1 z1 o1 hAr hNm => ?_
  have hcA := g_cA (G := G) hK 2 (t := .boolean) rfl (fun _ h => by cases h) hNm
  subst hcA
  exact kk H.size (g_fresh h1.2.1) H1 locs ls (cells + 1) (slots + N) (g_new h1 (show H1[H.size]? = some (vp_cell _ _) by rw [vp_cell_i]; exact e1) z1 o1) h2 (by omega) (by omega)
theorem q_alen (X : qX G F cc nL own k) {a : Nat} {x : vp_A} (t0 : Nat) {ty : FieldType} (ha : M a = some (.inl (G.2.1 t0, x))) (ht : (g_tys G)[t0]? = some (G.2.1 t0, ty)) (d : decode cc pc = .ok (.arraylength, 1)) (kk : qJ G F Q nL M rc rs (pc + 1) lv (.int (nI x.1) :: st)) : qJ G F Q nL M rc rs pc lv (.ref a :: st) := fun H locs ls cells slots h1 h2 h3 h4 => va_alen X.1 X.2.1 X.2.2.2.2.2.1.1 (g_one h1.2.1 ha) 0 t0 rfl ht rfl d (kk H locs ls cells slots h1 h2 h3 h4)
theorem q_iald (X : qX G F cc nL own k) {a n : Nat} {f : Nat → Int32} {i : Int32} (ha : M a = some (aI G n f)) (hin : vp_in i n) (d : decode cc pc = .ok (.iaload, 1)) (kk : qJ G F Q nL M rc rs (pc + 1) lv (.int (f i.toNatClampNeg) :: st)) : qJ G F Q nL M rc rs pc lv (.int i :: .ref a :: st) := fun H locs ls cells slots h1 h2 h3 h4 => va_iald X.1 X.2.1 X.2.2.2.2.2.1.1 (g_one h1.2.1 ha) 0 0 rfl rfl hin d (kk H locs ls cells slots h1 h2 h3 h4)
theorem q_lald (X : qX G F cc nL own k) {a n : Nat} {f : Nat → Int64} {i : Int32} (ha : M a = some (aJ G n f)) (hin : vp_in i n) (d : decode cc pc = .ok (.laload, 1)) (kk : qJ G F Q nL M rc rs (pc + 1) lv (.long (f i.toNatClampNeg) :: st)) : qJ G F Q nL M rc rs pc lv (.int i :: .ref a :: st) := fun H locs ls cells slots h1 h2 h3 h4 => va_lald X.1 X.2.1 X.2.2.2.2.2.1.1 (g_one h1.2.1 ha) 0 1 rfl rfl hin d (kk H locs ls cells slots h1 h2 h3 h4)
theorem q_zald (X : qX G F cc nL own k) {a n : Nat} {f : Nat → Int32} {i : Int32} (ha : M a = some (aZ G n f)) (hin : vp_in i n) (d : decode cc pc = .ok (.baload, 1)) (kk : qJ G F Q nL M rc rs (pc + 1) lv (.int (f i.toNatClampNeg) :: st)) : qJ G F Q nL M rc rs pc lv (.int i :: .ref a :: st) := fun H locs ls cells slots h1 h2 h3 h4 => va_zald X.1 X.2.1 X.2.2.2.2.2.1.1 (g_one h1.2.1 ha) 0 2 rfl rfl hin d (kk H locs ls cells slots h1 h2 h3 h4)
theorem q_iast (X : qX G F cc nL own k) {a n : Nat} {f : Nat → Int32} {i x : Int32} (ha : M a = some (aI G n f)) (hin : vp_in i n) (d : decode cc pc = .ok (.iastore, 1)) (kk : qJ G F Q nL (mU M a (aI G n (upd f i.toNatClampNeg x))) rc rs (pc + 1) lv st) : qJ G F Q nL M rc rs pc lv (.int x :: .int i :: .ref a :: st) := by
  intro H locs ls cells slots h1 h2 h3 h4
  have hP := (h1.2.1.2 a _ ha).2
  refine W.iast X.1 X.2.1 hP ((X.2.2.2.2.2.1.1.2 0 _ rfl).1 n (fun j => .int (f j))) (fun q => by cases q) (by show ¬ (i < 0 ∨ (arrV _ _ _).slots.size ≤ _); rw [arrV_size]; exact hin) rfl rfl d fun H1 e z oq => ?_
  refine kk H1 _ ls cells slots (g_put h1 ha ?_ z oq) h2 h3 h4
  show H1[a]? = some (vp_cell _ _)
  rw [e, vp_cell_i, vp_cell_i, arrV_store]
  congr 2
  funext q
  by_cases hq : q = i.toNatClampNeg
  · subst hq; simp [updV, upd]
  · simp [updV, upd, hq]
theorem q_last (X : qX G F cc nL own k) {a n : Nat} {f : Nat → Int64} {i : Int32} {x : Int64} (ha : M a = some (aJ G n f)) (hin : vp_in i n) (d : decode cc pc = .ok (.lastore, 1)) (kk : qJ G F Q nL (mU M a (aJ G n (vp_updL f i.toNatClampNeg x))) rc rs (pc + 1) lv st) : qJ G F Q nL M rc rs pc lv (.long x :: .int i :: .ref a :: st) := by
  intro H locs ls cells slots h1 h2 h3 h4
  have hP := (h1.2.1.2 a _ ha).2
  refine W.last X.1 X.2.1 hP ((X.2.2.2.2.2.1.1.2 1 _ rfl).1 n (fun j => .long (f j))) (fun q => by cases q) (by show ¬ (i < 0 ∨ (arrV _ _ _).slots.size ≤ _); rw [arrV_size]; exact hin) rfl rfl d fun H1 e z oq => ?_
  refine kk H1 _ ls cells slots (g_put h1 ha ?_ z oq) h2 h3 h4
  show H1[a]? = some (vp_cell _ _)
  rw [e, vp_cell_l, vp_cell_l, arrV_store]
  congr 2
  funext q
  by_cases hq : q = i.toNatClampNeg
  · subst hq; simp [updV, vp_updL]
  · simp [updV, vp_updL, hq]
theorem q_zast (X : qX G F cc nL own k) {a n : Nat} {f : Nat → Int32} {i x : Int32} (ha : M a = some (aZ G n f)) (hin : vp_in i n) (d : decode cc pc = .ok (.bastore, 1)) (kk : qJ G F Q nL (mU M a (aZ G n (upd f i.toNatClampNeg (vp_nar .boolean x)))) rc rs (pc + 1) lv st) : qJ G F Q nL M rc rs pc lv (.int x :: .int i :: .ref a :: st) := by
  intro H locs ls cells slots h1 h2 h3 h4
  have hP := (h1.2.1.2 a _ ha).2
  refine W.zast X.1 X.2.1 hP ((X.2.2.2.2.2.1.1.2 2 _ rfl).1 n (fun j => .int (f j))) (fun q => by cases q) (by show ¬ (i < 0 ∨ (arrV _ _ _).slots.size ≤ _); rw [arrV_size]; exact hin) rfl rfl d fun H1 e z oq => ?_
  refine kk H1 _ ls cells slots (g_put h1 ha ?_ z oq) h2 h3 h4
  show H1[a]? = some (vp_cell _ _)
  rw [e, vp_cell_i, vp_cell_i, arrV_store]
  congr 2
  funext q
  by_cases hq : q = i.toNatClampNeg
  · subst hq
    simp [updV, upd, vp_nar]
    try rfl
  · simp [updV, upd, hq]
end QH
