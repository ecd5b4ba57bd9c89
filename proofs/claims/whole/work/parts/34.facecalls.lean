/-! calls through an interface; copies of rows of references -/
section QE5
variable {G : gV} {F : gF} {Q : State → Prop} {nL : Nat} {M : gMem} {rc rs pc k : Nat} {lv : List (Nat × Value)} {st : List Value} {cc : ByteArray} {own : String} {Post : Option Value → gMem → Prop}
theorem q_tail5 {Mc : gMem} {H : Heap} {locs : List Loc} {cells slots mc ms : Nat} {g : JFrame} {rest : List Value} {a0 : Array Value} (hs : ∀ a e, Mc a = some e → M a = some e) (h1 : gOk G F M H locs)
    (hr : va_Run5 (fp F) (fl F) (fe F) (fR F) (fs F) (fm F) (fa F) (fb F) (fh F) (fc F) H locs cells slots mc ms g rest (qR G Mc H.size Post a0) (gA Mc H.size))
    (kk : ∀ (v : Option Value) (M' : gMem) (H' : Heap) (locs' : List Loc), Post v M' → (∀ a, M' a ≠ none → Mc a ≠ none ∨ M a = none) → gOk G F (mJ M Mc M') H' locs' → fW F H' locs' (cells + mc) (slots + ms) Q { g with pc := g.pc + 5, stack := v.toList ++ rest }) : fW F H locs cells slots Q g := by
  intro T hT X0
  obtain ⟨v, st₀, t, T', L, h0, X', hL, e1, e2, ⟨⟨v', M', hv, hp, hR', hA'⟩, hF⟩, stp⟩ := hr T hT X0
  cases hv
  obtain ⟨hS, hR, hA⟩ := h1
  unfold va_F at hF
  rw [h0] at hF
  have sub : ∀ q, gA Mc H.size q → fA F q := fun q h => by
    rcases h with h | h
    · cases h9 : Mc q with
      | none => exact absurd h9 h
      | some e => exact hA q (by rw [hs q e h9]; exact fun h => by cases h)
    · exact Or.inr (Nat.le_trans hS.1 h)
  have dis : ∀ a, M' a ≠ none → Mc a ≠ none ∨ M a = none := fun a h => by
    rcases hA' a h with h | h
    · exact Or.inl h
    · refine Or.inr ?_
      cases h9 : M a with
      | none => rfl
      | some e => exact absurd (g_lt hR h9) (by omega)
  have hO : gOk G F (mJ M Mc M') T'.heap (locs ++ L) := by
    rw [e1]
    refine ⟨⟨Nat.le_trans hS.1 hF.1, fun q q1 q2 => ?_, fun z hz => ?_⟩, ⟨hR'.1, fun b f hf => ?_⟩, fun b hb => ?_⟩
    · rw [hF.2 q (Nat.lt_of_lt_of_le q1 hS.1) (fun h => q2 (sub q h))]; exact hS.2.1 q q1 q2
    · rcases List.mem_append.mp hz with h | h
      · exact hS.2.2 z h
      · exact sub _ (hL z h)
    · unfold mJ at hf
      cases h9 : M' b with
      | some e => rw [h9] at hf; exact hR'.2 b f (h9.trans hf)
      | none =>
        rw [h9] at hf
        cases h8 : Mc b with
        | some e => rw [h8] at hf; cases hf
        | none =>
          rw [h8] at hf
          have hlt := g_lt hR hf
          refine ⟨(hR.2 b f hf).1, (hR.2 b f hf).2.kept (hF.2 b hlt ?_)⟩
          intro h
          rcases h with h | h
          · exact h h8
          · exact absurd hlt (by show ¬ b < H.size; omega)
    · unfold mJ at hb
      cases h9 : M' b with
      | some e => exact sub b (hA' b (by rw [h9]; exact fun h => by cases h))
      | none =>
        rw [h9] at hb
        cases h8 : Mc b with
        | some e => rw [h8] at hb; exact absurd rfl hb
        | none => rw [h8] at hb; exact hA b hb
  obtain ⟨t2, a1, b1⟩ := kk v M' T'.heap (locs ++ L) hp dis hO T' rfl X'
  exact ⟨t2, stp t2 a1, b1⟩
theorem q_callF (X : qX G F cc nL own k) {x y : MethodName} {bytes : ByteArray} {nL' n index count k' mc ms b ci N : Nat} {ret : Option FieldType} {C : String} {T : u_T} {As rest fs0 : List Value} (hM : qC (fl F) G y bytes nL' ret k' mc ms (.ref b :: As) M Post) (hY : qY y bytes nL' ret n) (wl : Cond.methodLink own index x ∈ gT) (wse : Cond.selects C x y ∈ gT) (wi : Cond.instanceMethod y ∈ gT) (u1 : Cond.declares x ∈ lw_tbl) (u2 : Cond.interfaceMethod x.cls x.cls x.name x.desc ∈ lw_tbl) (u3 : Cond.publicMethod y ∈ lw_tbl) (u4 : Cond.unhidden C x.name x.desc ∈ lw_tbl) (u5 : Cond.castable C x.cls ∈ lw_tbl) (hx : x.cls ≠ "java/lang/invoke/MethodHandle" ∧ x.cls ≠ "java/lang/invoke/VarHandle" ∧ (parseMethodDescriptor x.desc).map (fun d => d.parameters.length) = some n) (ha : M b = some (oB ci fs0)) (hc : vwCl[ci]? = some (C, T, N)) (hk : k' + 1 ≤ k) (hn : As.length = n) (hst : st = As.reverse ++ .ref b :: rest) (hw : (rest.map fun v => v.category).sum ≤ 8) {rc' rs' : Nat} (hrc : rc' + mc ≤ rc) (hrs : rs' + ms ≤ rs) (d : decode cc pc = .ok (.invokeinterface index count, 5))
    (kk : ∀ (v : Option Value) (M' : gMem), Post v M' → (∀ a, M' a ≠ none → M a ≠ none ∨ M a = none) → qJ G F Q nL M' rc' rs' (pc + 5) lv (v.toList ++ rest)) : qJ G F Q nL M rc rs pc lv st := by
  intro H locs ls cells slots h1 h2 h3 h4
  subst hst
  have hp := q_pre X h1 (fun _ _ h => h) (.ref b :: As)
  have hK : va_K G.1 vwCl (g_tys G) (fs F) := X.2.2.2.2.2.1.1
  obtain ⟨-, hW, hold, hI⟩ := X.2.2.2.2.2.1
  obtain ⟨hB, b0, hts, -⟩ := hI
  have hFw : va_Fw C x y (fs F) := va_Fw.moved ⟨hx.1, hx.2.1⟩ hW.alike (va_Fw.of (hts _ u1) (hts _ u2) (hts _ u3) (hts _ u4) (hts _ u5))
  have hG : GoodIn gT (va_wsF own index C x y (.code y bytes nL' ret :: gT)) := fun w hw => by
    unfold va_wsF at hw
    rcases List.mem_append.mp hw with h | h
    · have h9 : w ∈ gT := by
        rcases List.mem_cons.mp h with e | h
        · rw [e]; exact wl
        · rcases List.mem_cons.mp h with e | h
          · rw [e]; exact wse
          · rcases List.mem_cons.mp h with e | h
            · rw [e]; exact wi
            · rcases List.mem_cons.mp h with e | h
              · rw [e]; exact hY.2.1
              · cases h
      exact ⟨h9, good_of_word (gT_good h9)⟩
    · exact g_good hY.1 w h
  have hcw := va_cwF (R := fR F) (mc := mc) (ms := ms) (rm := qRm k' mc ms) n X.2.2.2.2.1 hG rfl rfl rfl hFw hx ⟨by rw [X.2.2.2.2.2.2.2.1]; exact hk, by
    rw [X.2.2.2.2.2.2.2.2.1]
    have h5 := hY.2.2.2
    show 8 + (nL' + 11) + 40 * k' ≤ 40 * k
    omega⟩
  exact q_tail5 (fun _ _ h => h) h1 (va_runF (As := As) (rest := rest) (hK.1 ci _ hc).2 ⟨X.1, X.2.1, X.2.2.1, X.2.2.2.1, X.2.2.2.2.1⟩ (hM H.size) hcw ⟨hp.1, va_recv hK (g_one h1.2.1 ha) hc (q0 := 0) rfl, hp.2⟩ rfl hn h2.1 rfl (lv_room hw) d ⟨by omega, by omega⟩) (fun v M' H' locs' g1 g2 g3 => by rw [mJ_self] at g3; exact kk v M' g1 g2 H' locs' ls _ _ g3 h2 (by omega) (by omega))
/-- a cell whose class goes into a row of Objects -/
def okE (M : gMem) (y : Nat) : Prop := ∃ (ci : Nat) (fs0 : List Value) (C : String) (T : u_T) (N : Nat), M y = some (oB ci fs0) ∧ vwCl[ci]? = some (C, T, N) ∧ Cond.castable C "java/lang/Object" ∈ lw_tbl
theorem q_copyO (X : qX G F cc nL own k) {index a0 a N n1 : Nat} {f g : Nat → Option Nat} {n : Int32} {rest : List Value} (w1 : Cond.methodLink own index arraycopyName ∈ gT) (w2 : Cond.native arraycopyName ∈ gT) (w3 : Cond.static arraycopyName ∈ gT) (w4 : Cond.initialized "java/lang/System" ∈ gT) (ha0 : M a0 = some (aO G N f)) (ha1 : M a = some (aO G n1 g)) (hn : n = nI N) (hN : N ≤ n1) (hN1 : n1 < 2 ^ 31) (hel : ∀ i, i < N → ∀ y, f i = some y → okE M y) (hk : 2 ≤ k) (hw : (rest.map fun v => v.category).sum ≤ 8) (d : decode cc pc = .ok (.invokestatic index, 3)) (kk : qJ G F Q nL (mU M a (aO G n1 (va_cpy f g 0 0 N))) rc rs (pc + 3) lv rest) : qJ G F Q nL M rc rs pc lv (.int n :: .int 0 :: .ref a :: .int 0 :: .ref a0 :: rest) := by
  intro H locs ls cells slots h1 h2 h3 h4
  subst hn
  have hts := X.2.2.2.2.1
  have hK : va_K G.1 vwCl (g_tys G) (fs F) := X.2.2.2.2.2.1.1
  intro T hT X0
  have hc0 : H[a0]? = some (vp_cell (G.2.1 3) (N, .inr (.inr (.inr (.inr f))))) := (h1.2.1.2 a0 _ ha0).2
  have hc1 : H[a]? = some (vp_cell (G.2.1 3) (n1, .inr (.inr (.inr (.inr g))))) := (h1.2.1.2 a _ ha1).2
  obtain ⟨-, k0, hk0, cm0, hkk0⟩ := (hK.2 3 _ rfl).1 N (fun j => va_rf (f j))
  have hcl : (nI N).toNatClampNeg = N := nI_clamp (by omega)
  have z0 : (0 : Int32).toNatClampNeg = 0 := by decide
  obtain ⟨vm', X', step⟩ := X0.arraycopy X.1 X.2.2.2.1 (hts _ w1) (hts _ w2) (hts _ w3) (hts _ w4) (src := a0) (dst := a) (cs := vp_cell (G.2.1 3) (N, .inr (.inr (.inr (.inr f))))) (cd := vp_cell (G.2.1 3) (n1, .inr (.inr (.inr (.inr g))))) (srcPos := 0) (destPos := 0) (n := nI N) (by rw [hT]; exact hc0) (by rw [hT]; exact hc1)
    (fun _ h => by cases h) (fun _ h => by cases h) (fun h => by cases h) (fun h => by cases h) hk0 hk0 hkk0 hkk0 rfl (by decide) (by decide) (nI_pos (by omega))
    (by rw [nI_toInt (by omega)]; show ¬ _ > ((arrV (G.2.1 3) N (fun j => va_rf (f j))).slots.size : Int); rw [arrV_size, Int32.toInt_zero]; omega)
    (by rw [nI_toInt (by omega)]; show ¬ _ > ((arrV (G.2.1 3) n1 (fun j => va_rf (g j))).slots.size : Int); rw [arrV_size, Int32.toInt_zero]; omega)
    (fun vm₁ hal i hi => by
      rw [hcl] at hi
      have e : (vp_cell (G.2.1 3) (N, .inr (.inr (.inr (.inr f))))).slots.getD ((0 : Int32).toNatClampNeg + i) .null = va_rf (f i) := by
        rw [z0, Nat.zero_add]
        show (arrV (G.2.1 3) N (fun j => va_rf (f j))).slots.getD _ _ = _
        rw [Array.getD_eq_getD_getElem?, arrV_read _ _ hi]
        rfl
      rw [e]
      cases hy : f i with
      | none => exact ⟨rfl, trivial⟩
      | some y =>
        obtain ⟨ci, fs0, C, TT, N0, hMy, hcc, hca⟩ := hel i hi y hy
        obtain ⟨r', hr', cellV, g1, g2, g3, -⟩ := (h1.2.1.2 y _ hMy).2
        have hcls := (hK.1 ci _ hcc).2
        obtain ⟨kA, comp, r1, r2, r3, -⟩ := (hK.2 3 _ rfl).2
        cases hk0.symm.trans r1
        cases hkk0.symm.trans r2
        obtain ⟨c0, t1, f1, f2, f3⟩ := Cond.castable_spec (va_Nw.use (A := fa F) rfl (g_cast X hca))
        cases hcls.1.symm.trans f1
        cases r3.symm.trans f2
        obtain ⟨kC, hkC, -⟩ := hcls.2
        obtain ⟨kE, hkE, -⟩ := Vm.findClass_spec r3
        obtain ⟨kC', hkC', -⟩ := hal.2.2 _ _ hkC
        obtain ⟨kE', hkE', -⟩ := hal.2.2 _ _ hkE
        refine ⟨rfl, cellV, (show T.heap[y]? = some cellV by rw [hT]; exact g1), (fun q h => by rw [h] at g3; cases g3), ⟨kC', by rw [g2]; exact hkC'⟩, ?_, ?_⟩
        · exact ⟨kE', hkE'⟩
        · show vm₁.assignable _ _ = true
          rw [hal.assignable, g2]
          exact f3)
    (g := F0 (fm F) pc ls (.int (nI N) :: .int 0 :: .ref a :: .int 0 :: .ref a0 :: rest)) rfl (by rw [X.2.2.1]; exact h2.1) (rest := rest) rfl (by rw [X.2.1]; exact d) (by rw [X.2.2.2.2.2.2.2.1]; omega) (by
      rw [X.2.2.2.2.2.2.2.2.1]
      have h9 := lv_room (m := fm F) (pc := pc) (ls := ls) (rest := (.int (nI N) :: .int 0 :: .ref a :: .int 0 :: .ref a0 :: rest)) hw
      have h8 : nativeFrameWords "java/lang/System" "arraycopy" 5 ≤ 40 := by decide
      omega)
  have e1 : copied (vp_cell (G.2.1 3) (N, .inr (.inr (.inr (.inr f))))) (vp_cell (G.2.1 3) (n1, .inr (.inr (.inr (.inr g))))) 0 0 (nI N) = vp_cell (G.2.1 3) (n1, .inr (.inr (.inr (.inr (va_cpy f g 0 0 N))))) := by
    have e2 : copied (vp_cell (G.2.1 3) (N, .inr (.inr (.inr (.inr f))))) (vp_cell (G.2.1 3) (n1, .inr (.inr (.inr (.inr g))))) 0 0 (nI N) = vp_cell (G.2.1 3) (n1, .inr (.inr (.inr (.inr (va_cpy f g (0 : Int32).toNatClampNeg (0 : Int32).toNatClampNeg (nI N).toNatClampNeg))))) := by
      rw [vp_cell_q, vp_cell_q, vp_cell_q]
      exact va_copied (fun z => va_rf z) (G.2.1 3) (G.2.1 3) f g (by rw [z0, hcl]; omega)
    rw [z0, hcl] at e2
    exact e2
  rw [e1] at X' step
  have hl : a < H.size := (Array.getElem?_eq_some_iff.mp hc1).1
  have hheap : ((T.setVm vm').setCell a (vp_cell (G.2.1 3) (n1, .inr (.inr (.inr (.inr (va_cpy f g 0 0 N))))))).heap = H.setIfInBounds a (vp_cell (G.2.1 3) (n1, .inr (.inr (.inr (.inr (va_cpy f g 0 0 N)))))) := by rw [← hT]; rfl
  have oq : ∀ q : Nat, q ≠ a → (H.setIfInBounds a (vp_cell (G.2.1 3) (n1, .inr (.inr (.inr (.inr (va_cpy f g 0 0 N)))))))[q]? = H[q]? := fun q hq => by simp [Array.getElem?_setIfInBounds, Ne.symm hq]
  have hO := g_put (i := 0) h1 ha1 (e := aO G n1 (va_cpy f g 0 0 N)) (H1 := H.setIfInBounds a (vp_cell (G.2.1 3) (n1, .inr (.inr (.inr (.inr (va_cpy f g 0 0 N))))))) (show (H.setIfInBounds a _)[a]? = some _ by simp [Array.getElem?_setIfInBounds, hl]) (by simp) oq
  obtain ⟨t, b1, b2⟩ := kk _ _ ls cells slots ⟨⟨hO.1.1, hO.1.2.1, fun z hz => by
      rcases List.mem_append.mp hz with h | h
      · exact h1.1.2.2 z h
      · obtain ⟨y, -, hy⟩ := List.mem_map.mp h
        rw [← hy]
        exact h1.2.2 a (by rw [ha1]; exact fun h => by cases h)⟩, hO.2⟩ h2 h3 h4 _ hheap X'
  exact ⟨t, step t b1, b2⟩
/-- fields that a class above declares -/
theorem q_getU (X : qX G F cc nL own k) {ref C : String} {T : u_T} {N ci index a : Nat} {fs0 : List Value} {v : Value} (ha : M a = some (.inr (ci, fs0))) (hc : vwCl[ci]? = some (C, T, N)) (hin : ∀ w ∈ u_ws C T N, w ∈ gT) (j : Nat) (hj : j < N) (hlink : Cond.fieldLink own index ref (T j).2.1 (T j).2.2.1 ∈ gT) (hsame : Cond.sameField ref (T j).1 (T j).2.1 (T j).2.2.1 ∈ gT) (hv : fs0[j]? = some v) (d : decode cc pc = .ok (.getfield index, 3)) (kk : qJ G F Q nL M rc rs (pc + 3) lv (v :: st)) : qJ G F Q nL M rc rs pc lv (.ref a :: st) := by
  intro H locs ls cells slots h1 h2 h3 h4
  exact va_get (D := G.1) (cl := vwCl) (tys := g_tys G) X.1 X.2.1 X.2.2.2.2.1 hin X.2.2.2.1 X.2.2.2.2.2.1.1 (g_one h1.2.1 ha) 0 rfl hc j hj (X.2.2.2.2.1 _ hlink) (fun x h => u_same (X.2.2.2.2.1 _ hsame) x h) hv d (kk H locs ls cells slots h1 h2 h3 h4)
theorem q_putU (X : qX G F cc nL own k) {ref C : String} {T : u_T} {N ci index a : Nat} {fs0 fs1 : List Value} {v : Value} {ty : FieldType} (ha : M a = some (.inr (ci, fs0))) (hc : vwCl[ci]? = some (C, T, N)) (hin : ∀ w ∈ u_ws C T N, w ∈ gT) (ty0 : Nat → FieldType) (hty : ∀ k, k < N → parseFieldDescriptor (T k).2.2.1 = some (ty0 k)) (hnm : ∀ a, a < N → ∀ b, b < N → a ≠ b → (T a).2.1 ≠ (T b).2.1) (j : Nat) (hj : j < N) (hlink : Cond.fieldLink own index ref (T j).2.1 (T j).2.2.1 ∈ gT) (hsame : Cond.sameField ref (T j).1 (T j).2.1 (T j).2.2.1 ∈ gT) (hfin : (T j).2.2.2 = false) (hty1 : ty0 j = ty) (hn : narrow ty v = v) (hfit : fits ty v = true) (hl : j < fs0.length) (hs1 : fs0.set j v = fs1) (d : decode cc pc = .ok (.putfield index, 3)) (kk : qJ G F Q nL (mU M a (.inr (ci, fs1))) rc rs (pc + 3) lv st) : qJ G F Q nL M rc rs pc lv (v :: .ref a :: st) := by
  intro H locs ls cells slots h1 h2 h3 h4
  have hK : va_K G.1 vwCl (g_tys G) (fs F) := X.2.2.2.2.2.1.1
  have hts := X.2.2.2.2.1
  have hap := va_apart (own := own) hts hin ty0 hty hnm hK hc
  obtain ⟨r, g1, cell, q1, q2, q3, q4⟩ := (h1.2.1.2 a _ ha).2
  have hr : r = (C, T, N) := Option.some.inj (g1.symm.trans hc)
  subst hr
  obtain ⟨hS, hfc, kC, hkC, hkind⟩ := hK.1 ci _ hc
  obtain ⟨cf, kf, fi, f, hi, hsl⟩ := hS j hj
  have hlay := hts _ (hin _ (u_in_lay hj))
  unfold u_lay at hlay
  rw [if_neg (by rw [hfin]; decide)] at hlay
  have hst := (u_facts hfc hkC (u_lays hts hin hj) hi).1
  have h6 := u_store hfc hkC hkind hlay hi (by rw [hty j hj, hty1]) hn hfit
  refine W.putK X.1 X.2.1 (f := f) ⟨X.2.2.2.1, hts _ hlink, ⟨_, _, _, u_same (hts _ hsame) _ hi⟩, hst⟩ (by rw [q2]; exact h6) q1 q3 (by rw [hsl]; exact k2_hasslot (q4 j hj)) rfl rfl d fun H' e1 e2 e3 => ?_
  rw [hsl] at e1 ⊢
  exact kk H' _ ls cells slots (g_put h1 ha (by subst hs1; exact ⟨_, hc, t_OB.to (V := updV (vp_V fs0) j v) ⟨_, e1, q2, q3, t_set q4 hap hj v⟩ (fun i _ => vp_updV_set hl v i)⟩) e2 e3) h2 h3 h4
end QE5
