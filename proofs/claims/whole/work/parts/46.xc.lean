/-! CONTRACTS of methods that may throw: xC: the method returns, and 'Post answer memory', or it throws an exception of the class E, and 'PX E memory' -/
def xX (G : gV) (M : gMem) (sz : Nat) (PX : String → gMem → Prop) : String → State → State → Prop := fun E st t =>
  (∃ M' : gMem, PX E M' ∧ gRep G M' t.heap ∧ ∀ a, M' a ≠ none → gA M sz a) ∧ va_F (gA M sz) st t
def xC (l : Launch) (G : gV) (y : MethodName) (cc : ByteArray) (nL : Nat) (ret : Option FieldType) (k mc ms : Nat) (As : List Value) (M : gMem) (Post : Option Value → gMem → Prop) (PX : String → gMem → Prop) : Prop :=
  ∀ sz : Nat, vx_Met l y (.code y cc nL ret :: gT) (qRm k mc ms) (va_Pc As (fun U => U.heap.size = sz ∧ gRep G M U.heap ∧ gK G U)) (qR G M sz Post) (xX G M sz PX) mc ms (gA M sz)
def xQ (G : gV) (F : gF) (Post : Option Value → gMem → Prop) (PX : String → gMem → Prop) : State → Prop := vx_MQ (fb F) (qR G (fM F) (fs F).heap.size Post) (xX G (fM F) (fs F).heap.size PX) (fa F) (fs F) (fR F).cells (fR F).slots (fA F)
/-- a body without handlers -/
def xN (F : gF) : Prop := ∀ x ∈ (fc F).exceptionTable.toList, False
theorem xC_of {l : Launch} {G : gV} {y : MethodName} {cc : ByteArray} {nL : Nat} {ret : Option FieldType} {k mc ms : Nat} {As : List Value} {M : gMem} {Post : Option Value → gMem → Prop} {PX : String → gMem → Prop} (hy : plainName y.cls = true) (hlen : (lg_sl As).length ≤ nL)
    (body : ∀ F : gF, fl F = l → qX G F cc nL y.cls k → xN F → (fh F).sig.returnType = ret → (fh F).name = y.name → qJ G F (xQ G F Post PX) nL M mc ms 0 (lv_args 0 As) []) : xC l G y cc nL ret k mc ms As M Post PX := by
  intro sz
  refine vx_ofW (cc := cc) (maxL := nL) (ret := ret) hy rfl ?_
  intro p e s m args below meth c s₁ B hml htab hv
  obtain ⟨rfl, hsz, hR, hK⟩ := hv
  subst hsz
  have hts := atoms_spec (ws := .code y cc nL ret :: gT) B.pre
  have hown : s.vm.findClass y.cls = some m.cls := findClass_of_methodNamed B.named
  have hl := lv_entry As (n := nL) hlen
  rw [lg_entry_eq]
  exact body (M, p, l, e, qRm k mc ms, s, m, As.toArray, below, meth, c) rfl ⟨B.exec, B.bytes, hml, hown, fun w h => hts w (List.mem_cons_of_mem _ h), hK, B.notSynchronized, rfl, rfl, hR.1, fun a h => by cases h9 : M a with | none => exact absurd h9 h | some e => exact (hR.2 a e h9).1⟩ htab B.returns (name_of_methodNamed B.named B.method).1 s.heap [] _ 0 0 ⟨va_S.rf, hR, fun a h => Or.inl h⟩ hl (Nat.le_of_eq (Nat.zero_add _)) (Nat.le_of_eq (Nat.zero_add _))
section XE
variable {G : gV} {F : gF} {Q : State → Prop} {nL : Nat} {M : gMem} {rc rs pc k : Nat} {lv : List (Nat × Value)} {st : List Value} {cc : ByteArray} {own : String} {Post : Option Value → gMem → Prop} {PX : String → gMem → Prop}
theorem x_ret (kk : qJ G F (qQ G F Post) nL M rc rs pc lv st) : qJ G F (xQ G F Post PX) nL M rc rs pc lv st := fun H locs ls cells slots h1 h2 h3 h4 => vx_ret (kk H locs ls cells slots h1 h2 h3 h4)
/-- an exception of the class E flies at pc -/
def tJ (G : gV) (F : gF) (Q : State → Prop) (nL : Nat) (M : gMem) (rc rs : Nat) (pc : Nat) (lv : List (Nat × Value)) (E : String) : Prop :=
  ∀ (H : Heap) (locs : List Loc) (ls : Array Slot) (cells slots : Nat) (q : Addr) (ce : Cell) (rest : List Value), gOk G F M H locs → lv_has ls nL lv → cells + rc ≤ (fR F).cells → slots + rs ≤ (fR F).slots → H[q]? = some ce → ce.vm = .none → (fs F).vm.findClass E = some ce.cls → vx_W (fp F) (fl F) (fe F) (fR F) (fs F) (fm F) (fa F) (fb F) (fh F) (fc F) H locs cells slots Q (F0 (fm F) pc ls rest) q
theorem t_X {H : Heap} {locs : List Loc} (h1 : gOk G F M H locs) {E : String} (hp : PX E M) {t : State} (ht : t.heap = H) : xX G (fM F) (fs F).heap.size PX E (fs F) t := by
  refine ⟨⟨M, hp, by rw [ht]; exact h1.2.1, h1.2.2⟩, ?_⟩
  unfold va_F
  rw [ht]
  exact ⟨h1.1.1, h1.1.2.1⟩
/-- nothing here catches it -/
theorem t_out (X : qX G F cc nL own k) (hN : xN F) {E : String} (hp : PX E M) : tJ G F (xQ G F Post PX) nL M rc rs pc lv E := by
  intro H locs ls cells slots q ce rest h1 h2 h3 h4 h5 h6 h7
  exact vx_out (fun x hx => (hN x hx).elim) X.2.2.2.2.2.2.1 h5 h6 h7 (fun t ht _ => t_X h1 hp ht) (fun z hz => h1.1.2.2 z hz) (by omega) (by omega)
theorem x_tail {Mc : gMem} {H : Heap} {locs : List Loc} {cells slots mc ms : Nat} {g : JFrame} {rest : List Value} {a0 : Array Value} (hs : ∀ a e, Mc a = some e → M a = some e) (h1 : gOk G F M H locs)
    (hr : vx_Run (fp F) (fl F) (fe F) (fR F) (fs F) (fm F) (fa F) (fb F) (fh F) (fc F) H locs cells slots mc ms g rest (qR G Mc H.size Post a0) (xX G Mc H.size PX) (gA Mc H.size))
    (kk : ∀ (v : Option Value) (M' : gMem) (H' : Heap) (locs' : List Loc), Post v M' → (∀ a, M' a ≠ none → Mc a ≠ none ∨ M a = none) → gOk G F (mJ M Mc M') H' locs' → fW F H' locs' (cells + mc) (slots + ms) Q { g with pc := g.pc + 3, stack := v.toList ++ rest })
    (kx : ∀ (E : String) (M' : gMem) (H' : Heap) (locs' : List Loc) (q : Addr) (ce : Cell), PX E M' → (∀ a, M' a ≠ none → Mc a ≠ none ∨ M a = none) → gOk G F (mJ M Mc M') H' locs' → H'[q]? = some ce → ce.vm = .none → (fs F).vm.findClass E = some ce.cls → vx_W (fp F) (fl F) (fe F) (fR F) (fs F) (fm F) (fa F) (fb F) (fh F) (fc F) H' locs' (cells + mc) (slots + ms) Q { g with stack := rest } q) : fW F H locs cells slots Q g := by
  intro T hT X0
  obtain ⟨hS, hR, hA⟩ := h1
  have sub : ∀ q, gA Mc H.size q → fA F q := fun q h => by
    rcases h with h | h
    · cases h9 : Mc q with
      | none => exact absurd h9 h
      | some e => exact hA q (by rw [hs q e h9]; exact fun h => by cases h)
    · exact Or.inr (Nat.le_trans hS.1 h)
  have both : ∀ (M' : gMem) (t T' : State) (L : List Loc), gRep G M' t.heap → (∀ a, M' a ≠ none → gA Mc H.size a) → H.size ≤ t.heap.size ∧ (∀ q : Nat, q < H.size → ¬ gA Mc H.size q → t.heap[q]? = H[q]?) → (∀ z ∈ L, gA Mc H.size z.base) → T'.heap = t.heap → (∀ a, M' a ≠ none → Mc a ≠ none ∨ M a = none) ∧ gOk G F (mJ M Mc M') T'.heap (locs ++ L) := by
    intro M' t T' L hR' hA' hF hL e1
    have dis : ∀ a, M' a ≠ none → Mc a ≠ none ∨ M a = none := fun a h => by
      rcases hA' a h with h | h
      · exact Or.inl h
      · refine Or.inr ?_
        cases h9 : M a with
        | none => rfl
        | some e => exact absurd (g_lt hR h9) (by omega)
    refine ⟨dis, ?_⟩
    rw [e1]
    refine ⟨⟨Nat.le_trans hS.1 hF.1, fun q q1 q2 => ?_, fun z hz => ?_⟩, ⟨hR'.1, fun b f hf => ?_⟩, fun b hb => ?_⟩
    · rw [hF.2 q (Nat.lt_of_lt_of_le q1 hS.1) (fun h => q2 (sub q h))]; exact hS.2.1 q q1 q2
    · rcases List.mem_append.mp hz with h | h
      · exact hS.2.2 z h
      · exact sub _ (hL z h)
    · unfold mJ at hf
      cases h9 : M' b with
      | some e => rw [h9] at hf; exact hR'.2 b f (h9.trans hf)
      | none =>
        rw [h9] at hf
        cases h8 : Mc b with
        | some e => rw [h8] at hf; cases hf
        | none =>
          rw [h8] at hf
          have hlt := g_lt hR hf
          refine ⟨(hR.2 b f hf).1, (hR.2 b f hf).2.kept (hF.2 b hlt ?_)⟩
          intro h
          rcases h with h | h
          · exact h h8
          · exact absurd hlt (by show ¬ b < H.size; omega)
    · unfold mJ at hb
      cases h9 : M' b with
      | some e => exact sub b (hA' b (by rw [h9]; exact fun h => by cases h))
      | none =>
        rw [h9] at hb
        cases h8 : Mc b with
        | some e => rw [h8] at hb; exact absurd rfl hb
        | none => rw [h8] at hb; exact hA b hb
  rcases hr T hT X0 with ⟨v, st₀, t, T', L, h0, X', hL, e1, e2, ⟨⟨v', M', hv, hp, hR', hA'⟩, hF⟩, stp⟩ | ⟨q, st₀, t, T', L, E, ce, h0, X', hL, e1, e2, ⟨⟨M', hp, hR', hA'⟩, hF⟩, hce, hcv, hcl, stp⟩
  · cases hv
    unfold va_F at hF
    rw [h0] at hF
    obtain ⟨d1, d2⟩ := both M' t T' L hR' hA' hF hL e1
    obtain ⟨t2, a1, b1⟩ := kk v M' T'.heap (locs ++ L) hp d1 d2 T' rfl X'
    exact ⟨t2, stp t2 a1, b1⟩
  · unfold va_F at hF
    rw [h0] at hF
    obtain ⟨d1, d2⟩ := both M' t T' L hR' hA' hF hL e1
    obtain ⟨t2, a1, b1⟩ := kx E M' T'.heap (locs ++ L) q ce hp d1 d2 (by rw [e1]; exact hce) hcv hcl T' rfl X'
    exact ⟨t2, stp.trans a1, b1⟩
theorem x_callVF (X : qX G F cc nL own k) {Mc : gMem} {y : MethodName} {bytes : ByteArray} {nL' n index k' mc ms b ci N : Nat} {ret : Option FieldType} {C : String} {T : u_T} {As rest fs0 : List Value} (hM : xC (fl F) G y bytes nL' ret k' mc ms (.ref b :: As) Mc Post PX) (hs : ∀ a e, Mc a = some e → M a = some e) (hY : qY y bytes nL' ret n) (wl : Cond.methodLink own index y ∈ gT) (wi : Cond.instanceMethod y ∈ gT) (wse : Cond.selects C y y ∈ gT) (ha : M b = some (.inr (ci, fs0))) (hc : vwCl[ci]? = some (C, T, N)) (hk : k' + 1 ≤ k) (hn : As.length = n) (hst : st = As.reverse ++ .ref b :: rest) (hw : (rest.map fun v => v.category).sum ≤ 8) {rc' rs' : Nat} (hrc : rc' + mc ≤ rc) (hrs : rs' + ms ≤ rs) (d : decode cc pc = .ok (.invokevirtual index, 3))
    (kk : ∀ (v : Option Value) (M' : gMem), Post v M' → (∀ a, M' a ≠ none → Mc a ≠ none ∨ M a = none) → qJ G F Q nL (mJ M Mc M') rc' rs' (pc + 3) lv (v.toList ++ rest))
    (kx : ∀ (E : String) (M' : gMem), PX E M' → (∀ a, M' a ≠ none → Mc a ≠ none ∨ M a = none) → tJ G F Q nL (mJ M Mc M') rc' rs' pc lv E) : qJ G F Q nL M rc rs pc lv st := by
  intro H locs ls cells slots h1 h2 h3 h4
  subst hst
  have hp := q_pre X h1 hs (.ref b :: As)
  exact x_tail hs h1 (vx_runV (As := As) (rest := rest) ⟨X.1, X.2.1, X.2.2.1, X.2.2.2.1, X.2.2.2.2.1⟩ (hM H.size) ⟨q_cb X hY wl hk, X.2.2.2.2.1 _ wi, X.2.2.2.2.1 _ wse⟩ ⟨hp.1, va_recv X.2.2.2.2.2.1.1 (g_one h1.2.1 ha) hc (q0 := 0) rfl, hp.2⟩ rfl hn h2.1 rfl (lv_room hw) d ⟨by omega, by omega⟩) (fun v M' H' locs' g1 g2 g3 => kk v M' g1 g2 H' locs' ls _ _ g3 h2 (by omega) (by omega))
    (fun E M' H' locs' q ce g1 g2 g3 g4 g5 g6 => kx E M' g1 g2 H' locs' ls _ _ q ce rest g3 h2 (by omega) (by omega) g4 g5 g6)
theorem x_callV (X : qX G F cc nL own k) {y : MethodName} {bytes : ByteArray} {nL' n index k' mc ms b ci N : Nat} {ret : Option FieldType} {C : String} {T : u_T} {As rest fs0 : List Value} (hM : xC (fl F) G y bytes nL' ret k' mc ms (.ref b :: As) M Post PX) (hY : qY y bytes nL' ret n) (wl : Cond.methodLink own index y ∈ gT) (wi : Cond.instanceMethod y ∈ gT) (wse : Cond.selects C y y ∈ gT) (ha : M b = some (.inr (ci, fs0))) (hc : vwCl[ci]? = some (C, T, N)) (hk : k' + 1 ≤ k) (hn : As.length = n) (hst : st = As.reverse ++ .ref b :: rest) (hw : (rest.map fun v => v.category).sum ≤ 8) {rc' rs' : Nat} (hrc : rc' + mc ≤ rc) (hrs : rs' + ms ≤ rs) (d : decode cc pc = .ok (.invokevirtual index, 3))
    (kk : ∀ (v : Option Value) (M' : gMem), Post v M' → (∀ a, M' a ≠ none → M a ≠ none ∨ M a = none) → qJ G F Q nL M' rc' rs' (pc + 3) lv (v.toList ++ rest))
    (kx : ∀ (E : String) (M' : gMem), PX E M' → tJ G F Q nL M' rc' rs' pc lv E) : qJ G F Q nL M rc rs pc lv st :=
  x_callVF X hM (fun _ _ h => h) hY wl wi wse ha hc hk hn hst hw hrc hrs d (fun v M' g1 g2 => by rw [mJ_self]; exact kk v M' g1 g2) (fun E M' g1 _ => by rw [mJ_self]; exact kx E M' g1)
theorem x_callS (X : qX G F cc nL own k) {y : MethodName} {bytes : ByteArray} {nL' n index k' mc ms : Nat} {ret : Option FieldType} {As rest : List Value} (hM : xC (fl F) G y bytes nL' ret k' mc ms As M Post PX) (hY : qY y bytes nL' ret n) (wl : Cond.methodLink own index y ∈ gT) (wi : Cond.static y ∈ gT) (hk : k' + 1 ≤ k) (hn : As.length = n) (hst : st = As.reverse ++ rest) (hw : (rest.map fun v => v.category).sum ≤ 8) {rc' rs' : Nat} (hrc : rc' + mc ≤ rc) (hrs : rs' + ms ≤ rs) (d : decode cc pc = .ok (.invokestatic index, 3))
    (kk : ∀ (v : Option Value) (M' : gMem), Post v M' → (∀ a, M' a ≠ none → M a ≠ none ∨ M a = none) → qJ G F Q nL M' rc' rs' (pc + 3) lv (v.toList ++ rest))
    (kx : ∀ (E : String) (M' : gMem), PX E M' → tJ G F Q nL M' rc' rs' pc lv E) : qJ G F Q nL M rc rs pc lv st := by
  intro H locs ls cells slots h1 h2 h3 h4
  subst hst
  exact x_tail (fun _ _ h => h) h1 (vx_runS (As := As) (rest := rest) ⟨X.1, X.2.1, X.2.2.1, X.2.2.2.1, X.2.2.2.2.1⟩ (hM H.size) ⟨q_cb X hY wl hk, X.2.2.2.2.1 _ wi⟩ (q_pre X h1 (fun _ _ h => h) As) rfl hn h2.1 rfl (lv_room hw) d ⟨by omega, by omega⟩) (fun v M' H' locs' g1 g2 g3 => kk v M' g1 g2 H' locs' ls _ _ (by rw [mJ_self] at g3; exact g3) h2 (by omega) (by omega))
    (fun E M' H' locs' q ce g1 g2 g3 g4 g5 g6 => kx E M' g1 H' locs' ls _ _ q ce rest (by rw [mJ_self] at g3; exact g3) h2 (by omega) (by omega) g4 g5 g6)
/-- the words that a throw stands on -/
def xW (w : Cond) : Prop := goodWord w = true ∨ (∃ x, w = .declares x) ∨ ∃ C D, w = .castable C D
theorem x_words (X : qX G F cc nL own k) {L : List Cond} (h : ∀ w ∈ L, w ∈ lw_tbl ∧ xW w) : ∀ w ∈ L, w.before (fa F) (fs F) = true := by
  intro w hw
  obtain ⟨h1, h2⟩ := h w hw
  rcases h2 with h2 | ⟨x, rfl⟩ | ⟨C, D, rfl⟩
  · exact X.2.2.2.2.1 _ (gT_in h1 h2)
  · obtain ⟨-, hW, -, -, b, hts, -⟩ := X.2.2.2.2.2.1
    have h0 : va_Nw (.declares x) (gU G) := va_Nw.of rfl (hts _ h1)
    have h3 : (Cond.declares x).before #[] ((gU G).setVm (fs F).vm) = true := by rw [Cond.declares_setVm hW.alike]; exact h0
    exact va_Nw.use (A := fa F) rfl (va_Nw.same (u := (gU G).setVm (fs F).vm) rfl rfl h3)
  · exact va_Nw.use (A := fa F) rfl (g_cast X h1)
end XE
