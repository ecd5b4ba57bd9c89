/-! CONTRACTS: qC: the method y, called with As over the memory M, returns, and 'Post answer memory'; and how they are proved and used -/
def qR (G : gV) (M : gMem) (sz : Nat) (Post : Option Value → gMem → Prop) : Array Value → State → Outcome → State → Prop := fun _ st o t =>
  (∃ (v : Option Value) (M' : gMem), o = .returned v ∧ Post v M' ∧ gRep G M' t.heap ∧ ∀ a, M' a ≠ none → gA M sz a) ∧ va_F (gA M sz) st t
def qQ (G : gV) (F : gF) (Post : Option Value → gMem → Prop) : State → Prop := MQ (fb F) (qR G (fM F) (fs F).heap.size Post) (fa F) (fs F) (fR F).cells (fR F).slots (fA F)
abbrev qRm (k mc ms : Nat) : Room := { frames := k, cells := mc, slots := ms, locals := 40 * k }
def qC (l : Launch) (G : gV) (y : MethodName) (cc : ByteArray) (nL : Nat) (ret : Option FieldType) (k mc ms : Nat) (As : List Value) (M : gMem) (Post : Option Value → gMem → Prop) : Prop :=
  ∀ sz : Nat, Met l y (.code y cc nL ret :: gT) (qRm k mc ms) (va_Pc As (fun U => U.heap.size = sz ∧ gRep G M U.heap ∧ gK G U)) (qR G M sz Post) mc ms (gA M sz)
theorem q_ofW {l : Launch} {y : MethodName} {ws ws' : List Cond} {rm : Room} {Pc : Array Value → State → Prop} {Qc : Array Value → State → Outcome → State → Prop} {mc ms : Nat} {free : Addr → Prop} {cc : ByteArray} {maxL : Nat} {ret : Option FieldType}
    (hy : plainFor y = true) (hw : ws = Cond.code y cc maxL ret :: ws')
    (body : ∀ p e s m args below meth c s₁, BodyLoose p l y (headSpec ws rm) cc maxL ret e s m args below meth c s₁ → c.maxLocals = maxL → Pc args s →
      W p l e (headSpec ws rm).room s m args below meth c s.heap [] 0 0 (MQ below Qc args s mc ms free) (entryFrame m args maxL)) : Met l y ws rm Pc Qc mc ms free := by
  refine MetFree.of_bodySF (code := cc) (maxLocals := maxL) (ret := ret) hy ?_ ?_
  · intro args s m h hn
    obtain ⟨meth, c, h1, h2, h3, h4, h5, h6, -, -⟩ := Cond.code_spec hn (atoms_spec (ws := ws) h _ (by rw [hw]; exact List.mem_cons_self))
    exact ⟨meth, c, h1, h2, h3, h4, h5, h6⟩
  · intro p e s m args below meth c s₁ B hml hP _
    have hh0 : s₁.heap = s.heap := by rw [B.state]; rfl
    obtain ⟨t, a1, o, b1, b2, b3⟩ := body p e s m args below meth c s₁ B hml hP s₁ hh0 (Stand.of_body B)
    exact ⟨t, o, a1, b1, b2, ⟨b3.1, b3.2⟩⟩
theorem qC_of {l : Launch} {G : gV} {y : MethodName} {cc : ByteArray} {nL : Nat} {ret : Option FieldType} {k mc ms : Nat} {As : List Value} {M : gMem} {Post : Option Value → gMem → Prop} (hy : plainFor y = true) (hlen : (lg_sl As).length ≤ nL)
    (body : ∀ F : gF, fl F = l → qX G F cc nL y.cls k → (fh F).sig.returnType = ret → (fh F).name = y.name → qJ G F (qQ G F Post) nL M mc ms 0 (lv_args 0 As) []) : qC l G y cc nL ret k mc ms As M Post := by
  intro sz
  refine q_ofW (cc := cc) (maxL := nL) (ret := ret) hy rfl ?_
  intro p e s m args below meth c s₁ B hml hv
  obtain ⟨rfl, hsz, hR, hK⟩ := hv
  subst hsz
  have hts := atoms_spec (ws := .code y cc nL ret :: gT) B.pre
  have hown : s.vm.findClass y.cls = some m.cls := findClass_of_methodNamed B.named
  have hl := lv_entry As (n := nL) hlen
  rw [lg_entry_eq]
  exact body (M, p, l, e, qRm k mc ms, s, m, As.toArray, below, meth, c) rfl ⟨B.exec, B.bytes, hml, hown, fun w h => hts w (List.mem_cons_of_mem _ h), hK, B.notSynchronized, rfl, rfl, hR.1, fun a h => by cases h9 : M a with | none => exact absurd h9 h | some e => exact (hR.2 a e h9).1⟩ B.returns (name_of_methodNamed B.named B.method).1 s.heap [] _ 0 0 ⟨va_S.rf, hR, fun a h => Or.inl h⟩ hl (Nat.le_of_eq (Nat.zero_add _)) (Nat.le_of_eq (Nat.zero_add _))
section QE
variable {G : gV} {F : gF} {Q : State → Prop} {nL : Nat} {M : gMem} {rc rs pc k : Nat} {lv : List (Nat × Value)} {st : List Value} {cc : ByteArray} {own : String} {Post : Option Value → gMem → Prop}
theorem q_iret (X : qX G F cc nL own k) (hr : (fh F).sig.returnType = some .int) {v : Int32} (d : decode cc pc = .ok (.ireturn, 1)) (hp : Post (some (.int v)) M) : qJ G F (qQ G F Post) nL M rc rs pc lv [.int v] := by
  intro H locs ls cells slots h1 h2 h3 h4
  refine W.widen (k := (fR F).cells) (n := (fR F).slots) (by omega) (by omega) ?_
  exact W.iret X.1 X.2.1 hr (fun t ht _ => ⟨⟨_, M, rfl, hp, by rw [ht]; exact h1.2.1, h1.2.2⟩, h1.1.F ht⟩) h1.1.2.2 d X.2.2.2.2.2.2.1
theorem q_zret (X : qX G F cc nL own k) (hr : (fh F).sig.returnType = some .boolean) {v : Int32} (hv : v = 0 ∨ v = 1) (d : decode cc pc = .ok (.ireturn, 1)) (hp : Post (some (.int v)) M) : qJ G F (qQ G F Post) nL M rc rs pc lv [.int v] := by
  intro H locs ls cells slots h1 h2 h3 h4
  refine W.widen (k := (fR F).cells) (n := (fR F).slots) (by omega) (by omega) ?_
  exact W.zret X.1 X.2.1 hr (by rcases hv with rfl | rfl <;> rfl) (fun t ht _ => ⟨⟨_, M, rfl, hp, by rw [ht]; exact h1.2.1, h1.2.2⟩, h1.1.F ht⟩) h1.1.2.2 d X.2.2.2.2.2.2.1
theorem q_lret (X : qX G F cc nL own k) (hr : (fh F).sig.returnType = some .long) {v : Int64} (d : decode cc pc = .ok (.lreturn, 1)) (hp : Post (some (.long v)) M) : qJ G F (qQ G F Post) nL M rc rs pc lv [.long v] := by
  intro H locs ls cells slots h1 h2 h3 h4
  refine W.widen (k := (fR F).cells) (n := (fR F).slots) (by omega) (by omega) ?_
  exact W.lret X.1 X.2.1 hr (fun t ht _ => ⟨⟨_, M, rfl, hp, by rw [ht]; exact h1.2.1, h1.2.2⟩, h1.1.F ht⟩) h1.1.2.2 d X.2.2.2.2.2.2.1
theorem q_vret (X : qX G F cc nL own k) (hr : (fh F).sig.returnType = none) (d : decode cc pc = .ok (.return_, 1)) (hp : Post none M) : qJ G F (qQ G F Post) nL M rc rs pc lv [] := by
  intro H locs ls cells slots h1 h2 h3 h4
  refine W.widen (k := (fR F).cells) (n := (fR F).slots) (by omega) (by omega) ?_
  exact W.vret X.1 X.2.1 hr (fun t ht _ => ⟨⟨_, M, rfl, hp, by rw [ht]; exact h1.2.1, h1.2.2⟩, h1.1.F ht⟩) h1.1.2.2 d X.2.2.2.2.2.2.1
theorem q_aret (X : qX G F cc nL own k) {rt : FieldType} (hr : (fh F).sig.returnType = some rt) (hrt : (∃ n, rt = FieldType.object n) ∨ ∃ t, rt = FieldType.array t) {v : Nat} (d : decode cc pc = .ok (.areturn, 1)) (hp : Post (some (.ref v)) M) : qJ G F (qQ G F Post) nL M rc rs pc lv [.ref v] := by
  intro H locs ls cells slots h1 h2 h3 h4
  refine W.widen (k := (fR F).cells) (n := (fR F).slots) (by omega) (by omega) ?_
  exact W.aret X.1 X.2.1 hr hrt (Or.inr ⟨v, rfl⟩) (fun t ht _ => ⟨⟨_, M, rfl, hp, by rw [ht]; exact h1.2.1, h1.2.2⟩, h1.1.F ht⟩) h1.1.2.2 d X.2.2.2.2.2.2.1
/-- a callee's facts: its code, its class, its descriptor -/
def qY (y : MethodName) (bytes : ByteArray) (nL' : Nat) (ret : Option FieldType) (n : Nat) : Prop := Cond.code y bytes nL' ret ∈ gT ∧ Cond.initialized y.cls ∈ gT ∧ (y.cls ≠ "java/lang/invoke/MethodHandle" ∧ y.cls ≠ "java/lang/invoke/VarHandle" ∧ (parseMethodDescriptor y.desc).map (fun d => d.parameters.length) = some n) ∧ nL' ≤ 21
theorem g_good {w : Cond} (h : w ∈ gT) : GoodIn gT (w :: gT) := fun w' h' => by
  rcases List.mem_cons.mp h' with e | h9
  · subst e; exact ⟨h, good_of_word (gT_good h)⟩
  · exact ⟨h9, good_of_word (gT_good h9)⟩
theorem q_cb (X : qX G F cc nL own k) {y : MethodName} {bytes : ByteArray} {nL' n index k' mc ms : Nat} {ret : Option FieldType} (hY : qY y bytes nL' ret n) (wl : Cond.methodLink own index y ∈ gT) (hk : k' + 1 ≤ k) : CallB (fR F) (fs F) (fa F) own index y bytes nL' ret (.code y bytes nL' ret :: gT) (qRm k' mc ms) mc ms n := by
  refine callB_of n X.2.2.2.2.1 (g_good hY.1) rfl rfl rfl (X.2.2.2.2.1 _ hY.2.1) (X.2.2.2.2.1 _ wl) hY.2.2.1 ⟨?_, ?_⟩
  · rw [X.2.2.2.2.2.2.2.1]; exact hk
  · rw [X.2.2.2.2.2.2.2.2.1]
    have h5 := hY.2.2.2
    show 8 + (nL' + 11) + 40 * k' ≤ 40 * k
    omega
/-- the memory behind a call over a part Mc of it -/
def mJ (M Mc M' : gMem) : gMem := fun a => match M' a with
  | some e => some e
  | none => match Mc a with
    | some _ => none
    | none => M a
theorem mJ_self (M M' : gMem) : mJ M M M' = M' := by
  funext a
  unfold mJ
  cases h : M' a with
  | some e => rfl
  | none => cases h2 : M a <;> rfl
theorem g_sub {Mc : gMem} {H : Heap} (h : gRep G M H) (hs : ∀ a e, Mc a = some e → M a = some e) : gRep G Mc H := ⟨h.1, fun a e he => h.2 a e (hs a e he)⟩
theorem q_tail {Mc : gMem} {H : Heap} {locs : List Loc} {cells slots mc ms : Nat} {g : JFrame} {rest : List Value} {a0 : Array Value} (hs : ∀ a e, Mc a = some e → M a = some e) (h1 : gOk G F M H locs)
    (hr : va_Run (fp F) (fl F) (fe F) (fR F) (fs F) (fm F) (fa F) (fb F) (fh F) (fc F) H locs cells slots mc ms g rest (qR G Mc H.size Post a0) (gA Mc H.size))
    (kk : ∀ (v : Option Value) (M' : gMem) (H' : Heap) (locs' : List Loc), Post v M' → (∀ a, M' a ≠ none → Mc a ≠ none ∨ M a = none) → gOk G F (mJ M Mc M') H' locs' → fW F H' locs' (cells + mc) (slots + ms) Q { g with pc := g.pc + 3, stack := v.toList ++ rest }) : fW F H locs cells slots Q g := by
  intro T hT X0
  obtain ⟨v, st₀, t, T', L, h0, X', hL, e1, e2, ⟨⟨v', M', hv, hp, hR', hA'⟩, hF⟩, stp⟩ := hr T hT X0
  cases hv
  obtain ⟨hS, hR, hA⟩ := h1
  unfold va_F at hF
  rw [h0] at hF
  have sub : ∀ q, gA Mc H.size q → fA F q := fun q h => by
    rcases h with h | h
    · cases h9 : Mc q with
      | none => exact absurd h9 h
      | some e => exact hA q (by rw [hs q e h9]; exact fun h => by cases h)
    · exact Or.inr (Nat.le_trans hS.1 h)
  have dis : ∀ a, M' a ≠ none → Mc a ≠ none ∨ M a = none := fun a h => by
    rcases hA' a h with h | h
    · exact Or.inl h
    · refine Or.inr ?_
      cases h9 : M a with
      | none => rfl
      | some e => exact absurd (g_lt hR h9) (by omega)
  have hO : gOk G F (mJ M Mc M') T'.heap (locs ++ L) := by
    rw [e1]
    refine ⟨⟨Nat.le_trans hS.1 hF.1, fun q q1 q2 => ?_, fun z hz => ?_⟩, ⟨hR'.1, fun b f hf => ?_⟩, fun b hb => ?_⟩
    · rw [hF.2 q (Nat.lt_of_lt_of_le q1 hS.1) (fun h => q2 (sub q h))]; exact hS.2.1 q q1 q2
    · rcases List.mem_append.mp hz with h | h
      · exact hS.2.2 z h
      · exact sub _ (hL z h)
    · unfold mJ at hf
      cases h9 : M' b with
      | some e => rw [h9] at hf; exact hR'.2 b f (h9.trans hf)
      | none =>
        rw [h9] at hf
        cases h8 : Mc b with
        | some e => rw [h8] at hf; cases hf
        | none =>
          rw [h8] at hf
          have hlt := g_lt hR hf
          refine ⟨(hR.2 b f hf).1, (hR.2 b f hf).2.kept (hF.2 b hlt ?_)⟩
          intro h
          rcases h with h | h
          · exact h h8
          · exact absurd hlt (by show ¬ b < H.size; omega)
    · unfold mJ at hb
      cases h9 : M' b with
      | some e => exact sub b (hA' b (by rw [h9]; exact fun h => by cases h))
      | none =>
        rw [h9] at hb
        cases h8 : Mc b with
        | some e => rw [h8] at hb; exact absurd rfl hb
        | none => rw [h8] at hb; exact hA b hb
  obtain ⟨t2, a1, b1⟩ := kk v M' T'.heap (locs ++ L) hp dis hO T' rfl X'
  exact ⟨t2, stp t2 a1, b1⟩
theorem q_pre {Mc : gMem} {H : Heap} {locs : List Loc} (X : qX G F cc nL own k) (h1 : gOk G F M H locs) (hs : ∀ a e, Mc a = some e → M a = some e) (As : List Value) : PreS (fs F) H (va_Pc As (fun U => U.heap.size = H.size ∧ gRep G Mc U.heap ∧ gK G U)) As :=
  ⟨fun a U g mk q => ⟨q.1, q.2.1, q.2.2.1, q.2.2.2.moved (u := U) (U := U.calling g mk a) (State.WarmedH.refl U) (fun _ _ => rfl)⟩, fun U hU hW => ⟨rfl, by rw [hU], by rw [hU]; exact g_sub h1.2.1 hs, X.2.2.2.2.2.1.moved hW (fun q hq => by rw [hU]; exact h1.1.2.1 q (Nat.lt_of_lt_of_le hq X.2.2.2.2.2.2.2.2.2.1) (fun h => by rcases h with h | h; exact absurd (X.2.2.2.2.2.2.2.2.2.2 q h) (Nat.not_le.mpr hq); exact absurd h (Nat.not_le.mpr (Nat.lt_of_lt_of_le hq X.2.2.2.2.2.2.2.2.2.1))))⟩⟩
/-- a virtual call of a method of the receiver's own class, over a part of the memory -/
theorem q_callVF (X : qX G F cc nL own k) {Mc : gMem} {y : MethodName} {bytes : ByteArray} {nL' n index k' mc ms b ci N : Nat} {ret : Option FieldType} {C : String} {T : u_T} {As rest fs0 : List Value} (hM : qC (fl F) G y bytes nL' ret k' mc ms (.ref b :: As) Mc Post) (hs : ∀ a e, Mc a = some e → M a = some e) (hY : qY y bytes nL' ret n) (wl : Cond.methodLink own index y ∈ gT) (wi : Cond.instanceMethod y ∈ gT) (wse : Cond.selects C y y ∈ gT) (ha : M b = some (.inr (ci, fs0))) (hc : vwCl[ci]? = some (C, T, N)) (hk : k' + 1 ≤ k) (hn : As.length = n) (hst : st = As.reverse ++ .ref b :: rest) (hw : (rest.map fun v => v.category).sum ≤ 8) {rc' rs' : Nat} (hrc : rc' + mc ≤ rc) (hrs : rs' + ms ≤ rs) (d : decode cc pc = .ok (.invokevirtual index, 3))
    (kk : ∀ (v : Option Value) (M' : gMem), Post v M' → (∀ a, M' a ≠ none → Mc a ≠ none ∨ M a = none) → qJ G F Q nL (mJ M Mc M') rc' rs' (pc + 3) lv (v.toList ++ rest)) : qJ G F Q nL M rc rs pc lv st := by
  intro H locs ls cells slots h1 h2 h3 h4
  subst hst
  have hp := q_pre X h1 hs (.ref b :: As)
  refine q_tail hs h1 (va_runV (As := As) (rest := rest) ⟨X.1, X.2.1, X.2.2.1, X.2.2.2.1, X.2.2.2.2.1⟩ (hM H.size) ⟨q_cb X hY wl hk, X.2.2.2.2.1 _ wi, X.2.2.2.2.1 _ wse⟩ ⟨hp.1, va_recv X.2.2.2.2.2.1.1 (g_one h1.2.1 ha) hc (q0 := 0) rfl, hp.2⟩ rfl hn h2.1 rfl (lv_room hw) d ⟨by omega, by omega⟩) (fun v M' H' locs' g1 g2 g3 => kk v M' g1 g2 H' locs' ls _ _ g3 h2 (by omega) (by omega))
theorem q_callV (X : qX G F cc nL own k) {y : MethodName} {bytes : ByteArray} {nL' n index k' mc ms b ci N : Nat} {ret : Option FieldType} {C : String} {T : u_T} {As rest fs0 : List Value} (hM : qC (fl F) G y bytes nL' ret k' mc ms (.ref b :: As) M Post) (hY : qY y bytes nL' ret n) (wl : Cond.methodLink own index y ∈ gT) (wi : Cond.instanceMethod y ∈ gT) (wse : Cond.selects C y y ∈ gT) (ha : M b = some (.inr (ci, fs0))) (hc : vwCl[ci]? = some (C, T, N)) (hk : k' + 1 ≤ k) (hn : As.length = n) (hst : st = As.reverse ++ .ref b :: rest) (hw : (rest.map fun v => v.category).sum ≤ 8) {rc' rs' : Nat} (hrc : rc' + mc ≤ rc) (hrs : rs' + ms ≤ rs) (d : decode cc pc = .ok (.invokevirtual index, 3))
    (kk : ∀ (v : Option Value) (M' : gMem), Post v M' → (∀ a, M' a ≠ none → M a ≠ none ∨ M a = none) → qJ G F Q nL M' rc' rs' (pc + 3) lv (v.toList ++ rest)) : qJ G F Q nL M rc rs pc lv st :=
  q_callVF X hM (fun _ _ h => h) hY wl wi wse ha hc hk hn hst hw hrc hrs d (fun v M' g1 g2 => by rw [mJ_self]; exact kk v M' g1 g2)
/-- a static call -/
theorem q_callSF (X : qX G F cc nL own k) {Mc : gMem} {y : MethodName} {bytes : ByteArray} {nL' n index k' mc ms : Nat} {ret : Option FieldType} {As rest : List Value} (hM : qC (fl F) G y bytes nL' ret k' mc ms As Mc Post) (hs : ∀ a e, Mc a = some e → M a = some e) (hY : qY y bytes nL' ret n) (wl : Cond.methodLink own index y ∈ gT) (wi : Cond.static y ∈ gT) (hk : k' + 1 ≤ k) (hn : As.length = n) (hst : st = As.reverse ++ rest) (hw : (rest.map fun v => v.category).sum ≤ 8) {rc' rs' : Nat} (hrc : rc' + mc ≤ rc) (hrs : rs' + ms ≤ rs) (d : decode cc pc = .ok (.invokestatic index, 3))
    (kk : ∀ (v : Option Value) (M' : gMem), Post v M' → (∀ a, M' a ≠ none → Mc a ≠ none ∨ M a = none) → qJ G F Q nL (mJ M Mc M') rc' rs' (pc + 3) lv (v.toList ++ rest)) : qJ G F Q nL M rc rs pc lv st := by
  intro H locs ls cells slots h1 h2 h3 h4
  subst hst
  exact q_tail hs h1 (va_runS (As := As) (rest := rest) ⟨X.1, X.2.1, X.2.2.1, X.2.2.2.1, X.2.2.2.2.1⟩ (hM H.size) ⟨q_cb X hY wl hk, X.2.2.2.2.1 _ wi⟩ (q_pre X h1 hs As) rfl hn h2.1 rfl (lv_room hw) d ⟨by omega, by omega⟩) (fun v M' H' locs' g1 g2 g3 => kk v M' g1 g2 H' locs' ls _ _ g3 h2 (by omega) (by omega))
theorem q_callS (X : qX G F cc nL own k) {y : MethodName} {bytes : ByteArray} {nL' n index k' mc ms : Nat} {ret : Option FieldType} {As rest : List Value} (hM : qC (fl F) G y bytes nL' ret k' mc ms As M Post) (hY : qY y bytes nL' ret n) (wl : Cond.methodLink own index y ∈ gT) (wi : Cond.static y ∈ gT) (hk : k' + 1 ≤ k) (hn : As.length = n) (hst : st = As.reverse ++ rest) (hw : (rest.map fun v => v.category).sum ≤ 8) {rc' rs' : Nat} (hrc : rc' + mc ≤ rc) (hrs : rs' + ms ≤ rs) (d : decode cc pc = .ok (.invokestatic index, 3))
    (kk : ∀ (v : Option Value) (M' : gMem), Post v M' → (∀ a, M' a ≠ none → M a ≠ none ∨ M a = none) → qJ G F Q nL M' rc' rs' (pc + 3) lv (v.toList ++ rest)) : qJ G F Q nL M rc rs pc lv st :=
  q_callSF X hM (fun _ _ h => h) hY wl wi hk hn hst hw hrc hrs d (fun v M' g1 g2 => by rw [mJ_self]; exact kk v M' g1 g2)
/-- a constructor's call -/
theorem q_callI (X : qX G F cc nL own k) {y : MethodName} {bytes : ByteArray} {nL' n index k' mc ms b : Nat} {As rest : List Value} (hM : qC (fl F) G y bytes nL' none k' mc ms (.ref b :: As) M Post) (hY : qY y bytes nL' none n) (wl : Cond.methodLink own index y ∈ gT) (wi : Cond.instanceMethod y ∈ gT) (hy1 : y.name = "<init>") (hk : k' + 1 ≤ k) (hn : As.length = n) (hst : st = As.reverse ++ .ref b :: rest) (hw : (rest.map fun v => v.category).sum ≤ 8) {rc' rs' : Nat} (hrc : rc' + mc ≤ rc) (hrs : rs' + ms ≤ rs) (d : decode cc pc = .ok (.invokespecial index, 3))
    (kk : ∀ (v : Option Value) (M' : gMem), Post v M' → (∀ a, M' a ≠ none → M a ≠ none ∨ M a = none) → qJ G F Q nL M' rc' rs' (pc + 3) lv (v.toList ++ rest)) : qJ G F Q nL M rc rs pc lv st := by
  intro H locs ls cells slots h1 h2 h3 h4
  subst hst
  exact q_tail (fun _ _ h => h) h1 (va_runI (As := As) (rest := rest) ⟨X.1, X.2.1, X.2.2.1, X.2.2.2.1, X.2.2.2.2.1⟩ (hM H.size) ⟨q_cb X hY wl hk, hy1, X.2.2.2.2.1 _ wi⟩ (q_pre X h1 (fun _ _ h => h) (.ref b :: As)) rfl hn h2.1 rfl (lv_room hw) d ⟨by omega, by omega⟩) (fun v M' H' locs' g1 g2 g3 => kk v M' g1 g2 H' locs' ls _ _ (by rw [mJ_self] at g3; exact g3) h2 (by omega) (by omega))
/-- Object's constructor -/
theorem q_obj (X : qX G F cc nL own k) {index a : Nat} {rest : List Value} (w1 : Cond.methodLink own index objectInit ∈ gT) (w2 : Cond.instanceMethod objectInit ∈ gT) (w3 : Cond.code objectInit ⟨#[0xb1]⟩ 1 none ∈ gT) (hk : 1 ≤ k) (hw : (rest.map fun v => v.category).sum ≤ 8) (d : decode cc pc = .ok (.invokespecial index, 3)) (kk : qJ G F Q nL M rc rs (pc + 3) lv rest) : qJ G F Q nL M rc rs pc lv (.ref a :: rest) := by
  intro H locs ls cells slots h1 h2 h3 h4
  refine W.objInit X.1 X.2.1 X.2.2.2.1 (X.2.2.2.2.1 _ w1) (X.2.2.2.2.1 _ w2) (X.2.2.2.2.1 _ w3) rfl (by rw [X.2.2.1]; exact h2.1) rfl d (by rw [X.2.2.2.2.2.2.2.1]; exact hk) ?_ (kk H locs ls cells slots h1 h2 h3 h4)
  have h9 := lv_room (m := fm F) (pc := pc) (ls := ls) (rest := .ref a :: rest) hw
  rw [X.2.2.2.2.2.2.2.2.1]
  omega
end QE
