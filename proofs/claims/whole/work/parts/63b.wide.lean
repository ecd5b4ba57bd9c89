/-! a constructor's call over a deeper stack -/
section QW
variable {G : gV} {F : gF} {Q : State → Prop} {nL : Nat} {M : gMem} {rc rs pc k : Nat} {lv : List (Nat × Value)} {st : List Value} {cc : ByteArray} {own : String} {Post : Option Value → gMem → Prop}
theorem q_callIw (X : qX G F cc nL own k) {y : MethodName} {bytes : ByteArray} {nL' n index k' mc ms b : Nat} {As rest : List Value} (hM : qC (fl F) G y bytes nL' none k' mc ms (.ref b :: As) M Post) (hY : qY y bytes nL' none n) (h17 : nL' ≤ 17) (wl : Cond.methodLink own index y ∈ gT) (wi : Cond.instanceMethod y ∈ gT) (hy1 : y.name = "<init>") (hk : k' + 1 ≤ k) (hn : As.length = n) (hst : st = As.reverse ++ .ref b :: rest) (hw : (rest.map fun v => v.category).sum ≤ 12) {rc' rs' : Nat} (hrc : rc' + mc ≤ rc) (hrs : rs' + ms ≤ rs) (d : decode cc pc = .ok (.invokespecial index, 3))
    (kk : ∀ (v : Option Value) (M' : gMem), Post v M' → (∀ a, M' a ≠ none → M a ≠ none ∨ M a = none) → qJ G F Q nL M' rc' rs' (pc + 3) lv (v.toList ++ rest)) : qJ G F Q nL M rc rs pc lv st := by
  intro H locs ls cells slots h1 h2 h3 h4
  subst hst
  have hp := q_pre X h1 (fun _ _ h => h) (.ref b :: As)
  obtain ⟨hc1, hc2, hfr, -, hws, hcw, hcode, hini, hy, hlen, hl⟩ := q_cb (k' := k') (mc := mc) (ms := ms) X hY wl hk
  have hlo : 12 + (nL' + 11) + (qRm k' mc ms).locals ≤ (fR F).locals := by
    rw [X.2.2.2.2.2.2.2.2.1]; show 12 + (nL' + 11) + 40 * k' ≤ 40 * k; omega
  have hK : Back (fl F) (fR F) (fp F) (fe F) (fb F) (fs F) (fa F) y 3 12 (PreOf (fR F) mc ms (va_Pc (.ref b :: As) (fun U => U.heap.size = H.size ∧ gRep G M U.heap ∧ gK G U))) (PostOf (qR G M H.size Post) mc ms (gA M H.size)) := back_of (bytes := bytes) (maxL := nL') (ret := none) (hM H.size) hp.1 hc1 hc2 hfr hlo hws hcw (fun a' U hW => word_at hW (Or.inl (by first | rfl | simp [Cond.onTables, Cond.keeps, Cond.steady])) hini)
  refine q_tail (Mc := M) (mc := mc) (ms := ms) (rest := rest) (a0 := (Value.ref b :: As).toArray) (fun _ _ h => h) h1 ?_ (fun v M' H' locs' g1 g2 g3 => kk v M' g1 g2 H' locs' ls _ _ (by rw [mJ_self] at g3; exact g3) h2 (by omega) (by omega))
  have hf1 : cells + mc ≤ (fR F).cells := by omega
  have hf2 : slots + ms ≤ (fR F).slots := by omega
  intro T hT X9
  obtain ⟨v, vm₁, ⟨U', l2, c2, s2⟩, hW₁, X', ⟨g', mk, t, L, e1, e2, hq, h1', hL, h2', h3'⟩, st⟩ := callI X9 X.1 (bytes := bytes) (maxL := nL') X.2.2.2.1 hy1 hl (X.2.2.2.2.1 _ wi) hcode hy hK (g := F0 (fm F) pc ls (As.reverse ++ Value.ref b :: rest)) rfl (h2.1.trans X.2.2.1.symm) (a := b) (argsL := As) (rest := rest) (fun sig h => hn.trans (hlen sig h)) rfl (by have e9 : (F0 (fm F) pc ls (As.reverse ++ Value.ref b :: rest)).monitorRoom = 0 := rfl; rw [e9]; omega) (by rw [X.2.1]; exact d)
    (fun vm₁ hW₁ => ⟨hf1, hf2, hp.2 (T.setVm vm₁) hT hW₁⟩)
  dsimp only [Pt.U, Pt.locs, Pt.cells, Pt.slots] at X' e1 e2 h1' h2' h3' st
  subst h1'; subst h2'; subst h3'
  exact ⟨v, (T.setVm vm₁).calling g' mk (Value.ref b :: As).toArray, t, U', L, hT, X', hL, e1, e2, hq, st⟩
end QW
