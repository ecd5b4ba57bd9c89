/-! PURE CALLS AND PLACES BY NUMBER -/
/-- the answer is r, the memory is M1 -/
def pP (r : Value) (M1 : gMem) : Option Value → gMem → Prop := fun v M' => v = some r ∧ M' = M1
/-- no answer, the memory is M1 -/
def pV (M1 : gMem) : Option Value → gMem → Prop := fun v M' => v = none ∧ M' = M1
theorem g_nef {M : gMem} {a b : Nat} {e : va_E} (h : M a = some e) (f : M b = none) : a ≠ b := fun q => by subst q; rw [h] at f; cases f
theorem mU_none {M : gMem} {a d : Nat} {e : va_E} (h : mU M a e d = none) : M d = none := by
  unfold mU at h
  by_cases q : d = a
  · rw [if_pos q] at h; cases h
  · rw [if_neg q] at h; exact h
section QP
variable {G : gV} {F : gF} {Q : State → Prop} {nL : Nat} {M M1 : gMem} {rc rs pc k : Nat} {lv : List (Nat × Value)} {st : List Value} {cc : ByteArray} {own : String} {Post : Option Value → gMem → Prop}
theorem q_callVp (X : qX G F cc nL own k) {y : MethodName} {bytes : ByteArray} {nL' n index k' b ci N : Nat} {ret : Option FieldType} {C : String} {T : u_T} {As rest fs0 : List Value} {r : Value} (hM : qC (fl F) G y bytes nL' ret k' 0 0 (.ref b :: As) M (pP r M1)) (hY : qY y bytes nL' ret n) (wl : Cond.methodLink own index y ∈ gT) (wi : Cond.instanceMethod y ∈ gT) (wse : Cond.selects C y y ∈ gT) (ha : M b = some (.inr (ci, fs0))) (hc : vwCl[ci]? = some (C, T, N)) (hk : k' + 1 ≤ k) (hn : As.length = n) (hst : st = As.reverse ++ .ref b :: rest) (hw : (rest.map fun v => v.category).sum ≤ 8) (d : decode cc pc = .ok (.invokevirtual index, 3))
    (kk : qJ G F Q nL M1 rc rs (pc + 3) lv (r :: rest)) : qJ G F Q nL M rc rs pc lv st :=
  q_callV X hM hY wl wi wse ha hc hk hn hst hw (Nat.le_refl _) (Nat.le_refl _) d (fun v M' hp _ => by obtain ⟨rfl, rfl⟩ := hp; exact kk)
theorem q_callVv (X : qX G F cc nL own k) {y : MethodName} {bytes : ByteArray} {nL' n index k' b ci N : Nat} {ret : Option FieldType} {C : String} {T : u_T} {As rest fs0 : List Value} (hM : qC (fl F) G y bytes nL' ret k' 0 0 (.ref b :: As) M (pV M1)) (hY : qY y bytes nL' ret n) (wl : Cond.methodLink own index y ∈ gT) (wi : Cond.instanceMethod y ∈ gT) (wse : Cond.selects C y y ∈ gT) (ha : M b = some (.inr (ci, fs0))) (hc : vwCl[ci]? = some (C, T, N)) (hk : k' + 1 ≤ k) (hn : As.length = n) (hst : st = As.reverse ++ .ref b :: rest) (hw : (rest.map fun v => v.category).sum ≤ 8) (d : decode cc pc = .ok (.invokevirtual index, 3))
    (kk : qJ G F Q nL M1 rc rs (pc + 3) lv rest) : qJ G F Q nL M rc rs pc lv st :=
  q_callV X hM hY wl wi wse ha hc hk hn hst hw (Nat.le_refl _) (Nat.le_refl _) d (fun v M' hp _ => by obtain ⟨rfl, rfl⟩ := hp; exact kk)
theorem q_callSp (X : qX G F cc nL own k) {y : MethodName} {bytes : ByteArray} {nL' n index k' : Nat} {ret : Option FieldType} {As rest : List Value} {r : Value} (hM : qC (fl F) G y bytes nL' ret k' 0 0 As M (pP r M1)) (hY : qY y bytes nL' ret n) (wl : Cond.methodLink own index y ∈ gT) (wi : Cond.static y ∈ gT) (hk : k' + 1 ≤ k) (hn : As.length = n) (hst : st = As.reverse ++ rest) (hw : (rest.map fun v => v.category).sum ≤ 8) (d : decode cc pc = .ok (.invokestatic index, 3))
    (kk : qJ G F Q nL M1 rc rs (pc + 3) lv (r :: rest)) : qJ G F Q nL M rc rs pc lv st :=
  q_callS X hM hY wl wi hk hn hst hw (Nat.le_refl _) (Nat.le_refl _) d (fun v M' hp _ => by obtain ⟨rfl, rfl⟩ := hp; exact kk)
theorem q_ialdN (X : qX G F cc nL own k) {a n : Nat} {f : Nat → Int32} {i : Int32} (j : Nat) (ha : M a = some (aI G n f)) (hi : i = nI j) (hj : j < n) (hn : n < 2 ^ 31) (d : decode cc pc = .ok (.iaload, 1)) (kk : qJ G F Q nL M rc rs (pc + 1) lv (.int (f j) :: st)) : qJ G F Q nL M rc rs pc lv (.int i :: .ref a :: st) := by
  subst hi
  exact q_iald X ha (vp_in_nI hj hn) d (by rw [nI_clamp (by omega)]; exact kk)
theorem q_laldN (X : qX G F cc nL own k) {a n : Nat} {f : Nat → Int64} {i : Int32} (j : Nat) (ha : M a = some (aJ G n f)) (hi : i = nI j) (hj : j < n) (hn : n < 2 ^ 31) (d : decode cc pc = .ok (.laload, 1)) (kk : qJ G F Q nL M rc rs (pc + 1) lv (.long (f j) :: st)) : qJ G F Q nL M rc rs pc lv (.int i :: .ref a :: st) := by
  subst hi
  exact q_lald X ha (vp_in_nI hj hn) d (by rw [nI_clamp (by omega)]; exact kk)
theorem q_zaldN (X : qX G F cc nL own k) {a n : Nat} {f : Nat → Int32} {i : Int32} (j : Nat) (ha : M a = some (aZ G n f)) (hi : i = nI j) (hj : j < n) (hn : n < 2 ^ 31) (d : decode cc pc = .ok (.baload, 1)) (kk : qJ G F Q nL M rc rs (pc + 1) lv (.int (f j) :: st)) : qJ G F Q nL M rc rs pc lv (.int i :: .ref a :: st) := by
  subst hi
  exact q_zald X ha (vp_in_nI hj hn) d (by rw [nI_clamp (by omega)]; exact kk)
theorem q_iastN (X : qX G F cc nL own k) {a n : Nat} {f : Nat → Int32} {i x : Int32} (j : Nat) (ha : M a = some (aI G n f)) (hi : i = nI j) (hj : j < n) (hn : n < 2 ^ 31) (d : decode cc pc = .ok (.iastore, 1)) (kk : qJ G F Q nL (mU M a (aI G n (upd f j x))) rc rs (pc + 1) lv st) : qJ G F Q nL M rc rs pc lv (.int x :: .int i :: .ref a :: st) := by
  subst hi
  exact q_iast X ha (vp_in_nI hj hn) d (by rw [nI_clamp (by omega)]; exact kk)
theorem q_lastN (X : qX G F cc nL own k) {a n : Nat} {f : Nat → Int64} {i : Int32} {x : Int64} (j : Nat) (ha : M a = some (aJ G n f)) (hi : i = nI j) (hj : j < n) (hn : n < 2 ^ 31) (d : decode cc pc = .ok (.lastore, 1)) (kk : qJ G F Q nL (mU M a (aJ G n (vp_updL f j x))) rc rs (pc + 1) lv st) : qJ G F Q nL M rc rs pc lv (.long x :: .int i :: .ref a :: st) := by
  subst hi
  exact q_last X ha (vp_in_nI hj hn) d (by rw [nI_clamp (by omega)]; exact kk)
theorem q_zastN (X : qX G F cc nL own k) {a n : Nat} {f : Nat → Int32} {i x : Int32} (j : Nat) (ha : M a = some (aZ G n f)) (hi : i = nI j) (hj : j < n) (hn : n < 2 ^ 31) (hx : x = 0 ∨ x = 1) (d : decode cc pc = .ok (.bastore, 1)) (kk : qJ G F Q nL (mU M a (aZ G n (upd f j x))) rc rs (pc + 1) lv st) : qJ G F Q nL M rc rs pc lv (.int x :: .int i :: .ref a :: st) := by
  subst hi
  refine q_zast X ha (vp_in_nI hj hn) d ?_
  rw [nI_clamp (by omega), show vp_nar .boolean x = x by rcases hx with rfl | rfl <;> decide]
  exact kk
end QP
