/-! how memories grow: what was there is there still, and unchanged but where K says -/
def mEv (K : Nat → Prop) (M M' : gMem) : Prop := ∀ q, M q ≠ none → M' q ≠ none ∧ (¬ K q → M' q = M q)
theorem mEv.rf (K : Nat → Prop) (M : gMem) : mEv K M M := fun _ h => ⟨h, fun _ => rfl⟩
theorem mEv.trans {K : Nat → Prop} {M M1 M2 : gMem} (h : mEv K M M1) (h2 : mEv K M1 M2) : mEv K M M2 := fun q hq =>
  ⟨(h2 q (h q hq).1).1, fun k => ((h2 q (h q hq).1).2 k).trans ((h q hq).2 k)⟩
theorem mEv.mono {K K' : Nat → Prop} {M M1 : gMem} (h : mEv K M M1) (hk : ∀ q, M q ≠ none → K q → K' q) : mEv K' M M1 := fun q hq => ⟨(h q hq).1, fun k => (h q hq).2 (fun z => k (hk q hq z))⟩
theorem mEv.none {K : Nat → Prop} {M M' : gMem} (h : mEv K M M') {q : Nat} (f : M' q = none) : M q = none := by
  cases hq : M q with
  | none => rfl
  | some e => exact absurd f (h q (by rw [hq]; exact fun z => by cases z)).1
theorem mEv.keep {K : Nat → Prop} {M M' : gMem} (h : mEv K M M') {q : Nat} {e : va_E} (hq : M q = some e) (hk : ¬ K q) : M' q = some e := ((h q (by rw [hq]; exact fun z => by cases z)).2 hk).trans hq
theorem g_so {M : gMem} {q : Nat} {e : va_E} (h : M q = some e) : M q ≠ none := fun z => by rw [h] at z; cases z
theorem mEv_new {K : Nat → Prop} {M : gMem} {q : Nat} {e : va_E} (f : M q = none) : mEv K M (mU M q e) := fun x hx =>
  have n : x ≠ q := fun z => hx (z ▸ f)
  ⟨by rw [mU_n n]; exact hx, fun _ => mU_n n⟩
theorem mEv_upd {K : Nat → Prop} {M : gMem} {q : Nat} {e : va_E} (k : K q) : mEv K M (mU M q e) := fun x hx => by
  by_cases n : x = q
  · subst n; exact ⟨g_so mU_s, fun z => absurd k z⟩
  · exact ⟨by rw [mU_n n]; exact hx, fun _ => mU_n n⟩
theorem mExt.ev {K : Nat → Prop} {M M' : gMem} (h : mExt M M') : mEv K M M' := fun q hq => by
  cases h9 : M q with
  | none => exact absurd h9 hq
  | some e => exact ⟨g_so (h q e h9), fun _ => h q e h9⟩
theorem isShape.ev {G : gV} {K : Nat → Prop} {M M' : gMem} {a : Nat} {n : Int32} {lo hi : Nat → Int32} (h : isShape G M a n lo hi) (x : mEv K M M') (hk : ∀ q, (∃ fs0, M q = some (oB 7 fs0)) ∨ (∃ f, M q = some (aI G 3 f)) → ¬ K q) : isShape G M' a n lo hi :=
  h.mv (fun q hq => (x q (by rcases hq with ⟨_, h⟩ | ⟨_, h⟩ <;> exact g_so h)).2 (hk q hq))
theorem isChunk.ev {G : gV} {K : Nat → Prop} {M M' : gMem} {a W N : Nat} {pj : Nat → Nat} (h : isChunk G M a W N pj) (x : mEv K M M') (hk : ∀ q, (∃ fs0, M q = some (oB 2 fs0)) ∨ (∃ n f, M q = some (aI G n f)) → ¬ K q) : isChunk G M' a W N pj :=
  h.mv (fun q hq => (x q (by rcases hq with ⟨_, h⟩ | ⟨_, _, h⟩ <;> exact g_so h)).2 (hk q hq))
theorem okE.ev {K : Nat → Prop} {M M' : gMem} {y : Nat} (h : okE M y) (x : mEv K M M') (hk : ¬ K y) : okE M' y := by
  obtain ⟨ci, fs0, C, T, N, h1, h2⟩ := h
  exact ⟨ci, fs0, C, T, N, x.keep h1 hk, h2⟩
theorem okE.so {M : gMem} {y : Nat} (h : okE M y) : M y ≠ none := by
  obtain ⟨ci, fs0, C, T, N, h1, h2⟩ := h
  exact g_so h1
theorem isList.ned {G : gV} {M : gMem} {a ed : Nat} {xs : List Nat} (h : isList G M a ed xs) (hd : M (gDA G) = none) {x : Nat} {e : va_E} (hx : M x = some e) (he : ∀ n f, e ≠ aO G n f) : x ≠ ed := fun z => by
  subst z
  rcases h.2.2 with ⟨h1, -⟩ | ⟨n, f, h1, -⟩
  · rw [h1, hd] at hx; cases hx
  · rw [h1] at hx; cases hx; exact he _ _ rfl
theorem isList.nea {G : gV} {M : gMem} {a ed : Nat} {xs : List Nat} (h : isList G M a ed xs) {x : Nat} {e : va_E} (hx : M x = some e) (he : ∀ fs0, e ≠ oB 0 fs0) : x ≠ a := fun z => by
  subst z
  obtain ⟨-, ⟨mv, h1⟩, -⟩ := h
  rw [h1] at hx; cases hx; exact he _ rfl
theorem lP.ev {G : gV} {M M' : gMem} {a ed v : Nat} {xs : List Nat} {w : Option Value} (h : lP G M a ed v xs w M') : mEv (fun q => q = a ∨ q = ed) M M' := by
  obtain ⟨-, ed', h1, h2, h3⟩ := h
  intro q hq
  obtain ⟨-, ⟨mv, h4⟩, h5⟩ := h1
  refine ⟨?_, fun k => h3 q (fun z => k (Or.inl z)) (fun z => ?_)⟩
  · by_cases c1 : q = a
    · rw [c1]; exact g_so h4
    · by_cases c2 : q = ed'
      · rcases h5 with ⟨-, h5⟩ | ⟨n, f, h5, -⟩
        · simp at h5
        · rw [c2]; exact g_so h5
      · rw [h3 q c1 c2]; exact hq
  · rcases h2 with h2 | h2
    · exact k (Or.inr (z.trans h2))
    · exact hq (z ▸ h2)
theorem clP.ev {G : gV} {M M' : gMem} {a ed : Nat} {w : Option Value} (h : clP G M a ed w M') (hd : M (gDA G) = none) : mEv (fun q => q = a ∨ q = ed) M M' := by
  obtain ⟨-, h1, h3⟩ := h
  intro q hq
  obtain ⟨-, ⟨mv, h4⟩, h5⟩ := h1
  refine ⟨?_, fun k => h3 q (fun z => k (Or.inl z)) (fun z => k (Or.inr z))⟩
  by_cases c1 : q = a
  · rw [c1]; exact g_so h4
  · by_cases c2 : q = ed
    · rcases h5 with ⟨h5, -⟩ | ⟨n, f, h5, -⟩
      · rw [c2, h5] at hq; exact absurd hd hq
      · rw [c2]; exact g_so h5
    · rw [h3 q c1 c2]; exact hq
theorem ckQ.ev {G : gV} {M M' : gMem} {a A B C X Y Z : Nat} {w : Option Value} (h : ckQ G M a A B C X Y Z w M') : mEv (fun q => q = a) M M' := by
  obtain ⟨-, ⟨p9, pl9, h1, -⟩, p, h3, h4, h5⟩ := h
  intro q hq
  refine ⟨?_, fun k => h5 q k (fun z => hq (z ▸ h3))⟩
  by_cases c1 : q = a
  · rw [c1]; exact g_so h1
  · rw [h5 q c1 (fun z => hq (z ▸ h3))]; exact hq
section
variable {G : gV} {F : gF} {Q : State → Prop} {nL : Nat} {M : gMem} {rc rs pc k : Nat} {lv : List (Nat × Value)} {st : List Value} {cc : ByteArray} {own : String}
/-- ArrayList's empty row is none of the system's cells -/
theorem q_da (X : qX G F cc nL own k) (kk : M (gDA G) = none → qJ G F Q nL M rc rs pc lv st) : qJ G F Q nL M rc rs pc lv st := by
  intro H locs ls cells slots h1 h2 h3 h4
  refine kk ?_ H locs ls cells slots h1 h2 h3 h4
  cases h : M (gDA G) with
  | none => rfl
  | some e => exact absurd (h1.2.1.2 _ e h).1 (Nat.not_le.mpr (g_da X.2.2.2.2.2.1.2.2.2).2.1)
end
