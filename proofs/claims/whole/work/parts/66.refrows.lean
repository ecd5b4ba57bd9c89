/-! ROWS for the reference: rows of grids, a nest mate's constructor, rows of ints that agree -/
theorem g_arrI {cA : ClassId} {n : Nat} {f g : Nat → Int32} (h : ∀ i, i < n → f i = g i) : vp_cell cA (n, .inl f) = vp_cell cA (n, .inl g) := by
  rw [vp_cell_i, vp_cell_i]
  unfold arrV
  congr 1
  apply Array.ext
  · simp
  · intro i h1 h2
    simp only [Array.size_ofFn] at h1
    simp [h i h1]
theorem g_neoo {M : gMem} {a b ci cj : Nat} {fs gs : List Value} (h1 : M a = some (oB ci fs)) (h2 : M b = some (oB cj gs)) (h : ci ≠ cj) : a ≠ b := fun z => by
  rw [z, h2] at h1; cases h1; exact h rfl
theorem g_neaa {M : gMem} {a b : Nat} {x y : va_E} (h1 : M a = some x) (h2 : M b = some y) (h : x ≠ y) : a ≠ b := fun z => by
  rw [z, h2] at h1; cases h1; exact h rfl
section RR
variable {G : gV} {F : gF} {Q : State → Prop} {nL : Nat} {M : gMem} {rc rs pc k : Nat} {lv : List (Nat × Value)} {st : List Value} {cc : ByteArray} {own : String} {Post : Option Value → gMem → Prop}
/-- a row of ints under another name -/
theorem q_arrI {a n : Nat} {f g : Nat → Int32} (ha : M a = some (aI G n f)) (h : ∀ i, i < n → f i = g i) (kk : qJ G F Q nL (mU M a (aI G n g)) rc rs pc lv st) : qJ G F Q nL M rc rs pc lv st := by
  intro H locs ls cells slots h1 h2 h3 h4
  refine kk H locs ls cells slots ⟨h1.1, ⟨h1.2.1.1, fun b e hb => ?_⟩, fun b hb => ?_⟩ h2 h3 h4
  · unfold mU at hb
    by_cases c : b = a
    · rw [if_pos c] at hb; cases hb
      subst c
      have q := h1.2.1.2 b _ ha
      refine ⟨q.1, ?_⟩
      have q2 : H[b]? = some (vp_cell (G.2.1 0) (n, .inl f)) := q.2
      show H[b]? = some (vp_cell (G.2.1 0) (n, .inl g))
      rw [q2, g_arrI h]
    · rw [if_neg c] at hb; exact h1.2.1.2 b e hb
  · unfold mU at hb
    by_cases c : b = a
    · subst c; exact h1.2.2 b (by rw [ha]; exact fun z => by cases z)
    · rw [if_neg c] at hb; exact h1.2.2 b hb
theorem q_gald (X : qX G F cc nL own k) (j : Nat) {a n x : Nat} {f : Nat → Option Nat} {i : Int32} (ha : M a = some (aG G n f)) (hi : i = nI j) (hj : j < n) (hn : n < 2 ^ 31) (hx : f j = some x) (d : decode cc pc = .ok (.aaload, 1)) (kk : qJ G F Q nL M rc rs (pc + 1) lv (.ref x :: st)) : qJ G F Q nL M rc rs pc lv (.int i :: .ref a :: st) := by
  subst hi
  exact q_aald X 4 ha rfl (vp_in_nI hj hn) (by rw [nI_clamp (by omega), hx]; rfl) d kk
def gUp (f : Nat → Option Nat) (j x : Nat) : Nat → Option Nat := fun i => if i = j then some x else f i
theorem q_gast (X : qX G F cc nL own k) (j : Nat) {a n x : Nat} {f : Nat → Option Nat} {fs0 : List Value} {i : Int32} (ha : M a = some (aG G n f)) (hi : i = nI j) (hj : j < n) (hn : n < 2 ^ 31) (hx : M x = some (oB 12 fs0)) (d : decode cc pc = .ok (.aastore, 1)) (kk : qJ G F Q nL (mU M a (aG G n (gUp f j x))) rc rs (pc + 1) lv st) : qJ G F Q nL M rc rs pc lv (.ref x :: .int i :: .ref a :: st) := by
  subst hi
  refine q_aastO X 4 ha rfl hx rfl (Or.inl rfl) (vp_in_nI hj hn) d ?_
  have e : va_up f (nI j).toNatClampNeg (some x) = gUp f j x := by
    funext t; rw [nI_clamp (by omega)]; unfold va_up gUp; rfl
  rw [e]; exact kk
/-- a nest mate's constructor -/
theorem q_callIN (X : qX G F cc nL own k) {y : MethodName} {host : String} {bytes : ByteArray} {nL' n index k' mc ms b : Nat} {As rest : List Value} (hM : qC (fl F) G y bytes nL' none k' mc ms (.ref b :: As) M Post) (hY : qY y bytes nL' none n) (wl : Cond.methodLinkNest own index y host ∈ lw_tbl) (wi : Cond.instanceMethod y ∈ gT) (hy1 : y.name = "<init>") (hk : k' + 1 ≤ k) (hn : As.length = n) (hst : st = As.reverse ++ .ref b :: rest) (hw : (rest.map fun v => v.category).sum ≤ 8) {rc' rs' : Nat} (hrc : rc' + mc ≤ rc) (hrs : rs' + ms ≤ rs) (d : decode cc pc = .ok (.invokespecial index, 3))
    (kk : ∀ (v : Option Value) (M' : gMem), Post v M' → (∀ a, M' a ≠ none → M a ≠ none ∨ M a = none) → qJ G F Q nL M' rc' rs' (pc + 3) lv (v.toList ++ rest)) : qJ G F Q nL M rc rs pc lv st := by
  intro H locs ls cells slots h1 h2 h3 h4
  subst hst
  have hlk : va_Nw (.methodLinkNest own index y host) (fs F) := by
    obtain ⟨-, hW, -, -, b9, hts, -⟩ := X.2.2.2.2.2.1
    exact va_Nw.warmM hW (va_Nw.of rfl (hts _ wl))
  have hcn : va_CN (fR F) (fs F) (fa F) own index y host bytes nL' none (.code y bytes nL' none :: gT) (qRm k' mc ms) mc ms n := by
    refine va_cnB n X.2.2.2.2.1 (g_good hY.1) rfl rfl rfl hlk (X.2.2.2.2.1 _ hY.2.1) hY.2.2.1 ⟨?_, ?_⟩
    · rw [X.2.2.2.2.2.2.2.1]; exact hk
    · rw [X.2.2.2.2.2.2.2.2.1]
      have h5 := hY.2.2.2
      show 8 + (nL' + 11) + 40 * k' ≤ 40 * k
      omega
  exact q_tail (fun _ _ h => h) h1 (va_runIN (As := As) (rest := rest) ⟨X.1, X.2.1, X.2.2.1, X.2.2.2.1, X.2.2.2.2.1⟩ (hM H.size) ⟨hcn, hy1, X.2.2.2.2.1 _ wi⟩ (q_pre X h1 (fun _ _ h => h) (.ref b :: As)) rfl hn h2.1 rfl (lv_room hw) d ⟨by omega, by omega⟩) (fun v M' H' locs' g1 g2 g3 => kk v M' g1 g2 H' locs' ls _ _ (by rw [mJ_self] at g3; exact g3) h2 (by omega) (by omega))
end RR
