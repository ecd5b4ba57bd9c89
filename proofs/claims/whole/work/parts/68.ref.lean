/-! THE REFERENCE'S STATE -/
def wsz (w : vN) : Nat := sz3 (vlo w) (vhi w)
/-- a grid's rows say what its cells are -/
def gCt (n : Nat) (vf : Nat → Int64) (zf : Nat → Int32) (den : Nat → Option Int64) : Prop := ∀ i, i < n → zf i = bI (den i).isSome ∧ ∀ v, den i = some v → vf i = v
def isGrX (G : gV) (M : gMem) (a la ha va za : Nat) (vf : Nat → Int64) (zf : Nat → Int32) (w : vN) : Prop := M a = some (oB 12 [.int (nI (vm w)), .int (nI (vdp w)), .ref la, .ref ha, .ref va, .ref za]) ∧ M la = some (aI G 3 (vlo w)) ∧ M ha = some (aI G 3 (vhi w)) ∧ M va = some (aJ G (wsz w) vf) ∧ M za = some (aZ G (wsz w) zf) ∧ gCt (wsz w) vf zf (vden w)
def isGrd (G : gV) (M : gMem) (B : Nat → Prop) (a : Nat) (w : vN) : Prop := ∃ (la ha va za : Nat) (vf : Nat → Int64) (zf : Nat → Int32), isGrX G M a la ha va za vf zf w ∧ ¬ B la ∧ ¬ B ha ∧ ¬ B va ∧ ¬ B za
def rBad (plA pA dva dza : Nat) : Nat → Prop := fun q => q = plA ∨ q = pA ∨ q = dva ∨ q = dza
def vOk (w : vN) : Prop := okS (vm w) (vlo w) (vhi w) ∧ wsz w ≤ 4096 ∧ vdp w ≤ 40
/-- what the class's state tells of a state -/
def gvW (σ : sA) : Prop := gvS σ ∧ ∀ (i : Nat) (w : vN), (aN σ)[i]? = some w → vOk w
theorem isGV.w {G : gV} {M : gMem} {g : Nat} {σ : sA} (h : isGV G M g σ) : gvW σ := by
  obtain ⟨vl, nl, kl, fr, dk, dn, dm, ev, en, ek, vs, ns, ks, N, b1, b2, b3, b4, b5, b6, b7, b8, b9, b10, b11, b12⟩ := h
  refine ⟨b12, fun i w hw => ?_⟩
  have hi := (List.getElem?_eq_some_iff.mp hw).1
  rw [← b10.1] at hi
  obtain ⟨a, ha⟩ : ∃ a, ns[i]? = some a := ⟨ns[i], List.getElem?_eq_some_iff.mpr ⟨hi, rfl⟩⟩
  obtain ⟨q1, q2⟩ := b10.2 i a w ha hw
  have hs := (b8.1 a q1).1
  rw [← q2]
  exact ⟨hs.2.2.2.1, hs.2.2.2.2.1, hs.2.2.2.2.2.2.1⟩
abbrev rfO (e : Int32) (vA nA pA plA dg : Nat) (σ : sA) (tk : Int32) (su le gr : Int64) : va_E := oB 13 [.int e, .ref vA, .ref nA, .ref pA, .ref plA, .ref dg, .int (nI (aV σ).length), .int (nI (aN σ).length), .int (nI (aOf σ)), .int (nI (aBg σ)), .int tk, .long su, .long le, .long gr]
def dkV (σ : sA) : vN := (aM σ, aLo σ, aHi σ, 0, aD σ)
def veV (σ : sA) (c : (Nat → Option Int64) × Nat) : vN := (aM σ, aLo σ, aHi σ, 0, c.1)
def rfC (G : gV) (M : gMem) (σ : sA) (vA nA pA plA dg dla dha dva dza : Nat) (dvf : Nat → Int64) (dzf : Nat → Int32) (vf nf : Nat → Option Nat) (pf : Nat → Int32) : Prop :=
  M vA = some (aG G 41 vf) ∧ M nA = some (aG G 150 nf) ∧ M pA = some (aI G 41 pf) ∧ (∃ xx, M plA = some (aI G 3 xx)) ∧ isGrX G M dg dla dha dva dza dvf dzf (dkV σ) ∧ (dla ≠ plA ∧ dla ≠ pA ∧ dha ≠ plA ∧ dha ≠ pA ∧ dza ≠ plA ∧ dza ≠ pA) ∧
  (∀ (i : Nat) (c : (Nat → Option Int64) × Nat), (aV σ)[i]? = some c → ∃ a, vf i = some a ∧ isGrd G M (rBad plA pA dva dza) a (veV σ c) ∧ pf i = aPar i c) ∧ (∀ (i : Nat) (w : vN), (aN σ)[i]? = some w → ∃ a, nf i = some a ∧ isGrd G M (rBad plA pA dva dza) a w) ∧ pA ≠ plA ∧ vA ≠ nA
def rfB (G : gV) (M : gMem) (r : Nat) (e : Int32) (σ : sA) (vA nA pA plA dg dla dha dva dza : Nat) (dvf : Nat → Int64) (dzf : Nat → Int32) (vf nf : Nat → Option Nat) (pf : Nat → Int32) (tk : Int32) (su le gr : Int64) : Prop := M r = some (rfO e vA nA pA plA dg σ tk su le gr) ∧ rfC G M σ vA nA pA plA dg dla dha dva dza dvf dzf vf nf pf
def isRF (G : gV) (M : gMem) (r : Nat) (e : Int32) (σ : sA) : Prop := ∃ (vA nA pA plA dg dla dha dva dza : Nat) (dvf : Nat → Int64) (dzf : Nat → Int32) (vf nf : Nat → Option Nat) (pf : Nat → Int32) (tk : Int32) (su le gr : Int64), rfB G M r e σ vA nA pA plA dg dla dha dva dza dvf dzf vf nf pf tk su le gr
theorem isGrX.mv {G : gV} {M M' : gMem} {a la ha va za : Nat} {vf : Nat → Int64} {zf : Nat → Int32} {w : vN} (h : isGrX G M a la ha va za vf zf w) (h0 : M' a = M a) (h1 : M' la = M la) (h2 : M' ha = M ha) (h3 : M' va = M va) (h4 : M' za = M za) : isGrX G M' a la ha va za vf zf w := ⟨h0.trans h.1, h1.trans h.2.1, h2.trans h.2.2.1, h3.trans h.2.2.2.1, h4.trans h.2.2.2.2.1, h.2.2.2.2.2⟩
theorem isGrd.mv {G : gV} {M M' : gMem} {B : Nat → Prop} {a : Nat} {w : vN} (h : isGrd G M B a w) (hm : ∀ q x, M q = some x → (∀ fs, x ≠ oB 13 fs) → ¬ B q → M' q = some x) (hb : ∀ q fs, M q = some (oB 12 fs) → ¬ B q) : isGrd G M' B a w := by
  obtain ⟨la, ha, va, za, vf, zf, ⟨h0, h1, h2, h3, h4, h5⟩, b1, b2, b3, b4⟩ := h
  exact ⟨la, ha, va, za, vf, zf, ⟨hm _ _ h0 (fun _ z => by cases z) (hb _ _ h0), hm _ _ h1 (fun _ z => by cases z) b1, hm _ _ h2 (fun _ z => by cases z) b2, hm _ _ h3 (fun _ z => by cases z) b3, hm _ _ h4 (fun _ z => by cases z) b4, h5⟩, b1, b2, b3, b4⟩
section RC
variable {G : gV} {M M' : gMem} {r : Nat} {e : Int32} {σ : sA} {vA nA pA plA dg dla dha dva dza : Nat} {dvf : Nat → Int64} {dzf : Nat → Int32} {vf nf : Nat → Option Nat} {pf : Nat → Int32} {tk : Int32} {su le gr : Int64}
theorem rfC.nb (h : rfC G M σ vA nA pA plA dg dla dha dva dza dvf dzf vf nf pf) : ∀ q fs, M q = some (oB 12 fs) → ¬ rBad plA pA dva dza q := fun q fs hq z => by
  obtain ⟨c1, c2, c3, ⟨xx, c4⟩, c5, c6, c7, c8, c9, c10⟩ := h
  rcases z with rfl | rfl | rfl | rfl
  · rw [c4] at hq; cases hq
  · rw [c3] at hq; cases hq
  · rw [c5.2.2.2.1] at hq; cases hq
  · rw [c5.2.2.2.2.1] at hq; cases hq
/-- cells are made, the object's numbers and the place change -/
theorem rfC.mv (h : rfC G M σ vA nA pA plA dg dla dha dva dza dvf dzf vf nf pf) (hm : ∀ q x, M q = some x → (∀ fs, x ≠ oB 13 fs) → q ≠ plA → M' q = some x) (hp : ∃ xx, M' plA = some (aI G 3 xx)) : rfC G M' σ vA nA pA plA dg dla dha dva dza dvf dzf vf nf pf := by
  have hb := h.nb
  obtain ⟨c1, c2, c3, ⟨xx, c4⟩, c5, c6, c7, c8, c9, c10⟩ := h
  have no : ∀ q x, M q = some x → (∀ f, x ≠ aI G 3 f) → q ≠ plA := fun q x hq hx z => by rw [z, c4] at hq; cases hq; exact hx _ rfl
  have gm : ∀ {a w}, isGrd G M (rBad plA pA dva dza) a w → isGrd G M' (rBad plA pA dva dza) a w := fun hg => hg.mv (fun q x hq hx hB => hm q x hq hx (fun z => hB (Or.inl z))) hb
  obtain ⟨d0, d1, d2, d3, d4, d5⟩ := c5
  refine ⟨hm _ _ c1 (fun _ z => by cases z) (no _ _ c1 (fun _ z => by simp at z)), hm _ _ c2 (fun _ z => by cases z) (no _ _ c2 (fun _ z => by simp at z)), hm _ _ c3 (fun _ z => by cases z) c9, hp, ⟨hm _ _ d0 (fun _ z => by cases z) (no _ _ d0 (fun _ z => by cases z)), hm _ _ d1 (fun _ z => by cases z) c6.1, hm _ _ d2 (fun _ z => by cases z) c6.2.2.1, hm _ _ d3 (fun _ z => by cases z) (no _ _ d3 (fun _ z => by simp at z)), hm _ _ d4 (fun _ z => by cases z) c6.2.2.2.2.1, d5⟩, c6, fun i c hc => ?_, fun i w hw => ?_, c9, c10⟩
  · obtain ⟨a, q1, q2, q3⟩ := c7 i c hc
    exact ⟨a, q1, gm q2, q3⟩
  · obtain ⟨a, q1, q2⟩ := c8 i w hw
    exact ⟨a, q1, gm q2⟩
theorem rfB.ro (h : rfB G M r e σ vA nA pA plA dg dla dha dva dza dvf dzf vf nf pf tk su le gr) {e' tk' : Int32} {su' le' gr' : Int64} : rfB G (mU M r (rfO e' vA nA pA plA dg σ tk' su' le' gr')) r e' σ vA nA pA plA dg dla dha dva dza dvf dzf vf nf pf tk' su' le' gr' := by
  obtain ⟨h1, h2⟩ := h
  have nr : ∀ q x, M q = some x → (∀ fs, x ≠ oB 13 fs) → q ≠ r := fun q x hq hx z => by rw [z, h1] at hq; cases hq; exact hx _ rfl
  obtain ⟨xx, c4⟩ := h2.2.2.2.1
  exact ⟨mU_s, h2.mv (fun q x hq hx _ => (mU_n (nr q x hq hx)).trans hq) ⟨xx, (mU_n (nr _ _ c4 (fun _ z => by cases z))).trans c4⟩⟩
/-- cells are made -/
theorem rfB.ev (h : rfB G M r e σ vA nA pA plA dg dla dha dva dza dvf dzf vf nf pf tk su le gr) (x : mEv (fun _ => False) M M') : rfB G M' r e σ vA nA pA plA dg dla dha dva dza dvf dzf vf nf pf tk su le gr := by
  obtain ⟨xx, c4⟩ := h.2.2.2.2.1
  exact ⟨x.keep h.1 id, h.2.mv (fun q y hq _ _ => x.keep hq id) ⟨xx, x.keep c4 id⟩⟩
end RC
/-- the reference's answer: the state behind it, the error's number, the value (z where it fails) -/
def rfP (G : gV) (r : Nat) (mp : String → Int32) (z : Option Value) (o : oc) : Option Value → gMem → Prop := fun v M' => match o.1 with
  | none => v = o.2.1 ∧ isRF G M' r 0 o.2.2
  | some E => v = z ∧ isRF G M' r (mp E) o.2.2
theorem rfP_K {G : gV} {r : Nat} {mp : String → Int32} {z : Option Value} {o : oc} {M : gMem} {v : Option Value} {σ : sA} (e : o = oK v σ) (h : isRF G M r 0 σ) : rfP G r mp z o v M := by subst e; exact ⟨rfl, h⟩
theorem rfP_T {G : gV} {r : Nat} {mp : String → Int32} {z : Option Value} {o : oc} {M : gMem} {E : String} {σ : sA} {n : Int32} (e : o = oT E σ) (hn : mp E = n) (h : isRF G M r n σ) : rfP G r mp z o z M := by subst e; subst hn; exact ⟨rfl, h⟩
def cOp : String → Int32 := fun E => if E = eIA then 1 else if E = eIO then 2 else 3
def cOne : String → Int32 := fun _ => 1
def cBe : String → Int32 := fun E => if E = eIA then 1 else 2
def cAl : String → Int32 := fun E => if E = eIA then 1 else 2
theorem cOp_IA : cOp eIA = 1 := by decide
theorem cOp_IO : cOp eIO = 2 := by decide
theorem cOp_UO : cOp eUO = 3 := by decide
theorem cBe_IA : cBe eIA = 1 := by decide
theorem cBe_IS : cBe eIS = 2 := by decide
theorem cAl_IA : cAl eIA = 1 := by decide
theorem cAl_UO : cAl eUO = 2 := by decide
