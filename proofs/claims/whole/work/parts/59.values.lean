/-! OPERATORS, said of values -/
def wAt (w : vN) (i : Int32) : Option Int64 := if cIn (sz3 (vlo w) (vhi w)) i = 0 then none else vden w i.toNatClampNeg
def wIx (w : vN) (x y z : Int32) : Int32 := sIdx (nI (vm w)) (vlo w) (vhi w) x y z
theorem nAt_w (N : gN) (s : Nat) (i : Int32) : nAt N s i = wAt (nVal N s) i := rfl
theorem nIdx_w (N : gN) (s : Nat) (x y z : Int32) : nIdx N s x y z = wIx (nVal N s) x y z := rfl
def talW (w : vN) (what start step : Int32) : Nat → Nat × Int64
  | 0 => (0, 0)
  | k + 1 => match wAt w (start + nI k * step) with
    | none => talW w what start step k
    | some v => talS what (talW w what start step k) v
theorem talR_w (N : gN) (s : Nat) (what start step : Int32) (k : Nat) : talR N s what start step k = talW (nVal N s) what start step k := by
  induction k with
  | zero => rfl
  | succ k ih => simp only [talR, talW, nAt_w, ih]; cases wAt (nVal N s) (start + nI k * step) <;> rfl
def proW (w u : vN) (p q sp sq : Int32) : Nat → Bool × Int64
  | 0 => (false, 0)
  | k + 1 => match wAt w (p + nI k * sp), wAt u (q + nI k * sq) with
    | some v, some z => (true, (proW w u p q sp sq k).2 + v * z)
    | _, _ => proW w u p q sp sq k
theorem proR_w (N : gN) (s t : Nat) (p q sp sq : Int32) (k : Nat) : proR N s t p q sp sq k = proW (nVal N s) (nVal N t) p q sp sq k := by
  induction k with
  | zero => rfl
  | succ k ih => simp only [proR, proW, nAt_w, ih]; cases wAt (nVal N s) (p + nI k * sp) <;> cases wAt (nVal N t) (q + nI k * sq) <;> rfl
/-- the place of cell i along d -/
def pl3 (lo hi : Nat → Int32) (i : Nat) (d : Int32) : Int32 := sPlace lo hi (nI i) d
def vP (lo hi : Nat → Int32) (tf : Nat → Int32) (at0 : Int32) (i d : Nat) : Int32 := if tf d = -1 then at0 else pl3 lo hi i (tf d)
def vwD (w : vN) (lo hi : Nat → Int32) (tf : Nat → Int32) (at0 : Int32) (i : Nat) : Option Int64 := wAt w (wIx w (vP lo hi tf at0 i 0) (vP lo hi tf at0 i 1) (vP lo hi tf at0 i 2))
def eaD (w : vN) (rule : Int32) (c : Int64) (i : Nat) : Option Int64 := (wAt w (nI i)).bind (eachD rule c)
def joD (w u : vN) (lo hi : Nat → Int32) (op : Int32) (i : Nat) : Option Int64 := (wAt w (wIx w (pl3 lo hi i 0) (pl3 lo hi i 1) (pl3 lo hi i 2))).bind (fun v => (wAt u (wIx u (pl3 lo hi i 0) (pl3 lo hi i 1) (pl3 lo hi i 2))).map (joinD op v))
def fF (w : vN) (lo hi : Nat → Int32) (d kind reach : Int32) (i : Nat) : Int32 := if kind = 1 then pl3 lo hi i d * reach else if kind = 2 then pl3 lo hi i d - reach else s3 (vlo w) 0 d
def fL (w : vN) (lo hi : Nat → Int32) (d kind reach : Int32) (i : Nat) : Int32 := if kind = 1 then fF w lo hi d kind reach i + reach - 1 else if kind = 2 then pl3 lo hi i d + reach else s3 (vhi w) 0 d
def fP (lo hi : Nat → Int32) (d kind e from0 : Int32) (i : Nat) : Int32 := if e = d then from0 else if kind = 0 ∧ d < e then pl3 lo hi i (e - 1) else pl3 lo hi i e
/-- where a row that is taken together begins, how long it is -/
def fS (w : vN) (lo hi : Nat → Int32) (d kind reach : Int32) (i : Nat) : Int32 := mxI (s3 (vlo w) 0 d) (fF w lo hi d kind reach i)
def fK (w : vN) (lo hi : Nat → Int32) (d kind reach : Int32) (i : Nat) : Int32 := mnI (s3 (vhi w) 0 d) (fL w lo hi d kind reach i) - fS w lo hi d kind reach i + 1
def foD (w : vN) (lo hi : Nat → Int32) (d kind reach what : Int32) (i : Nat) : Option Int64 := talO (talW w what (wIx w (fP lo hi d kind 0 (fS w lo hi d kind reach i) i) (fP lo hi d kind 1 (fS w lo hi d kind reach i) i) (fP lo hi d kind 2 (fS w lo hi d kind reach i) i)) (s3 (sp3 (vlo w) (vhi w)) 1 d) (fK w lo hi d kind reach i).toNatClampNeg)
def pS (w u : vN) : Int32 := mxI (vlo w 1) (vlo u 0)
def pK (w u : vN) : Nat := (mnI (vhi w 1) (vhi u 0) - pS w u + 1).toNatClampNeg
def prW (w u : vN) (lo hi : Nat → Int32) (i : Nat) : Bool × Int64 := proW w u (wIx w (pl3 lo hi i 0) (pS w u) 0) (wIx u (pS w u) (pl3 lo hi i 1) 0) (s3 (sp3 (vlo w) (vhi w)) 1 1) (s3 (sp3 (vlo u) (vhi u)) 1 0) (pK w u)
def prD (w u : vN) (lo hi : Nat → Int32) (i : Nat) : Option Int64 := if (prW w u lo hi i).1 = true then some (prW w u lo hi i).2 else none
/-! what the operators' calls do -/
def oN (σ : sA) (w : vN) : oc := oI (nI (aN σ).length) (aPushN σ w)
def gRoom (σ : sA) (k : oc) : oc := if (aN σ).length < 150 then k else oT eIO σ
def gNode (σ : sA) (i : Int32) (k : vN → oc) : oc := match ndAt σ i with
  | none => oT eIA σ
  | some w => k w
def gVer (σ : sA) (i : Int32) (k : (Nat → Option Int64) × Nat → oc) : oc := match vAt σ i with
  | none => oT eIA σ
  | some w => k w
def gNeed (σ : sA) (b : Prop) [Decidable b] (k : oc) : oc := if b then k else oT eIA σ
def gLim (σ : sA) (lo hi : Nat → Int32) (dp : Int32) (k : oc) : oc := if ¬ sWithin lo hi = 0 ∧ dp < 40 then k else oT eUO σ
theorem gRoom_y {σ : sA} {k : oc} (h : (aN σ).length < 150) : gRoom σ k = k := if_pos h
theorem gRoom_n {σ : sA} {k : oc} (h : ¬ (aN σ).length < 150) : gRoom σ k = oT eIO σ := if_neg h
theorem gNode_y {σ : sA} {i : Int32} {k : vN → oc} {w : vN} (h : ndAt σ i = some w) : gNode σ i k = k w := by unfold gNode; rw [h]
theorem gNode_n {σ : sA} {i : Int32} {k : vN → oc} (h : ndAt σ i = none) : gNode σ i k = oT eIA σ := by unfold gNode; rw [h]
theorem gVer_y {σ : sA} {i : Int32} {k : (Nat → Option Int64) × Nat → oc} {w : (Nat → Option Int64) × Nat} (h : vAt σ i = some w) : gVer σ i k = k w := by unfold gVer; rw [h]
theorem gVer_n {σ : sA} {i : Int32} {k : (Nat → Option Int64) × Nat → oc} (h : vAt σ i = none) : gVer σ i k = oT eIA σ := by unfold gVer; rw [h]
theorem gNeed_y {σ : sA} {b : Prop} [Decidable b] {k : oc} (h : b) : gNeed σ b k = k := if_pos h
theorem gNeed_n {σ : sA} {b : Prop} [Decidable b] {k : oc} (h : ¬ b) : gNeed σ b k = oT eIA σ := if_neg h
theorem gLim_y {σ : sA} {lo hi : Nat → Int32} {dp : Int32} {k : oc} (h : ¬ sWithin lo hi = 0 ∧ dp < 40) : gLim σ lo hi dp k = k := if_pos h
theorem gLim_n {σ : sA} {lo hi : Nat → Int32} {dp : Int32} {k : oc} (h : ¬ (¬ sWithin lo hi = 0 ∧ dp < 40)) : gLim σ lo hi dp k = oT eUO σ := if_neg h
def sp_read (σ : sA) (i : Int32) : oc := gRoom σ (gVer σ i fun c => oN σ (aM σ, aLo σ, aHi σ, 1, c.1))
def spRg (σ : sA) (w : vN) (d x y : Int32) : oc := gLim σ (rpl3 (vlo w) d x) (rpl3 (vhi w) d y) (nI (vdp w)) (oN σ (vm w, rpl3 (vlo w) d x, rpl3 (vhi w) d y, vdp w + 1, vwD w (rpl3 (vlo w) d x) (rpl3 (vhi w) d y) stT 0))
def sp_sub (σ : sA) (a d x y : Int32) : oc := gRoom σ (gNode σ a fun w => gNeed σ (¬ sRange (nI (vm w)) (vlo w) (vhi w) d x y = 0) (spRg σ w d x y))
def sp_extend (σ : sA) (a d x y : Int32) : oc := gRoom σ (gNode σ a fun w => gNeed σ (¬ sHas (nI (vm w)) d = 0 ∧ ¬ s3 (vlo w) 0 d < x ∧ ¬ y < s3 (vhi w) 0 d) (gNeed σ (¬ x < -1000 ∧ ¬ 1000 < y) (spRg σ w d x y)))
def sp_slice (σ : sA) (a d t : Int32) : oc := gRoom σ (gNode σ a fun w => gNeed σ (¬ nI (vm w) ≤ 1 ∧ ¬ sRange (nI (vm w)) (vlo w) (vhi w) d t t = 0) (gLim σ (dr3 (vlo w) d.toNatClampNeg 3) (dr3 (vhi w) d.toNatClampNeg 3) (nI (vdp w)) (oN σ (vm w - 1, dr3 (vlo w) d.toNatClampNeg 3, dr3 (vhi w) d.toNatClampNeg 3, vdp w + 1, vwD w (dr3 (vlo w) d.toNatClampNeg 3) (dr3 (vhi w) d.toNatClampNeg 3) (skT d.toNatClampNeg) t))))
def swF (f : Nat → Int32) (d e : Int32) : Nat → Int32 := rpl3 (rpl3 f d (s3 f 0 e)) e (s3 f 0 d)
def sp_swap (σ : sA) (a d e : Int32) : oc := gRoom σ (gNode σ a fun w => gNeed σ (¬ sHas (nI (vm w)) d = 0 ∧ ¬ sHas (nI (vm w)) e = 0) (gLim σ (swF (vlo w) d e) (swF (vhi w) d e) (nI (vdp w)) (oN σ (vm w, swF (vlo w) d e, swF (vhi w) d e, vdp w + 1, vwD w (swF (vlo w) d e) (swF (vhi w) d e) (exT d.toNatClampNeg e.toNatClampNeg) 0))))
def spEa (σ : sA) (w : vN) (rule : Int32) (c : Int64) : oc := gLim σ (vlo w) (vhi w) (nI (vdp w)) (oN σ (vm w, vlo w, vhi w, vdp w + 1, eaD w rule c))
def sp_apply (σ : sA) (a op : Int32) (c : Int64) : oc := gRoom σ (gNode σ a fun w => gNeed σ (¬ op < 0 ∧ ¬ 6 ≤ op) (spEa σ w op c))
def sp_filter (σ : sA) (a r : Int32) (c : Int64) : oc := gRoom σ (gNode σ a fun w => gNeed σ (¬ r < 0 ∧ ¬ 4 ≤ r) (spEa σ w (6 + r) c))
def jnF (mx : Int32 → Int32 → Int32) (f h : Nat → Int32) : Nat → Int32 := tr3 (mx (f 0) (h 0)) (mx (f 1) (h 1)) (mx (f 2) (h 2))
def sp_join (σ : sA) (a b op : Int32) : oc := gRoom σ (gNode σ a fun w => gNode σ b fun u => gNeed σ (¬ op < 0 ∧ ¬ 6 ≤ op) (gNeed σ (¬ bI (meetB (decide (nI (vm w) = nI (vm u))) (vlo w) (vhi w) (vlo u) (vhi u) (vm w)) = 0) (gLim σ (jnF mxI (vlo w) (vlo u)) (jnF mnI (vhi w) (vhi u)) (mxI (nI (vdp w)) (nI (vdp u))) (oN σ (vm w, jnF mxI (vlo w) (vlo u), jnF mnI (vhi w) (vhi u), max (vdp w) (vdp u) + 1, joD w u (jnF mxI (vlo w) (vlo u)) (jnF mnI (vhi w) (vhi u)) op)))))
def spFo (σ : sA) (w : vN) (m : Nat) (lo hi : Nat → Int32) (d kind reach what : Int32) : oc := gLim σ lo hi (nI (vdp w)) (oN σ (m, lo, hi, vdp w + 1, foD w lo hi d kind reach what))
def tKn (what : Int32) : Int32 := if what < 0 then 0 else if 3 < what then 0 else 1
def sp_gather (σ : sA) (a d what : Int32) : oc := gRoom σ (gNode σ a fun w => gNeed σ (¬ sHas (nI (vm w)) d = 0 ∧ ¬ nI (vm w) ≤ 1 ∧ ¬ tKn what = 0) (spFo σ w (vm w - 1) (dr3 (vlo w) d.toNatClampNeg 3) (dr3 (vhi w) d.toNatClampNeg 3) d 0 0 what))
def sp_regrid (σ : sA) (a d k what : Int32) : oc := gRoom σ (gNode σ a fun w => gNeed σ (¬ sHas (nI (vm w)) d = 0 ∧ ¬ k < 1 ∧ ¬ 40 < k ∧ ¬ tKn what = 0) (spFo σ w (vm w) (rpl3 (vlo w) d (fdI (s3 (vlo w) 0 d) k)) (rpl3 (vhi w) d (fdI (s3 (vhi w) 0 d) k)) d 1 k what))
def sp_window (σ : sA) (a d r what : Int32) : oc := gRoom σ (gNode σ a fun w => gNeed σ (¬ sHas (nI (vm w)) d = 0 ∧ ¬ r < 0 ∧ ¬ 40 < r ∧ ¬ tKn what = 0) (spFo σ w (vm w) (vlo w) (vhi w) d 2 r what))
def sp_product (σ : sA) (a b : Int32) : oc := gRoom σ (gNode σ a fun w => gNode σ b fun u => gNeed σ (nI (vm w) = 2 ∧ nI (vm u) = 2) (gLim σ (rpl3 (vlo w) 1 (vlo u 1)) (rpl3 (vhi w) 1 (vhi u 1)) (mxI (nI (vdp w)) (nI (vdp u))) (oN σ (vm w, rpl3 (vlo w) 1 (vlo u 1), rpl3 (vhi w) 1 (vhi u 1), max (vdp w) (vdp u) + 1, prD w u (rpl3 (vlo w) 1 (vlo u 1)) (rpl3 (vhi w) 1 (vhi u 1))))))
/-- what is within the limits is small -/
theorem within_ok {m : Nat} {lo hi : Nat → Int32} (h : okS m lo hi) (hw : ¬ sWithin lo hi = 0) : (∀ d, d < 3 → sN lo hi d ≤ 40) ∧ sz3 lo hi ≤ 2048 := by
  have e40 : (40 : Int32).toInt = 40 := by decide
  have e2k : (2048 : Int32).toInt = 2048 := by decide
  have t : ∀ d, d < 3 → (sL lo hi d).toInt = sN lo hi d := fun d hd => by
    have := h.N hd; rw [h.L hd, nI_toInt (by omega)]
  unfold sWithin at hw
  by_cases c0 : 40 < sL lo hi 0
  · rw [if_pos c0] at hw; exact absurd rfl hw
  rw [if_neg c0] at hw
  by_cases c1 : 40 < sL lo hi 1
  · rw [if_pos c1] at hw; exact absurd rfl hw
  rw [if_neg c1] at hw
  by_cases c2 : 40 < sL lo hi 2
  · rw [if_pos c2] at hw; exact absurd rfl hw
  rw [if_neg c2] at hw
  by_cases c3 : 2048 < sL lo hi 0 * sL lo hi 1 * sL lo hi 2
  · rw [if_pos c3] at hw; exact absurd rfl hw
  rw [Int32.lt_iff_toInt_lt, e40, t 0 (by decide)] at c0
  rw [Int32.lt_iff_toInt_lt, e40, t 1 (by decide)] at c1
  rw [Int32.lt_iff_toInt_lt, e40, t 2 (by decide)] at c2
  have k0 : sN lo hi 0 ≤ 40 := by omega
  have k1 : sN lo hi 1 ≤ 40 := by omega
  have k2 : sN lo hi 2 ≤ 40 := by omega
  have hz : sz3 lo hi ≤ 64000 := Nat.le_trans (Nat.mul_le_mul (Nat.mul_le_mul k0 k1) k2) (by decide)
  rw [h.size, Int32.lt_iff_toInt_lt, e2k, nI_toInt (by omega)] at c3
  refine ⟨fun d hd => ?_, by omega⟩
  rcases (show d = 0 ∨ d = 1 ∨ d = 2 by omega) with rfl | rfl | rfl
  · exact k0
  · exact k1
  · exact k2
section GM
variable {G : gV} {M M2 : gMem} {g : Nat} {σ : sA} {vl nl kl fr dk dn dm eV en ek : Nat} {vs ns ks : List Nat} {N : gN}
/-- a node was made: the state with it, before it is kept -/
theorem gvB.made (h : gvB G M g σ vl nl kl fr dk dn dm eV en ek vs ns ks N) {q ci sh m dp cl nb mb aa ta : Nat} {lo hi : Nat → Int32} {ex : List Value} {den : Nat → Option Int64} (f0 : M q = none) (f1 : M nb = none) (f2 : M mb = none) (f3 : M aa = none) (ft : ci = 4 → M ta = none) (ev : mEv (fun _ => False) M M2) (hc : isNC ci) (h9 : ci ≠ 9)
    (h1 : M2 q = some (oB ci (.ref sh :: .int (nI dp) :: .ref cl :: .ref aa :: ex))) (h2 : isShape G M2 sh (nI m) lo hi) (hO : okS m lo hi) (hz : sz3 lo hi ≤ 4096) (hd1 : 1 ≤ dp) (hd2 : dp ≤ 40) (h3 : isCells G M2 cl nb mb (sz3 lo hi) (fun _ => none)) (h4 : M2 aa = some (aJ G ((sz3 lo hi + 63) / 64) (fun _ => 0))) (d2 : nb ≠ aa) (d3 : mb ≠ aa)
    (hk : ∀ N' : gN, (∀ x, nS N x → nS N' x ∧ nVal N' x = nVal N x ∧ ndp N' x = ndp N x) → nci N' q = ci → nex N' q = ex → nlo N' q = lo → nhi N' q = hi → ndp N' q = dp → nta N' q = ta → nden N' q = den → nsz N' q = sz3 lo hi → nKind G M2 N' q) :
    ∃ N' : gN, gvB G M2 g σ vl nl kl fr dk dn dm eV en ek vs ns ks N' ∧ nS N' q ∧ nVal N' q = (m, lo, hi, dp, den) := by
  have b8 := h.2.2.2.2.2.2.2.1
  have b3 := h.2.2.1
  have b11 := h.2.2.2.2.2.2.2.2.2.2.1
  obtain ⟨_, _, e1, e2, e3, -⟩ := id b3
  obtain ⟨N2, eN2⟩ : ∃ N2, N2 = nAdd N q ci ex m lo hi sh dp cl nb mb aa ta den := ⟨_, rfl⟩
  obtain ⟨t1, t2, t3, t4, t5, t6, t7, t8, t9, t10, t11, t12, t13⟩ := nAdd_at eN2
  have tz : nsz N2 q = sz3 lo hi := by unfold nsz; rw [t4, t5]
  have hS2 : ∀ y, nS N y → nS N2 y ∧ nEq N N2 y := fun y hy => ⟨by rw [eN2]; exact Or.inr hy, by rw [eN2]; exact nAdd_ne (fun z => by have := (b8.1 y hy).1.2.1; rw [z, f0] at this; cases this)⟩
  have hst : nStat G M2 N2 q := by
    unfold nStat
    rw [t1, t2, t3, t4, t5, t6, t7, t8, t9, t10, t11, tz]
    obtain ⟨_, _, mc1, -⟩ := id h3
    exact ⟨hc, h1, h2, hO, hz, hd1, hd2, mc1⟩
  have hkd : nKind G M2 N2 q := hk N2 (fun x hx => by
    obtain ⟨q1, q2⟩ := hS2 x hx
    obtain ⟨-, -, r3, r4, r5, -, r7, -, -, -, -, -, r13⟩ := q2
    exact ⟨q1, by unfold nVal; rw [r3, r4, r5, r7, r13], r7⟩) t1 t2 t4 t5 t7 t12 t13 tz
  have hch : nCache G M2 N2 (fun _ _ => False) q := by
    refine ⟨fun _ => none, fun _ => 0, by rw [t8, t9, t10, tz]; exact h3, by rw [t11, tz]; exact h4, fun i hi => ⟨fun z => absurd (t1.symm.trans z) h9, fun _ => ⟨fun _ => rfl, fun z => z.elim, fun z _ => ?_⟩⟩⟩
    unfold mkAt at z
    exact absurd z (by simp)
  have dnm : nb ≠ mb := by obtain ⟨_, _, -, -, -, h9, -⟩ := h3; exact h9
  have hI2 : nInv G M2 N2 (fun _ _ => False) := nInv_add b8 eN2 f0 f1 f2 f3 ft ev hst hkd hch dnm d2 d3
  have adr : ∀ {d x : Nat}, nAdr N2 d x → M x ≠ none → nAdr N d x := fun hx hn => by
    obtain ⟨y, y1, y2, y3⟩ := hx
    by_cases yq : y = q
    · subst yq
      rw [t1, t9, t10, t11, t12] at y3
      rcases y3 with y3 | y3 | y3 | y3
      · exact absurd f1 (y3 ▸ hn)
      · exact absurd f2 (y3 ▸ hn)
      · exact absurd f3 (y3 ▸ hn)
      · exact absurd (ft y3.1) (y3.2 ▸ hn)
    · have y0 : nS N y := by rw [eN2] at y1; exact y1.resolve_left yq
      obtain ⟨g1, -, -, -, -, -, g7, -, g9, g10, g11, g12, -⟩ := (hS2 y y0).2
      rw [g7] at y2
      rw [g1, g9, g10, g11, g12] at y3
      exact ⟨y, y0, y2, y3⟩
  exact ⟨N2, h.grow ev hI2 hS2 (fun d => ⟨fun z => (b11.2.2.2.2.2.2 d).1 (adr z (g_so e2)), fun z => (b11.2.2.2.2.2.2 d).2 (adr z (g_so e3))⟩), by rw [eN2]; exact Or.inl rfl, by unfold nVal; rw [t3, t4, t5, t7, t13]⟩
end GM
