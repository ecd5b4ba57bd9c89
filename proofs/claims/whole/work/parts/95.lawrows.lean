/-! THE LAW: rows for its helpers (they catch) and for its memory -/
def pU (M1 M2 : gMem) : gMem := fun a => match M1 a with
  | some e => some e
  | none => M2 a
def mO (G : gV) (ou : Nat) (f : Nat → Int64) : gMem := fun a => if a = ou then some (aJ G 1 f) else none
theorem pU_l {M1 M2 : gMem} : ∀ a e, M1 a = some e → pU M1 M2 a = some e := fun a e h => by unfold pU; rw [h]
theorem pU_r {M1 M2 : gMem} {a : Nat} (h : M1 a = none) : pU M1 M2 a = M2 a := by unfold pU; rw [h]
theorem pU_so {M1 M2 : gMem} {a : Nat} (h : M1 a ≠ none) : pU M1 M2 a = M1 a := by
  cases e : M1 a with
  | none => exact absurd e h
  | some x => exact pU_l a x e
theorem pU_none {M1 M2 : gMem} {a : Nat} (h : pU M1 M2 a = none) : M1 a = none ∧ M2 a = none := by
  cases e : M1 a with
  | none => exact ⟨rfl, (pU_r e).symm.trans h⟩
  | some x => rw [pU_l a x e] at h; cases h
theorem pU_cm {M1 M2 : gMem} (hd : ∀ a, M1 a ≠ none → M2 a = none) : pU M1 M2 = pU M2 M1 := by
  funext a
  cases e : M1 a with
  | none =>
    rw [pU_r e]
    cases e2 : M2 a with
    | none => rw [pU_r e2, e]
    | some x => rw [pU_l a x e2]
  | some x => rw [pU_l a x e, pU_r (hd a (by rw [e]; exact fun z => by cases z)), e]
/-- behind a call over a part of the memory -/
theorem mJ_pU {Mc R M' : gMem} (hd : ∀ a, Mc a ≠ none → R a = none) (hm : ∀ a, M' a ≠ none → Mc a ≠ none ∨ pU Mc R a = none) : mJ (pU Mc R) Mc M' = pU M' R ∧ ∀ a, M' a ≠ none → R a = none := by
  refine ⟨?_, fun a h => ?_⟩
  · funext a
    unfold mJ
    cases e : M' a with
    | some x => exact (pU_l a x e).symm
    | none =>
      cases e2 : Mc a with
      | some x => rw [pU_r e, hd a (by rw [e2]; exact fun z => by cases z)]
      | none => show pU Mc R a = _; rw [pU_r e, pU_r e2]
  · rcases hm a h with h2 | h2
    · exact hd a h2
    · exact (pU_none h2).2
theorem mO_s {G : gV} {ou : Nat} {f : Nat → Int64} : mO G ou f ou = some (aJ G 1 f) := if_pos rfl
theorem mO_d {G : gV} {M : gMem} {ou : Nat} {f : Nat → Int64} (h : M ou = none) : ∀ a, M a ≠ none → mO G ou f a = none := fun a ha => if_neg (fun z : a = ou => ha (by rw [z]; exact h))
theorem pU_ou {G : gV} {M : gMem} {ou : Nat} {f : Nat → Int64} (h : M ou = none) : pU M (mO G ou f) ou = some (aJ G 1 f) := (pU_r h).trans mO_s
theorem pU_up {G : gV} {M : gMem} {ou : Nat} {f h : Nat → Int64} (hd : M ou = none) : mU (pU M (mO G ou f)) ou (aJ G 1 h) = pU M (mO G ou h) := by
  funext a
  unfold mU
  by_cases c : a = ou
  · rw [if_pos c, c, pU_ou hd]
  · rw [if_neg c]
    cases e : M a with
    | none => rw [pU_r e, pU_r e]; unfold mO; rw [if_neg c, if_neg c]
    | some x => rw [pU_l a x e, pU_l a x e]
theorem mO_no {G : gV} {M' : gMem} {ou : Nat} {f : Nat → Int64} (h : ∀ a, M' a ≠ none → mO G ou f a = none) : M' ou = none := by
  cases e : M' ou with
  | none => rfl
  | some x => have := h ou (by rw [e]; exact fun z => by cases z); rw [mO_s] at this; cases this
/-- methods with a table of their own, that don't throw -/
def hC (l : Launch) (G : gV) (y : MethodName) (cc : ByteArray) (nL : Nat) (ret : Option FieldType) (hh : List (Nat × Nat × Nat × Nat)) (k mc ms : Nat) (As : List Value) (M : gMem) (Post : Option Value → gMem → Prop) : Prop :=
  ∀ sz : Nat, Met l y (.codeWith y cc nL ret hh :: gT) (qRm k mc ms) (va_Pc As (fun U => U.heap.size = sz ∧ gRep G M U.heap ∧ gK G U)) (qR G M sz Post) mc ms (gA M sz)
theorem q_ofWH {l : Launch} {y : MethodName} {ws ws' : List Cond} {rm : Room} {Pc : Array Value → State → Prop} {Qc : Array Value → State → Outcome → State → Prop} {mc ms : Nat} {free : Addr → Prop} {cc : ByteArray} {maxL : Nat} {ret : Option FieldType} {hh : List (Nat × Nat × Nat × Nat)}
    (hy : plainFor y = true) (hw : ws = Cond.codeWith y cc maxL ret hh :: ws')
    (body : ∀ p e s m args below meth c s₁, BodyLoose p l y (headSpec ws rm) cc maxL ret e s m args below meth c s₁ → c.maxLocals = maxL → Pc args s →
      W p l e (headSpec ws rm).room s m args below meth c s.heap [] 0 0 (MQ below Qc args s mc ms free) (entryFrame m args maxL)) : Met l y ws rm Pc Qc mc ms free := by
  refine MetFree.of_bodySF (code := cc) (maxLocals := maxL) (ret := ret) hy ?_ ?_
  · intro args s m h hn
    obtain ⟨m9, meth, c, hn9, h1, h2, h3, h4, -, h5, h6, -⟩ := Cond.codeWith_spec (atoms_spec (ws := ws) h _ (by rw [hw]; exact List.mem_cons_self))
    cases hn.symm.trans hn9
    exact ⟨meth, c, h1, h2, h3, h4, h5, h6⟩
  · intro p e s m args below meth c s₁ B hml hP _
    have hh0 : s₁.heap = s.heap := by rw [B.state]; rfl
    obtain ⟨t, a1, o, b1, b2, b3⟩ := body p e s m args below meth c s₁ B hml hP s₁ hh0 (Stand.of_body B)
    exact ⟨t, o, a1, b1, b2, ⟨b3.1, b3.2⟩⟩
theorem hC_of {l : Launch} {G : gV} {y : MethodName} {cc : ByteArray} {nL : Nat} {ret : Option FieldType} {hh : List (Nat × Nat × Nat × Nat)} {k mc ms : Nat} {As : List Value} {M : gMem} {Post : Option Value → gMem → Prop} (hy : plainFor y = true) (hlen : (lg_sl As).length ≤ nL)
    (body : ∀ F : gF, fl F = l → qX G F cc nL y.cls k → (fc F).exceptionTable.toList = tableOf hh → (fh F).sig.returnType = ret → qJ G F (qQ G F Post) nL M mc ms 0 (lv_args 0 As) []) : hC l G y cc nL ret hh k mc ms As M Post := by
  intro sz
  refine q_ofWH (cc := cc) (maxL := nL) (ret := ret) (hh := hh) hy rfl ?_
  intro p e s m args below meth c s₁ B hml hv
  obtain ⟨rfl, hsz, hR, hK⟩ := hv
  subst hsz
  have hts := atoms_spec (ws := .codeWith y cc nL ret hh :: gT) B.pre
  have hown : s.vm.findClass y.cls = some m.cls := findClass_of_methodNamed B.named
  have htab := vx_table (x := y) B (hts _ List.mem_cons_self)
  have hl := lv_entry As (n := nL) hlen
  rw [lg_entry_eq]
  exact body (M, p, l, e, qRm k mc ms, s, m, As.toArray, below, meth, c) rfl ⟨B.exec, B.bytes, hml, hown, fun w h => hts w (List.mem_cons_of_mem _ h), hK, B.notSynchronized, rfl, rfl, hR.1, fun a h => by cases h9 : M a with | none => exact absurd h9 h | some e => exact (hR.2 a e h9).1⟩ htab B.returns s.heap [] _ 0 0 ⟨va_S.rf, hR, fun a h => Or.inl h⟩ hl (Nat.le_of_eq (Nat.zero_add _)) (Nat.le_of_eq (Nat.zero_add _))
section LR
variable {G : gV} {F : gF} {Q : State → Prop} {nL : Nat} {M : gMem} {rc rs pc k : Nat} {lv : List (Nat × Value)} {st : List Value} {cc : ByteArray} {own : String} {Post : Option Value → gMem → Prop}
theorem nc_of (X : qX G F cc nL own k) {E D : String} (w : ∀ b : Nat, (Jvm.Cond.and given_1 narrow_1).before #[Value.ref b] (gU G) = true → (Cond.not (.castable E D)).before #[Value.ref b] (gU G) = true) : va_Nc E D (fs F) := by
  obtain ⟨-, hW, -, hI⟩ := X.2.2.2.2.2.1
  obtain ⟨hB, b, hts, hn⟩ := hI
  exact va_Nc.moved hW.alike (va_Nc.of (w b hn))
/-- a handler takes it -/
theorem t_catch (X : qX G F cc nL own k) {E name : String} (pre : List ExceptionTableEntry) (x : ExceptionTableEntry) (suf : List ExceptionTableEntry) (htab : (fc F).exceptionTable.toList = pre ++ x :: suf) (hpass : ∀ z ∈ pre, covers z pc = false ∨ (z.catchType ≠ 0 ∧ ∃ nm : String, Cond.classLink own z.catchType nm ∈ gT ∧ va_Nc E nm (fs F))) (hx : covers x pc = true) (h0 : x.catchType ≠ 0) (wl : Cond.classLink own x.catchType name ∈ gT) (wc : Cond.castable E name ∈ lw_tbl) (kk : ∀ q : Nat, qJ G F Q nL M rc rs x.handlerPc lv [.ref q]) : tJ G F Q nL M rc rs pc lv E := by
  intro H locs ls cells slots q ce rest h1 h2 h3 h4 h5 h6 h7
  exact vx_catch X.2.2.2.1 pre x suf htab (fun z hz => by
    rcases hpass z hz with h | ⟨a, nm, b, c⟩
    · exact Or.inl h
    · exact Or.inr ⟨a, nm, X.2.2.2.2.1 _ b, c⟩) hx h0 (X.2.2.2.2.1 _ wl) (va_Nw.use (A := fa F) rfl (g_cast X wc)) h5 h6 h7 (kk q H locs ls cells slots h1 h2 h3 h4)
/-- a static call of a method with a table of its own, over a part of the memory -/
theorem q_callW (X : qX G F cc nL own k) {Mc : gMem} {y : MethodName} {bytes : ByteArray} {hh : List (Nat × Nat × Nat × Nat)} {nL' n index k' mc ms : Nat} {ret : Option FieldType} {As rest : List Value} (hM : hC (fl F) G y bytes nL' ret hh k' mc ms As Mc Post) (hs : ∀ a e, Mc a = some e → M a = some e) (wc : Cond.codeWith y bytes nL' ret hh ∈ gT) (wini : Cond.initialized y.cls ∈ gT) (hd : y.cls ≠ "java/lang/invoke/MethodHandle" ∧ y.cls ≠ "java/lang/invoke/VarHandle" ∧ (parseMethodDescriptor y.desc).map (fun d => d.parameters.length) = some n) (hnL : nL' ≤ 21) (wl : Cond.methodLink own index y ∈ gT) (wi : Cond.static y ∈ gT) (hk : k' + 1 ≤ k) (hn : As.length = n) (hst : st = As.reverse ++ rest) (hw : (rest.map fun v => v.category).sum ≤ 8) {rc' rs' : Nat} (hrc : rc' + mc ≤ rc) (hrs : rs' + ms ≤ rs) (d : decode cc pc = .ok (.invokestatic index, 3))
    (kk : ∀ (v : Option Value) (M' : gMem), Post v M' → (∀ a, M' a ≠ none → Mc a ≠ none ∨ M a = none) → qJ G F Q nL (mJ M Mc M') rc' rs' (pc + 3) lv (v.toList ++ rest)) : qJ G F Q nL M rc rs pc lv st := by
  intro H locs ls cells slots h1 h2 h3 h4
  subst hst
  have hG : GoodIn gT (va_wsS own index y (.codeWith y bytes nL' ret hh :: gT)) := fun w hw9 => by
    have hw2 : w ∈ gT := by
      unfold va_wsS at hw9
      simp only [List.cons_append, List.nil_append, List.mem_cons] at hw9
      rcases hw9 with rfl | rfl | rfl | rfl | h
      · exact wl
      · exact wi
      · exact wini
      · exact wc
      · exact h
    exact ⟨hw2, good_of_word (gT_good hw2)⟩
  exact q_tail hs h1 (vx_runSW (As := As) (rest := rest) ⟨X.1, X.2.1, X.2.2.1, X.2.2.2.1, X.2.2.2.2.1⟩ (hM H.size) (vx_cwSW (hh := hh) n X.2.2.2.2.1 hG rfl rfl rfl hd ⟨by rw [X.2.2.2.2.2.2.2.1]; exact hk, by rw [X.2.2.2.2.2.2.2.2.1]; show 8 + (nL' + 11) + 40 * k' ≤ 40 * k; omega⟩) (q_pre X h1 hs As) rfl hn h2.1 rfl (lv_room hw) d ⟨by omega, by omega⟩) (fun v M' H' locs' g1 g2 g3 => kk v M' g1 g2 H' locs' ls _ _ g3 h2 (by omega) (by omega))
/-- the script -/
def sX (F : gF) (b L : Nat) (xs : Nat → Int32) : Prop := va_X b L xs (fs F) (fs F).heap ∧ b < (fs F).heap.size ∧ ¬ fA F b ∧ L ≤ 4096
theorem q_sld (X : qX G F cc nL own k) {b L : Nat} {xs : Nat → Int32} (hX : sX F b L xs) {i : Int32} (j : Nat) (hi : i = nI j) (hj : j < L) (d : decode cc pc = .ok (.iaload, 1)) (kk : qJ G F Q nL M rc rs (pc + 1) lv (.int (xs j) :: st)) : qJ G F Q nL M rc rs pc lv (.int i :: .ref b :: st) := by
  intro H locs ls cells slots h1 h2 h3 h4
  have hL := hX.2.2.2
  subst hi
  refine va_sld X.1 X.2.1 hX.1 hX.2.1 hX.2.2.1 h1.1 (vp_in_nI hj (by omega)) d ?_
  rw [nI_clamp (by omega)]
  exact kk H locs ls cells slots h1 h2 h3 h4
theorem q_slen (X : qX G F cc nL own k) {b L : Nat} {xs : Nat → Int32} (hX : sX F b L xs) (d : decode cc pc = .ok (.arraylength, 1)) (kk : qJ G F Q nL M rc rs (pc + 1) lv (.int (nI L) :: st)) : qJ G F Q nL M rc rs pc lv (.ref b :: st) := by
  intro H locs ls cells slots h1 h2 h3 h4
  exact va_slen X.1 X.2.1 hX.1 hX.2.1 hX.2.2.1 h1.1 d (kk H locs ls cells slots h1 h2 h3 h4)
end LR
/-- what a helper of the law answers -/
def hv0 : Option Value → (Nat → Int64) → Prop := fun _ _ => True
def hvI : Option Value → (Nat → Int64) → Prop := fun w f => ∃ n : Int32, w = some (.int n) ∧ f 0 = n.toInt64
def hvL : Option Value → (Nat → Int64) → Prop := fun w f => ∃ n : Int64, w = some (.long n) ∧ f 0 = n
def hlP (G : gV) (g ou : Nat) (mp : String → Int32) (V : Option Value → (Nat → Int64) → Prop) (o : oc) : Option Value → gMem → Prop := fun v M' => ∃ (MV : gMem) (f : Nat → Int64), M' = pU MV (mO G ou f) ∧ MV ou = none ∧ isGV G MV g o.2.2 ∧ ((o.1 = none ∧ v = some (.int 0) ∧ V o.2.1 f) ∨ ∃ E, o.1 = some E ∧ v = some (.int (mp E)))
/-- which exceptions a call throws; that its answer is an int -/
def oX (L : List String) (o : oc) : Prop := ∀ E, o.1 = some E → E ∈ L
def oVi (o : oc) : Prop := o.1 = none → ∃ n : Int32, o.2.1 = some (.int n)
section OX
variable {L : List String} {σ : sA}
theorem oX_K {v : Option Value} : oX L (oK v σ) := fun E h => by cases h
theorem oX_I {n : Int32} : oX L (oI n σ) := oX_K
theorem oX_N {w : vN} : oX L (oN σ w) := oX_K
theorem oX_T {E : String} (h : E ∈ L) : oX L (oT E σ) := fun E2 h2 => by cases h2; exact h
theorem oX_if {c : Prop} [Decidable c] {a b : oc} (ha : oX L a) (hb : oX L b) : oX L (if c then a else b) := by split; exact ha; exact hb
theorem oX_Room {k : oc} (hE : eIO ∈ L) (h : oX L k) : oX L (gRoom σ k) := oX_if h (oX_T hE)
theorem oX_Need {b : Prop} [Decidable b] {k : oc} (hE : eIA ∈ L) (h : oX L k) : oX L (gNeed σ b k) := oX_if h (oX_T hE)
theorem oX_Lim {lo hi : Nat → Int32} {dp : Int32} {k : oc} (hE : eUO ∈ L) (h : oX L k) : oX L (gLim σ lo hi dp k) := oX_if h (oX_T hE)
theorem oX_Node {i : Int32} {k : vN → oc} (hE : eIA ∈ L) (h : ∀ w, oX L (k w)) : oX L (gNode σ i k) := by
  unfold gNode; split
  · exact oX_T hE
  · exact h _
theorem oX_Ver {i : Int32} {k : (Nat → Option Int64) × Nat → oc} (hE : eIA ∈ L) (h : ∀ w, oX L (k w)) : oX L (gVer σ i k) := by
  unfold gVer; split
  · exact oX_T hE
  · exact h _
theorem oX_L {r : Option Int64} {E : String} (h : E ∈ L) : oX L (oL r E σ) := by
  unfold oL; split
  · exact oX_T h
  · exact oX_K
theorem oVi_T {E : String} : oVi (oT E σ) := fun h => by cases h
theorem oVi_I {n : Int32} : oVi (oI n σ) := fun _ => ⟨n, rfl⟩
theorem oVi_if {c : Prop} [Decidable c] {a b : oc} (ha : oVi a) (hb : oVi b) : oVi (if c then a else b) := by split; exact ha; exact hb
end OX
abbrev e3 : List String := [eIA, eIO, eUO]
theorem x_begin {σ : sA} {n a b c d e f : Int32} : oX [eIS, eIA] (sp_begin σ n a b c d e f) := by
  unfold sp_begin
  exact oX_if (oX_T (by simp)) (oX_if (oX_T (by simp)) (oX_if (oX_T (by simp)) (oX_if (oX_T (by simp)) (oX_if (oX_T (by simp)) (oX_if (oX_T (by simp)) oX_K)))))
theorem x_put {σ : sA} {x y z : Int32} {v : Int64} : oX [eIO] (sp_put σ x y z v) := oX_if oX_K (oX_T (by simp))
theorem x_erase {σ : sA} {x y z : Int32} : oX [eIO] (sp_erase σ x y z) := oX_if oX_K (oX_T (by simp))
theorem x_fill {σ : sA} {d x y : Int32} {v : Int64} : oX [eIA] (sp_fill σ d x y v) := oX_if (oX_T (by simp)) oX_K
theorem x_commit {σ : sA} : oX [eIO] (sp_commit σ) := oX_if oX_I (oX_T (by simp))
theorem x_open {σ : sA} {i : Int32} : oX [eIA] (sp_open σ i) := by
  unfold sp_open; split
  · exact oX_T (by simp)
  · exact oX_K
theorem x_version {σ : sA} {i w : Int32} : oX [eIA] (sp_version σ i w) := by
  unfold sp_version; split
  · exact oX_T (by simp)
  · exact oX_if oX_I (oX_if oX_I (oX_if oX_I (oX_if oX_I (oX_T (by simp)))))
theorem x_differ {σ : sA} {i j : Int32} : oX [eIA] (sp_differ σ i j) := by
  unfold sp_differ; split
  · exact oX_T (by simp)
  · split
    · exact oX_T (by simp)
    · exact oX_I
theorem x_read {σ : sA} {i : Int32} : oX [eIA, eIO] (sp_read σ i) := oX_Room (by simp) (oX_Ver (by simp) fun _ => oX_N)
theorem x_sub {σ : sA} {a d x y : Int32} : oX e3 (sp_sub σ a d x y) := oX_Room (by simp) (oX_Node (by simp) fun _ => oX_Need (by simp) (oX_Lim (by simp) oX_N))
theorem x_slice {σ : sA} {a d t : Int32} : oX e3 (sp_slice σ a d t) := oX_Room (by simp) (oX_Node (by simp) fun _ => oX_Need (by simp) (oX_Lim (by simp) oX_N))
theorem x_extend {σ : sA} {a d x y : Int32} : oX e3 (sp_extend σ a d x y) := oX_Room (by simp) (oX_Node (by simp) fun _ => oX_Need (by simp) (oX_Need (by simp) (oX_Lim (by simp) oX_N)))
theorem x_apply {σ : sA} {a op : Int32} {c : Int64} : oX e3 (sp_apply σ a op c) := oX_Room (by simp) (oX_Node (by simp) fun _ => oX_Need (by simp) (oX_Lim (by simp) oX_N))
theorem x_filter {σ : sA} {a op : Int32} {c : Int64} : oX e3 (sp_filter σ a op c) := oX_Room (by simp) (oX_Node (by simp) fun _ => oX_Need (by simp) (oX_Lim (by simp) oX_N))
theorem x_join {σ : sA} {a b op : Int32} : oX e3 (sp_join σ a b op) := oX_Room (by simp) (oX_Node (by simp) fun _ => oX_Node (by simp) fun _ => oX_Need (by simp) (oX_Need (by simp) (oX_Lim (by simp) oX_N)))
theorem x_gather {σ : sA} {a d w : Int32} : oX e3 (sp_gather σ a d w) := oX_Room (by simp) (oX_Node (by simp) fun _ => oX_Need (by simp) (oX_Lim (by simp) oX_N))
theorem x_regrid {σ : sA} {a d k w : Int32} : oX e3 (sp_regrid σ a d k w) := oX_Room (by simp) (oX_Node (by simp) fun _ => oX_Need (by simp) (oX_Lim (by simp) oX_N))
theorem x_window {σ : sA} {a d r w : Int32} : oX e3 (sp_window σ a d r w) := oX_Room (by simp) (oX_Node (by simp) fun _ => oX_Need (by simp) (oX_Lim (by simp) oX_N))
theorem x_swap {σ : sA} {a d e : Int32} : oX e3 (sp_swap σ a d e) := oX_Room (by simp) (oX_Node (by simp) fun _ => oX_Need (by simp) (oX_Lim (by simp) oX_N))
theorem x_product {σ : sA} {a b : Int32} : oX e3 (sp_product σ a b) := oX_Room (by simp) (oX_Node (by simp) fun _ => oX_Node (by simp) fun _ => oX_Need (by simp) (oX_Lim (by simp) oX_N))
theorem x_shape {σ : sA} {a w : Int32} : oX [eIA] (sp_shape σ a w) := oX_Node (by simp) fun _ => oX_Need (by simp) (oX_if oX_I (oX_if oX_I (oX_if oX_I (oX_if oX_I oX_I))))
theorem x_cell {σ : sA} {a x y z : Int32} : oX e3 (sp_cell σ a x y z) := oX_Node (by simp) fun _ => oX_if (oX_L (by simp)) (oX_T (by simp))
theorem x_all {σ : sA} {a w : Int32} : oX [eIA, eUO] (sp_all σ a w) := oX_Node (by simp) fun _ => oX_Need (by simp) (oX_L (by simp))
theorem x_count {σ : sA} {w : Int32} : oX [eIA] (sp_count σ w) := by
  unfold sp_count
  refine oX_if oX_I (oX_if oX_I (oX_if oX_I (oX_if ?_ (oX_T (by simp)))))
  split
  · exact oX_T (by simp)
  · exact oX_I
theorem vi_commit {σ : sA} : oVi (sp_commit σ) := oVi_if oVi_I oVi_T
theorem vi_version {σ : sA} {i w : Int32} : oVi (sp_version σ i w) := by
  unfold sp_version; split
  · exact oVi_T
  · exact oVi_if oVi_I (oVi_if oVi_I (oVi_if oVi_I (oVi_if oVi_I oVi_T)))
theorem vi_differ {σ : sA} {i j : Int32} : oVi (sp_differ σ i j) := by
  unfold sp_differ; split
  · exact oVi_T
  · split
    · exact oVi_T
    · exact oVi_I
theorem vi_count {σ : sA} {w : Int32} : oVi (sp_count σ w) := by
  unfold sp_count
  refine oVi_if oVi_I (oVi_if oVi_I (oVi_if oVi_I (oVi_if ?_ oVi_T)))
  split
  · exact oVi_T
  · exact oVi_I
