/-! commit -/
def aPushV (σ : sA) : sA := (σ.1, σ.2.1, aV σ ++ [(aD σ, aOf σ)], σ.2.2.2)
theorem aEnc_old {σ : sA} (h : gvS σ) {i : Nat} (hi : i < (aV σ).length) : aEnc (aPushV σ) i = aEnc σ i := by
  unfold aEnc
  by_cases c : i = 0
  · rw [if_pos c, if_pos c]
  · rw [if_neg c, if_neg c]
    have e1 : (aV (aPushV σ))[i]? = (aV σ)[i]? := List.getElem?_append_left hi
    rw [e1]
    cases hc : (aV σ)[i]? with
    | none => rfl
    | some x =>
      have h2 := (h.2.2.2.2.2.2.2 i x hc).1 (by omega)
      have e2 : (aV (aPushV σ))[x.2]? = (aV σ)[x.2]? := List.getElem?_append_left (by omega)
      simp only [e2]
      rfl
theorem aEnc_new {σ : sA} (h : gvS σ) {p : (Nat → Option Int64) × Nat} (hp : (aV σ)[aOf σ]? = some p) : aEnc (aPushV σ) (aV σ).length = encS (aD σ) p.1 (aCs σ) (aCN σ) := by
  unfold aEnc
  rw [if_neg (by have := h.2.2.1; omega)]
  have e1 : (aV (aPushV σ))[(aV σ).length]? = some (aD σ, aOf σ) := List.getElem?_concat_length
  have e2 : (aV (aPushV σ))[aOf σ]? = some p := (List.getElem?_append_left h.2.2.2.2.2.1).trans hp
  simp only [e1, e2]
  rfl
section GC
variable {G : gV} {M M' : gMem} {g : Nat} {σ : sA} {vl nl kl fr dk dn dm eV en ek : Nat} {vs ns ks : List Nat} {N N' : gN}
theorem gvB.pushV (h : gvB G M g σ vl nl kl fr dk dn dm eV en ek vs ns ks N) (hda : M (gDA G) = none) {a : Nat} {w : Option Value} (hl : lP G M vl eV a vs w M') (ha : nS N a) (h9 : nci N a = 9) (hv : nVal N a = (aM σ, aLo σ, aHi σ, 1, aD σ)) {p : (Nat → Option Int64) × Nat} (hp : (aV σ)[aOf σ]? = some p) (hx : nex N a = [.int (nI (aOf σ)), .int (nI (encS (aD σ) p.1 (aCs σ) (aCN σ)).1), .int (nI (encS (aD σ) p.1 (aCs σ) (aCN σ)).2)]) (h41 : vs.length < 41) : ∃ eV' : Nat, gvB G M' g (aPushV σ) vl nl kl fr dk dn dm eV' en ek (vs ++ [a]) ns ks N := by
  obtain ⟨b1, b2, b3, b4, b5, b6, b7, b8, b9, b10, b11, b12⟩ := h
  have x := hl.ev
  obtain ⟨-, eV', j1, j2, -⟩ := hl
  have nk : ∀ {q : Nat} {e : va_E}, M q = some e → (∀ n f, e ≠ aO G n f) → (∀ fs0, e ≠ oB 0 fs0) → ¬ (q = vl ∨ q = eV) := fun h h1 h2 z => by
    rcases z with z | z
    · exact b4.nea h h2 z
    · exact b4.ned hda h h1 z
  have no : ∀ {q ci : Nat} {fs0 : List Value}, M q = some (oB ci fs0) → ci ≠ 0 → ¬ (q = vl ∨ q = eV) := fun h h0 => nk h (fun _ _ z => by cases z) (fun _ z => by cases z; exact h0 rfl)
  have ni : ∀ {q n : Nat} {f : Nat → Int32}, M q = some (aI G n f) → ¬ (q = vl ∨ q = eV) := fun h => nk h (fun _ _ z => by simp at z) (fun _ z => by cases z)
  have nj : ∀ {q n : Nat} {f : Nat → Int64}, M q = some (aJ G n f) → ¬ (q = vl ∨ q = eV) := fun h => nk h (fun _ _ z => by simp at z) (fun _ z => by cases z)
  have oth : ∀ {a2 ed : Nat} {xs : List Nat}, isList G M a2 ed xs → a2 ≠ vl → (ed = eV → ed = gDA G) → isList G M' a2 ed xs := fun hl2 h1 h2 => by
    obtain ⟨mv, r⟩ := id hl2.2.1
    refine hl2.ev x (fun z => ?_) (fun hd z => ?_)
    · rcases z with z | z
      · exact h1 z
      · exact b4.ned hda r (fun _ _ z => by cases z) z
    · rcases z with z | z
      · obtain ⟨mv2, r2⟩ := id b4.2.1
        exact hl2.ned hda r2 (fun _ _ z => by cases z) z.symm
      · exact hd (by rw [h2 z]; exact hda)
  have hen : ∀ {ed xs a2}, isList G M a2 ed xs → (eV = ed → eV = gDA G) → eV' = ed → eV' = gDA G := fun hl2 h1 z => by
    rcases j2 with j2 | j2
    · subst j2; exact h1 z
    · subst z
      rcases hl2.2.2 with ⟨r, -⟩ | ⟨n, f, r, -⟩
      · exact r
      · rw [r] at j2; cases j2
  obtain ⟨_, _, c1, c2, c3, -, -, -, -, -, c9⟩ := id b3
  refine ⟨eV', x.keep b1 (no b1 (by decide)), b2.ev x (fun q hq => by rcases hq with ⟨_, hq⟩ | ⟨_, hq⟩; exact no hq (by decide); exact ni hq), b3.ev x (no c1 (by decide)) (nj c2) (nj c3), j1, oth b5 (Ne.symm b11.1) (fun z => by have := b11.2.2.2.1 z.symm; rw [z]; exact this), oth b6 (Ne.symm b11.2.1) (fun z => by have := b11.2.2.2.2.1 z.symm; rw [z]; exact this), ⟨b7.1, fun b k hb => (b7.2 b k hb).ev x (fun q hq => by rcases hq with ⟨_, hq⟩ | ⟨_, _, hq⟩; exact no hq (by decide); exact ni hq)⟩, nInv_list b8 b4 hda x, ⟨?_, ?_⟩, b10, ⟨b11.1, b11.2.1, b11.2.2.1, hen b5 b11.2.2.2.1, hen b6 b11.2.2.2.2.1, b11.2.2.2.2.2⟩, b12.1, b12.2.1, ?_, ?_, b12.2.2.2.2.1, ?_, b12.2.2.2.2.2.2.1, ?_⟩
  · show (vs ++ [a]).length = (aV σ ++ [_]).length
    rw [List.length_append, List.length_append, b9.1]; rfl
  · intro i a2 c h1 h2
    have h3 : (aV σ ++ [(aD σ, aOf σ)])[i]? = some c := h2
    rcases lst_end h1 with h1 | ⟨rfl, rfl⟩
    · have hi := (List.getElem?_eq_some_iff.mp h1).1
      rw [b9.1] at hi
      rw [List.getElem?_append_left hi] at h3
      obtain ⟨q1, q2, q3, q4⟩ := b9.2 i a2 c h1 h3
      exact ⟨q1, q2, q3, by rw [aEnc_old b12 hi]; exact q4⟩
    · rw [b9.1, List.getElem?_concat_length] at h3; cases h3
      refine ⟨ha, h9, hv, ?_⟩
      rw [hx, b9.1, aEnc_new b12 hp]
      unfold aPar
      rw [if_neg (by have := b12.2.2.1; omega)]
  · show 1 ≤ (aV σ ++ [_]).length
    rw [List.length_append]; simp
  · show (aV σ ++ [_]).length ≤ 41
    rw [List.length_append, ← b9.1]; simp; omega
  · show aOf σ < (aV σ ++ [_]).length
    have := b12.2.2.2.2.2.1
    rw [List.length_append]; simp; omega
  · intro i c hc
    have h3 : (aV σ ++ [(aD σ, aOf σ)])[i]? = some c := hc
    rcases lst_end h3 with h3 | ⟨rfl, rfl⟩
    · exact b12.2.2.2.2.2.2.2 i c h3
    · exact ⟨fun _ => b12.2.2.2.2.2.1, c9⟩
end GC

set_option maxRecDepth 20000 in
theorem c_commit {l : Launch} {G : gV} {M : gMem} {g : Nat} {σ : sA} (hl : l.stackTraces = false) (h : isGV G M g σ) : xC l G yX11_commit cX11_commit 2 (some .int) 8 8 4400 [.ref g] M (gzP G g (sp_commit σ)) (gzE G g (sp_commit σ)) := by
  refine xC_of (by decide +kernel) (Nat.le_of_ble_eq_true rfl) (fun F hF X hN hr hn => ?_)
  subst hF
  have X : qX G F cX11_commit 2 RX11 8 := X
  obtain ⟨vl, nl, kl, fr, dk, dn, dm, ev, en, ek, vs, ns, ks, N, hB⟩ := id h
  obtain ⟨b1, b2, b3, b4, b5, b6, b7, b8, b9, b10, b11, b12⟩ := id hB
  have hG : M g = some (oB 11 [.ref vl, .ref nl, .ref kl, .ref fr, .ref dk, .int (nI (aOf σ)), .int (nI (aBg σ))]) := b1
  obtain ⟨sb, sc, sd, sp, s1, -⟩ := id b2
  obtain ⟨cn1, cm1, d1, d2, d3, -⟩ := id b3
  obtain ⟨mvv, vL1⟩ := id b4.2.1
  obtain ⟨mvn, nL1⟩ := id b5.2.1
  obtain ⟨mvk, kL1⟩ := id b6.2.1
  have hvl : vs.length = (aV σ).length := b9.1
  have hnl : ns.length = (aN σ).length := b10.1
  have hz := b12.sz
  have l41 := b12.2.2.2.1
  have l150 := b12.2.2.2.2.1
  have lof := b12.2.2.2.2.2.1
  show qJ G F _ 2 M 8 4400 0 [(0, .ref g)] []
  refine q_aload_n X dX11_commit_0 0 rfl ?_
  refine q_get X hG rfl in_RX11 0 (by decide) tw_277 rfl rfl dX11_commit_1 ?_
  refine q_callF X (x := ⟨"java/util/List", "size", "()I"⟩) (c_list_size b4) Y_Jx4a65c_size_8abf5 tw_471 tw_474 tw_476 tn_473 tn_472 tn_477 tn_475 tn_137 (by decide +kernel) vL1 rfl (by omega) rfl rfl (Nat.le_of_ble_eq_true rfl) (Nat.le_refl _) (Nat.le_refl _) dX11_commit_4 (fun v M' hp _ => ?_)
  obtain ⟨rfl, eM⟩ := hp
  rw [eM]
  clear eM
  show qJ G F _ 2 M _ _ 9 [(0, .ref g)] [.int (nI vs.length)]
  refine q_bipush (v := 41) X dX11_commit_9 (by decide) ?_
  refine q_icmp_lt X 24 dX11_commit_11 (by decide) (fun c0 => ?_) (fun c0 => ?_)
  · have k41 := (nI_ltk (k := 41) (by omega) (by decide)).mp c0
    refine q_new X (ci := 9) rfl in_RX9 tyX9 tyX9_ok tw_143 tw_144 tw_9 (fs0 := [.null, .int 0, .null, .null, .int 0, .int 0, .int 0]) (fun j hj => by rcases (show j = 0 ∨ j = 1 ∨ j = 2 ∨ j = 3 ∨ j = 4 ∨ j = 5 ∨ j = 6 by omega) with rfl | rfl | rfl | rfl | rfl | rfl | rfl <;> rfl) (rc' := 7) (rs' := 4393) (by omega) (by omega) dX11_commit_24 (fun q fq => ?_)
    have n_1 : g ≠ q := g_nef hG fq
    have m_2 : (mU M q (oB 9 [.null, .int 0, .null, .null, .int 0, .int 0, .int 0])) g = some (oB 11 [.ref vl, .ref nl, .ref kl, .ref fr, .ref dk, .int (nI (aOf σ)), .int (nI (aBg σ))]) := (mU_n n_1).trans hG
    have n_3 : fr ≠ q := g_nef s1 fq
    have m_4 : (mU M q (oB 9 [.null, .int 0, .null, .null, .int 0, .int 0, .int 0])) fr = some (oB 7 [.int (nI (aM σ)), .ref sb, .ref sc, .ref sp.2.1, .ref sd, .int (sL (aLo σ) (aHi σ) 0 * sL (aLo σ) (aHi σ) 1 * sL (aLo σ) (aHi σ) 2)]) := (mU_n n_3).trans s1
    have n_5 : dk ≠ q := g_nef d1 fq
    have m_6 : (mU M q (oB 9 [.null, .int 0, .null, .null, .int 0, .int 0, .int 0])) dk = some (oB 1 [.ref dn, .ref dm]) := (mU_n n_5).trans d1
    have n_7 : vl ≠ q := g_nef vL1 fq
    have m_8 : (mU M q (oB 9 [.null, .int 0, .null, .null, .int 0, .int 0, .int 0])) vl = some (oB 0 [.int mvv, .ref ev, .int (nI vs.length)]) := (mU_n n_7).trans vL1
    have n_9 : nl ≠ q := g_nef nL1 fq
    have m_10 : (mU M q (oB 9 [.null, .int 0, .null, .null, .int 0, .int 0, .int 0])) nl = some (oB 0 [.int mvn, .ref en, .int (nI ns.length)]) := (mU_n n_9).trans nL1
    have n_11 : kl ≠ q := g_nef kL1 fq
    have m_12 : (mU M q (oB 9 [.null, .int 0, .null, .null, .int 0, .int 0, .int 0])) kl = some (oB 0 [.int mvk, .ref ek, .int (nI ks.length)]) := (mU_n n_11).trans kL1
    have m_13 : (mU M q (oB 9 [.null, .int 0, .null, .null, .int 0, .int 0, .int 0])) q = some (oB 9 [.null, .int 0, .null, .null, .int 0, .int 0, .int 0]) := mU_s
    have hvN : sz3 (aLo σ) (aHi σ) ≤ 4096 := hz
    have hS1 : isShape G (mU M q (oB 9 [.null, .int 0, .null, .null, .int 0, .int 0, .int 0])) fr (nI (aM σ)) (aLo σ) (aHi σ) := b2.ext (mExt_new fq)
    have fq9 := fq
    refine q_dup X dX11_commit_27 rfl ?_
    refine q_aload_n X dX11_commit_28 0 rfl ?_
    refine q_get X m_2 rfl in_RX11 3 (by decide) tw_280 rfl rfl dX11_commit_29 ?_
    refine q_aload_n X dX11_commit_32 0 rfl ?_
    refine q_get X m_2 rfl in_RX11 5 (by decide) tw_282 rfl rfl dX11_commit_33 ?_
    refine q_callI X (c_X9_init (p := nI (aOf σ)) hS1 b12.1 hvN mU_s) Y_X9_init tw_145 tw_146 rfl (by omega) rfl rfl (Nat.le_of_ble_eq_true rfl) (rc' := 3) (rs' := 151) (by omega) (by unfold aSz at hz; omega) dX11_commit_36 (fun v M' hp _ => ?_)
    obtain ⟨rfl, cl, nb, mb, aa, i1, i2, i3, i4, i5, i6, i7, i8, i9, i10⟩ := hp
    generalize M' = M2 at *
    show qJ G F _ 2 M2 3 151 39 [(0, .ref g)] [.ref q]
    have ev2 : mEv (fun _ => False) M M2 := fun x hx => by
      have n : x ≠ q := fun z => hx (z ▸ fq9)
      have e : M2 x = M x := (i10 x n (by rw [mU_n n]; exact hx)).trans (mU_n n)
      exact ⟨by rw [e]; exact hx, fun _ => e⟩
    have hB2 := hB.ev ev2
    have nf : ∀ {x : Nat}, (mU M q (oB 9 [.null, .int 0, .null, .null, .int 0, .int 0, .int 0])) x = none → M x = none := fun h => (mEv_new (K := fun _ => False) fq9).none h
    have n4 := nf i4
    have n5 := nf i5
    have n6 := nf i6
    have n7 := nf i7
    have hG2 : M2 g = some (oB 11 [.ref vl, .ref nl, .ref kl, .ref fr, .ref dk, .int (nI (aOf σ)), .int (nI (aBg σ))]) := hB2.1
    obtain ⟨c1, c2, c3, c4, c5, c6, c7, c8, c9, c10, c11, c12⟩ := id hB2
    obtain ⟨_, _, e1, e2, e3, -⟩ := id c3
    obtain ⟨_, eK⟩ := id c6.2.1
    obtain ⟨_, eVv⟩ := id c4.2.1
    refine q_astore_n (lv' := [(1, .ref q), (0, .ref g)]) X dX11_commit_39 (by decide) rfl ?_
    refine q_aload_n X dX11_commit_40 0 rfl ?_
    refine q_aload_n X dX11_commit_41 1 rfl ?_
    refine q_get X hG2 rfl in_RX11 4 (by decide) tw_281 rfl rfl dX11_commit_42 ?_
    refine q_aload_n X dX11_commit_45 1 rfl ?_
    refine q_aload_n X dX11_commit_46 1 rfl ?_
    refine q_get X hG2 rfl in_RX11 5 (by decide) tw_282 rfl rfl dX11_commit_47 ?_
    refine x_callV X (c_versionAt hl hG2 c4 hB2.verO) Y_X11_versionAt tw_480 tw_482 sel_8 hG2 rfl (by omega) rfl rfl (Nat.le_of_ble_eq_true rfl) (rc' := 2) (rs' := 145) (by omega) (by omega) dX11_commit_50 (fun v M' hp _ => ?_) (fun E M' hx => t_out X hN (by obtain ⟨-, q, -⟩ := hx; rw [hvl] at q; exact absurd q (fun q => by rcases q with q | q; exact nI_pos (by omega) q; exact nI_ge lof (by omega) q)))
    obtain ⟨j, b, ej, hb, rfl, eM⟩ := hp
    rw [eM]
    clear eM
    obtain ⟨p, hpp, hj41, hSb, hib, hCb, hOb⟩ := hB2.ver hb
    have ej2 := nI_inj (show aOf σ < 2 ^ 31 by omega) (show j < 2 ^ 31 by omega) ej
    rw [← ej2] at hpp
    show qJ G F _ 2 M2 2 145 53 [(1, .ref q), (0, .ref g)] [.ref b, .ref dk, .ref q]
    have ne : ∀ {x y : Nat} {e : va_E}, M x = none → M y = some e → x ≠ y := fun h1 h2 z => by rw [z, h2] at h1; cases h1
    obtain ⟨p1, -, pc0, pa0, pC, -⟩ := b8.1 b hSb
    obtain ⟨_, _, pC1, pC2, pC3, -⟩ := pC
    have hKs : ∀ (i k : Nat), ks[i]? = some k → ∃ c : Nat × (Nat → Nat), (aCs σ)[i]? = some c ∧ isChunk G M2 k c.1 (aSz σ) c.2 := fun i k hi => ⟨_, aCs_at (by rw [← c7.1]; exact (List.getElem?_eq_some_iff.mp hi).1), c7.2 i k hi⟩
    refine q_aload_n X dX11_commit_53 1 rfl ?_
    refine q_get X hG2 rfl in_RX11 2 (by decide) tw_279 rfl rfl dX11_commit_54 ?_
    refine q_callV X (c_X9_encode i1 i2 c3 hOb (Ne.symm (ne fq9 p1.2.1)) hCb c6 hKs (ne n5 d2) (ne n5 d3) (ne n6 d2) (ne n6 d3) (ne n5 pC2) (ne n5 pC3) (ne n6 pC2) (ne n6 pC3)) Y_X9_encode tw_503 tw_504 tw_505 i1 rfl (by omega) rfl rfl (Nat.le_of_ble_eq_true rfl) (rc' := 2) (rs' := 145) (by omega) (by omega) dX11_commit_57 (fun v M' hp _ => ?_)
    obtain ⟨rfl, m1, m2, m3⟩ := hp
    generalize M' = M3 at *
    show qJ G F _ 2 M3 2 145 60 [(1, .ref q), (0, .ref g)] []
    rw [c7.1] at m1
    have ev3 : mEv (fun _ => False) M M3 := fun x hx => by
      have e2 := ev2 x hx
      have e : M3 x = M2 x := m3 x (fun z => hx (z ▸ fq9)) (fun z => hx (z ▸ n5)) (fun z => hx (z ▸ n6))
      exact ⟨by rw [e]; exact e2.1, fun _ => e.trans (e2.2 id)⟩
    obtain ⟨N2, eN2⟩ : ∃ N2, N2 = nAdd N q 9 [.int (nI (aOf σ)), .int (nI (encS (aD σ) p.1 (aCs σ) (aCN σ)).1), .int (nI (encS (aD σ) p.1 (aCs σ) (aCN σ)).2)] (aM σ) (aLo σ) (aHi σ) fr 1 cl nb mb aa 0 (aD σ) := ⟨_, rfl⟩
    have at2 := nAdd_at eN2
    obtain ⟨t1, t2, t3, t4, t5, t6, t7, t8, t9, t10, t11, t12, t13⟩ := id at2
    have tz : nsz N2 q = aSz σ := by unfold nsz aSz; rw [t4, t5]
    have hst : nStat G M3 N2 q := by
      unfold nStat
      rw [t1, t2, t3, t4, t5, t6, t7, t8, t9, t10, t11, tz]
      obtain ⟨_, _, mc1, -⟩ := id m2
      exact ⟨by unfold isNC; omega, m1, b2.ev ev3 (fun _ _ => id), b12.1, hz, Nat.le_refl _, by decide, mc1⟩
    have hkd : nKind G M3 N2 q := Or.inl ⟨t1, _, _, _, t2⟩
    have hch : nCache G M3 N2 (fun _ _ => False) q := by
      refine ⟨aD σ, fun _ => 0, by rw [t8, t9, t10, tz]; exact m2, ?_, fun i hi => ⟨fun _ => by rw [t13], fun z => absurd t1 z⟩⟩
      rw [t11, tz, m3 aa (fun z => by rw [z, i1] at i3; cases i3) (Ne.symm i8) (Ne.symm i9)]; exact i3
    have dnm : nb ≠ mb := by obtain ⟨_, _, -, -, -, h9, -⟩ := i2; exact h9
    have hI2 : nInv G M3 N2 (fun _ _ => False) := nInv_add b8 eN2 fq9 n5 n6 n7 (fun z => absurd z (by decide)) ev3 hst hkd hch dnm i8 i9
    have hS2 : ∀ y, nS N y → nS N2 y ∧ nEq N N2 y := fun y hy => ⟨by rw [eN2]; exact Or.inr hy, by rw [eN2]; exact nAdd_ne (fun z => by have := (b8.1 y hy).1.2.1; rw [z, fq9] at this; cases this)⟩
    have adr : ∀ {d x : Nat}, nAdr N2 d x → M x ≠ none → nAdr N d x := fun hx hn => by
      obtain ⟨y, y1, y2, y3⟩ := hx
      by_cases yq : y = q
      · subst yq; rw [t1, t9, t10, t11] at y3; rcases y3 with y3 | y3 | y3 | y3
        · exact absurd n5 (y3 ▸ hn)
        · exact absurd n6 (y3 ▸ hn)
        · exact absurd n7 (y3 ▸ hn)
        · exact absurd y3.1 (by decide)
      · have y0 : nS N y := by rw [eN2] at y1; exact y1.resolve_left yq
        obtain ⟨f1, -, -, -, -, -, f7, -, f9, f10, f11, f12, -⟩ := (hS2 y y0).2
        rw [f7] at y2; rw [f1, f9, f10, f11, f12] at y3
        exact ⟨y, y0, y2, y3⟩
    have hB3 : gvB G M3 g σ vl nl kl fr dk dn dm ev en ek vs ns ks N2 := hB.grow ev3 hI2 hS2 (fun d => ⟨fun z => (b11.2.2.2.2.2.2 d).1 (adr z (g_so d2)), fun z => (b11.2.2.2.2.2.2 d).2 (adr z (g_so d3))⟩)
    have hSq : nS N2 q := by rw [eN2]; exact Or.inl rfl
    have hG3 : M3 g = some (oB 11 [.ref vl, .ref nl, .ref kl, .ref fr, .ref dk, .int (nI (aOf σ)), .int (nI (aBg σ))]) := hB3.1
    have c43 := hB3.2.2.2.1
    obtain ⟨_, eV3⟩ := id c43.2.1
    refine q_da X (fun hda3 => ?_)
    refine q_aload_n X dX11_commit_60 1 rfl ?_
    refine q_get X hG3 rfl in_RX11 0 (by decide) tw_277 rfl rfl dX11_commit_61 ?_
    refine q_aload_n X dX11_commit_64 0 rfl ?_
    refine q_callF X (x := ⟨"java/util/List", "add", "(Ljava/lang/Object;)Z"⟩) (c_list_add (v := q) (ms := 100) c43 (node_okE hst) (fun y hy => by obtain ⟨i, hi⟩ := List.getElem?_of_mem hy; obtain ⟨-, -, -, hSy, -⟩ := hB3.ver hi; exact node_okE (hI2.1 y hSy).1) (by omega) (by omega)) Y_Jx4a65c_add_9ea2d tw_179 tw_182 tw_184 tn_181 tn_180 tn_185 tn_183 tn_137 (by decide +kernel) eV3 rfl (by omega) rfl rfl (Nat.le_of_ble_eq_true rfl) (rc' := 1) (rs' := 45) (by omega) (by omega) dX11_commit_65 (fun v M' hp _ => ?_)
    have hp0 := hp
    obtain ⟨rfl, -⟩ := hp
    generalize M' = M4 at *
    show qJ G F _ 2 M4 1 45 70 [(1, .ref q), (0, .ref g)] [.int 1]
    obtain ⟨eV4, hB4⟩ := hB3.pushV hda3 hp0 hSq t1 (by unfold nVal; rw [t3, t4, t5, t7, t13]) hpp t2 k41
    have hG4 : M4 g = some (oB 11 [.ref vl, .ref nl, .ref kl, .ref fr, .ref dk, .int (nI (aOf σ)), .int (nI (aBg σ))]) := hB4.1
    obtain ⟨_, eV5⟩ := id hB4.2.2.2.1.2.1
    refine q_pop X dX11_commit_70 rfl ?_
    refine q_aload_n X dX11_commit_71 1 rfl ?_
    refine q_aload_n X dX11_commit_72 1 rfl ?_
    refine q_get X hG4 rfl in_RX11 0 (by decide) tw_277 rfl rfl dX11_commit_73 ?_
    refine q_callF X (x := ⟨"java/util/List", "size", "()I"⟩) (c_list_size hB4.2.2.2.1) Y_Jx4a65c_size_8abf5 tw_471 tw_474 tw_476 tn_473 tn_472 tn_477 tn_475 tn_137 (by decide +kernel) eV5 rfl (by omega) rfl rfl (Nat.le_of_ble_eq_true rfl) (Nat.le_refl _) (Nat.le_refl _) dX11_commit_76 (fun v M' hp _ => ?_)
    obtain ⟨rfl, eM⟩ := hp
    rw [eM]
    clear eM
    show qJ G F _ 2 M4 _ _ 81 [(1, .ref q), (0, .ref g)] [.int (nI (vs ++ [q]).length), .ref g]
    rw [show (vs ++ [q]).length = vs.length + 1 from by simp]
    refine q_iconst (v := 1) X dX11_commit_81 (by decide) ?_
    refine q_isub X dX11_commit_82 ?_
    rw [show nI (vs.length + 1) - 1 = nI vs.length from by rw [← nI_1, Int32.add_sub_cancel]]
    refine q_put X hG4 rfl in_RX11 tyX11 tyX11_ok nmX11 5 (by decide) tw_282 rfl rfl rfl rfl rfl (Nat.le_of_ble_eq_true rfl) (fs1 := [.ref vl, .ref nl, .ref kl, .ref fr, .ref dk, .int (nI vs.length), .int (nI (aBg σ))]) rfl dX11_commit_83 ?_
    have m_14 : (mU M4 g (oB 11 [.ref vl, .ref nl, .ref kl, .ref fr, .ref dk, .int (nI vs.length), .int (nI (aBg σ))])) g = some (oB 11 [.ref vl, .ref nl, .ref kl, .ref fr, .ref dk, .int (nI vs.length), .int (nI (aBg σ))]) := mU_s
    refine q_aload_n X dX11_commit_86 1 rfl ?_
    refine q_get X m_14 rfl in_RX11 5 (by decide) tw_282 rfl rfl dX11_commit_87 ?_
    exact x_ret (q_iret X hr dX11_commit_90 (gzP_K (by unfold sp_commit; rw [← hvl, if_pos k41]; rfl) ⟨vl, nl, kl, fr, dk, dn, dm, eV4, en, ek, vs ++ [q], ns, ks, N2, hB4.obj (o := vs.length) (b := aBg σ) (by rw [hvl]; show (aV σ).length < (aV σ ++ [_]).length; rw [List.length_append]; simp) b12.2.2.2.2.2.2.1⟩))
  · have k41 := mt (nI_ltk (k := 41) (n := vs.length) (by omega) (by decide)).mpr c0
    exact x_throw X rfl hN hl xe_IO tw_412 tw_21 (s_89 X) dX11_commit_14 dX11_commit_17 dX11_commit_18 dX11_commit_20 dX11_commit_23 (by omega) (Nat.le_of_ble_eq_true rfl) (by omega) (by omega) (gzE_T (by unfold sp_commit; rw [← hvl, if_neg k41]) h)
