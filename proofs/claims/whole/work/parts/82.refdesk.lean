/-! the reference: put, erase, differ, count, open -/
section
variable {G : gV} {F : gF} {nL : Nat} {k : Nat} {cc : ByteArray} {own : String}
/-- rows of ints and rows of booleans are of two classes -/
theorem cI_ne (X : qX G F cc nL own k) : G.2.1 0 ≠ G.2.1 2 := fun e => by
  obtain ⟨-, k1, hk1, comp1, e1⟩ := (X.2.2.2.2.2.1.1.2 0 (G.2.1 0, .int) rfl).1 0 (fun _ => .int 0)
  obtain ⟨-, k2, hk2, comp2, e2⟩ := (X.2.2.2.2.2.1.1.2 2 (G.2.1 2, .boolean) rfl).1 0 (fun _ => .int 0)
  have hk1 : (fs F).vm.classes[G.2.1 0]? = some k1 := hk1
  have hk2 : (fs F).vm.classes[G.2.1 2]? = some k2 := hk2
  rw [← e, hk1] at hk2
  cases hk2
  rw [e1] at e2
  cases e2
end
theorem g_neIZ {G : gV} {M : gMem} {a b n m : Nat} {f g : Nat → Int32} (hc : G.2.1 0 ≠ G.2.1 2) (h1 : M a = some (aI G n f)) (h2 : M b = some (aZ G m g)) : a ≠ b := fun z => by
  rw [z, h2] at h1
  exact hc (Prod.mk.inj (Sum.inl.inj (Option.some.inj h1))).1.symm
section RC
variable {G : gV} {M M' : gMem} {r : Nat} {e : Int32} {σ : sA} {vA nA pA plA dg dla dha dva dza : Nat} {dvf : Nat → Int64} {dzf : Nat → Int32} {vf nf : Nat → Option Nat} {pf : Nat → Int32} {tk : Int32} {su le gr : Int64}
/-- the desk's cells change -/
theorem rfC.desk (hc : G.2.1 0 ≠ G.2.1 2) (h : rfC G M σ vA nA pA plA dg dla dha dva dza dvf dzf vf nf pf) {D : Nat → Option Int64} {dvf2 : Nat → Int64} {dzf2 : Nat → Int32} (h1 : M' dva = some (aJ G (aSz σ) dvf2)) (h2 : M' dza = some (aZ G (aSz σ) dzf2)) (hm : ∀ q, q ≠ dva → q ≠ dza → M' q = M q) (hct : gCt (aSz σ) dvf2 dzf2 D) : rfC G M' (aSetD σ D) vA nA pA plA dg dla dha dva dza dvf2 dzf2 vf nf pf := by
  have hb := h.nb
  obtain ⟨c1, c2, c3, ⟨xx, c4⟩, c5, c6, c7, c8, c9, c10⟩ := h
  obtain ⟨d0, d1, d2, d3, d4, d5⟩ := c5
  have gm : ∀ {a w}, isGrd G M (rBad plA pA dva dza) a w → isGrd G M' (rBad plA pA dva dza) a w := fun hg => hg.mv (fun q x hq hx hB => (hm q (fun z => hB (Or.inr (Or.inr (Or.inl z)))) (fun z => hB (Or.inr (Or.inr (Or.inr z))))).trans hq) hb
  refine ⟨(hm _ (g_neaa c1 d3 (fun z => by simp at z)) (g_neaa c1 d4 (fun z => by simp at z))).trans c1, (hm _ (g_neaa c2 d3 (fun z => by simp at z)) (g_neaa c2 d4 (fun z => by simp at z))).trans c2, (hm _ (g_neaa c3 d3 (fun z => by simp at z)) (Ne.symm c6.2.2.2.2.2)).trans c3, ⟨xx, (hm _ (g_neaa c4 d3 (fun z => by simp at z)) (Ne.symm c6.2.2.2.2.1)).trans c4⟩, ⟨(hm _ (g_neoa d0 d3) (g_neoa d0 d4)).trans d0, (hm _ (g_neaa d1 d3 (fun z => by simp at z)) (g_neIZ hc d1 d4)).trans d1, (hm _ (g_neaa d2 d3 (fun z => by simp at z)) (g_neIZ hc d2 d4)).trans d2, h1, h2, hct⟩, c6, fun i c hi => ?_, fun i w hw => ?_, c9, c10⟩
  · obtain ⟨a, q1, q2, q3⟩ := c7 i c hi
    exact ⟨a, q1, gm q2, q3⟩
  · obtain ⟨a, q1, q2⟩ := c8 i w hw
    exact ⟨a, q1, gm q2⟩
theorem rfB.desk (hc : G.2.1 0 ≠ G.2.1 2) (h : rfB G M r e σ vA nA pA plA dg dla dha dva dza dvf dzf vf nf pf tk su le gr) {D : Nat → Option Int64} {dvf2 : Nat → Int64} {dzf2 : Nat → Int32} (h1 : M' dva = some (aJ G (aSz σ) dvf2)) (h2 : M' dza = some (aZ G (aSz σ) dzf2)) (hm : ∀ q, q ≠ dva → q ≠ dza → M' q = M q) (hct : gCt (aSz σ) dvf2 dzf2 D) : rfB G M' r e (aSetD σ D) vA nA pA plA dg dla dha dva dza dvf2 dzf2 vf nf pf tk su le gr :=
  ⟨(hm r (g_neoa h.1 h.2.2.2.2.2.1.2.2.2.1) (g_neoa h.1 h.2.2.2.2.2.1.2.2.2.2.1)).trans h.1, h.2.desk hc h1 h2 hm hct⟩
/-- the object's own cell changes -/
theorem rfB.rx (h : rfB G M r e σ vA nA pA plA dg dla dha dva dza dvf dzf vf nf pf tk su le gr) {x : va_E} : rfC G (mU M r x) σ vA nA pA plA dg dla dha dva dza dvf dzf vf nf pf := by
  obtain ⟨h1, h2⟩ := h
  have nr : ∀ q x, M q = some x → (∀ fs, x ≠ oB 13 fs) → q ≠ r := fun q x hq hx z => by rw [z, h1] at hq; cases hq; exact hx _ rfl
  obtain ⟨xx, c4⟩ := h2.2.2.2.1
  exact h2.mv (fun q x hq hx _ => (mU_n (nr q x hq hx)).trans hq) ⟨xx, (mU_n (nr _ _ c4 (fun _ z => by cases z))).trans c4⟩
theorem rfB.of (h : rfB G M r e σ vA nA pA plA dg dla dha dva dza dvf dzf vf nf pf tk su le gr) (o : Nat) : rfB G (mU M r (rfO e vA nA pA plA dg (aSetO σ o) tk su le gr)) r e (aSetO σ o) vA nA pA plA dg dla dha dva dza dvf dzf vf nf pf tk su le gr := ⟨mU_s, h.rx⟩
end RC
theorem gCt_set {n : Nat} {vf : Nat → Int64} {zf : Nat → Int32} {den : Nat → Option Int64} (h : gCt n vf zf den) {j : Nat} {v : Int64} : gCt n (vp_updL vf j v) (upd zf j 1) (cSet den j v) := fun i hi => by
  have q := h i hi
  unfold vp_updL upd cSet
  by_cases c : i = j
  · rw [if_pos c, if_pos c, if_pos c]; exact ⟨rfl, fun w hw => by cases hw; rfl⟩
  · rw [if_neg c, if_neg c, if_neg c]; exact q
theorem gCt_del {n : Nat} {vf : Nat → Int64} {zf : Nat → Int32} {den : Nat → Option Int64} (h : gCt n vf zf den) {j : Nat} : gCt n vf (upd zf j 0) (cDel den j) := fun i hi => by
  have q := h i hi
  unfold upd cDel
  by_cases c : i = j
  · rw [if_pos c, if_pos c]; exact ⟨rfl, fun w hw => by cases hw⟩
  · rw [if_neg c, if_neg c]; exact q
theorem desk_in {σ : sA} (h : gvS σ) {x y z : Int32} (c : ¬ gIn (aLo σ) (aHi σ) x (c1n (aM σ) y) (c2n (aM σ) z) = 0) : ∃ j, j < aSz σ ∧ 0 ≤ aIx σ x y z ∧ (aIx σ x y z).toNatClampNeg = j ∧ gAt (aLo σ) (aHi σ) x (c1n (aM σ) y) (c2n (aM σ) z) = nI j := by
  have hz := h.sz
  have hs := (gIn_S h.1).mp c
  have lt := ixS_lt h.1 hs
  have hz2 : sz3 (aLo σ) (aHi σ) ≤ 4096 := hz
  refine ⟨_, lt, ?_, ?_, gAt_S h.1 hs⟩
  · unfold aIx; rw [sIdx_in h.1 rfl (by omega) hs, Int32.le_iff_toInt_le, nI_toInt (by omega)]; rw [z_toInt]; omega
  · unfold aIx; rw [sIdx_in h.1 rfl (by omega) hs, nI_nn (by omega)]
theorem desk_out {σ : sA} (h : gvS σ) {x y z : Int32} (c : gIn (aLo σ) (aHi σ) x (c1n (aM σ) y) (c2n (aM σ) z) = 0) : ¬ 0 ≤ aIx σ x y z := by
  have hz2 : sz3 (aLo σ) (aHi σ) ≤ 4096 := h.sz
  have hs : ¬ inS (aM σ) (aLo σ) (aHi σ) x y z := fun q => (gIn_S h.1).mpr q c
  unfold aIx; rw [sIdx_out h.1 rfl (by omega) hs]; decide
theorem cOne_1 {E : String} : cOne E = 1 := rfl
theorem sm_y1 {n : Nat} {vf vf2 : Nat → Int64} {zf zf2 : Nat → Int32} {f g : Nat → Option Int64} (h : gCt n vf zf f) (h2 : gCt n vf2 zf2 g) {j : Nat} (hj : j < n) (a : zf j = zf2 j) (b : zf j = 0) : f j = g j := by
  rw [ct_none h hj b, ct_none h2 hj (a ▸ b)]
theorem sm_y2 {n : Nat} {vf vf2 : Nat → Int64} {zf zf2 : Nat → Int32} {f g : Nat → Option Int64} (h : gCt n vf zf f) (h2 : gCt n vf2 zf2 g) {j : Nat} (hj : j < n) (a : zf j = zf2 j) (b : ¬ zf j = 0) (e : vf j = vf2 j) : f j = g j := by
  rw [ct_some h hj b, ct_some h2 hj (a ▸ b), e]
theorem sm_n1 {n : Nat} {vf vf2 : Nat → Int64} {zf zf2 : Nat → Int32} {f g : Nat → Option Int64} (h : gCt n vf zf f) (h2 : gCt n vf2 zf2 g) {j : Nat} (hj : j < n) (a : ¬ zf j = zf2 j) : ¬ f j = g j := fun z => a (by rw [(h j hj).1, (h2 j hj).1, z])
theorem sm_n2 {n : Nat} {vf vf2 : Nat → Int64} {zf zf2 : Nat → Int32} {f g : Nat → Option Int64} (h : gCt n vf zf f) (h2 : gCt n vf2 zf2 g) {j : Nat} (hj : j < n) (a : zf j = zf2 j) (b : ¬ zf j = 0) (e : ¬ vf j = vf2 j) : ¬ f j = g j := fun z => e (by
  have q := ct_some h hj b; have q2 := ct_some h2 hj (a ▸ b); rw [z, q2] at q; exact (Option.some.inj q).symm)

set_option maxRecDepth 20000 in
theorem c_atDesk0 {l : Launch} {G : gV} {M : gMem} {r dg dla dha m : Nat} {w0 w1 w2 w3 w4 w6 w7 w8 w9 w10 w11 w12 w13 u1 u4 u5 : Value} {lo hi : Nat → Int32} {x y z : Int32} (hA : M r = some (oB 13 [w0, w1, w2, w3, w4, .ref dg, w6, w7, w8, w9, w10, w11, w12, w13])) (hD : M dg = some (oB 12 [.int (nI m), u1, .ref dla, .ref dha, u4, u5])) (hL : M dla = some (aI G 3 lo)) (hH : M dha = some (aI G 3 hi)) (hm3 : m ≤ 3) : qC l G yX13_atDesk cX13_atDesk 4 (some .int) 3 0 0 [.ref r, .int x, .int y, .int z] M (pP (.int (gAt lo hi x (c1n m y) (c2n m z))) M) := by
  refine qC_of (by decide +kernel) (Nat.le_of_ble_eq_true rfl) (fun F hF X hr hn => ?_)
  subst hF
  have X : qX G F cX13_atDesk 4 RX13 3 := X
  show qJ G F _ 4 M 0 0 0 [(0, .ref r), (1, .int x), (2, .int y), (3, .int z)] []
  refine q_aload_n X dX13_atDesk_0 0 rfl ?_
  refine q_get X hA rfl in_RX13 5 (by decide) tw_1199 rfl rfl dX13_atDesk_1 ?_
  refine q_iload_n X dX13_atDesk_4 1 rfl ?_
  refine q_aload_n X dX13_atDesk_5 0 rfl ?_
  refine q_get X hA rfl in_RX13 5 (by decide) tw_1199 rfl rfl dX13_atDesk_6 ?_
  refine q_get X hD rfl in_RX12 0 (by decide) tw_1156 rfl rfl dX13_atDesk_9 ?_
  refine q_iconst (v := 1) X dX13_atDesk_12 (by decide) ?_
  refine q_icmp_le X 20 dX13_atDesk_13 (by decide) (fun c1 => ?_) (fun c1 => ?_)
  · refine q_iconst (v := 0) X dX13_atDesk_20 (by decide) ?_
    refine q_aload_n X dX13_atDesk_21 0 rfl ?_
    refine q_get X hA rfl in_RX13 5 (by decide) tw_1199 rfl rfl dX13_atDesk_22 ?_
    refine q_get X hD rfl in_RX12 0 (by decide) tw_1156 rfl rfl dX13_atDesk_25 ?_
    refine q_iconst (v := 2) X dX13_atDesk_28 (by decide) ?_
    refine q_icmp_le X 36 dX13_atDesk_29 (by decide) (fun c2 => ?_) (fun c2 => ?_)
    · refine q_iconst (v := 0) X dX13_atDesk_36 (by decide) ?_
      refine q_callVp X (c_X12_at hD hL hH) Y_X12_at tw_1269 tw_1270 tw_1271 hD rfl (by omega) rfl rfl (Nat.le_of_ble_eq_true rfl) dX13_atDesk_37 ?_
      exact q_iret X hr dX13_atDesk_40 (⟨congrArg (fun z => some (Value.int z)) (by unfold c1n c2n; rw [if_neg (show ¬ 1 < m from Nat.not_lt.mpr ((m_le (k := 1) hm3 (by decide)).mp c1)), if_neg (show ¬ 2 < m from Nat.not_lt.mpr ((m_le (k := 2) hm3 (by decide)).mp c2))]), rfl⟩)
    · refine q_iload_n X dX13_atDesk_32 3 rfl ?_
      refine q_goto X 37 dX13_atDesk_33 (by decide) ?_
      refine q_callVp X (c_X12_at hD hL hH) Y_X12_at tw_1269 tw_1270 tw_1271 hD rfl (by omega) rfl rfl (Nat.le_of_ble_eq_true rfl) dX13_atDesk_37 ?_
      exact q_iret X hr dX13_atDesk_40 (⟨congrArg (fun z => some (Value.int z)) (by unfold c1n c2n; rw [if_neg (show ¬ 1 < m from Nat.not_lt.mpr ((m_le (k := 1) hm3 (by decide)).mp c1)), if_pos (show 2 < m from Nat.lt_of_not_le (fun q => c2 ((m_le (k := 2) hm3 (by decide)).mpr q)))]), rfl⟩)
  · refine q_iload_n X dX13_atDesk_16 2 rfl ?_
    refine q_goto X 21 dX13_atDesk_17 (by decide) ?_
    refine q_aload_n X dX13_atDesk_21 0 rfl ?_
    refine q_get X hA rfl in_RX13 5 (by decide) tw_1199 rfl rfl dX13_atDesk_22 ?_
    refine q_get X hD rfl in_RX12 0 (by decide) tw_1156 rfl rfl dX13_atDesk_25 ?_
    refine q_iconst (v := 2) X dX13_atDesk_28 (by decide) ?_
    refine q_icmp_le X 36 dX13_atDesk_29 (by decide) (fun c2 => ?_) (fun c2 => ?_)
    · refine q_iconst (v := 0) X dX13_atDesk_36 (by decide) ?_
      refine q_callVp X (c_X12_at hD hL hH) Y_X12_at tw_1269 tw_1270 tw_1271 hD rfl (by omega) rfl rfl (Nat.le_of_ble_eq_true rfl) dX13_atDesk_37 ?_
      exact q_iret X hr dX13_atDesk_40 (⟨congrArg (fun z => some (Value.int z)) (by unfold c1n c2n; rw [if_pos (show 1 < m from Nat.lt_of_not_le (fun q => c1 ((m_le (k := 1) hm3 (by decide)).mpr q))), if_neg (show ¬ 2 < m from Nat.not_lt.mpr ((m_le (k := 2) hm3 (by decide)).mp c2))]), rfl⟩)
    · refine q_iload_n X dX13_atDesk_32 3 rfl ?_
      refine q_goto X 37 dX13_atDesk_33 (by decide) ?_
      refine q_callVp X (c_X12_at hD hL hH) Y_X12_at tw_1269 tw_1270 tw_1271 hD rfl (by omega) rfl rfl (Nat.le_of_ble_eq_true rfl) dX13_atDesk_37 ?_
      exact q_iret X hr dX13_atDesk_40 (⟨congrArg (fun z => some (Value.int z)) (by unfold c1n c2n; rw [if_pos (show 1 < m from Nat.lt_of_not_le (fun q => c1 ((m_le (k := 1) hm3 (by decide)).mpr q))), if_pos (show 2 < m from Nat.lt_of_not_le (fun q => c2 ((m_le (k := 2) hm3 (by decide)).mpr q)))]), rfl⟩)

set_option maxRecDepth 20000 in
theorem r_put {l : Launch} {G : gV} {M : gMem} {r : Nat} {e : Int32} {σ : sA} (hW : gvW σ) (hR : isRF G M r e σ) {x y z : Int32} {v : Int64} : qC l G yX13_put cX13_put 6 none 6 0 0 [.ref r, .int x, .int y, .int z, .long v] M (rfP G r cOne none (sp_put σ x y z v)) := by
  refine qC_of (by decide +kernel) (Nat.le_of_ble_eq_true rfl) (fun F hF X hr hn => ?_)
  subst hF
  have X : qX G F cX13_put 6 RX13 6 := X
  obtain ⟨vA, nA, pA, plA, dg, dla, dha, dva, dza, dvf, dzf, vf, nf, pf, tk, su, le, gr, hB⟩ := hR
  have hl150 := hW.1.2.2.2.2.1
  have hz := hW.1.sz
  have hcI := cI_ne X
  have hl41 := hW.1.2.2.2.1
  show qJ G F _ 6 M 0 0 0 [(0, .ref r), (1, .int x), (2, .int y), (3, .int z), (4, .long v)] []
  refine q_aload_n X dX13_put_0 0 rfl ?_
  refine q_aload_n X dX13_put_1 0 rfl ?_
  refine q_iload_n X dX13_put_2 1 rfl ?_
  refine q_iload_n X dX13_put_3 2 rfl ?_
  refine q_iload_n X dX13_put_4 3 rfl ?_
  refine q_callVp X (c_here hB hW.1.1.2.1) Y_X13_here tw_1257 tw_1259 sel_24 hB.1 rfl (by omega) rfl rfl (Nat.le_of_ble_eq_true rfl) dX13_put_5 ?_
  refine q_if_ne X 15 dX13_put_8 (by decide) (fun c8 => ?_) (fun c8 => ?_)
  · refine q_iconst (v := 0) X dX13_put_15 (by decide) ?_
    refine q_iconst (v := 1) X dX13_put_16 (by decide) ?_
    refine q_callV X (c_fails0 (why := 1) hB.1) Y_X13_fails tw_1246 tw_1248 sel_23 hB.1 rfl (by omega) rfl rfl (Nat.le_of_ble_eq_true rfl) (rc' := 0) (rs' := 0) (by omega) (by omega) dX13_put_17 (fun v M' hp _ => ?_)
    obtain ⟨rfl, eM⟩ := hp
    have hB101 : rfB G M' r 0 σ vA nA pA plA dg dla dha dva dza dvf dzf vf nf pf tk su le gr := by rw [eM]; exact hB.ro
    clear eM
    generalize M' = M101 at *
    show qJ G F _ 6 M101 0 0 20 [(0, .ref r), (1, .int x), (2, .int y), (3, .int z), (4, .long v)] [.int 0]
    obtain ⟨z_2r, z_21, z_22, z_23, ⟨z_2x, z_24⟩, z_25, z_26, z_27, z_28, z_29, z_210⟩ := id hB101
    refine q_if_eq X 24 dX13_put_20 (by decide) (fun c_3 => ?_) (fun c_3 => absurd (by decide) c_3)
    obtain ⟨j, hj, ix0, ixj, ej⟩ := desk_in hW.1 c8
    have k5 : M101 dg = some (oB 12 [.int (nI (aM σ)), .int (nI 0), .ref dla, .ref dha, .ref dva, .ref dza]) := hB101.2.2.2.2.2.1.1
    have k6 : M101 dla = some (aI G 3 (aLo σ)) := hB101.2.2.2.2.2.1.2.1
    have k7 : M101 dha = some (aI G 3 (aHi σ)) := hB101.2.2.2.2.2.1.2.2.1
    have k8 : M101 dva = some (aJ G (aSz σ) dvf) := hB101.2.2.2.2.2.1.2.2.2.1
    have k9 : M101 dza = some (aZ G (aSz σ) dzf) := hB101.2.2.2.2.2.1.2.2.2.2.1
    have dvz : dva ≠ dza := g_neaa k8 k9 (fun z => by simp at z)
    refine q_aload_n X dX13_put_24 0 rfl ?_
    refine q_get X z_2r rfl in_RX13 5 (by decide) tw_1199 rfl rfl dX13_put_25 ?_
    refine q_get X k5 rfl in_RX12 4 (by decide) tw_1163 rfl rfl dX13_put_28 ?_
    refine q_aload_n X dX13_put_31 0 rfl ?_
    refine q_iload_n X dX13_put_32 1 rfl ?_
    refine q_iload_n X dX13_put_33 2 rfl ?_
    refine q_iload_n X dX13_put_34 3 rfl ?_
    refine q_callVp X (c_atDesk0 z_2r k5 k6 k7 hW.1.1.2.1) Y_X13_atDesk tw_1265 tw_1267 sel_25 z_2r rfl (by omega) rfl rfl (Nat.le_of_ble_eq_true rfl) dX13_put_35 ?_
    rw [ej]
    refine q_lload X dX13_put_38 4 rfl ?_
    refine q_lastN X j k8 (rfl) (hj) (by omega) dX13_put_40 ?_
    have m_4 : (mU M101 dva (aJ G (aSz σ) (vp_updL dvf j v))) r = some (oB 13 [.int 0, .ref vA, .ref nA, .ref pA, .ref plA, .ref dg, .int (nI (aV σ).length), .int (nI (aN σ).length), .int (nI (aOf σ)), .int (nI (aBg σ)), .int tk, .long su, .long le, .long gr]) := (mU_n (g_neoa z_2r k8)).trans z_2r
    have m_5 : (mU M101 dva (aJ G (aSz σ) (vp_updL dvf j v))) dg = some (oB 12 [.int (nI (aM σ)), .int (nI 0), .ref dla, .ref dha, .ref dva, .ref dza]) := (mU_n (g_neoa k5 k8)).trans k5
    have m_6 : (mU M101 dva (aJ G (aSz σ) (vp_updL dvf j v))) dla = some (aI G 3 (aLo σ)) := (mU_n (g_neaa k6 k8 (fun z => by simp at z))).trans k6
    have m_7 : (mU M101 dva (aJ G (aSz σ) (vp_updL dvf j v))) dha = some (aI G 3 (aHi σ)) := (mU_n (g_neaa k7 k8 (fun z => by simp at z))).trans k7
    have m_8 : (mU M101 dva (aJ G (aSz σ) (vp_updL dvf j v))) dva = some (aJ G (aSz σ) (vp_updL dvf j v)) := mU_s
    have m_9 : (mU M101 dva (aJ G (aSz σ) (vp_updL dvf j v))) dza = some (aZ G (aSz σ) dzf) := (mU_n (g_neaa k9 k8 (fun z => by simp at z))).trans k9
    refine q_aload_n X dX13_put_41 0 rfl ?_
    refine q_get X m_4 rfl in_RX13 5 (by decide) tw_1199 rfl rfl dX13_put_42 ?_
    refine q_get X m_5 rfl in_RX12 5 (by decide) tw_1165 rfl rfl dX13_put_45 ?_
    refine q_aload_n X dX13_put_48 0 rfl ?_
    refine q_iload_n X dX13_put_49 1 rfl ?_
    refine q_iload_n X dX13_put_50 2 rfl ?_
    refine q_iload_n X dX13_put_51 3 rfl ?_
    refine q_callVp X (c_atDesk0 m_4 m_5 m_6 m_7 hW.1.1.2.1) Y_X13_atDesk tw_1265 tw_1267 sel_25 m_4 rfl (by omega) rfl rfl (Nat.le_of_ble_eq_true rfl) dX13_put_52 ?_
    rw [ej]
    refine q_iconst (v := 1) X dX13_put_55 (by decide) ?_
    refine q_zastN X j m_9 (rfl) (hj) (by omega) (Or.inr rfl) dX13_put_56 ?_
    have m_10 : (mU (mU M101 dva (aJ G (aSz σ) (vp_updL dvf j v))) dza (aZ G (aSz σ) (upd dzf j 1))) r = some (oB 13 [.int 0, .ref vA, .ref nA, .ref pA, .ref plA, .ref dg, .int (nI (aV σ).length), .int (nI (aN σ).length), .int (nI (aOf σ)), .int (nI (aBg σ)), .int tk, .long su, .long le, .long gr]) := (mU_n (g_neoa m_4 m_9)).trans m_4
    have m_11 : (mU (mU M101 dva (aJ G (aSz σ) (vp_updL dvf j v))) dza (aZ G (aSz σ) (upd dzf j 1))) dg = some (oB 12 [.int (nI (aM σ)), .int (nI 0), .ref dla, .ref dha, .ref dva, .ref dza]) := (mU_n (g_neoa m_5 m_9)).trans m_5
    have m_12 : (mU (mU M101 dva (aJ G (aSz σ) (vp_updL dvf j v))) dza (aZ G (aSz σ) (upd dzf j 1))) dla = some (aI G 3 (aLo σ)) := (mU_n ((g_neIZ hcI k6 k9))).trans m_6
    have m_13 : (mU (mU M101 dva (aJ G (aSz σ) (vp_updL dvf j v))) dza (aZ G (aSz σ) (upd dzf j 1))) dha = some (aI G 3 (aHi σ)) := (mU_n ((g_neIZ hcI k7 k9))).trans m_7
    have m_14 : (mU (mU M101 dva (aJ G (aSz σ) (vp_updL dvf j v))) dza (aZ G (aSz σ) (upd dzf j 1))) dva = some (aJ G (aSz σ) (vp_updL dvf j v)) := (mU_n (g_neaa m_8 m_9 (fun z => by simp at z))).trans m_8
    have m_15 : (mU (mU M101 dva (aJ G (aSz σ) (vp_updL dvf j v))) dza (aZ G (aSz σ) (upd dzf j 1))) dza = some (aZ G (aSz σ) (upd dzf j 1)) := mU_s
    exact q_vret X hr dX13_put_57 (rfP_K (by unfold sp_put; rw [if_pos ix0, ixj]) ⟨vA, nA, pA, plA, dg, dla, dha, dva, dza, _, _, vf, nf, pf, _, _, _, _, hB101.desk hcI (D := cSet (aD σ) j v) (dvf2 := vp_updL dvf j v) (dzf2 := upd dzf j 1) ((mU_n dvz).trans mU_s) mU_s (fun q a b => (mU_n b).trans (mU_n a)) (gCt_set hB101.2.2.2.2.2.1.2.2.2.2.2)⟩)
  · refine q_iconst (v := 1) X dX13_put_11 (by decide) ?_
    refine q_goto X 16 dX13_put_12 (by decide) ?_
    refine q_iconst (v := 1) X dX13_put_16 (by decide) ?_
    refine q_callV X (c_fails1 (why := 1) hB.1) Y_X13_fails tw_1246 tw_1248 sel_23 hB.1 rfl (by omega) rfl rfl (Nat.le_of_ble_eq_true rfl) (rc' := 0) (rs' := 0) (by omega) (by omega) dX13_put_17 (fun v M' hp _ => ?_)
    obtain ⟨rfl, eM⟩ := hp
    have hB116 : rfB G M' r 1 σ vA nA pA plA dg dla dha dva dza dvf dzf vf nf pf tk su le gr := by rw [eM]; exact hB.ro
    clear eM
    generalize M' = M116 at *
    show qJ G F _ 6 M116 0 0 20 [(0, .ref r), (1, .int x), (2, .int y), (3, .int z), (4, .long v)] [.int 1]
    obtain ⟨z_17r, z_171, z_172, z_173, ⟨z_17x, z_174⟩, z_175, z_176, z_177, z_178, z_179, z_1710⟩ := id hB116
    refine q_if_eq X 24 dX13_put_20 (by decide) (fun c_18 => absurd c_18 (by decide)) (fun c_18 => ?_)
    exact q_vret X hr dX13_put_23 (rfP_T (by unfold sp_put; rw [if_neg (desk_out hW.1 c8)]) cOne_1 ⟨vA, nA, pA, plA, dg, dla, dha, dva, dza, dvf, dzf, vf, nf, pf, tk, su, le, gr, hB116⟩)

set_option maxRecDepth 20000 in
theorem r_erase {l : Launch} {G : gV} {M : gMem} {r : Nat} {e : Int32} {σ : sA} (hW : gvW σ) (hR : isRF G M r e σ) {x y z : Int32} : qC l G yX13_erase cX13_erase 4 none 6 0 0 [.ref r, .int x, .int y, .int z] M (rfP G r cOne none (sp_erase σ x y z)) := by
  refine qC_of (by decide +kernel) (Nat.le_of_ble_eq_true rfl) (fun F hF X hr hn => ?_)
  subst hF
  have X : qX G F cX13_erase 4 RX13 6 := X
  obtain ⟨vA, nA, pA, plA, dg, dla, dha, dva, dza, dvf, dzf, vf, nf, pf, tk, su, le, gr, hB⟩ := hR
  have hl150 := hW.1.2.2.2.2.1
  have hz := hW.1.sz
  have hcI := cI_ne X
  have hl41 := hW.1.2.2.2.1
  show qJ G F _ 4 M 0 0 0 [(0, .ref r), (1, .int x), (2, .int y), (3, .int z)] []
  refine q_aload_n X dX13_erase_0 0 rfl ?_
  refine q_aload_n X dX13_erase_1 0 rfl ?_
  refine q_iload_n X dX13_erase_2 1 rfl ?_
  refine q_iload_n X dX13_erase_3 2 rfl ?_
  refine q_iload_n X dX13_erase_4 3 rfl ?_
  refine q_callVp X (c_here hB hW.1.1.2.1) Y_X13_here tw_1257 tw_1259 sel_24 hB.1 rfl (by omega) rfl rfl (Nat.le_of_ble_eq_true rfl) dX13_erase_5 ?_
  refine q_if_ne X 15 dX13_erase_8 (by decide) (fun c8 => ?_) (fun c8 => ?_)
  · refine q_iconst (v := 0) X dX13_erase_15 (by decide) ?_
    refine q_iconst (v := 1) X dX13_erase_16 (by decide) ?_
    refine q_callV X (c_fails0 (why := 1) hB.1) Y_X13_fails tw_1246 tw_1248 sel_23 hB.1 rfl (by omega) rfl rfl (Nat.le_of_ble_eq_true rfl) (rc' := 0) (rs' := 0) (by omega) (by omega) dX13_erase_17 (fun v M' hp _ => ?_)
    obtain ⟨rfl, eM⟩ := hp
    have hB101 : rfB G M' r 0 σ vA nA pA plA dg dla dha dva dza dvf dzf vf nf pf tk su le gr := by rw [eM]; exact hB.ro
    clear eM
    generalize M' = M101 at *
    show qJ G F _ 4 M101 0 0 20 [(0, .ref r), (1, .int x), (2, .int y), (3, .int z)] [.int 0]
    obtain ⟨z_2r, z_21, z_22, z_23, ⟨z_2x, z_24⟩, z_25, z_26, z_27, z_28, z_29, z_210⟩ := id hB101
    refine q_if_eq X 24 dX13_erase_20 (by decide) (fun c_3 => ?_) (fun c_3 => absurd (by decide) c_3)
    obtain ⟨j, hj, ix0, ixj, ej⟩ := desk_in hW.1 c8
    have k5 : M101 dg = some (oB 12 [.int (nI (aM σ)), .int (nI 0), .ref dla, .ref dha, .ref dva, .ref dza]) := hB101.2.2.2.2.2.1.1
    have k6 : M101 dla = some (aI G 3 (aLo σ)) := hB101.2.2.2.2.2.1.2.1
    have k7 : M101 dha = some (aI G 3 (aHi σ)) := hB101.2.2.2.2.2.1.2.2.1
    have k8 : M101 dva = some (aJ G (aSz σ) dvf) := hB101.2.2.2.2.2.1.2.2.2.1
    have k9 : M101 dza = some (aZ G (aSz σ) dzf) := hB101.2.2.2.2.2.1.2.2.2.2.1
    have dvz : dva ≠ dza := g_neaa k8 k9 (fun z => by simp at z)
    refine q_aload_n X dX13_erase_24 0 rfl ?_
    refine q_get X z_2r rfl in_RX13 5 (by decide) tw_1199 rfl rfl dX13_erase_25 ?_
    refine q_get X k5 rfl in_RX12 5 (by decide) tw_1165 rfl rfl dX13_erase_28 ?_
    refine q_aload_n X dX13_erase_31 0 rfl ?_
    refine q_iload_n X dX13_erase_32 1 rfl ?_
    refine q_iload_n X dX13_erase_33 2 rfl ?_
    refine q_iload_n X dX13_erase_34 3 rfl ?_
    refine q_callVp X (c_atDesk0 z_2r k5 k6 k7 hW.1.1.2.1) Y_X13_atDesk tw_1265 tw_1267 sel_25 z_2r rfl (by omega) rfl rfl (Nat.le_of_ble_eq_true rfl) dX13_erase_35 ?_
    rw [ej]
    refine q_iconst (v := 0) X dX13_erase_38 (by decide) ?_
    refine q_zastN X j k9 (rfl) (hj) (by omega) (Or.inl rfl) dX13_erase_39 ?_
    have m_4 : (mU M101 dza (aZ G (aSz σ) (upd dzf j 0))) r = some (oB 13 [.int 0, .ref vA, .ref nA, .ref pA, .ref plA, .ref dg, .int (nI (aV σ).length), .int (nI (aN σ).length), .int (nI (aOf σ)), .int (nI (aBg σ)), .int tk, .long su, .long le, .long gr]) := (mU_n (g_neoa z_2r k9)).trans z_2r
    have m_5 : (mU M101 dza (aZ G (aSz σ) (upd dzf j 0))) dg = some (oB 12 [.int (nI (aM σ)), .int (nI 0), .ref dla, .ref dha, .ref dva, .ref dza]) := (mU_n (g_neoa k5 k9)).trans k5
    have m_6 : (mU M101 dza (aZ G (aSz σ) (upd dzf j 0))) dla = some (aI G 3 (aLo σ)) := (mU_n ((g_neIZ hcI k6 k9))).trans k6
    have m_7 : (mU M101 dza (aZ G (aSz σ) (upd dzf j 0))) dha = some (aI G 3 (aHi σ)) := (mU_n ((g_neIZ hcI k7 k9))).trans k7
    have m_8 : (mU M101 dza (aZ G (aSz σ) (upd dzf j 0))) dva = some (aJ G (aSz σ) dvf) := (mU_n (g_neaa k8 k9 (fun z => by simp at z))).trans k8
    have m_9 : (mU M101 dza (aZ G (aSz σ) (upd dzf j 0))) dza = some (aZ G (aSz σ) (upd dzf j 0)) := mU_s
    exact q_vret X hr dX13_erase_40 (rfP_K (by unfold sp_erase; rw [if_pos ix0, ixj]) ⟨vA, nA, pA, plA, dg, dla, dha, dva, dza, _, _, vf, nf, pf, _, _, _, _, hB101.desk hcI (D := cDel (aD σ) j) (dvf2 := dvf) (dzf2 := upd dzf j 0) ((mU_n dvz).trans k8) mU_s (fun q a b => mU_n b) (gCt_del hB101.2.2.2.2.2.1.2.2.2.2.2)⟩)
  · refine q_iconst (v := 1) X dX13_erase_11 (by decide) ?_
    refine q_goto X 16 dX13_erase_12 (by decide) ?_
    refine q_iconst (v := 1) X dX13_erase_16 (by decide) ?_
    refine q_callV X (c_fails1 (why := 1) hB.1) Y_X13_fails tw_1246 tw_1248 sel_23 hB.1 rfl (by omega) rfl rfl (Nat.le_of_ble_eq_true rfl) (rc' := 0) (rs' := 0) (by omega) (by omega) dX13_erase_17 (fun v M' hp _ => ?_)
    obtain ⟨rfl, eM⟩ := hp
    have hB110 : rfB G M' r 1 σ vA nA pA plA dg dla dha dva dza dvf dzf vf nf pf tk su le gr := by rw [eM]; exact hB.ro
    clear eM
    generalize M' = M110 at *
    show qJ G F _ 4 M110 0 0 20 [(0, .ref r), (1, .int x), (2, .int y), (3, .int z)] [.int 1]
    obtain ⟨z_11r, z_111, z_112, z_113, ⟨z_11x, z_114⟩, z_115, z_116, z_117, z_118, z_119, z_1110⟩ := id hB110
    refine q_if_eq X 24 dX13_erase_20 (by decide) (fun c_12 => absurd c_12 (by decide)) (fun c_12 => ?_)
    exact q_vret X hr dX13_erase_23 (rfP_T (by unfold sp_erase; rw [if_neg (desk_out hW.1 c8)]) cOne_1 ⟨vA, nA, pA, plA, dg, dla, dha, dva, dza, dvf, dzf, vf, nf, pf, tk, su, le, gr, hB110⟩)

set_option maxRecDepth 20000 in
theorem c_same {l : Launch} {G : gV} {M : gMem} {a b va za vb zb n : Nat} {w0 w1 w2 w3 u0 u1 u2 u3 : Value} {vf vf2 : Nat → Int64} {zf zf2 : Nat → Int32} {f g : Nat → Option Int64} (hA : M a = some (oB 12 [w0, w1, w2, w3, .ref va, .ref za])) (h1 : M va = some (aJ G n vf)) (h2 : M za = some (aZ G n zf)) (hC : gCt n vf zf f) (hB : M b = some (oB 12 [u0, u1, u2, u3, .ref vb, .ref zb])) (h3 : M vb = some (aJ G n vf2)) (h4 : M zb = some (aZ G n zf2)) (hD : gCt n vf2 zf2 g) (hn9 : n ≤ 4096) {j : Nat} (hj : j < n) : qC l G yX13_same cX13_same 3 (some .boolean) 1 0 0 [.ref a, .ref b, .int (nI j)] M (pP (.int (bI (decide (f j = g j)))) M) := by
  refine qC_of (by decide +kernel) (Nat.le_of_ble_eq_true rfl) (fun F hF X hr hn => ?_)
  subst hF
  have X : qX G F cX13_same 3 RX13 1 := X
  show qJ G F _ 3 M 0 0 0 [(0, .ref a), (1, .ref b), (2, .int (nI j))] []
  refine q_aload_n X dX13_same_0 0 rfl ?_
  refine q_get X hA rfl in_RX12 5 (by decide) tw_1165 rfl rfl dX13_same_1 ?_
  refine q_iload_n X dX13_same_4 2 rfl ?_
  refine q_zaldN X j h2 (rfl) (hj) (by omega) dX13_same_5 ?_
  refine q_aload_n X dX13_same_6 1 rfl ?_
  refine q_get X hB rfl in_RX12 5 (by decide) tw_1165 rfl rfl dX13_same_7 ?_
  refine q_iload_n X dX13_same_10 2 rfl ?_
  refine q_zaldN X j h4 (rfl) (hj) (by omega) dX13_same_11 ?_
  refine q_icmp_ne X 44 dX13_same_12 (by decide) (fun c12 => ?_) (fun c12 => ?_)
  · refine q_iconst (v := 0) X dX13_same_44 (by decide) ?_
    exact q_zret X hr (by decide) dX13_same_45 (⟨congrArg (fun z => some (Value.int z)) (by rw [decide_eq_false (sm_n1 hC hD hj c12)]; rfl), rfl⟩)
  · refine q_aload_n X dX13_same_15 0 rfl ?_
    refine q_get X hA rfl in_RX12 5 (by decide) tw_1165 rfl rfl dX13_same_16 ?_
    refine q_iload_n X dX13_same_19 2 rfl ?_
    refine q_zaldN X j h2 (rfl) (hj) (by omega) dX13_same_20 ?_
    refine q_if_eq X 40 dX13_same_21 (by decide) (fun c21 => ?_) (fun c21 => ?_)
    · refine q_iconst (v := 1) X dX13_same_40 (by decide) ?_
      refine q_goto X 45 dX13_same_41 (by decide) ?_
      exact q_zret X hr (by decide) dX13_same_45 (⟨congrArg (fun z => some (Value.int z)) (by rw [decide_eq_true (sm_y1 hC hD hj c12 c21)]; rfl), rfl⟩)
    · refine q_aload_n X dX13_same_24 0 rfl ?_
      refine q_get X hA rfl in_RX12 4 (by decide) tw_1163 rfl rfl dX13_same_25 ?_
      refine q_iload_n X dX13_same_28 2 rfl ?_
      refine q_laldN X j h1 (rfl) (hj) (by omega) dX13_same_29 ?_
      refine q_aload_n X dX13_same_30 1 rfl ?_
      refine q_get X hB rfl in_RX12 4 (by decide) tw_1163 rfl rfl dX13_same_31 ?_
      refine q_iload_n X dX13_same_34 2 rfl ?_
      refine q_laldN X j h3 (rfl) (hj) (by omega) dX13_same_35 ?_
      refine q_lcmp X dX13_same_36 ?_
      refine q_if_ne X 44 dX13_same_37 (by decide) (fun c37 => ?_) (fun c37 => ?_)
      · refine q_iconst (v := 0) X dX13_same_44 (by decide) ?_
        exact q_zret X hr (by decide) dX13_same_45 (⟨congrArg (fun z => some (Value.int z)) (by rw [decide_eq_false (sm_n2 hC hD hj c12 c21 (fun z => c37 ((lg_cmp_eq _ _).mpr z)))]; rfl), rfl⟩)
      · refine q_iconst (v := 1) X dX13_same_40 (by decide) ?_
        refine q_goto X 45 dX13_same_41 (by decide) ?_
        exact q_zret X hr (by decide) dX13_same_45 (⟨congrArg (fun z => some (Value.int z)) (by rw [decide_eq_true (sm_y2 hC hD hj c12 c21 ((lg_cmp_eq _ _).mp c37))]; rfl), rfl⟩)

set_option maxRecDepth 20000 in
theorem c_differing {l : Launch} {G : gV} {M : gMem} {a b va za vb zb n : Nat} {w0 w1 w2 w3 u0 u1 u2 u3 : Value} {vf vf2 : Nat → Int64} {zf zf2 : Nat → Int32} {f g : Nat → Option Int64} (hA : M a = some (oB 12 [w0, w1, w2, w3, .ref va, .ref za])) (h1 : M va = some (aJ G n vf)) (h2 : M za = some (aZ G n zf)) (hC : gCt n vf zf f) (hB : M b = some (oB 12 [u0, u1, u2, u3, .ref vb, .ref zb])) (h3 : M vb = some (aJ G n vf2)) (h4 : M zb = some (aZ G n zf2)) (hD : gCt n vf2 zf2 g) (hn9 : n ≤ 4096) : qC l G yX13_differing cX13_differing 4 (some .int) 2 0 0 [.ref a, .ref b] M (pP (.int (nI (cntB (fun i => !decide (f i = g i)) n))) M) := by
  refine qC_of (by decide +kernel) (Nat.le_of_ble_eq_true rfl) (fun F hF X hr hn => ?_)
  subst hF
  have X : qX G F cX13_differing 4 RX13 2 := X
  have hfin : qJ G F (qQ G F (pP (.int (nI (cntB (fun i => !decide (f i = g i)) n))) M)) 4 M 0 0 31 [(0, .ref a), (1, .ref b), (2, .int (nI (cntB (fun i => !decide (f i = g i)) n)))] [] := by
    refine q_iload_n X dX13_differing_31 2 rfl ?_
    exact q_iret X hr dX13_differing_32 ⟨rfl, rfl⟩
  have L0 : ∀ (kk : qJ G F (qQ G F (pP (.int (nI (cntB (fun i => !decide (f i = g i)) n))) M)) 4 M 0 0 31 [(0, .ref a), (1, .ref b), (2, .int (nI (cntB (fun i => !decide (f i = g i)) n)))] []) (t t9 : Nat), t9 + t = n → qJ G F (qQ G F (pP (.int (nI (cntB (fun i => !decide (f i = g i)) n))) M)) 4 M 0 0 4 [(0, .ref a), (1, .ref b), (2, .int (nI (cntB (fun i => !decide (f i = g i)) t9))), (3, .int (nI t9))] [] := by
    intro  kk t
    induction t with
    | zero =>
      intro t9 ht90
      obtain rfl : t9 = n := by omega
      refine q_iload_n X dX13_differing_4 3 rfl ?_
      refine q_aload_n X dX13_differing_5 0 rfl ?_
      refine q_get X hA rfl in_RX12 4 (by decide) tw_1163 rfl rfl dX13_differing_6 ?_
      refine q_alen X 1 h1 rfl dX13_differing_9 ?_
      refine q_icmp_ge X 31 dX13_differing_10 (by decide) (fun c_1 => ?_) (fun c_1 => absurd (Int32.le_refl _) c_1)
      refine q_sub [0, 1, 2] rfl ?_
      exact kk
    | succ t ih =>
      intro t9 ht90
      have ht9 : t9 < n := by omega
      refine q_iload_n X dX13_differing_4 3 rfl ?_
      refine q_aload_n X dX13_differing_5 0 rfl ?_
      refine q_get X hA rfl in_RX12 4 (by decide) tw_1163 rfl rfl dX13_differing_6 ?_
      refine q_alen X 1 h1 rfl dX13_differing_9 ?_
      refine q_icmp_ge X 31 dX13_differing_10 (by decide) (fun c_2 => absurd c_2 (nI_ge ht9 (by omega))) (fun c_2 => ?_)
      refine q_aload_n X dX13_differing_13 0 rfl ?_
      refine q_aload_n X dX13_differing_14 1 rfl ?_
      refine q_iload_n X dX13_differing_15 3 rfl ?_
      refine q_callSp X (c_same hA h1 h2 hC hB h3 h4 hD hn9 ht9) Y_X13_same tw_1303 tw_1304 (by omega) rfl rfl (Nat.le_of_ble_eq_true rfl) dX13_differing_16 ?_
      refine q_if_ne X 25 dX13_differing_19 (by decide) (fun k1 => ?_) (fun k1 => ?_)
      · refine q_iinc (v := (nI (t9 + 1))) (lv' := [(3, .int (nI (t9 + 1))), (0, .ref a), (1, .ref b), (2, .int (nI (cntB (fun i => !decide (f i = g i)) t9)))]) X dX13_differing_25 3 rfl (nI_1 t9) (by decide) rfl ?_
        refine q_goto X 4 dX13_differing_28 (by decide) ?_
        refine q_sub [1, 2, 3, 0] rfl ?_
        have G5 := ih (t9 + 1) (by omega)
        rw [cntB_n (by rw [bI_ne k1]; rfl)] at G5
        exact G5
      · refine q_iinc (v := (nI (cntB (fun i => !decide (f i = g i)) t9 + 1))) (lv' := [(2, .int (nI (cntB (fun i => !decide (f i = g i)) t9 + 1))), (0, .ref a), (1, .ref b), (3, .int (nI t9))]) X dX13_differing_22 2 rfl (nI_1 _) (by decide) rfl ?_
        refine q_iinc (v := (nI (t9 + 1))) (lv' := [(3, .int (nI (t9 + 1))), (2, .int (nI (cntB (fun i => !decide (f i = g i)) t9 + 1))), (0, .ref a), (1, .ref b)]) X dX13_differing_25 3 rfl (nI_1 t9) (by decide) rfl ?_
        refine q_goto X 4 dX13_differing_28 (by decide) ?_
        refine q_sub [2, 3, 1, 0] rfl ?_
        have G5 := ih (t9 + 1) (by omega)
        rw [cntB_s (by rw [bI_fl k1]; rfl)] at G5
        exact G5
  refine q_iconst (v := 0) X dX13_differing_0 (by decide) ?_
  refine q_istore_n (lv' := [(2, .int 0), (0, .ref a), (1, .ref b)]) X dX13_differing_1 (by decide) rfl ?_
  refine q_iconst (v := 0) X dX13_differing_2 (by decide) ?_
  refine q_istore_n (lv' := [(3, .int 0), (2, .int 0), (0, .ref a), (1, .ref b)]) X dX13_differing_3 (by decide) rfl ?_
  refine q_sub [2, 3, 1, 0] rfl ?_
  exact L0 hfin n 0 (by omega)

set_option maxRecDepth 20000 in
theorem r_differ {l : Launch} {G : gV} {M : gMem} {r : Nat} {e : Int32} {σ : sA} (hW : gvW σ) (hR : isRF G M r e σ) {i1 i2 : Int32} : qC l G yX13_differ cX13_differ 3 (some .int) 6 0 0 [.ref r, .int i1, .int i2] M (rfP G r cOne (some (.int 0)) (sp_differ σ i1 i2)) := by
  refine qC_of (by decide +kernel) (Nat.le_of_ble_eq_true rfl) (fun F hF X hr hn => ?_)
  subst hF
  have X : qX G F cX13_differ 3 RX13 6 := X
  obtain ⟨vA, nA, pA, plA, dg, dla, dha, dva, dza, dvf, dzf, vf, nf, pf, tk, su, le, gr, hB⟩ := hR
  have hl150 := hW.1.2.2.2.2.1
  have hz := hW.1.sz
  have hcI := cI_ne X
  have hl41 := hW.1.2.2.2.1
  show qJ G F _ 3 M 0 0 0 [(0, .ref r), (1, .int i1), (2, .int i2)] []
  refine q_aload_n X dX13_differ_0 0 rfl ?_
  refine q_aload_n X dX13_differ_1 0 rfl ?_
  refine q_iload_n X dX13_differ_2 1 rfl ?_
  rcases hv1 : vAt σ i1 with _ | c1
  · refine q_callVp X (c_noVersion_n hB (by omega) hv1) Y_X13_noVersion tw_1292 tw_1294 sel_26 hB.1 rfl (by omega) rfl rfl (Nat.le_of_ble_eq_true rfl) dX13_differ_3 ?_
    refine q_if_ne X 17 dX13_differ_6 (by decide) (fun c_1 => ?_) (fun c_1 => absurd c_1 (by decide))
    refine q_iconst (v := 1) X dX13_differ_17 (by decide) ?_
    refine q_goto X 22 dX13_differ_18 (by decide) ?_
    refine q_iconst (v := 1) X dX13_differ_22 (by decide) ?_
    refine q_callV X (c_fails1 (why := 1) hB.1) Y_X13_fails tw_1246 tw_1248 sel_23 hB.1 rfl (by omega) rfl rfl (Nat.le_of_ble_eq_true rfl) (rc' := 0) (rs' := 0) (by omega) (by omega) dX13_differ_23 (fun v M' hp _ => ?_)
    obtain ⟨rfl, eM⟩ := hp
    have hB102 : rfB G M' r 1 σ vA nA pA plA dg dla dha dva dza dvf dzf vf nf pf tk su le gr := by rw [eM]; exact hB.ro
    clear eM
    generalize M' = M102 at *
    show qJ G F _ 3 M102 0 0 26 [(0, .ref r), (1, .int i1), (2, .int i2)] [.int 1]
    obtain ⟨z_3r, z_31, z_32, z_33, ⟨z_3x, z_34⟩, z_35, z_36, z_37, z_38, z_39, z_310⟩ := id hB102
    refine q_if_eq X 33 dX13_differ_26 (by decide) (fun c_4 => absurd c_4 (by decide)) (fun c_4 => ?_)
    refine q_iconst (v := 0) X dX13_differ_29 (by decide) ?_
    refine q_goto X 48 dX13_differ_30 (by decide) ?_
    exact q_iret X hr dX13_differ_48 (rfP_T (by unfold sp_differ; rw [hv1]) cOne_1 ⟨vA, nA, pA, plA, dg, dla, dha, dva, dza, dvf, dzf, vf, nf, pf, tk, su, le, gr, hB102⟩)
  · refine q_callVp X (c_noVersion_y hB (by omega) hv1) Y_X13_noVersion tw_1292 tw_1294 sel_26 hB.1 rfl (by omega) rfl rfl (Nat.le_of_ble_eq_true rfl) dX13_differ_3 ?_
    obtain ⟨j1, hj1, rfl, hc1⟩ := vAt_some hv1
    have hj141 : j1 < 41 := by omega
    refine q_if_ne X 17 dX13_differ_6 (by decide) (fun c_5 => absurd (by decide) c_5) (fun c_5 => ?_)
    refine q_aload_n X dX13_differ_9 0 rfl ?_
    refine q_iload_n X dX13_differ_10 2 rfl ?_
    rcases hv2 : vAt σ i2 with _ | c2
    · refine q_callVp X (c_noVersion_n hB (by omega) hv2) Y_X13_noVersion tw_1292 tw_1294 sel_26 hB.1 rfl (by omega) rfl rfl (Nat.le_of_ble_eq_true rfl) dX13_differ_11 ?_
      refine q_if_eq X 21 dX13_differ_14 (by decide) (fun c_6 => absurd c_6 (by decide)) (fun c_6 => ?_)
      refine q_iconst (v := 1) X dX13_differ_17 (by decide) ?_
      refine q_goto X 22 dX13_differ_18 (by decide) ?_
      refine q_iconst (v := 1) X dX13_differ_22 (by decide) ?_
      refine q_callV X (c_fails1 (why := 1) hB.1) Y_X13_fails tw_1246 tw_1248 sel_23 hB.1 rfl (by omega) rfl rfl (Nat.le_of_ble_eq_true rfl) (rc' := 0) (rs' := 0) (by omega) (by omega) dX13_differ_23 (fun v M' hp _ => ?_)
      obtain ⟨rfl, eM⟩ := hp
      have hB107 : rfB G M' r 1 σ vA nA pA plA dg dla dha dva dza dvf dzf vf nf pf tk su le gr := by rw [eM]; exact hB.ro
      clear eM
      generalize M' = M107 at *
      show qJ G F _ 3 M107 0 0 26 [(0, .ref r), (1, .int (nI j1)), (2, .int i2)] [.int 1]
      obtain ⟨z_8r, z_81, z_82, z_83, ⟨z_8x, z_84⟩, z_85, z_86, z_87, z_88, z_89, z_810⟩ := id hB107
      refine q_if_eq X 33 dX13_differ_26 (by decide) (fun c_9 => absurd c_9 (by decide)) (fun c_9 => ?_)
      refine q_iconst (v := 0) X dX13_differ_29 (by decide) ?_
      refine q_goto X 48 dX13_differ_30 (by decide) ?_
      exact q_iret X hr dX13_differ_48 (rfP_T (by unfold sp_differ; rw [hv1, hv2]) cOne_1 ⟨vA, nA, pA, plA, dg, dla, dha, dva, dza, dvf, dzf, vf, nf, pf, tk, su, le, gr, hB107⟩)
    · refine q_callVp X (c_noVersion_y hB (by omega) hv2) Y_X13_noVersion tw_1292 tw_1294 sel_26 hB.1 rfl (by omega) rfl rfl (Nat.le_of_ble_eq_true rfl) dX13_differ_11 ?_
      obtain ⟨j2, hj2, rfl, hc2⟩ := vAt_some hv2
      have hj241 : j2 < 41 := by omega
      refine q_if_eq X 21 dX13_differ_14 (by decide) (fun c_10 => ?_) (fun c_10 => absurd (by decide) c_10)
      refine q_iconst (v := 0) X dX13_differ_21 (by decide) ?_
      refine q_iconst (v := 1) X dX13_differ_22 (by decide) ?_
      refine q_callV X (c_fails0 (why := 1) hB.1) Y_X13_fails tw_1246 tw_1248 sel_23 hB.1 rfl (by omega) rfl rfl (Nat.le_of_ble_eq_true rfl) (rc' := 0) (rs' := 0) (by omega) (by omega) dX13_differ_23 (fun v M' hp _ => ?_)
      obtain ⟨rfl, eM⟩ := hp
      have hB111 : rfB G M' r 0 σ vA nA pA plA dg dla dha dva dza dvf dzf vf nf pf tk su le gr := by rw [eM]; exact hB.ro
      clear eM
      generalize M' = M111 at *
      show qJ G F _ 3 M111 0 0 26 [(0, .ref r), (1, .int (nI j1)), (2, .int (nI j2))] [.int 0]
      obtain ⟨z_12r, z_121, z_122, z_123, ⟨z_12x, z_124⟩, z_125, z_126, z_127, z_128, z_129, z_1210⟩ := id hB111
      refine q_if_eq X 33 dX13_differ_26 (by decide) (fun c_13 => ?_) (fun c_13 => absurd (by decide) c_13)
      obtain ⟨o, hvfo, ⟨ola, oha, ova, oza, ovf, ozf, hO, bo1, bo2, bo3, bo4⟩, hparo⟩ := hB111.2.2.2.2.2.2.2.1 j1 c1 hc1
      obtain ⟨s, hvfs, ⟨sla, sha, sva, sza, svf, szf, hOs, bs1, bs2, bs3, bs4⟩, hpars⟩ := hB111.2.2.2.2.2.2.2.1 j2 c2 hc2
      refine q_aload_n X dX13_differ_33 0 rfl ?_
      refine q_get X z_12r rfl in_RX13 1 (by decide) tw_1195 rfl rfl dX13_differ_34 ?_
      refine q_iload_n X dX13_differ_37 1 rfl ?_
      refine q_gald X j1 z_121 (rfl) (hj141) (by decide) hvfo dX13_differ_38 ?_
      refine q_aload_n X dX13_differ_39 0 rfl ?_
      refine q_get X z_12r rfl in_RX13 1 (by decide) tw_1195 rfl rfl dX13_differ_40 ?_
      refine q_iload_n X dX13_differ_43 2 rfl ?_
      refine q_gald X j2 z_121 (rfl) (hj241) (by decide) hvfs dX13_differ_44 ?_
      refine q_callSp X (c_differing hO.1 hO.2.2.2.1 hO.2.2.2.2.1 hO.2.2.2.2.2 hOs.1 hOs.2.2.2.1 hOs.2.2.2.2.1 hOs.2.2.2.2.2 hz) Y_X13_differing tw_1300 tw_1301 (by omega) rfl rfl (Nat.le_of_ble_eq_true rfl) dX13_differ_45 ?_
      exact q_iret X hr dX13_differ_48 (rfP_K (by unfold sp_differ; rw [hv1, hv2]; rfl) ⟨vA, nA, pA, plA, dg, dla, dha, dva, dza, dvf, dzf, vf, nf, pf, tk, su, le, gr, hB111⟩)

theorem cn_no {σ : sA} {what : Int32} (h : what < 0 ∨ ¬ what ≤ 3) : sp_count σ what = oT eIA σ := by
  have n0 : ¬ what = 0 := fun e => by subst e; rcases h with h | h; exact absurd h (by decide); exact h (by decide)
  have n1 : ¬ what = 1 := fun e => by subst e; rcases h with h | h; exact absurd h (by decide); exact h (by decide)
  have n2 : ¬ what = 2 := fun e => by subst e; rcases h with h | h; exact absurd h (by decide); exact h (by decide)
  have n3 : ¬ what = 3 := fun e => by subst e; rcases h with h | h; exact absurd h (by decide); exact h (by decide)
  unfold sp_count; rw [if_neg n0, if_neg n1, if_neg n2, if_neg n3]
theorem is_3 {what : Int32} (a : ¬ what < 0) (b : what ≤ 3) (n0 : ¬ what = 0) (n1 : ¬ what = 1) (n2 : ¬ what = 2) : what = 3 := by
  obtain ⟨r, hr, rfl⟩ := op_in (k := 4) (by decide) a (fun z => absurd (Int32.le_trans z b) (by decide))
  rcases (show r = 0 ∨ r = 1 ∨ r = 2 ∨ r = 3 by omega) with rfl | rfl | rfl | rfl
  · exact absurd rfl n0
  · exact absurd rfl n1
  · exact absurd rfl n2
  · rfl

set_option maxRecDepth 20000 in
theorem r_count {l : Launch} {G : gV} {M : gMem} {r : Nat} {e : Int32} {σ : sA} (hW : gvW σ) (hR : isRF G M r e σ) {what : Int32} : qC l G yX13_count cX13_count 2 (some .int) 6 0 0 [.ref r, .int what] M (rfP G r cOne (some (.int 0)) (sp_count σ what)) := by
  refine qC_of (by decide +kernel) (Nat.le_of_ble_eq_true rfl) (fun F hF X hr hn => ?_)
  subst hF
  have X : qX G F cX13_count 2 RX13 6 := X
  obtain ⟨vA, nA, pA, plA, dg, dla, dha, dva, dza, dvf, dzf, vf, nf, pf, tk, su, le, gr, hB⟩ := hR
  have hl150 := hW.1.2.2.2.2.1
  have hz := hW.1.sz
  have hcI := cI_ne X
  have hl41 := hW.1.2.2.2.1
  have hof := hW.1.2.2.2.2.2.1
  obtain ⟨co, hco⟩ : ∃ c, (aV σ)[aOf σ]? = some c := ⟨(aV σ)[aOf σ], List.getElem?_eq_some_iff.mpr ⟨hof, rfl⟩⟩
  show qJ G F _ 2 M 0 0 0 [(0, .ref r), (1, .int what)] []
  refine q_aload_n X dX13_count_0 0 rfl ?_
  refine q_iload_n X dX13_count_1 1 rfl ?_
  refine q_if_lt X 10 dX13_count_2 (by decide) (fun c2 => ?_) (fun c2 => ?_)
  · refine q_iconst (v := 1) X dX13_count_10 (by decide) ?_
    refine q_goto X 15 dX13_count_11 (by decide) ?_
    refine q_iconst (v := 1) X dX13_count_15 (by decide) ?_
    refine q_callV X (c_fails1 (why := 1) hB.1) Y_X13_fails tw_1246 tw_1248 sel_23 hB.1 rfl (by omega) rfl rfl (Nat.le_of_ble_eq_true rfl) (rc' := 0) (rs' := 0) (by omega) (by omega) dX13_count_16 (fun v M' hp _ => ?_)
    obtain ⟨rfl, eM⟩ := hp
    have hB101 : rfB G M' r 1 σ vA nA pA plA dg dla dha dva dza dvf dzf vf nf pf tk su le gr := by rw [eM]; exact hB.ro
    clear eM
    generalize M' = M101 at *
    show qJ G F _ 2 M101 0 0 19 [(0, .ref r), (1, .int what)] [.int 1]
    obtain ⟨z_2r, z_21, z_22, z_23, ⟨z_2x, z_24⟩, z_25, z_26, z_27, z_28, z_29, z_210⟩ := id hB101
    refine q_if_eq X 24 dX13_count_19 (by decide) (fun c_3 => absurd c_3 (by decide)) (fun c_3 => ?_)
    refine q_iconst (v := 0) X dX13_count_22 (by decide) ?_
    exact q_iret X hr dX13_count_23 (rfP_T (cn_no (Or.inl c2)) cOne_1 ⟨vA, nA, pA, plA, dg, dla, dha, dva, dza, dvf, dzf, vf, nf, pf, tk, su, le, gr, hB101⟩)
  · refine q_iload_n X dX13_count_5 1 rfl ?_
    refine q_iconst (v := 3) X dX13_count_6 (by decide) ?_
    refine q_icmp_le X 14 dX13_count_7 (by decide) (fun c7 => ?_) (fun c7 => ?_)
    · refine q_iconst (v := 0) X dX13_count_14 (by decide) ?_
      refine q_iconst (v := 1) X dX13_count_15 (by decide) ?_
      refine q_callV X (c_fails0 (why := 1) hB.1) Y_X13_fails tw_1246 tw_1248 sel_23 hB.1 rfl (by omega) rfl rfl (Nat.le_of_ble_eq_true rfl) (rc' := 0) (rs' := 0) (by omega) (by omega) dX13_count_16 (fun v M' hp _ => ?_)
      obtain ⟨rfl, eM⟩ := hp
      have hB104 : rfB G M' r 0 σ vA nA pA plA dg dla dha dva dza dvf dzf vf nf pf tk su le gr := by rw [eM]; exact hB.ro
      clear eM
      generalize M' = M104 at *
      show qJ G F _ 2 M104 0 0 19 [(0, .ref r), (1, .int what)] [.int 0]
      obtain ⟨z_5r, z_51, z_52, z_53, ⟨z_5x, z_54⟩, z_55, z_56, z_57, z_58, z_59, z_510⟩ := id hB104
      refine q_if_eq X 24 dX13_count_19 (by decide) (fun c_6 => ?_) (fun c_6 => absurd (by decide) c_6)
      refine q_iload_n X dX13_count_24 1 rfl ?_
      refine q_if_ne X 35 dX13_count_25 (by decide) (fun d0 => ?_) (fun d0 => ?_)
      · refine q_iload_n X dX13_count_35 1 rfl ?_
        refine q_iconst (v := 1) X dX13_count_36 (by decide) ?_
        refine q_icmp_ne X 47 dX13_count_37 (by decide) (fun d1 => ?_) (fun d1 => ?_)
        · refine q_iload_n X dX13_count_47 1 rfl ?_
          refine q_iconst (v := 2) X dX13_count_48 (by decide) ?_
          refine q_icmp_ne X 59 dX13_count_49 (by decide) (fun d2 => ?_) (fun d2 => ?_)
          · have k5 : M104 dg = some (oB 12 [.int (nI (aM σ)), .int (nI 0), .ref dla, .ref dha, .ref dva, .ref dza]) := hB104.2.2.2.2.2.1.1
            have k6 : M104 dla = some (aI G 3 (aLo σ)) := hB104.2.2.2.2.2.1.2.1
            have k7 : M104 dha = some (aI G 3 (aHi σ)) := hB104.2.2.2.2.2.1.2.2.1
            have k8 : M104 dva = some (aJ G (aSz σ) dvf) := hB104.2.2.2.2.2.1.2.2.2.1
            have k9 : M104 dza = some (aZ G (aSz σ) dzf) := hB104.2.2.2.2.2.1.2.2.2.2.1
            obtain ⟨o, hvfo, ⟨ola, oha, ova, oza, ovf, ozf, hO, bo1, bo2, bo3, bo4⟩, hparo⟩ := hB104.2.2.2.2.2.2.2.1 (aOf σ) co hco
            refine q_aload_n X dX13_count_59 0 rfl ?_
            refine q_get X z_5r rfl in_RX13 5 (by decide) tw_1199 rfl rfl dX13_count_60 ?_
            refine q_aload_n X dX13_count_63 0 rfl ?_
            refine q_get X z_5r rfl in_RX13 1 (by decide) tw_1195 rfl rfl dX13_count_64 ?_
            refine q_aload_n X dX13_count_67 0 rfl ?_
            refine q_get X z_5r rfl in_RX13 8 (by decide) tw_1202 rfl rfl dX13_count_68 ?_
            refine q_gald X (aOf σ) z_51 (rfl) (by omega) (by decide) hvfo dX13_count_71 ?_
            refine q_callSp X (c_differing k5 k8 k9 hB104.2.2.2.2.2.1.2.2.2.2.2 hO.1 hO.2.2.2.1 hO.2.2.2.2.1 hO.2.2.2.2.2 hz) Y_X13_differing tw_1300 tw_1301 (by omega) rfl rfl (Nat.le_of_ble_eq_true rfl) dX13_count_72 ?_
            exact q_iret X hr dX13_count_75 (rfP_K (by unfold sp_count; rw [if_neg d0, if_neg d1, if_neg d2, if_pos (is_3 c2 c7 d0 d1 d2), hco]; rfl) ⟨vA, nA, pA, plA, dg, dla, dha, dva, dza, dvf, dzf, vf, nf, pf, tk, su, le, gr, hB104⟩)
          · refine q_aload_n X dX13_count_52 0 rfl ?_
            refine q_get X z_5r rfl in_RX13 8 (by decide) tw_1202 rfl rfl dX13_count_53 ?_
            refine q_goto X 75 dX13_count_56 (by decide) ?_
            exact q_iret X hr dX13_count_75 (rfP_K (by unfold sp_count; rw [if_neg d0, if_neg d1, if_pos d2]; rfl) ⟨vA, nA, pA, plA, dg, dla, dha, dva, dza, dvf, dzf, vf, nf, pf, tk, su, le, gr, hB104⟩)
        · refine q_aload_n X dX13_count_40 0 rfl ?_
          refine q_get X z_5r rfl in_RX13 7 (by decide) tw_1201 rfl rfl dX13_count_41 ?_
          refine q_goto X 75 dX13_count_44 (by decide) ?_
          exact q_iret X hr dX13_count_75 (rfP_K (by unfold sp_count; rw [if_neg d0, if_pos d1]; rfl) ⟨vA, nA, pA, plA, dg, dla, dha, dva, dza, dvf, dzf, vf, nf, pf, tk, su, le, gr, hB104⟩)
      · refine q_aload_n X dX13_count_28 0 rfl ?_
        refine q_get X z_5r rfl in_RX13 6 (by decide) tw_1200 rfl rfl dX13_count_29 ?_
        refine q_goto X 75 dX13_count_32 (by decide) ?_
        exact q_iret X hr dX13_count_75 (rfP_K (by unfold sp_count; rw [if_pos d0]; rfl) ⟨vA, nA, pA, plA, dg, dla, dha, dva, dza, dvf, dzf, vf, nf, pf, tk, su, le, gr, hB104⟩)
    · refine q_iconst (v := 1) X dX13_count_10 (by decide) ?_
      refine q_goto X 15 dX13_count_11 (by decide) ?_
      refine q_iconst (v := 1) X dX13_count_15 (by decide) ?_
      refine q_callV X (c_fails1 (why := 1) hB.1) Y_X13_fails tw_1246 tw_1248 sel_23 hB.1 rfl (by omega) rfl rfl (Nat.le_of_ble_eq_true rfl) (rc' := 0) (rs' := 0) (by omega) (by omega) dX13_count_16 (fun v M' hp _ => ?_)
      obtain ⟨rfl, eM⟩ := hp
      have hB107 : rfB G M' r 1 σ vA nA pA plA dg dla dha dva dza dvf dzf vf nf pf tk su le gr := by rw [eM]; exact hB.ro
      clear eM
      generalize M' = M107 at *
      show qJ G F _ 2 M107 0 0 19 [(0, .ref r), (1, .int what)] [.int 1]
      obtain ⟨z_8r, z_81, z_82, z_83, ⟨z_8x, z_84⟩, z_85, z_86, z_87, z_88, z_89, z_810⟩ := id hB107
      refine q_if_eq X 24 dX13_count_19 (by decide) (fun c_9 => absurd c_9 (by decide)) (fun c_9 => ?_)
      refine q_iconst (v := 0) X dX13_count_22 (by decide) ?_
      exact q_iret X hr dX13_count_23 (rfP_T (cn_no (Or.inr c7)) cOne_1 ⟨vA, nA, pA, plA, dg, dla, dha, dva, dza, dvf, dzf, vf, nf, pf, tk, su, le, gr, hB107⟩)
