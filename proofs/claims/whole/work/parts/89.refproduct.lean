/-! the reference: product -/
def prDl (w u : vN) : Nat := ((pS w u).toInt - (vlo w 1).toInt).toNat
/-- the product's sum over the first a places of a row -/
def prT (w u : vN) (lo hi : Nat → Int32) (i a : Nat) : Bool × Int64 := proW w u (wIx w (pl3 lo hi i 0) (pS w u) 0) (wIx u (pS w u) (pl3 lo hi i 1) 0) (s3 (sp3 (vlo w) (vhi w)) 1 1) (s3 (sp3 (vlo u) (vhi u)) 1 0) (min (a - prDl w u) (pK w u))
theorem proW_0 {w u : vN} {p q sp sq : Int32} (k : Nat) : (proW w u p q sp sq k).1 = false → (proW w u p q sp sq k).2 = 0 := by
  induction k with
  | zero => intro _; rfl
  | succ k ih =>
    show (match wAt w (p + nI k * sp), wAt u (q + nI k * sq) with
      | some v, some z => (true, (proW w u p q sp sq k).2 + v * z)
      | _, _ => proW w u p q sp sq k).1 = false → (match wAt w (p + nI k * sp), wAt u (q + nI k * sq) with
      | some v, some z => (true, (proW w u p q sp sq k).2 + v * z)
      | _, _ => proW w u p q sp sq k).2 = 0
    cases wAt w (p + nI k * sp) with
    | none => exact ih
    | some v =>
      cases wAt u (q + nI k * sq) with
      | none => exact ih
      | some z => intro h; cases h
theorem prT_0 {w u : vN} {lo hi : Nat → Int32} {i : Nat} : prT w u lo hi i 0 = (false, 0) := by unfold prT; rw [Nat.zero_sub, Nat.zero_min]; rfl
section PN
variable {w u : vN} (hw : vOk w) (hu : vOk u)
theorem pS_t : (pS w u).toInt = max (vlo w 1).toInt (vlo u 0).toInt := mxI_t _ _
theorem pK_t (hw : vOk w) (hu : vOk u) : pK w u = (min (vhi w 1).toInt (vhi u 0).toInt - max (vlo w 1).toInt (vlo u 0).toInt + 1).toNat := by
  have a1 := hw.1.2.2.1 1 (by decide)
  have a2 := hu.1.2.2.1 0 (by decide)
  have s1 : (pS w u).toInt = max (vlo w 1).toInt (vlo u 0).toInt := mxI_t _ _
  have s2 : (mnI (vhi w 1) (vhi u 0)).toInt = min (vhi w 1).toInt (vhi u 0).toInt := mnI_t _ _
  have s3' : (mnI (vhi w 1) (vhi u 0) - pS w u).toInt = (mnI (vhi w 1) (vhi u 0)).toInt - (pS w u).toInt := i_sub (by omega) (by omega)
  have s4 : (mnI (vhi w 1) (vhi u 0) - pS w u + 1).toInt = (mnI (vhi w 1) (vhi u 0)).toInt - (pS w u).toInt + 1 := by rw [i_add (by rw [s3', i_one]; omega) (by rw [s3', i_one]; omega), s3', i_one]
  have e0 : pK w u = (mnI (vhi w 1) (vhi u 0) - pS w u + 1).toInt.toNat := rfl
  rw [e0, s4, s1, s2]
theorem prT_L (hw : vOk w) (hu : vOk u) {lo hi : Nat → Int32} {i : Nat} : prT w u lo hi i (sN (vlo w) (vhi w) 1) = prW w u lo hi i := by
  have a1 := hw.1.2.2.1 1 (by decide)
  have n1 := hw.1.N (d := 1) (by decide)
  have k1 := pK_t hw hu
  have s1 : (pS w u).toInt = max (vlo w 1).toInt (vlo u 0).toInt := mxI_t _ _
  unfold prT prW
  rw [show min (sN (vlo w) (vhi w) 1 - prDl w u) (pK w u) = pK w u by unfold prDl; omega]
theorem k_t (hw : vOk w) {a : Nat} (ha : a < sN (vlo w) (vhi w) 1) : (vlo w 1 + nI a).toInt = (vlo w 1).toInt + a := by
  have a1 := hw.1.2.2.1 1 (by decide)
  have n1 := hw.1.N (d := 1) (by decide)
  rw [i_add (by rw [nI_toInt (by omega)]; omega) (by rw [nI_toInt (by omega)]; omega), nI_toInt (by omega)]
theorem prT_o (hw : vOk w) (hu : vOk u) {lo hi : Nat → Int32} {i a : Nat} (ha : a < sN (vlo w) (vhi w) 1) (h : vlo w 1 + nI a < vlo u 0 ∨ vhi u 0 < vlo w 1 + nI a) : prT w u lo hi i (a + 1) = prT w u lo hi i a := by
  have a1 := hw.1.2.2.1 1 (by decide)
  have n1 := hw.1.N (d := 1) (by decide)
  have k1 := pK_t hw hu
  have s1 : (pS w u).toInt = max (vlo w 1).toInt (vlo u 0).toInt := mxI_t _ _
  have t := k_t hw ha
  rw [Int32.lt_iff_toInt_lt, Int32.lt_iff_toInt_lt] at h
  unfold prT
  rw [show min (a + 1 - prDl w u) (pK w u) = min (a - prDl w u) (pK w u) by unfold prDl; omega]
theorem prT_s (hw : vOk w) (hu : vOk u) (mw : vm w = 2) (mu : vm u = 2) {lo hi : Nat → Int32} {i a : Nat} {x y : Int32} (ha : a < sN (vlo w) (vhi w) 1) (h1 : ¬ vlo w 1 + nI a < vlo u 0) (h2 : ¬ vhi u 0 < vlo w 1 + nI a) (px : pl3 lo hi i 0 = x) (py : pl3 lo hi i 1 = y) (hx : (vlo w 0).toInt ≤ x.toInt ∧ x.toInt ≤ (vhi w 0).toInt) (hy : (vlo u 1).toInt ≤ y.toInt ∧ y.toInt ≤ (vhi u 1).toInt) :
    prT w u lo hi i (a + 1) = match frV w x (vlo w 1 + nI a) 0, frV u (vlo w 1 + nI a) y 0 with
      | some v, some z => (true, (prT w u lo hi i a).2 + v * z)
      | _, _ => prT w u lo hi i a := by
  have a1 := hw.1.2.2.1 1 (by decide)
  have a2 := hu.1.2.2.1 0 (by decide)
  have n1 := hw.1.N (d := 1) (by decide)
  have k1 := pK_t hw hu
  have s1 : (pS w u).toInt = max (vlo w 1).toInt (vlo u 0).toInt := mxI_t _ _
  have t := k_t hw ha
  rw [Int32.lt_iff_toInt_lt] at h1 h2
  have iw : rIn w 1 (rC x 0 0) := fun e he hn => by
    rcases (show e = 0 ∨ e = 2 by omega) with rfl | rfl
    · exact hx
    · have b := hw.1.2.2.2 2 (by omega) (by decide)
      show (vlo w 2).toInt ≤ (0 : Int32).toInt ∧ (0 : Int32).toInt ≤ (vhi w 2).toInt
      rw [b.1, b.2]; exact ⟨Int.le_refl _, Int.le_refl _⟩
  have iu : rIn u 0 (rC 0 y 0) := fun e he hn => by
    rcases (show e = 1 ∨ e = 2 by omega) with rfl | rfl
    · exact hy
    · have b := hu.1.2.2.2 2 (by omega) (by decide)
      show (vlo u 2).toInt ≤ (0 : Int32).toInt ∧ (0 : Int32).toInt ≤ (vhi u 2).toInt
      rw [b.1, b.2]; exact ⟨Int.le_refl _, Int.le_refl _⟩
  have eS : vlo w 1 + nI a = pS w u + nI (a - prDl w u) := by
    apply Int32.toInt_inj.mp
    unfold prDl
    rw [t, i_add (by rw [nI_toInt (by omega)]; omega) (by rw [nI_toInt (by omega)]; omega), nI_toInt (by omega)]
    omega
  have fw := rP_fr hw (jd := 1) (by omega) iw (pS w u + nI (a - prDl w u))
  rw [rP_ix hw (jd := 1) (by omega) iw (by omega) (by unfold prDl; omega)] at fw
  have fu := rP_fr hu (jd := 0) (by omega) iu (pS w u + nI (a - prDl w u))
  rw [rP_ix hu (jd := 0) (by omega) iu (by omega) (by unfold prDl; omega)] at fu
  have fw : frV w x (pS w u + nI (a - prDl w u)) 0 = wAt w (wIx w x (pS w u) 0 + nI (a - prDl w u) * s3 (sp3 (vlo w) (vhi w)) 1 1) := fw
  have fu : frV u (pS w u + nI (a - prDl w u)) y 0 = wAt u (wIx u (pS w u) y 0 + nI (a - prDl w u) * s3 (sp3 (vlo u) (vhi u)) 1 0) := fu
  rw [eS, fw, fu]
  unfold prT
  rw [px, py, show min (a + 1 - prDl w u) (pK w u) = (a - prDl w u) + 1 by unfold prDl; omega, show min (a - prDl w u) (pK w u) = a - prDl w u by unfold prDl; omega]
  rfl
end PN
theorem upd_2 {f : Nat → Int32} {c : Nat} {x y : Int32} : upd (upd f c x) c y = upd f c y := by funext i; unfold upd; by_cases h : i = c <;> simp [h]
theorem updL_2 {f : Nat → Int64} {c : Nat} {x y : Int64} : vp_updL (vp_updL f c x) c y = vp_updL f c y := by funext i; unfold vp_updL; by_cases h : i = c <;> simp [h]
theorem updL_s {f : Nat → Int64} {c : Nat} {x : Int64} : vp_updL f c x c = x := if_pos rfl
theorem vF_id {den : Nat → Option Int64} {c : Nat} : vp_updL (vF den c) c 0 = vF den c := by
  funext i; unfold vp_updL vF
  by_cases h : i = c
  · rw [if_pos h, if_neg (by omega)]
  · rw [if_neg h]
theorem zF_id {den : Nat → Option Int64} {c : Nat} : upd (zF den c) c 0 = zF den c := by
  funext i; unfold upd zF
  by_cases h : i = c
  · rw [if_pos h, if_neg (by omega)]
  · rw [if_neg h]
theorem pr_end {w u : vN} {lo hi : Nat → Int32} {c : Nat} : vp_updL (vF (prD w u lo hi) c) c (prW w u lo hi c).2 = vF (prD w u lo hi) (c + 1) ∧ upd (zF (prD w u lo hi) c) c (bI (prW w u lo hi c).1) = zF (prD w u lo hi) (c + 1) := by
  cases h : (prW w u lo hi c).1 with
  | false =>
    have e : prD w u lo hi c = none := by unfold prD; rw [h]; rfl
    have e2 : (prW w u lo hi c).2 = 0 := proW_0 _ h
    rw [e2, vF_id, ← vF_no e]
    exact ⟨rfl, zF_z e⟩
  | true =>
    have e : prD w u lo hi c = some (prW w u lo hi c).2 := by unfold prD; rw [h]; rfl
    exact ⟨vF_y e, zF_y e⟩

theorem lo_in {m : Nat} {lo hi : Nat → Int32} (h : okS m lo hi) {d a : Nat} (hd : d < 3) (ha : a < sN lo hi d) : (lo d).toInt ≤ (lo d + nI a).toInt ∧ (lo d + nI a).toInt ≤ (hi d).toInt := by
  have b := h.2.2.1 d hd
  have n := h.N hd
  rw [i_add (by rw [nI_toInt (by omega)]; omega) (by rw [nI_toInt (by omega)]; omega), nI_toInt (by omega)]
  omega

set_option maxRecDepth 20000 in
theorem r_product {l : Launch} {G : gV} {M : gMem} {r : Nat} {e : Int32} {σ : sA} (hW : gvW σ) (hR : isRF G M r e σ) {a b : Int32} : qC l G yX13_product cX13_product 9 (some .int) 6 5 4108 [.ref r, .int a, .int b] M (rfP G r cOp (some (.int 0)) (sp_product σ a b)) := by
  refine qC_of (by decide +kernel) (Nat.le_of_ble_eq_true rfl) (fun F hF X hr hn => ?_)
  subst hF
  have X : qX G F cX13_product 9 RX13 6 := X
  obtain ⟨vA, nA, pA, plA, dg, dla, dha, dva, dza, dvf, dzf, vf, nf, pf, tk, su, le, gr, hB⟩ := hR
  have hl150 := hW.1.2.2.2.2.1
  have hl41 := hW.1.2.2.2.1
  have tail : ∀ (M : gMem) (i i2 : Nat) (w u : vN) (hB : rfB G M r 0 σ vA nA pA plA dg dla dha dva dza dvf dzf vf nf pf tk su le gr) (hi : (aN σ)[i]? = some w) (hi2 : (aN σ)[i2]? = some u) (hw : vOk w) (hwu : vOk u) (h150 : (aN σ).length < 150) (mw : vm w = 2) (mu : vm u = 2) (specE : sp_product σ (nI i) (nI i2) = gLim σ (rpl3 (vlo w) 1 (vlo u 1)) (rpl3 (vhi w) 1 (vhi u 1)) (mxI (nI (vdp w)) (nI (vdp u))) (oN σ (vm w, rpl3 (vlo w) 1 (vlo u 1), rpl3 (vhi w) 1 (vhi u 1), max (vdp w) (vdp u) + 1, prD w u (rpl3 (vlo w) 1 (vlo u 1)) (rpl3 (vhi w) 1 (vhi u 1))))), qJ G F (qQ G F (rfP G r cOp (some (.int 0)) (sp_product σ (nI i) (nI i2)))) 9 M 5 4108 66 [(0, .ref r), (1, .int (nI i)), (2, .int (nI i2))] [] := by
    intro M i i2 w u hB hi hi2 hw hwu h150 mw mu specE
    obtain ⟨o, hnfo, ola, oha, ova, oza, ovf, ozf, hO, bo1, bo2, bo3, bo4⟩ := hB.2.2.2.2.2.2.2.2.1 i w hi
    obtain ⟨s, hnfs, sla, sha, sva, sza, svf, szf, hOs, bs1, bs2, bs3, bs4⟩ := hB.2.2.2.2.2.2.2.2.1 i2 u hi2
    have hi150 : i < 150 := Nat.lt_of_lt_of_le (List.getElem?_eq_some_iff.mp hi).1 (by omega)
    have hi2150 : i2 < 150 := Nat.lt_of_lt_of_le (List.getElem?_eq_some_iff.mp hi2).1 (by omega)
    obtain ⟨pl0, hpl0⟩ := hB.2.2.2.2.1
    have hmx : max (vdp w) (vdp u) ≤ 40 := by have := hw.2.2; have := hwu.2.2; omega
    have hok := okS_pr hw.1 hwu.1 (show 2 ≤ vm w by omega)
    obtain ⟨LO, eLO⟩ : ∃ LO, LO = rpl3 (vlo w) 1 (vlo u 1) := ⟨_, rfl⟩
    obtain ⟨HI, eHI⟩ : ∃ HI, HI = rpl3 (vhi w) 1 (vhi u 1) := ⟨_, rfl⟩
    rw [← eLO, ← eHI] at hok
    rw [← eLO, ← eHI, mx_nI hw.2.2 hwu.2.2] at specE
    have uLO : upd (vlo w) 1 (vlo u 1) = LO := by rw [eLO]; exact (rpl3_N 1 (by decide) (by decide)).symm
    have uHI : upd (vhi w) 1 (vhi u 1) = HI := by rw [eHI]; exact (rpl3_N 1 (by decide) (by decide)).symm
    have eL0 : LO 0 = vlo w 0 := by rw [← uLO]; rfl
    have eH0 : HI 0 = vhi w 0 := by rw [← uHI]; rfl
    have eL1 : LO 1 = vlo u 1 := by rw [← uLO]; rfl
    have eH1 : HI 1 = vhi u 1 := by rw [← uHI]; rfl
    have bw := hw.1.2.2.2 2 (by omega) (by decide)
    have bu := hwu.1.2.2.2 2 (by omega) (by decide)
    refine q_aload_n X dX13_product_66 0 rfl ?_
    refine q_get X hB.1 rfl in_RX13 2 (by decide) tw_1196 rfl rfl dX13_product_67 ?_
    refine q_iload_n X dX13_product_70 1 rfl ?_
    refine q_gald X i hB.2.2.1 (rfl) (hi150) (by decide) hnfo dX13_product_71 ?_
    refine q_astore_n (lv' := [(3, .ref o), (0, .ref r), (1, .int (nI i)), (2, .int (nI i2))]) X dX13_product_72 (by decide) rfl ?_
    refine q_aload_n X dX13_product_73 1 rfl ?_
    refine q_get X hB.1 rfl in_RX13 2 (by decide) tw_1196 rfl rfl dX13_product_74 ?_
    refine q_iload_n X dX13_product_77 3 rfl ?_
    refine q_gald X i2 hB.2.2.1 (rfl) (hi2150) (by decide) hnfs dX13_product_78 ?_
    refine q_astore (lv' := [(4, .ref s), (3, .ref o), (0, .ref r), (1, .int (nI i)), (2, .int (nI i2))]) X dX13_product_79 (by decide) rfl ?_
    refine q_aload_n X dX13_product_81 1 rfl ?_
    refine q_iconst (v := 1) X dX13_product_82 (by decide) ?_
    refine q_aload_n X dX13_product_83 1 rfl ?_
    refine q_get X hO.1 rfl in_RX12 1 (by decide) tw_1157 rfl rfl dX13_product_84 ?_
    refine q_aload X dX13_product_87 0 rfl ?_
    refine q_get X hOs.1 rfl in_RX12 1 (by decide) tw_1157 rfl rfl dX13_product_89 ?_
    refine q_callSp X (c_J9_max_7cf53) Y_J9_max_7cf53 tw_1394 tw_123 (by omega) rfl rfl (Nat.le_of_ble_eq_true rfl) dX13_product_92 ?_
    refine q_iadd X dX13_product_95 ?_
    rw [mx_dp hw.2.2 hwu.2.2]
    refine q_callS X (c_like hO.1 hO.2.1 hO.2.2.1) Y_X13_like tw_1336 tw_1337 (by omega) rfl rfl (Nat.le_of_ble_eq_true rfl) (rc' := 2) (rs' := 4096) (by omega) (by omega) dX13_product_96 (fun v M' hp _ => ?_)
    obtain ⟨q, la, ha, rfl, fq, fla, fha, llh, llq, lhq, hq1, hla1, hha1, ev1⟩ := hp
    generalize M' = M1 at *
    have m_1 : M1 r = some (oB 13 [.int 0, .ref vA, .ref nA, .ref pA, .ref plA, .ref dg, .int (nI (aV σ).length), .int (nI (aN σ).length), .int (nI (aOf σ)), .int (nI (aBg σ)), .int tk, .long su, .long le, .long gr]) := ev1.keep hB.1 id
    have m_2 : M1 nA = some (aG G 150 nf) := ev1.keep hB.2.2.1 id
    have m_3 : M1 o = some (oB 12 [.int (nI (vm w)), .int (nI (vdp w)), .ref ola, .ref oha, .ref ova, .ref oza]) := ev1.keep hO.1 id
    have m_4 : M1 ola = some (aI G 3 (vlo w)) := ev1.keep hO.2.1 id
    have m_5 : M1 oha = some (aI G 3 (vhi w)) := ev1.keep hO.2.2.1 id
    have m_6 : M1 ova = some (aJ G (wsz w) ovf) := ev1.keep hO.2.2.2.1 id
    have m_7 : M1 oza = some (aZ G (wsz w) ozf) := ev1.keep hO.2.2.2.2.1 id
    have m_8 : M1 s = some (oB 12 [.int (nI (vm u)), .int (nI (vdp u)), .ref sla, .ref sha, .ref sva, .ref sza]) := ev1.keep hOs.1 id
    have m_9 : M1 sla = some (aI G 3 (vlo u)) := ev1.keep hOs.2.1 id
    have m_10 : M1 sha = some (aI G 3 (vhi u)) := ev1.keep hOs.2.2.1 id
    have m_11 : M1 sva = some (aJ G (wsz u) svf) := ev1.keep hOs.2.2.2.1 id
    have m_12 : M1 sza = some (aZ G (wsz u) szf) := ev1.keep hOs.2.2.2.2.1 id
    have m_13 : M1 plA = some (aI G 3 pl0) := ev1.keep hpl0 id
    have evK1 : mEv (fun x => x = r ∨ x = plA) M M1 := ev1.mono (fun _ _ z => z.elim)
    show qJ G F _ 9 M1 2 4096 99 [(4, .ref s), (3, .ref o), (0, .ref r), (1, .int (nI i)), (2, .int (nI i2))] [.ref q]
    refine q_astore (lv' := [(5, .ref q), (4, .ref s), (3, .ref o), (0, .ref r), (1, .int (nI i)), (2, .int (nI i2))]) X dX13_product_99 (by decide) rfl ?_
    refine q_aload X dX13_product_101 0 rfl ?_
    refine q_get X hq1 rfl in_RX12 2 (by decide) tw_1159 rfl rfl dX13_product_103 ?_
    refine q_iconst (v := 1) X dX13_product_106 (by decide) ?_
    refine q_aload X dX13_product_107 1 rfl ?_
    refine q_get X m_8 rfl in_RX12 2 (by decide) tw_1159 rfl rfl dX13_product_109 ?_
    refine q_iconst (v := 1) X dX13_product_112 (by decide) ?_
    refine q_ialdN X 1 m_9 (rfl) (by decide) (by decide) dX13_product_113 ?_
    refine q_iastN X 1 hla1 (rfl) (by decide) (by decide) dX13_product_114 ?_
    have m_14 : (mU M1 la (aI G 3 (upd (vlo w) 1 ((vlo u) 1)))) r = some (oB 13 [.int 0, .ref vA, .ref nA, .ref pA, .ref plA, .ref dg, .int (nI (aV σ).length), .int (nI (aN σ).length), .int (nI (aOf σ)), .int (nI (aBg σ)), .int tk, .long su, .long le, .long gr]) := (mU_n (g_nef hB.1 fla)).trans m_1
    have m_15 : (mU M1 la (aI G 3 (upd (vlo w) 1 ((vlo u) 1)))) nA = some (aG G 150 nf) := (mU_n (g_nef hB.2.2.1 fla)).trans m_2
    have m_16 : (mU M1 la (aI G 3 (upd (vlo w) 1 ((vlo u) 1)))) o = some (oB 12 [.int (nI (vm w)), .int (nI (vdp w)), .ref ola, .ref oha, .ref ova, .ref oza]) := (mU_n (g_nef hO.1 fla)).trans m_3
    have m_17 : (mU M1 la (aI G 3 (upd (vlo w) 1 ((vlo u) 1)))) ola = some (aI G 3 (vlo w)) := (mU_n (g_nef hO.2.1 fla)).trans m_4
    have m_18 : (mU M1 la (aI G 3 (upd (vlo w) 1 ((vlo u) 1)))) oha = some (aI G 3 (vhi w)) := (mU_n (g_nef hO.2.2.1 fla)).trans m_5
    have m_19 : (mU M1 la (aI G 3 (upd (vlo w) 1 ((vlo u) 1)))) ova = some (aJ G (wsz w) ovf) := (mU_n (g_nef hO.2.2.2.1 fla)).trans m_6
    have m_20 : (mU M1 la (aI G 3 (upd (vlo w) 1 ((vlo u) 1)))) oza = some (aZ G (wsz w) ozf) := (mU_n (g_nef hO.2.2.2.2.1 fla)).trans m_7
    have m_21 : (mU M1 la (aI G 3 (upd (vlo w) 1 ((vlo u) 1)))) s = some (oB 12 [.int (nI (vm u)), .int (nI (vdp u)), .ref sla, .ref sha, .ref sva, .ref sza]) := (mU_n (g_nef hOs.1 fla)).trans m_8
    have m_22 : (mU M1 la (aI G 3 (upd (vlo w) 1 ((vlo u) 1)))) sla = some (aI G 3 (vlo u)) := (mU_n (g_nef hOs.2.1 fla)).trans m_9
    have m_23 : (mU M1 la (aI G 3 (upd (vlo w) 1 ((vlo u) 1)))) sha = some (aI G 3 (vhi u)) := (mU_n (g_nef hOs.2.2.1 fla)).trans m_10
    have m_24 : (mU M1 la (aI G 3 (upd (vlo w) 1 ((vlo u) 1)))) sva = some (aJ G (wsz u) svf) := (mU_n (g_nef hOs.2.2.2.1 fla)).trans m_11
    have m_25 : (mU M1 la (aI G 3 (upd (vlo w) 1 ((vlo u) 1)))) sza = some (aZ G (wsz u) szf) := (mU_n (g_nef hOs.2.2.2.2.1 fla)).trans m_12
    have m_26 : (mU M1 la (aI G 3 (upd (vlo w) 1 ((vlo u) 1)))) plA = some (aI G 3 pl0) := (mU_n (g_nef hpl0 fla)).trans m_13
    have m_27 : (mU M1 la (aI G 3 (upd (vlo w) 1 ((vlo u) 1)))) q = some (oB 12 [.int (nI (vm w)), .int (nI (max (vdp w) (vdp u) + 1)), .ref la, .ref ha, .null, .null]) := (mU_n (Ne.symm (llq))).trans hq1
    have m_28 : (mU M1 la (aI G 3 (upd (vlo w) 1 ((vlo u) 1)))) la = some (aI G 3 (upd (vlo w) 1 ((vlo u) 1))) := mU_s
    have m_29 : (mU M1 la (aI G 3 (upd (vlo w) 1 ((vlo u) 1)))) ha = some (aI G 3 (vhi w)) := (mU_n (Ne.symm (llh))).trans hha1
    refine q_aload X dX13_product_115 0 rfl ?_
    refine q_get X m_27 rfl in_RX12 3 (by decide) tw_1161 rfl rfl dX13_product_117 ?_
    refine q_iconst (v := 1) X dX13_product_120 (by decide) ?_
    refine q_aload X dX13_product_121 1 rfl ?_
    refine q_get X m_21 rfl in_RX12 3 (by decide) tw_1161 rfl rfl dX13_product_123 ?_
    refine q_iconst (v := 1) X dX13_product_126 (by decide) ?_
    refine q_ialdN X 1 m_23 (rfl) (by decide) (by decide) dX13_product_127 ?_
    refine q_iastN X 1 m_29 (rfl) (by decide) (by decide) dX13_product_128 ?_
    have m_30 : (mU (mU M1 la (aI G 3 (upd (vlo w) 1 ((vlo u) 1)))) ha (aI G 3 (upd (vhi w) 1 ((vhi u) 1)))) r = some (oB 13 [.int 0, .ref vA, .ref nA, .ref pA, .ref plA, .ref dg, .int (nI (aV σ).length), .int (nI (aN σ).length), .int (nI (aOf σ)), .int (nI (aBg σ)), .int tk, .long su, .long le, .long gr]) := (mU_n (g_nef hB.1 fha)).trans m_14
    have m_31 : (mU (mU M1 la (aI G 3 (upd (vlo w) 1 ((vlo u) 1)))) ha (aI G 3 (upd (vhi w) 1 ((vhi u) 1)))) nA = some (aG G 150 nf) := (mU_n (g_nef hB.2.2.1 fha)).trans m_15
    have m_32 : (mU (mU M1 la (aI G 3 (upd (vlo w) 1 ((vlo u) 1)))) ha (aI G 3 (upd (vhi w) 1 ((vhi u) 1)))) o = some (oB 12 [.int (nI (vm w)), .int (nI (vdp w)), .ref ola, .ref oha, .ref ova, .ref oza]) := (mU_n (g_nef hO.1 fha)).trans m_16
    have m_33 : (mU (mU M1 la (aI G 3 (upd (vlo w) 1 ((vlo u) 1)))) ha (aI G 3 (upd (vhi w) 1 ((vhi u) 1)))) ola = some (aI G 3 (vlo w)) := (mU_n (g_nef hO.2.1 fha)).trans m_17
    have m_34 : (mU (mU M1 la (aI G 3 (upd (vlo w) 1 ((vlo u) 1)))) ha (aI G 3 (upd (vhi w) 1 ((vhi u) 1)))) oha = some (aI G 3 (vhi w)) := (mU_n (g_nef hO.2.2.1 fha)).trans m_18
    have m_35 : (mU (mU M1 la (aI G 3 (upd (vlo w) 1 ((vlo u) 1)))) ha (aI G 3 (upd (vhi w) 1 ((vhi u) 1)))) ova = some (aJ G (wsz w) ovf) := (mU_n (g_nef hO.2.2.2.1 fha)).trans m_19
    have m_36 : (mU (mU M1 la (aI G 3 (upd (vlo w) 1 ((vlo u) 1)))) ha (aI G 3 (upd (vhi w) 1 ((vhi u) 1)))) oza = some (aZ G (wsz w) ozf) := (mU_n (g_nef hO.2.2.2.2.1 fha)).trans m_20
    have m_37 : (mU (mU M1 la (aI G 3 (upd (vlo w) 1 ((vlo u) 1)))) ha (aI G 3 (upd (vhi w) 1 ((vhi u) 1)))) s = some (oB 12 [.int (nI (vm u)), .int (nI (vdp u)), .ref sla, .ref sha, .ref sva, .ref sza]) := (mU_n (g_nef hOs.1 fha)).trans m_21
    have m_38 : (mU (mU M1 la (aI G 3 (upd (vlo w) 1 ((vlo u) 1)))) ha (aI G 3 (upd (vhi w) 1 ((vhi u) 1)))) sla = some (aI G 3 (vlo u)) := (mU_n (g_nef hOs.2.1 fha)).trans m_22
    have m_39 : (mU (mU M1 la (aI G 3 (upd (vlo w) 1 ((vlo u) 1)))) ha (aI G 3 (upd (vhi w) 1 ((vhi u) 1)))) sha = some (aI G 3 (vhi u)) := (mU_n (g_nef hOs.2.2.1 fha)).trans m_23
    have m_40 : (mU (mU M1 la (aI G 3 (upd (vlo w) 1 ((vlo u) 1)))) ha (aI G 3 (upd (vhi w) 1 ((vhi u) 1)))) sva = some (aJ G (wsz u) svf) := (mU_n (g_nef hOs.2.2.2.1 fha)).trans m_24
    have m_41 : (mU (mU M1 la (aI G 3 (upd (vlo w) 1 ((vlo u) 1)))) ha (aI G 3 (upd (vhi w) 1 ((vhi u) 1)))) sza = some (aZ G (wsz u) szf) := (mU_n (g_nef hOs.2.2.2.2.1 fha)).trans m_25
    have m_42 : (mU (mU M1 la (aI G 3 (upd (vlo w) 1 ((vlo u) 1)))) ha (aI G 3 (upd (vhi w) 1 ((vhi u) 1)))) plA = some (aI G 3 pl0) := (mU_n (g_nef hpl0 fha)).trans m_26
    have m_43 : (mU (mU M1 la (aI G 3 (upd (vlo w) 1 ((vlo u) 1)))) ha (aI G 3 (upd (vhi w) 1 ((vhi u) 1)))) q = some (oB 12 [.int (nI (vm w)), .int (nI (max (vdp w) (vdp u) + 1)), .ref la, .ref ha, .null, .null]) := (mU_n (Ne.symm (lhq))).trans m_27
    have m_44 : (mU (mU M1 la (aI G 3 (upd (vlo w) 1 ((vlo u) 1)))) ha (aI G 3 (upd (vhi w) 1 ((vhi u) 1)))) la = some (aI G 3 (upd (vlo w) 1 ((vlo u) 1))) := (mU_n (llh)).trans m_28
    have m_45 : (mU (mU M1 la (aI G 3 (upd (vlo w) 1 ((vlo u) 1)))) ha (aI G 3 (upd (vhi w) 1 ((vhi u) 1)))) ha = some (aI G 3 (upd (vhi w) 1 ((vhi u) 1))) := mU_s
    rw [uLO, uHI] at *
    have evM2 : mEv (fun x => x = r ∨ x = plA) M (mU (mU M1 la (aI G 3 LO)) ha (aI G 3 HI)) := fun x hx => by
      have wla : x ≠ la := fun z => hx (z ▸ fla)
      have wha : x ≠ ha := fun z => hx (z ▸ fha)
      have e1 := evK1 x hx
      have e : (mU (mU M1 la (aI G 3 LO)) ha (aI G 3 HI)) x = M1 x := by simp only [mU, wla, wha, if_false]
      exact ⟨by rw [e]; exact e1.1, fun k => e.trans (e1.2 k)⟩
    generalize mU (mU M1 la (aI G 3 LO)) ha (aI G 3 HI) = M2 at *
    refine q_aload_n X dX13_product_129 3 rfl ?_
    refine q_aload X dX13_product_130 0 rfl ?_
    have hB2 : rfB G M2 r 0 σ vA nA pA plA dg dla dha dva dza dvf dzf vf nf pf tk su le gr := hB.ev2 evM2 m_30 ⟨_, m_42⟩
    by_cases hlim : ¬ sWithin (LO) (HI) = 0 ∧ nI (max (vdp w) (vdp u)) < 40
    · refine q_callV X (c_large_y hB2 hok hmx m_43 m_44 m_45 hlim) Y_X13_large tw_1359 tw_1361 sel_32 m_30 rfl (by omega) rfl rfl (Nat.le_of_ble_eq_true rfl) (rc' := 2) (rs' := 4096) (by omega) (by omega) dX13_product_132 (fun v M' hp _ => ?_)
      obtain ⟨rfl, eM⟩ := hp
      have m_46 : M' r = some (oB 13 [.int 0, .ref vA, .ref nA, .ref pA, .ref plA, .ref dg, .int (nI (aV σ).length), .int (nI (aN σ).length), .int (nI (aOf σ)), .int (nI (aBg σ)), .int tk, .long su, .long le, .long gr]) := by rw [eM]; exact mU_s
      have m_47 : M' nA = some (aG G 150 nf) := by rw [eM]; exact (mU_n (Ne.symm (g_neoa m_30 m_31))).trans m_31
      have m_48 : M' o = some (oB 12 [.int (nI (vm w)), .int (nI (vdp w)), .ref ola, .ref oha, .ref ova, .ref oza]) := by rw [eM]; exact (mU_n (g_neoo m_32 m_30 (by decide))).trans m_32
      have m_49 : M' ola = some (aI G 3 (vlo w)) := by rw [eM]; exact (mU_n (Ne.symm (g_neoa m_30 m_33))).trans m_33
      have m_50 : M' oha = some (aI G 3 (vhi w)) := by rw [eM]; exact (mU_n (Ne.symm (g_neoa m_30 m_34))).trans m_34
      have m_51 : M' ova = some (aJ G (wsz w) ovf) := by rw [eM]; exact (mU_n (Ne.symm (g_neoa m_30 m_35))).trans m_35
      have m_52 : M' oza = some (aZ G (wsz w) ozf) := by rw [eM]; exact (mU_n (Ne.symm (g_neoa m_30 m_36))).trans m_36
      have m_53 : M' s = some (oB 12 [.int (nI (vm u)), .int (nI (vdp u)), .ref sla, .ref sha, .ref sva, .ref sza]) := by rw [eM]; exact (mU_n (g_neoo m_37 m_30 (by decide))).trans m_37
      have m_54 : M' sla = some (aI G 3 (vlo u)) := by rw [eM]; exact (mU_n (Ne.symm (g_neoa m_30 m_38))).trans m_38
      have m_55 : M' sha = some (aI G 3 (vhi u)) := by rw [eM]; exact (mU_n (Ne.symm (g_neoa m_30 m_39))).trans m_39
      have m_56 : M' sva = some (aJ G (wsz u) svf) := by rw [eM]; exact (mU_n (Ne.symm (g_neoa m_30 m_40))).trans m_40
      have m_57 : M' sza = some (aZ G (wsz u) szf) := by rw [eM]; exact (mU_n (Ne.symm (g_neoa m_30 m_41))).trans m_41
      have m_58 : M' plA = some (aI G 3 pl0) := by rw [eM]; exact (mU_n (Ne.symm (g_neoa m_30 m_42))).trans m_42
      have m_59 : M' q = some (oB 12 [.int (nI (vm w)), .int (nI (max (vdp w) (vdp u) + 1)), .ref la, .ref ha, .null, .null]) := by rw [eM]; exact (mU_n (Ne.symm (g_nef hB.1 fq))).trans m_43
      have m_60 : M' la = some (aI G 3 LO) := by rw [eM]; exact (mU_n (Ne.symm (g_nef hB.1 fla))).trans m_44
      have m_61 : M' ha = some (aI G 3 HI) := by rw [eM]; exact (mU_n (Ne.symm (g_nef hB.1 fha))).trans m_45
      have evK3 : mEv (fun x => x = r ∨ x = plA) M M' := by rw [eM]; exact evM2.trans (mEv_upd (K := (fun x => x = r ∨ x = plA)) (Or.inl rfl))
      have hB3 : rfB G M' r 0 σ vA nA pA plA dg dla dha dva dza dvf dzf vf nf pf tk su le gr := by rw [eM]; exact hB2.ro
      clear eM
      generalize M' = M3 at *
      show qJ G F _ 9 M3 2 4096 135 [(5, .ref q), (4, .ref s), (3, .ref o), (0, .ref r), (1, .int (nI i)), (2, .int (nI i2))] [.int 0]
      refine q_if_eq X 140 dX13_product_135 (by decide) (fun c_62 => ?_) (fun c_62 => absurd (by decide) c_62)
      have hw2 := (within_ok hok hlim.1).2
      refine q_aload X dX13_product_140 0 rfl ?_
      refine q_callV X (c_X12_make (n := sz3 LO HI) m_59 m_60 m_61 hok.size (by omega)) Y_X12_make tw_1179 tw_1180 tw_1181 m_59 rfl (by omega) rfl rfl (Nat.le_of_ble_eq_true rfl) (rc' := 0) (rs' := 0) (by omega) (by omega) dX13_product_142 (fun v M' hp _ => ?_)
      obtain ⟨rfl, va, za, fva3, fza3, lvz, hq4, hva4, hza4, ev4⟩ := hp
      generalize M' = M4 at *
      have fva : M va = none := evK3.none fva3
      have fza : M za = none := evK3.none fza3
      have m_63 : M4 r = some (oB 13 [.int 0, .ref vA, .ref nA, .ref pA, .ref plA, .ref dg, .int (nI (aV σ).length), .int (nI (aN σ).length), .int (nI (aOf σ)), .int (nI (aBg σ)), .int tk, .long su, .long le, .long gr]) := ev4.keep m_46 (g_nef hB.1 fq)
      have m_64 : M4 nA = some (aG G 150 nf) := ev4.keep m_47 (g_nef hB.2.2.1 fq)
      have m_65 : M4 o = some (oB 12 [.int (nI (vm w)), .int (nI (vdp w)), .ref ola, .ref oha, .ref ova, .ref oza]) := ev4.keep m_48 (g_nef hO.1 fq)
      have m_66 : M4 ola = some (aI G 3 (vlo w)) := ev4.keep m_49 (g_nef hO.2.1 fq)
      have m_67 : M4 oha = some (aI G 3 (vhi w)) := ev4.keep m_50 (g_nef hO.2.2.1 fq)
      have m_68 : M4 ova = some (aJ G (wsz w) ovf) := ev4.keep m_51 (g_nef hO.2.2.2.1 fq)
      have m_69 : M4 oza = some (aZ G (wsz w) ozf) := ev4.keep m_52 (g_nef hO.2.2.2.2.1 fq)
      have m_70 : M4 s = some (oB 12 [.int (nI (vm u)), .int (nI (vdp u)), .ref sla, .ref sha, .ref sva, .ref sza]) := ev4.keep m_53 (g_nef hOs.1 fq)
      have m_71 : M4 sla = some (aI G 3 (vlo u)) := ev4.keep m_54 (g_nef hOs.2.1 fq)
      have m_72 : M4 sha = some (aI G 3 (vhi u)) := ev4.keep m_55 (g_nef hOs.2.2.1 fq)
      have m_73 : M4 sva = some (aJ G (wsz u) svf) := ev4.keep m_56 (g_nef hOs.2.2.2.1 fq)
      have m_74 : M4 sza = some (aZ G (wsz u) szf) := ev4.keep m_57 (g_nef hOs.2.2.2.2.1 fq)
      have m_75 : M4 plA = some (aI G 3 pl0) := ev4.keep m_58 (g_nef hpl0 fq)
      have m_76 : M4 la = some (aI G 3 LO) := ev4.keep m_60 (llq)
      have m_77 : M4 ha = some (aI G 3 HI) := ev4.keep m_61 (lhq)
      have evK4 : mEv (fun x => x = r ∨ x = plA) M M4 := fun x hx => by
        have wq : x ≠ q := fun z => hx (z ▸ fq)
        have e1 := evK3 x hx
        have e2 := ev4 x e1.1
        exact ⟨e2.1, fun k => (e2.2 wq).trans (e1.2 k)⟩
      have hB4 : rfB G M4 r 0 σ vA nA pA plA dg dla dha dva dza dvf dzf vf nf pf tk su le gr := hB.ev2 evK4 m_63 ⟨_, m_75⟩
      show qJ G F _ 9 M4 0 0 145 [(5, .ref q), (4, .ref s), (3, .ref o), (0, .ref r), (1, .int (nI i)), (2, .int (nI i2))] []
      have hzz : sz3 LO HI ≤ 4096 := by omega
      have hS2 : sN LO HI 2 = 1 := hok.one (by decide) (by omega)
      have hl2 : LO 2 = 0 := (hok.2.2.2 2 (by omega) (by decide)).1
      have hzw := hw.2.1
      have hzu := hwu.2.1
      have lA := hw.1.lo (d := 1) (by decide)
      have NA := hw.1.N (d := 1) (by decide)
      have yA := hw.1.hi (d := 1) (by decide)
      have kv : ∀ {x : Nat} {e : va_E}, M4 x = some e → x ≠ va → x ≠ za → ∀ (v9 : Nat → Int64) (z9 : Nat → Int32), (mU (mU M4 va (aJ G (sz3 LO HI) (v9))) za (aZ G (sz3 LO HI) (z9))) x = some e := fun h h1 h2 _ _ => (mU_n h2).trans ((mU_n h1).trans h)
      have kr : ∀ (v9 : Nat → Int64) (z9 : Nat → Int32), (mU (mU M4 va (aJ G (sz3 LO HI) (v9))) za (aZ G (sz3 LO HI) (z9))) r = some (oB 13 [.int 0, .ref vA, .ref nA, .ref pA, .ref plA, .ref dg, .int (nI (aV σ).length), .int (nI (aN σ).length), .int (nI (aOf σ)), .int (nI (aBg σ)), .int tk, .long su, .long le, .long gr]) := kv m_63 (g_nef m_46 fva3) (g_nef m_46 fza3)
      have kplA : ∀ (v9 : Nat → Int64) (z9 : Nat → Int32), (mU (mU M4 va (aJ G (sz3 LO HI) (v9))) za (aZ G (sz3 LO HI) (z9))) plA = some (aI G 3 pl0) := kv m_75 (g_nef m_58 fva3) (g_nef m_58 fza3)
      have kq : ∀ (v9 : Nat → Int64) (z9 : Nat → Int32), (mU (mU M4 va (aJ G (sz3 LO HI) (v9))) za (aZ G (sz3 LO HI) (z9))) q = some (oB 12 [.int (nI (vm w)), .int (nI (max (vdp w) (vdp u) + 1)), .ref la, .ref ha, .ref va, .ref za]) := kv hq4 (g_nef m_59 fva3) (g_nef m_59 fza3)
      have kla : ∀ (v9 : Nat → Int64) (z9 : Nat → Int32), (mU (mU M4 va (aJ G (sz3 LO HI) (v9))) za (aZ G (sz3 LO HI) (z9))) la = some (aI G 3 LO) := kv m_76 (g_nef m_60 fva3) (g_nef m_60 fza3)
      have kha : ∀ (v9 : Nat → Int64) (z9 : Nat → Int32), (mU (mU M4 va (aJ G (sz3 LO HI) (v9))) za (aZ G (sz3 LO HI) (z9))) ha = some (aI G 3 HI) := kv m_77 (g_nef m_61 fva3) (g_nef m_61 fza3)
      have ko : ∀ (v9 : Nat → Int64) (z9 : Nat → Int32), (mU (mU M4 va (aJ G (sz3 LO HI) (v9))) za (aZ G (sz3 LO HI) (z9))) o = some (oB 12 [.int (nI (vm w)), .int (nI (vdp w)), .ref ola, .ref oha, .ref ova, .ref oza]) := kv m_65 (g_nef m_48 fva3) (g_nef m_48 fza3)
      have kola : ∀ (v9 : Nat → Int64) (z9 : Nat → Int32), (mU (mU M4 va (aJ G (sz3 LO HI) (v9))) za (aZ G (sz3 LO HI) (z9))) ola = some (aI G 3 (vlo w)) := kv m_66 (g_nef m_49 fva3) (g_nef m_49 fza3)
      have koha : ∀ (v9 : Nat → Int64) (z9 : Nat → Int32), (mU (mU M4 va (aJ G (sz3 LO HI) (v9))) za (aZ G (sz3 LO HI) (z9))) oha = some (aI G 3 (vhi w)) := kv m_67 (g_nef m_50 fva3) (g_nef m_50 fza3)
      have kova : ∀ (v9 : Nat → Int64) (z9 : Nat → Int32), (mU (mU M4 va (aJ G (sz3 LO HI) (v9))) za (aZ G (sz3 LO HI) (z9))) ova = some (aJ G (wsz w) ovf) := kv m_68 (g_nef m_51 fva3) (g_nef m_51 fza3)
      have koza : ∀ (v9 : Nat → Int64) (z9 : Nat → Int32), (mU (mU M4 va (aJ G (sz3 LO HI) (v9))) za (aZ G (sz3 LO HI) (z9))) oza = some (aZ G (wsz w) ozf) := kv m_69 (g_nef m_52 fva3) (g_nef m_52 fza3)
      have ks : ∀ (v9 : Nat → Int64) (z9 : Nat → Int32), (mU (mU M4 va (aJ G (sz3 LO HI) (v9))) za (aZ G (sz3 LO HI) (z9))) s = some (oB 12 [.int (nI (vm u)), .int (nI (vdp u)), .ref sla, .ref sha, .ref sva, .ref sza]) := kv m_70 (g_nef m_53 fva3) (g_nef m_53 fza3)
      have ksla : ∀ (v9 : Nat → Int64) (z9 : Nat → Int32), (mU (mU M4 va (aJ G (sz3 LO HI) (v9))) za (aZ G (sz3 LO HI) (z9))) sla = some (aI G 3 (vlo u)) := kv m_71 (g_nef m_54 fva3) (g_nef m_54 fza3)
      have ksha : ∀ (v9 : Nat → Int64) (z9 : Nat → Int32), (mU (mU M4 va (aJ G (sz3 LO HI) (v9))) za (aZ G (sz3 LO HI) (z9))) sha = some (aI G 3 (vhi u)) := kv m_72 (g_nef m_55 fva3) (g_nef m_55 fza3)
      have ksva : ∀ (v9 : Nat → Int64) (z9 : Nat → Int32), (mU (mU M4 va (aJ G (sz3 LO HI) (v9))) za (aZ G (sz3 LO HI) (z9))) sva = some (aJ G (wsz u) svf) := kv m_73 (g_nef m_56 fva3) (g_nef m_56 fza3)
      have ksza : ∀ (v9 : Nat → Int64) (z9 : Nat → Int32), (mU (mU M4 va (aJ G (sz3 LO HI) (v9))) za (aZ G (sz3 LO HI) (z9))) sza = some (aZ G (wsz u) szf) := kv m_74 (g_nef m_57 fva3) (g_nef m_57 fza3)
      have kva : ∀ (v9 : Nat → Int64) (z9 : Nat → Int32), (mU (mU M4 va (aJ G (sz3 LO HI) (v9))) za (aZ G (sz3 LO HI) (z9))) va = some (aJ G (sz3 LO HI) v9) := fun _ _ => (mU_n lvz).trans mU_s
      have kza : ∀ (v9 : Nat → Int64) (z9 : Nat → Int32), (mU (mU M4 va (aJ G (sz3 LO HI) (v9))) za (aZ G (sz3 LO HI) (z9))) za = some (aZ G (sz3 LO HI) z9) := fun _ _ => mU_s
      have l0 := hok.lo (d := 0) (by decide)
      have N0 := hok.N (d := 0) (by decide)
      have y0 := hok.hi (d := 0) (by decide)
      have l1 := hok.lo (d := 1) (by decide)
      have N1 := hok.N (d := 1) (by decide)
      have y1 := hok.hi (d := 1) (by decide)
      have l2 := hok.lo (d := 2) (by decide)
      have N2 := hok.N (d := 2) (by decide)
      have y2 := hok.hi (d := 2) (by decide)
      have hfin : ∀ M2 : gMem, (M2 = mU (mU M4 va (aJ G (sz3 LO HI) (vF (prD w u LO HI) (c3 (sN LO HI 1) (sN LO HI 2) (sN LO HI 0) 0 0)))) za (aZ G (sz3 LO HI) (zF (prD w u LO HI) (c3 (sN LO HI 1) (sN LO HI 2) (sN LO HI 0) 0 0)))) → qJ G F (qQ G F (rfP G r cOp (some (.int 0)) (sp_product σ (nI i) (nI i2)))) 9 M2 0 0 354 [(0, .ref r), (1, .int (nI i)), (2, .int (nI i2)), (3, .ref o), (4, .ref s), (5, .ref q)] [] := by
        intro M2 hI
        subst hI
        rw [c3_A, show sN LO HI 0 * sN LO HI 1 * sN LO HI 2 = sz3 LO HI from rfl]
        have evz : mEv (fun x => x = r ∨ x = plA) M (mU (mU M4 va (aJ G (sz3 LO HI) (vF (prD w u LO HI) (sz3 LO HI)))) za (aZ G (sz3 LO HI) (zF (prD w u LO HI) (sz3 LO HI)))) := fun x hx => by
          have w1 : x ≠ va := fun z => hx (z ▸ fva)
          have w2 : x ≠ za := fun z => hx (z ▸ fza)
          have e1 := evK4 x hx
          have e : (mU (mU M4 va (aJ G (sz3 LO HI) (vF (prD w u LO HI) (sz3 LO HI)))) za (aZ G (sz3 LO HI) (zF (prD w u LO HI) (sz3 LO HI)))) x = M4 x := (mU_n w2).trans (mU_n w1)
          exact ⟨by rw [e]; exact e1.1, fun k => e.trans (e1.2 k)⟩
        have hBz : rfB G (mU (mU M4 va (aJ G (sz3 LO HI) (vF (prD w u LO HI) (sz3 LO HI)))) za (aZ G (sz3 LO HI) (zF (prD w u LO HI) (sz3 LO HI)))) r 0 σ vA nA pA plA dg dla dha dva dza dvf dzf vf nf pf tk su le gr := hB.ev2 evz (kr (vF (prD w u LO HI) (sz3 LO HI)) (zF (prD w u LO HI) (sz3 LO HI))) ⟨_, kplA (vF (prD w u LO HI) (sz3 LO HI)) (zF (prD w u LO HI) (sz3 LO HI))⟩
        have nb : ∀ {x : Nat}, M x = none → ¬ rBad plA pA dva dza x := fun h z => by
          rcases z with z | z | z | z
          · rw [z, hpl0] at h; cases h
          · rw [z, hB.2.2.2.1] at h; cases h
          · rw [z, hB.2.2.2.2.2.1.2.2.2.1] at h; cases h
          · rw [z, hB.2.2.2.2.2.1.2.2.2.2.1] at h; cases h
        have hg : isGrd G (mU (mU M4 va (aJ G (sz3 LO HI) (vF (prD w u LO HI) (sz3 LO HI)))) za (aZ G (sz3 LO HI) (zF (prD w u LO HI) (sz3 LO HI)))) (rBad plA pA dva dza) q (vm w, LO, HI, max (vdp w) (vdp u) + 1, prD w u LO HI) := grd_mk (kq (vF (prD w u LO HI) (sz3 LO HI)) (zF (prD w u LO HI) (sz3 LO HI))) (kla (vF (prD w u LO HI) (sz3 LO HI)) (zF (prD w u LO HI) (sz3 LO HI))) (kha (vF (prD w u LO HI) (sz3 LO HI)) (zF (prD w u LO HI) (sz3 LO HI))) (kva (vF (prD w u LO HI) (sz3 LO HI)) (zF (prD w u LO HI) (sz3 LO HI))) (kza (vF (prD w u LO HI) (sz3 LO HI)) (zF (prD w u LO HI) (sz3 LO HI))) (gCt_F (prD w u LO HI) (sz3 LO HI)) (nb fla) (nb fha) (nb fva) (nb fza)
        refine q_aload_n X dX13_product_354 0 rfl ?_
        refine q_aload X dX13_product_355 5 rfl ?_
        refine q_callV X (c_made hBz hg h150) Y_X13_made tw_1339 tw_1341 sel_28 (kr (vF (prD w u LO HI) (sz3 LO HI)) (zF (prD w u LO HI) (sz3 LO HI))) rfl (by omega) rfl rfl (Nat.le_of_ble_eq_true rfl) (rc' := 0) (rs' := 0) (Nat.le_refl _) (Nat.le_refl _) dX13_product_357 (fun v M' hp _ => ?_)
        obtain ⟨rfl, hz9⟩ := hp
        generalize M' = M9 at *
        show qJ G F _ 9 M9 0 0 360 [(0, .ref r), (1, .int (nI i)), (2, .int (nI i2)), (3, .ref o), (4, .ref s), (5, .ref q)] [.int (nI (aN σ).length)]
        exact q_iret X hr dX13_product_360 (rfP_K (by rw [specE]; exact gLim_y hlim) hz9)
      have L3 : ∀ (e j : Nat) (he : e < sN LO HI 0) (hj : j < sN LO HI 1) (kk : ∀ M2 : gMem, (M2 = mU (mU M4 va (aJ G (sz3 LO HI) (vp_updL (vF (prD w u LO HI) (c3 (sN LO HI 1) (sN LO HI 2) e j 0)) (c3 (sN LO HI 1) (sN LO HI 2) e j 0) (prT w u LO HI (c3 (sN LO HI 1) (sN LO HI 2) e j 0) (sN (vlo w) (vhi w) 1)).2))) za (aZ G (sz3 LO HI) (upd (zF (prD w u LO HI) (c3 (sN LO HI 1) (sN LO HI 2) e j 0)) (c3 (sN LO HI 1) (sN LO HI 2) e j 0) (bI (prT w u LO HI (c3 (sN LO HI 1) (sN LO HI 2) e j 0) (sN (vlo w) (vhi w) 1)).1)))) → qJ G F (qQ G F (rfP G r cOp (some (.int 0)) (sp_product σ (nI i) (nI i2)))) 9 M2 0 0 342 [(0, .ref r), (1, .int (nI i)), (2, .int (nI i2)), (3, .ref o), (4, .ref s), (5, .ref q), (6, .int (LO 0 + nI (e))), (7, .int (LO 1 + nI (j)))] []) (t x7 : Nat) (M1 : gMem), x7 + t = sN (vlo w) (vhi w) 1 → (M1 = mU (mU M4 va (aJ G (sz3 LO HI) (vp_updL (vF (prD w u LO HI) (c3 (sN LO HI 1) (sN LO HI 2) e j 0)) (c3 (sN LO HI 1) (sN LO HI 2) e j 0) (prT w u LO HI (c3 (sN LO HI 1) (sN LO HI 2) e j 0) (x7)).2))) za (aZ G (sz3 LO HI) (upd (zF (prD w u LO HI) (c3 (sN LO HI 1) (sN LO HI 2) e j 0)) (c3 (sN LO HI 1) (sN LO HI 2) e j 0) (bI (prT w u LO HI (c3 (sN LO HI 1) (sN LO HI 2) e j 0) (x7)).1)))) → qJ G F (qQ G F (rfP G r cOp (some (.int 0)) (sp_product σ (nI i) (nI i2)))) 9 M1 0 0 195 [(0, .ref r), (1, .int (nI i)), (2, .int (nI i2)), (3, .ref o), (4, .ref s), (5, .ref q), (6, .int (LO 0 + nI (e))), (7, .int (LO 1 + nI (j))), (8, .int (vlo w 1 + nI (x7)))] [] := by
        intro e j he hj kk t
        induction t with
        | zero =>
          intro x7 M1 hx70 hI
          obtain rfl : x7 = sN (vlo w) (vhi w) 1 := by omega
          have hI0 := hI
          subst hI
          refine q_iload X dX13_product_195 8 rfl ?_
          refine q_aload_n X dX13_product_197 3 rfl ?_
          refine q_get X (ko (vp_updL (vF (prD w u LO HI) (c3 (sN LO HI 1) (sN LO HI 2) e j 0)) (c3 (sN LO HI 1) (sN LO HI 2) e j 0) (prT w u LO HI (c3 (sN LO HI 1) (sN LO HI 2) e j 0) (sN (vlo w) (vhi w) 1)).2) (upd (zF (prD w u LO HI) (c3 (sN LO HI 1) (sN LO HI 2) e j 0)) (c3 (sN LO HI 1) (sN LO HI 2) e j 0) (bI (prT w u LO HI (c3 (sN LO HI 1) (sN LO HI 2) e j 0) (sN (vlo w) (vhi w) 1)).1))) rfl in_RX12 3 (by decide) tw_1161 rfl rfl dX13_product_198 ?_
          refine q_iconst (v := 1) X dX13_product_201 (by decide) ?_
          refine q_ialdN X 1 (koha (vp_updL (vF (prD w u LO HI) (c3 (sN LO HI 1) (sN LO HI 2) e j 0)) (c3 (sN LO HI 1) (sN LO HI 2) e j 0) (prT w u LO HI (c3 (sN LO HI 1) (sN LO HI 2) e j 0) (sN (vlo w) (vhi w) 1)).2) (upd (zF (prD w u LO HI) (c3 (sN LO HI 1) (sN LO HI 2) e j 0)) (c3 (sN LO HI 1) (sN LO HI 2) e j 0) (bI (prT w u LO HI (c3 (sN LO HI 1) (sN LO HI 2) e j 0) (sN (vlo w) (vhi w) 1)).1))) (rfl) (by decide) (by decide) dX13_product_202 ?_
          refine q_icmp_gt X 342 dX13_product_203 (by decide) (fun c_78 => ?_) (fun c_78 => absurd (by rw [yA]; exact (lo_lt lA.1 lA.2 (by omega) (by omega)).mpr (by omega)) c_78)
          refine q_sub [0, 1, 2, 3, 4, 5, 6, 7] rfl ?_
          exact kk _ hI0
        | succ t ih =>
          intro x7 M1 hx70 hI
          have hx7 : x7 < sN (vlo w) (vhi w) 1 := by omega
          subst hI
          have hc9 : c3 (sN LO HI 1) (sN LO HI 2) e j 0 < sz3 LO HI := c3_lt he hj (show 0 < sN LO HI 2 by omega)
          obtain ⟨p0, p1, p2⟩ := pl3_c3 hok hzz he hj (show 0 < sN LO HI 2 by omega)
          have hx9 : (vlo w 0).toInt ≤ (LO 0 + nI e).toInt ∧ (LO 0 + nI e).toInt ≤ (vhi w 0).toInt := by rw [← eL0, ← eH0]; exact lo_in hok (by decide) he
          have hy9 : (vlo u 1).toInt ≤ (LO 1 + nI j).toInt ∧ (LO 1 + nI j).toInt ≤ (vhi u 1).toInt := by rw [← eL1, ← eH1]; exact lo_in hok (by decide) hj
          have egc : gAt LO HI (LO 0 + nI (e)) (LO 1 + nI (j)) 0 = nI (c3 (sN LO HI 1) (sN LO HI 2) e j 0) := by have g9 := gAt_lo hok (e := e) (j := j) (k := 0); rw [hl2, lo_0] at g9; exact g9
          refine q_iload X dX13_product_195 8 rfl ?_
          refine q_aload_n X dX13_product_197 3 rfl ?_
          refine q_get X (ko (vp_updL (vF (prD w u LO HI) (c3 (sN LO HI 1) (sN LO HI 2) e j 0)) (c3 (sN LO HI 1) (sN LO HI 2) e j 0) (prT w u LO HI (c3 (sN LO HI 1) (sN LO HI 2) e j 0) (x7)).2) (upd (zF (prD w u LO HI) (c3 (sN LO HI 1) (sN LO HI 2) e j 0)) (c3 (sN LO HI 1) (sN LO HI 2) e j 0) (bI (prT w u LO HI (c3 (sN LO HI 1) (sN LO HI 2) e j 0) (x7)).1))) rfl in_RX12 3 (by decide) tw_1161 rfl rfl dX13_product_198 ?_
          refine q_iconst (v := 1) X dX13_product_201 (by decide) ?_
          refine q_ialdN X 1 (koha (vp_updL (vF (prD w u LO HI) (c3 (sN LO HI 1) (sN LO HI 2) e j 0)) (c3 (sN LO HI 1) (sN LO HI 2) e j 0) (prT w u LO HI (c3 (sN LO HI 1) (sN LO HI 2) e j 0) (x7)).2) (upd (zF (prD w u LO HI) (c3 (sN LO HI 1) (sN LO HI 2) e j 0)) (c3 (sN LO HI 1) (sN LO HI 2) e j 0) (bI (prT w u LO HI (c3 (sN LO HI 1) (sN LO HI 2) e j 0) (x7)).1))) (rfl) (by decide) (by decide) dX13_product_202 ?_
          refine q_icmp_gt X 342 dX13_product_203 (by decide) (fun c_79 => absurd ((lo_lt lA.1 lA.2 (by omega) (by omega)).mp (yA ▸ c_79)) (by omega)) (fun c_79 => ?_)
          refine q_iload X dX13_product_206 8 rfl ?_
          refine q_aload X dX13_product_208 4 rfl ?_
          refine q_get X (ks (vp_updL (vF (prD w u LO HI) (c3 (sN LO HI 1) (sN LO HI 2) e j 0)) (c3 (sN LO HI 1) (sN LO HI 2) e j 0) (prT w u LO HI (c3 (sN LO HI 1) (sN LO HI 2) e j 0) (x7)).2) (upd (zF (prD w u LO HI) (c3 (sN LO HI 1) (sN LO HI 2) e j 0)) (c3 (sN LO HI 1) (sN LO HI 2) e j 0) (bI (prT w u LO HI (c3 (sN LO HI 1) (sN LO HI 2) e j 0) (x7)).1))) rfl in_RX12 2 (by decide) tw_1159 rfl rfl dX13_product_210 ?_
          refine q_iconst (v := 0) X dX13_product_213 (by decide) ?_
          refine q_ialdN X 0 (ksla (vp_updL (vF (prD w u LO HI) (c3 (sN LO HI 1) (sN LO HI 2) e j 0)) (c3 (sN LO HI 1) (sN LO HI 2) e j 0) (prT w u LO HI (c3 (sN LO HI 1) (sN LO HI 2) e j 0) (x7)).2) (upd (zF (prD w u LO HI) (c3 (sN LO HI 1) (sN LO HI 2) e j 0)) (c3 (sN LO HI 1) (sN LO HI 2) e j 0) (bI (prT w u LO HI (c3 (sN LO HI 1) (sN LO HI 2) e j 0) (x7)).1))) (rfl) (by decide) (by decide) dX13_product_214 ?_
          refine q_icmp_lt X 336 dX13_product_215 (by decide) (fun c215 => ?_) (fun c215 => ?_)
          · refine q_iinc (v := (vlo w 1 + nI (x7 + 1))) (lv' := [(8, .int (vlo w 1 + nI (x7 + 1))), (0, .ref r), (1, .int (nI i)), (2, .int (nI i2)), (3, .ref o), (4, .ref s), (5, .ref q), (6, .int (LO 0 + nI (e))), (7, .int (LO 1 + nI (j)))]) X dX13_product_336 8 rfl (lo_s) (by decide) rfl ?_
            refine q_goto X 195 dX13_product_339 (by decide) ?_
            refine q_sub [1, 2, 3, 4, 5, 6, 7, 8, 0] rfl ?_
            have hdk : prT w u LO HI (c3 (sN LO HI 1) (sN LO HI 2) e j 0) (x7 + 1) = prT w u LO HI (c3 (sN LO HI 1) (sN LO HI 2) e j 0) x7 := prT_o hw hwu hx7 (Or.inl c215)
            exact ih (x7 + 1) _ (by omega) (by rw [hdk])
          · refine q_iload X dX13_product_218 8 rfl ?_
            refine q_aload X dX13_product_220 4 rfl ?_
            refine q_get X (ks (vp_updL (vF (prD w u LO HI) (c3 (sN LO HI 1) (sN LO HI 2) e j 0)) (c3 (sN LO HI 1) (sN LO HI 2) e j 0) (prT w u LO HI (c3 (sN LO HI 1) (sN LO HI 2) e j 0) (x7)).2) (upd (zF (prD w u LO HI) (c3 (sN LO HI 1) (sN LO HI 2) e j 0)) (c3 (sN LO HI 1) (sN LO HI 2) e j 0) (bI (prT w u LO HI (c3 (sN LO HI 1) (sN LO HI 2) e j 0) (x7)).1))) rfl in_RX12 3 (by decide) tw_1161 rfl rfl dX13_product_222 ?_
            refine q_iconst (v := 0) X dX13_product_225 (by decide) ?_
            refine q_ialdN X 0 (ksha (vp_updL (vF (prD w u LO HI) (c3 (sN LO HI 1) (sN LO HI 2) e j 0)) (c3 (sN LO HI 1) (sN LO HI 2) e j 0) (prT w u LO HI (c3 (sN LO HI 1) (sN LO HI 2) e j 0) (x7)).2) (upd (zF (prD w u LO HI) (c3 (sN LO HI 1) (sN LO HI 2) e j 0)) (c3 (sN LO HI 1) (sN LO HI 2) e j 0) (bI (prT w u LO HI (c3 (sN LO HI 1) (sN LO HI 2) e j 0) (x7)).1))) (rfl) (by decide) (by decide) dX13_product_226 ?_
            refine q_icmp_gt X 336 dX13_product_227 (by decide) (fun c227 => ?_) (fun c227 => ?_)
            · refine q_iinc (v := (vlo w 1 + nI (x7 + 1))) (lv' := [(8, .int (vlo w 1 + nI (x7 + 1))), (0, .ref r), (1, .int (nI i)), (2, .int (nI i2)), (3, .ref o), (4, .ref s), (5, .ref q), (6, .int (LO 0 + nI (e))), (7, .int (LO 1 + nI (j)))]) X dX13_product_336 8 rfl (lo_s) (by decide) rfl ?_
              refine q_goto X 195 dX13_product_339 (by decide) ?_
              refine q_sub [1, 2, 3, 4, 5, 6, 7, 8, 0] rfl ?_
              have hdk : prT w u LO HI (c3 (sN LO HI 1) (sN LO HI 2) e j 0) (x7 + 1) = prT w u LO HI (c3 (sN LO HI 1) (sN LO HI 2) e j 0) x7 := prT_o hw hwu hx7 (Or.inr c227)
              exact ih (x7 + 1) _ (by omega) (by rw [hdk])
            · have ps9 := prT_s hw hwu mw mu hx7 c215 c227 p0 p1 hx9 hy9
              have iw9 : ¬ gIn (vlo w) (vhi w) (LO 0 + nI (e)) (vlo w 1 + nI (x7)) 0 = 0 := gIn_1.mpr ⟨hx9, ⟨by rw [k_t hw hx7]; omega, by rw [k_t hw hx7]; omega⟩, by rw [bw.1, bw.2]; decide⟩
              obtain ⟨jo, hjo, ejo⟩ := gAt_lt hw iw9
              have fo9 := frV_in iw9 ejo (by omega)
              have iu9 : ¬ gIn (vlo u) (vhi u) (vlo w 1 + nI (x7)) (LO 1 + nI (j)) 0 = 0 := gIn_1.mpr ⟨⟨Int32.le_iff_toInt_le.mp (Int32.not_lt.mp c215), Int32.le_iff_toInt_le.mp (Int32.not_lt.mp c227)⟩, hy9, by rw [bu.1, bu.2]; decide⟩
              obtain ⟨js, hjs, ejs⟩ := gAt_lt hwu iu9
              have fs9 := frV_in iu9 ejs (by omega)
              rw [fo9, fs9] at ps9
              refine q_aload_n X dX13_product_230 3 rfl ?_
              refine q_get X (ko (vp_updL (vF (prD w u LO HI) (c3 (sN LO HI 1) (sN LO HI 2) e j 0)) (c3 (sN LO HI 1) (sN LO HI 2) e j 0) (prT w u LO HI (c3 (sN LO HI 1) (sN LO HI 2) e j 0) (x7)).2) (upd (zF (prD w u LO HI) (c3 (sN LO HI 1) (sN LO HI 2) e j 0)) (c3 (sN LO HI 1) (sN LO HI 2) e j 0) (bI (prT w u LO HI (c3 (sN LO HI 1) (sN LO HI 2) e j 0) (x7)).1))) rfl in_RX12 5 (by decide) tw_1165 rfl rfl dX13_product_231 ?_
              refine q_aload_n X dX13_product_234 3 rfl ?_
              refine q_iload X dX13_product_235 6 rfl ?_
              refine q_iload X dX13_product_237 8 rfl ?_
              refine q_iconst (v := 0) X dX13_product_239 (by decide) ?_
              refine q_callVp X (c_X12_at (ko _ _) (kola _ _) (koha _ _)) Y_X12_at tw_1269 tw_1270 tw_1271 (ko (vp_updL (vF (prD w u LO HI) (c3 (sN LO HI 1) (sN LO HI 2) e j 0)) (c3 (sN LO HI 1) (sN LO HI 2) e j 0) (prT w u LO HI (c3 (sN LO HI 1) (sN LO HI 2) e j 0) (x7)).2) (upd (zF (prD w u LO HI) (c3 (sN LO HI 1) (sN LO HI 2) e j 0)) (c3 (sN LO HI 1) (sN LO HI 2) e j 0) (bI (prT w u LO HI (c3 (sN LO HI 1) (sN LO HI 2) e j 0) (x7)).1))) rfl (by omega) rfl rfl (Nat.le_of_ble_eq_true rfl) dX13_product_240 ?_
              rw [ejo]
              refine q_zaldN X jo (koza (vp_updL (vF (prD w u LO HI) (c3 (sN LO HI 1) (sN LO HI 2) e j 0)) (c3 (sN LO HI 1) (sN LO HI 2) e j 0) (prT w u LO HI (c3 (sN LO HI 1) (sN LO HI 2) e j 0) (x7)).2) (upd (zF (prD w u LO HI) (c3 (sN LO HI 1) (sN LO HI 2) e j 0)) (c3 (sN LO HI 1) (sN LO HI 2) e j 0) (bI (prT w u LO HI (c3 (sN LO HI 1) (sN LO HI 2) e j 0) (x7)).1))) (rfl) (hjo) (by omega) dX13_product_243 ?_
              refine q_if_eq X 336 dX13_product_244 (by decide) (fun k1 => ?_) (fun k1 => ?_)
              · refine q_iinc (v := (vlo w 1 + nI (x7 + 1))) (lv' := [(8, .int (vlo w 1 + nI (x7 + 1))), (0, .ref r), (1, .int (nI i)), (2, .int (nI i2)), (3, .ref o), (4, .ref s), (5, .ref q), (6, .int (LO 0 + nI (e))), (7, .int (LO 1 + nI (j)))]) X dX13_product_336 8 rfl (lo_s) (by decide) rfl ?_
                refine q_goto X 195 dX13_product_339 (by decide) ?_
                refine q_sub [1, 2, 3, 4, 5, 6, 7, 8, 0] rfl ?_
                have hdk : prT w u LO HI (c3 (sN LO HI 1) (sN LO HI 2) e j 0) (x7 + 1) = prT w u LO HI (c3 (sN LO HI 1) (sN LO HI 2) e j 0) x7 := ps9.trans (by rw [ct_none hO.2.2.2.2.2 hjo k1])
                exact ih (x7 + 1) _ (by omega) (by rw [hdk])
              · refine q_aload X dX13_product_247 4 rfl ?_
                refine q_get X (ks (vp_updL (vF (prD w u LO HI) (c3 (sN LO HI 1) (sN LO HI 2) e j 0)) (c3 (sN LO HI 1) (sN LO HI 2) e j 0) (prT w u LO HI (c3 (sN LO HI 1) (sN LO HI 2) e j 0) (x7)).2) (upd (zF (prD w u LO HI) (c3 (sN LO HI 1) (sN LO HI 2) e j 0)) (c3 (sN LO HI 1) (sN LO HI 2) e j 0) (bI (prT w u LO HI (c3 (sN LO HI 1) (sN LO HI 2) e j 0) (x7)).1))) rfl in_RX12 5 (by decide) tw_1165 rfl rfl dX13_product_249 ?_
                refine q_aload X dX13_product_252 4 rfl ?_
                refine q_iload X dX13_product_254 8 rfl ?_
                refine q_iload X dX13_product_256 7 rfl ?_
                refine q_iconst (v := 0) X dX13_product_258 (by decide) ?_
                refine q_callVp X (c_X12_at (ks _ _) (ksla _ _) (ksha _ _)) Y_X12_at tw_1269 tw_1270 tw_1271 (ks (vp_updL (vF (prD w u LO HI) (c3 (sN LO HI 1) (sN LO HI 2) e j 0)) (c3 (sN LO HI 1) (sN LO HI 2) e j 0) (prT w u LO HI (c3 (sN LO HI 1) (sN LO HI 2) e j 0) (x7)).2) (upd (zF (prD w u LO HI) (c3 (sN LO HI 1) (sN LO HI 2) e j 0)) (c3 (sN LO HI 1) (sN LO HI 2) e j 0) (bI (prT w u LO HI (c3 (sN LO HI 1) (sN LO HI 2) e j 0) (x7)).1))) rfl (by omega) rfl rfl (Nat.le_of_ble_eq_true rfl) dX13_product_259 ?_
                rw [ejs]
                refine q_zaldN X js (ksza (vp_updL (vF (prD w u LO HI) (c3 (sN LO HI 1) (sN LO HI 2) e j 0)) (c3 (sN LO HI 1) (sN LO HI 2) e j 0) (prT w u LO HI (c3 (sN LO HI 1) (sN LO HI 2) e j 0) (x7)).2) (upd (zF (prD w u LO HI) (c3 (sN LO HI 1) (sN LO HI 2) e j 0)) (c3 (sN LO HI 1) (sN LO HI 2) e j 0) (bI (prT w u LO HI (c3 (sN LO HI 1) (sN LO HI 2) e j 0) (x7)).1))) (rfl) (hjs) (by omega) dX13_product_262 ?_
                refine q_if_ne X 269 dX13_product_263 (by decide) (fun k2 => ?_) (fun k2 => ?_)
                · refine q_aload X dX13_product_269 5 rfl ?_
                  refine q_get X (kq (vp_updL (vF (prD w u LO HI) (c3 (sN LO HI 1) (sN LO HI 2) e j 0)) (c3 (sN LO HI 1) (sN LO HI 2) e j 0) (prT w u LO HI (c3 (sN LO HI 1) (sN LO HI 2) e j 0) (x7)).2) (upd (zF (prD w u LO HI) (c3 (sN LO HI 1) (sN LO HI 2) e j 0)) (c3 (sN LO HI 1) (sN LO HI 2) e j 0) (bI (prT w u LO HI (c3 (sN LO HI 1) (sN LO HI 2) e j 0) (x7)).1))) rfl in_RX12 5 (by decide) tw_1165 rfl rfl dX13_product_271 ?_
                  refine q_aload X dX13_product_274 5 rfl ?_
                  refine q_iload X dX13_product_276 6 rfl ?_
                  refine q_iload X dX13_product_278 7 rfl ?_
                  refine q_iconst (v := 0) X dX13_product_280 (by decide) ?_
                  refine q_callVp X (c_X12_at (kq (vp_updL (vF (prD w u LO HI) (c3 (sN LO HI 1) (sN LO HI 2) e j 0)) (c3 (sN LO HI 1) (sN LO HI 2) e j 0) (prT w u LO HI (c3 (sN LO HI 1) (sN LO HI 2) e j 0) (x7)).2) (upd (zF (prD w u LO HI) (c3 (sN LO HI 1) (sN LO HI 2) e j 0)) (c3 (sN LO HI 1) (sN LO HI 2) e j 0) (bI (prT w u LO HI (c3 (sN LO HI 1) (sN LO HI 2) e j 0) (x7)).1))) (kla (vp_updL (vF (prD w u LO HI) (c3 (sN LO HI 1) (sN LO HI 2) e j 0)) (c3 (sN LO HI 1) (sN LO HI 2) e j 0) (prT w u LO HI (c3 (sN LO HI 1) (sN LO HI 2) e j 0) (x7)).2) (upd (zF (prD w u LO HI) (c3 (sN LO HI 1) (sN LO HI 2) e j 0)) (c3 (sN LO HI 1) (sN LO HI 2) e j 0) (bI (prT w u LO HI (c3 (sN LO HI 1) (sN LO HI 2) e j 0) (x7)).1))) (kha (vp_updL (vF (prD w u LO HI) (c3 (sN LO HI 1) (sN LO HI 2) e j 0)) (c3 (sN LO HI 1) (sN LO HI 2) e j 0) (prT w u LO HI (c3 (sN LO HI 1) (sN LO HI 2) e j 0) (x7)).2) (upd (zF (prD w u LO HI) (c3 (sN LO HI 1) (sN LO HI 2) e j 0)) (c3 (sN LO HI 1) (sN LO HI 2) e j 0) (bI (prT w u LO HI (c3 (sN LO HI 1) (sN LO HI 2) e j 0) (x7)).1)))) Y_X12_at tw_1269 tw_1270 tw_1271 (kq (vp_updL (vF (prD w u LO HI) (c3 (sN LO HI 1) (sN LO HI 2) e j 0)) (c3 (sN LO HI 1) (sN LO HI 2) e j 0) (prT w u LO HI (c3 (sN LO HI 1) (sN LO HI 2) e j 0) (x7)).2) (upd (zF (prD w u LO HI) (c3 (sN LO HI 1) (sN LO HI 2) e j 0)) (c3 (sN LO HI 1) (sN LO HI 2) e j 0) (bI (prT w u LO HI (c3 (sN LO HI 1) (sN LO HI 2) e j 0) (x7)).1))) rfl (by omega) rfl rfl (Nat.le_of_ble_eq_true rfl) dX13_product_281 ?_
                  rw [egc]
                  refine q_iconst (v := 1) X dX13_product_284 (by decide) ?_
                  refine q_zastN X (c3 (sN LO HI 1) (sN LO HI 2) e j 0) (kza (vp_updL (vF (prD w u LO HI) (c3 (sN LO HI 1) (sN LO HI 2) e j 0)) (c3 (sN LO HI 1) (sN LO HI 2) e j 0) (prT w u LO HI (c3 (sN LO HI 1) (sN LO HI 2) e j 0) (x7)).2) (upd (zF (prD w u LO HI) (c3 (sN LO HI 1) (sN LO HI 2) e j 0)) (c3 (sN LO HI 1) (sN LO HI 2) e j 0) (bI (prT w u LO HI (c3 (sN LO HI 1) (sN LO HI 2) e j 0) (x7)).1))) (rfl) (hc9) (by omega) (Or.inr rfl) dX13_product_285 ?_
                  have m_80 : (mU (mU (mU M4 va (aJ G (sz3 LO HI) (vp_updL (vF (prD w u LO HI) (c3 (sN LO HI 1) (sN LO HI 2) e j 0)) (c3 (sN LO HI 1) (sN LO HI 2) e j 0) (prT w u LO HI (c3 (sN LO HI 1) (sN LO HI 2) e j 0) (x7)).2))) za (aZ G (sz3 LO HI) (upd (zF (prD w u LO HI) (c3 (sN LO HI 1) (sN LO HI 2) e j 0)) (c3 (sN LO HI 1) (sN LO HI 2) e j 0) (bI (prT w u LO HI (c3 (sN LO HI 1) (sN LO HI 2) e j 0) (x7)).1)))) za (aZ G (sz3 LO HI) (upd (upd (zF (prD w u LO HI) (c3 (sN LO HI 1) (sN LO HI 2) e j 0)) (c3 (sN LO HI 1) (sN LO HI 2) e j 0) (bI (prT w u LO HI (c3 (sN LO HI 1) (sN LO HI 2) e j 0) (x7)).1)) (c3 (sN LO HI 1) (sN LO HI 2) e j 0) 1))) q = some (oB 12 [.int (nI (vm w)), .int (nI (max (vdp w) (vdp u) + 1)), .ref la, .ref ha, .ref va, .ref za]) := (mU_n (g_neoa (kq (vp_updL (vF (prD w u LO HI) (c3 (sN LO HI 1) (sN LO HI 2) e j 0)) (c3 (sN LO HI 1) (sN LO HI 2) e j 0) (prT w u LO HI (c3 (sN LO HI 1) (sN LO HI 2) e j 0) (x7)).2) (upd (zF (prD w u LO HI) (c3 (sN LO HI 1) (sN LO HI 2) e j 0)) (c3 (sN LO HI 1) (sN LO HI 2) e j 0) (bI (prT w u LO HI (c3 (sN LO HI 1) (sN LO HI 2) e j 0) (x7)).1))) (kza (vp_updL (vF (prD w u LO HI) (c3 (sN LO HI 1) (sN LO HI 2) e j 0)) (c3 (sN LO HI 1) (sN LO HI 2) e j 0) (prT w u LO HI (c3 (sN LO HI 1) (sN LO HI 2) e j 0) (x7)).2) (upd (zF (prD w u LO HI) (c3 (sN LO HI 1) (sN LO HI 2) e j 0)) (c3 (sN LO HI 1) (sN LO HI 2) e j 0) (bI (prT w u LO HI (c3 (sN LO HI 1) (sN LO HI 2) e j 0) (x7)).1))))).trans (kq (vp_updL (vF (prD w u LO HI) (c3 (sN LO HI 1) (sN LO HI 2) e j 0)) (c3 (sN LO HI 1) (sN LO HI 2) e j 0) (prT w u LO HI (c3 (sN LO HI 1) (sN LO HI 2) e j 0) (x7)).2) (upd (zF (prD w u LO HI) (c3 (sN LO HI 1) (sN LO HI 2) e j 0)) (c3 (sN LO HI 1) (sN LO HI 2) e j 0) (bI (prT w u LO HI (c3 (sN LO HI 1) (sN LO HI 2) e j 0) (x7)).1)))
                  have m_81 : (mU (mU (mU M4 va (aJ G (sz3 LO HI) (vp_updL (vF (prD w u LO HI) (c3 (sN LO HI 1) (sN LO HI 2) e j 0)) (c3 (sN LO HI 1) (sN LO HI 2) e j 0) (prT w u LO HI (c3 (sN LO HI 1) (sN LO HI 2) e j 0) (x7)).2))) za (aZ G (sz3 LO HI) (upd (zF (prD w u LO HI) (c3 (sN LO HI 1) (sN LO HI 2) e j 0)) (c3 (sN LO HI 1) (sN LO HI 2) e j 0) (bI (prT w u LO HI (c3 (sN LO HI 1) (sN LO HI 2) e j 0) (x7)).1)))) za (aZ G (sz3 LO HI) (upd (upd (zF (prD w u LO HI) (c3 (sN LO HI 1) (sN LO HI 2) e j 0)) (c3 (sN LO HI 1) (sN LO HI 2) e j 0) (bI (prT w u LO HI (c3 (sN LO HI 1) (sN LO HI 2) e j 0) (x7)).1)) (c3 (sN LO HI 1) (sN LO HI 2) e j 0) 1))) la = some (aI G 3 LO) := (mU_n ((g_nef m_60 fza3))).trans (kla (vp_updL (vF (prD w u LO HI) (c3 (sN LO HI 1) (sN LO HI 2) e j 0)) (c3 (sN LO HI 1) (sN LO HI 2) e j 0) (prT w u LO HI (c3 (sN LO HI 1) (sN LO HI 2) e j 0) (x7)).2) (upd (zF (prD w u LO HI) (c3 (sN LO HI 1) (sN LO HI 2) e j 0)) (c3 (sN LO HI 1) (sN LO HI 2) e j 0) (bI (prT w u LO HI (c3 (sN LO HI 1) (sN LO HI 2) e j 0) (x7)).1)))
                  have m_82 : (mU (mU (mU M4 va (aJ G (sz3 LO HI) (vp_updL (vF (prD w u LO HI) (c3 (sN LO HI 1) (sN LO HI 2) e j 0)) (c3 (sN LO HI 1) (sN LO HI 2) e j 0) (prT w u LO HI (c3 (sN LO HI 1) (sN LO HI 2) e j 0) (x7)).2))) za (aZ G (sz3 LO HI) (upd (zF (prD w u LO HI) (c3 (sN LO HI 1) (sN LO HI 2) e j 0)) (c3 (sN LO HI 1) (sN LO HI 2) e j 0) (bI (prT w u LO HI (c3 (sN LO HI 1) (sN LO HI 2) e j 0) (x7)).1)))) za (aZ G (sz3 LO HI) (upd (upd (zF (prD w u LO HI) (c3 (sN LO HI 1) (sN LO HI 2) e j 0)) (c3 (sN LO HI 1) (sN LO HI 2) e j 0) (bI (prT w u LO HI (c3 (sN LO HI 1) (sN LO HI 2) e j 0) (x7)).1)) (c3 (sN LO HI 1) (sN LO HI 2) e j 0) 1))) ha = some (aI G 3 HI) := (mU_n ((g_nef m_61 fza3))).trans (kha (vp_updL (vF (prD w u LO HI) (c3 (sN LO HI 1) (sN LO HI 2) e j 0)) (c3 (sN LO HI 1) (sN LO HI 2) e j 0) (prT w u LO HI (c3 (sN LO HI 1) (sN LO HI 2) e j 0) (x7)).2) (upd (zF (prD w u LO HI) (c3 (sN LO HI 1) (sN LO HI 2) e j 0)) (c3 (sN LO HI 1) (sN LO HI 2) e j 0) (bI (prT w u LO HI (c3 (sN LO HI 1) (sN LO HI 2) e j 0) (x7)).1)))
                  have m_83 : (mU (mU (mU M4 va (aJ G (sz3 LO HI) (vp_updL (vF (prD w u LO HI) (c3 (sN LO HI 1) (sN LO HI 2) e j 0)) (c3 (sN LO HI 1) (sN LO HI 2) e j 0) (prT w u LO HI (c3 (sN LO HI 1) (sN LO HI 2) e j 0) (x7)).2))) za (aZ G (sz3 LO HI) (upd (zF (prD w u LO HI) (c3 (sN LO HI 1) (sN LO HI 2) e j 0)) (c3 (sN LO HI 1) (sN LO HI 2) e j 0) (bI (prT w u LO HI (c3 (sN LO HI 1) (sN LO HI 2) e j 0) (x7)).1)))) za (aZ G (sz3 LO HI) (upd (upd (zF (prD w u LO HI) (c3 (sN LO HI 1) (sN LO HI 2) e j 0)) (c3 (sN LO HI 1) (sN LO HI 2) e j 0) (bI (prT w u LO HI (c3 (sN LO HI 1) (sN LO HI 2) e j 0) (x7)).1)) (c3 (sN LO HI 1) (sN LO HI 2) e j 0) 1))) va = some (aJ G (sz3 LO HI) (vp_updL (vF (prD w u LO HI) (c3 (sN LO HI 1) (sN LO HI 2) e j 0)) (c3 (sN LO HI 1) (sN LO HI 2) e j 0) (prT w u LO HI (c3 (sN LO HI 1) (sN LO HI 2) e j 0) (x7)).2)) := (mU_n (lvz)).trans (kva (vp_updL (vF (prD w u LO HI) (c3 (sN LO HI 1) (sN LO HI 2) e j 0)) (c3 (sN LO HI 1) (sN LO HI 2) e j 0) (prT w u LO HI (c3 (sN LO HI 1) (sN LO HI 2) e j 0) (x7)).2) (upd (zF (prD w u LO HI) (c3 (sN LO HI 1) (sN LO HI 2) e j 0)) (c3 (sN LO HI 1) (sN LO HI 2) e j 0) (bI (prT w u LO HI (c3 (sN LO HI 1) (sN LO HI 2) e j 0) (x7)).1)))
                  have m_84 : (mU (mU (mU M4 va (aJ G (sz3 LO HI) (vp_updL (vF (prD w u LO HI) (c3 (sN LO HI 1) (sN LO HI 2) e j 0)) (c3 (sN LO HI 1) (sN LO HI 2) e j 0) (prT w u LO HI (c3 (sN LO HI 1) (sN LO HI 2) e j 0) (x7)).2))) za (aZ G (sz3 LO HI) (upd (zF (prD w u LO HI) (c3 (sN LO HI 1) (sN LO HI 2) e j 0)) (c3 (sN LO HI 1) (sN LO HI 2) e j 0) (bI (prT w u LO HI (c3 (sN LO HI 1) (sN LO HI 2) e j 0) (x7)).1)))) za (aZ G (sz3 LO HI) (upd (upd (zF (prD w u LO HI) (c3 (sN LO HI 1) (sN LO HI 2) e j 0)) (c3 (sN LO HI 1) (sN LO HI 2) e j 0) (bI (prT w u LO HI (c3 (sN LO HI 1) (sN LO HI 2) e j 0) (x7)).1)) (c3 (sN LO HI 1) (sN LO HI 2) e j 0) 1))) za = some (aZ G (sz3 LO HI) (upd (upd (zF (prD w u LO HI) (c3 (sN LO HI 1) (sN LO HI 2) e j 0)) (c3 (sN LO HI 1) (sN LO HI 2) e j 0) (bI (prT w u LO HI (c3 (sN LO HI 1) (sN LO HI 2) e j 0) (x7)).1)) (c3 (sN LO HI 1) (sN LO HI 2) e j 0) 1)) := mU_s
                  have m_85 : (mU (mU (mU M4 va (aJ G (sz3 LO HI) (vp_updL (vF (prD w u LO HI) (c3 (sN LO HI 1) (sN LO HI 2) e j 0)) (c3 (sN LO HI 1) (sN LO HI 2) e j 0) (prT w u LO HI (c3 (sN LO HI 1) (sN LO HI 2) e j 0) (x7)).2))) za (aZ G (sz3 LO HI) (upd (zF (prD w u LO HI) (c3 (sN LO HI 1) (sN LO HI 2) e j 0)) (c3 (sN LO HI 1) (sN LO HI 2) e j 0) (bI (prT w u LO HI (c3 (sN LO HI 1) (sN LO HI 2) e j 0) (x7)).1)))) za (aZ G (sz3 LO HI) (upd (upd (zF (prD w u LO HI) (c3 (sN LO HI 1) (sN LO HI 2) e j 0)) (c3 (sN LO HI 1) (sN LO HI 2) e j 0) (bI (prT w u LO HI (c3 (sN LO HI 1) (sN LO HI 2) e j 0) (x7)).1)) (c3 (sN LO HI 1) (sN LO HI 2) e j 0) 1))) o = some (oB 12 [.int (nI (vm w)), .int (nI (vdp w)), .ref ola, .ref oha, .ref ova, .ref oza]) := (mU_n (g_neoa (ko (vp_updL (vF (prD w u LO HI) (c3 (sN LO HI 1) (sN LO HI 2) e j 0)) (c3 (sN LO HI 1) (sN LO HI 2) e j 0) (prT w u LO HI (c3 (sN LO HI 1) (sN LO HI 2) e j 0) (x7)).2) (upd (zF (prD w u LO HI) (c3 (sN LO HI 1) (sN LO HI 2) e j 0)) (c3 (sN LO HI 1) (sN LO HI 2) e j 0) (bI (prT w u LO HI (c3 (sN LO HI 1) (sN LO HI 2) e j 0) (x7)).1))) (kza (vp_updL (vF (prD w u LO HI) (c3 (sN LO HI 1) (sN LO HI 2) e j 0)) (c3 (sN LO HI 1) (sN LO HI 2) e j 0) (prT w u LO HI (c3 (sN LO HI 1) (sN LO HI 2) e j 0) (x7)).2) (upd (zF (prD w u LO HI) (c3 (sN LO HI 1) (sN LO HI 2) e j 0)) (c3 (sN LO HI 1) (sN LO HI 2) e j 0) (bI (prT w u LO HI (c3 (sN LO HI 1) (sN LO HI 2) e j 0) (x7)).1))))).trans (ko (vp_updL (vF (prD w u LO HI) (c3 (sN LO HI 1) (sN LO HI 2) e j 0)) (c3 (sN LO HI 1) (sN LO HI 2) e j 0) (prT w u LO HI (c3 (sN LO HI 1) (sN LO HI 2) e j 0) (x7)).2) (upd (zF (prD w u LO HI) (c3 (sN LO HI 1) (sN LO HI 2) e j 0)) (c3 (sN LO HI 1) (sN LO HI 2) e j 0) (bI (prT w u LO HI (c3 (sN LO HI 1) (sN LO HI 2) e j 0) (x7)).1)))
                  have m_86 : (mU (mU (mU M4 va (aJ G (sz3 LO HI) (vp_updL (vF (prD w u LO HI) (c3 (sN LO HI 1) (sN LO HI 2) e j 0)) (c3 (sN LO HI 1) (sN LO HI 2) e j 0) (prT w u LO HI (c3 (sN LO HI 1) (sN LO HI 2) e j 0) (x7)).2))) za (aZ G (sz3 LO HI) (upd (zF (prD w u LO HI) (c3 (sN LO HI 1) (sN LO HI 2) e j 0)) (c3 (sN LO HI 1) (sN LO HI 2) e j 0) (bI (prT w u LO HI (c3 (sN LO HI 1) (sN LO HI 2) e j 0) (x7)).1)))) za (aZ G (sz3 LO HI) (upd (upd (zF (prD w u LO HI) (c3 (sN LO HI 1) (sN LO HI 2) e j 0)) (c3 (sN LO HI 1) (sN LO HI 2) e j 0) (bI (prT w u LO HI (c3 (sN LO HI 1) (sN LO HI 2) e j 0) (x7)).1)) (c3 (sN LO HI 1) (sN LO HI 2) e j 0) 1))) ola = some (aI G 3 (vlo w)) := (mU_n ((g_nef m_49 fza3))).trans (kola (vp_updL (vF (prD w u LO HI) (c3 (sN LO HI 1) (sN LO HI 2) e j 0)) (c3 (sN LO HI 1) (sN LO HI 2) e j 0) (prT w u LO HI (c3 (sN LO HI 1) (sN LO HI 2) e j 0) (x7)).2) (upd (zF (prD w u LO HI) (c3 (sN LO HI 1) (sN LO HI 2) e j 0)) (c3 (sN LO HI 1) (sN LO HI 2) e j 0) (bI (prT w u LO HI (c3 (sN LO HI 1) (sN LO HI 2) e j 0) (x7)).1)))
                  have m_87 : (mU (mU (mU M4 va (aJ G (sz3 LO HI) (vp_updL (vF (prD w u LO HI) (c3 (sN LO HI 1) (sN LO HI 2) e j 0)) (c3 (sN LO HI 1) (sN LO HI 2) e j 0) (prT w u LO HI (c3 (sN LO HI 1) (sN LO HI 2) e j 0) (x7)).2))) za (aZ G (sz3 LO HI) (upd (zF (prD w u LO HI) (c3 (sN LO HI 1) (sN LO HI 2) e j 0)) (c3 (sN LO HI 1) (sN LO HI 2) e j 0) (bI (prT w u LO HI (c3 (sN LO HI 1) (sN LO HI 2) e j 0) (x7)).1)))) za (aZ G (sz3 LO HI) (upd (upd (zF (prD w u LO HI) (c3 (sN LO HI 1) (sN LO HI 2) e j 0)) (c3 (sN LO HI 1) (sN LO HI 2) e j 0) (bI (prT w u LO HI (c3 (sN LO HI 1) (sN LO HI 2) e j 0) (x7)).1)) (c3 (sN LO HI 1) (sN LO HI 2) e j 0) 1))) oha = some (aI G 3 (vhi w)) := (mU_n ((g_nef m_50 fza3))).trans (koha (vp_updL (vF (prD w u LO HI) (c3 (sN LO HI 1) (sN LO HI 2) e j 0)) (c3 (sN LO HI 1) (sN LO HI 2) e j 0) (prT w u LO HI (c3 (sN LO HI 1) (sN LO HI 2) e j 0) (x7)).2) (upd (zF (prD w u LO HI) (c3 (sN LO HI 1) (sN LO HI 2) e j 0)) (c3 (sN LO HI 1) (sN LO HI 2) e j 0) (bI (prT w u LO HI (c3 (sN LO HI 1) (sN LO HI 2) e j 0) (x7)).1)))
                  have m_88 : (mU (mU (mU M4 va (aJ G (sz3 LO HI) (vp_updL (vF (prD w u LO HI) (c3 (sN LO HI 1) (sN LO HI 2) e j 0)) (c3 (sN LO HI 1) (sN LO HI 2) e j 0) (prT w u LO HI (c3 (sN LO HI 1) (sN LO HI 2) e j 0) (x7)).2))) za (aZ G (sz3 LO HI) (upd (zF (prD w u LO HI) (c3 (sN LO HI 1) (sN LO HI 2) e j 0)) (c3 (sN LO HI 1) (sN LO HI 2) e j 0) (bI (prT w u LO HI (c3 (sN LO HI 1) (sN LO HI 2) e j 0) (x7)).1)))) za (aZ G (sz3 LO HI) (upd (upd (zF (prD w u LO HI) (c3 (sN LO HI 1) (sN LO HI 2) e j 0)) (c3 (sN LO HI 1) (sN LO HI 2) e j 0) (bI (prT w u LO HI (c3 (sN LO HI 1) (sN LO HI 2) e j 0) (x7)).1)) (c3 (sN LO HI 1) (sN LO HI 2) e j 0) 1))) ova = some (aJ G (wsz w) ovf) := (mU_n (g_neaa (kova (vp_updL (vF (prD w u LO HI) (c3 (sN LO HI 1) (sN LO HI 2) e j 0)) (c3 (sN LO HI 1) (sN LO HI 2) e j 0) (prT w u LO HI (c3 (sN LO HI 1) (sN LO HI 2) e j 0) (x7)).2) (upd (zF (prD w u LO HI) (c3 (sN LO HI 1) (sN LO HI 2) e j 0)) (c3 (sN LO HI 1) (sN LO HI 2) e j 0) (bI (prT w u LO HI (c3 (sN LO HI 1) (sN LO HI 2) e j 0) (x7)).1))) (kza (vp_updL (vF (prD w u LO HI) (c3 (sN LO HI 1) (sN LO HI 2) e j 0)) (c3 (sN LO HI 1) (sN LO HI 2) e j 0) (prT w u LO HI (c3 (sN LO HI 1) (sN LO HI 2) e j 0) (x7)).2) (upd (zF (prD w u LO HI) (c3 (sN LO HI 1) (sN LO HI 2) e j 0)) (c3 (sN LO HI 1) (sN LO HI 2) e j 0) (bI (prT w u LO HI (c3 (sN LO HI 1) (sN LO HI 2) e j 0) (x7)).1))) (fun z => by simp at z))).trans (kova (vp_updL (vF (prD w u LO HI) (c3 (sN LO HI 1) (sN LO HI 2) e j 0)) (c3 (sN LO HI 1) (sN LO HI 2) e j 0) (prT w u LO HI (c3 (sN LO HI 1) (sN LO HI 2) e j 0) (x7)).2) (upd (zF (prD w u LO HI) (c3 (sN LO HI 1) (sN LO HI 2) e j 0)) (c3 (sN LO HI 1) (sN LO HI 2) e j 0) (bI (prT w u LO HI (c3 (sN LO HI 1) (sN LO HI 2) e j 0) (x7)).1)))
                  have m_89 : (mU (mU (mU M4 va (aJ G (sz3 LO HI) (vp_updL (vF (prD w u LO HI) (c3 (sN LO HI 1) (sN LO HI 2) e j 0)) (c3 (sN LO HI 1) (sN LO HI 2) e j 0) (prT w u LO HI (c3 (sN LO HI 1) (sN LO HI 2) e j 0) (x7)).2))) za (aZ G (sz3 LO HI) (upd (zF (prD w u LO HI) (c3 (sN LO HI 1) (sN LO HI 2) e j 0)) (c3 (sN LO HI 1) (sN LO HI 2) e j 0) (bI (prT w u LO HI (c3 (sN LO HI 1) (sN LO HI 2) e j 0) (x7)).1)))) za (aZ G (sz3 LO HI) (upd (upd (zF (prD w u LO HI) (c3 (sN LO HI 1) (sN LO HI 2) e j 0)) (c3 (sN LO HI 1) (sN LO HI 2) e j 0) (bI (prT w u LO HI (c3 (sN LO HI 1) (sN LO HI 2) e j 0) (x7)).1)) (c3 (sN LO HI 1) (sN LO HI 2) e j 0) 1))) s = some (oB 12 [.int (nI (vm u)), .int (nI (vdp u)), .ref sla, .ref sha, .ref sva, .ref sza]) := (mU_n (g_neoa (ks (vp_updL (vF (prD w u LO HI) (c3 (sN LO HI 1) (sN LO HI 2) e j 0)) (c3 (sN LO HI 1) (sN LO HI 2) e j 0) (prT w u LO HI (c3 (sN LO HI 1) (sN LO HI 2) e j 0) (x7)).2) (upd (zF (prD w u LO HI) (c3 (sN LO HI 1) (sN LO HI 2) e j 0)) (c3 (sN LO HI 1) (sN LO HI 2) e j 0) (bI (prT w u LO HI (c3 (sN LO HI 1) (sN LO HI 2) e j 0) (x7)).1))) (kza (vp_updL (vF (prD w u LO HI) (c3 (sN LO HI 1) (sN LO HI 2) e j 0)) (c3 (sN LO HI 1) (sN LO HI 2) e j 0) (prT w u LO HI (c3 (sN LO HI 1) (sN LO HI 2) e j 0) (x7)).2) (upd (zF (prD w u LO HI) (c3 (sN LO HI 1) (sN LO HI 2) e j 0)) (c3 (sN LO HI 1) (sN LO HI 2) e j 0) (bI (prT w u LO HI (c3 (sN LO HI 1) (sN LO HI 2) e j 0) (x7)).1))))).trans (ks (vp_updL (vF (prD w u LO HI) (c3 (sN LO HI 1) (sN LO HI 2) e j 0)) (c3 (sN LO HI 1) (sN LO HI 2) e j 0) (prT w u LO HI (c3 (sN LO HI 1) (sN LO HI 2) e j 0) (x7)).2) (upd (zF (prD w u LO HI) (c3 (sN LO HI 1) (sN LO HI 2) e j 0)) (c3 (sN LO HI 1) (sN LO HI 2) e j 0) (bI (prT w u LO HI (c3 (sN LO HI 1) (sN LO HI 2) e j 0) (x7)).1)))
                  have m_90 : (mU (mU (mU M4 va (aJ G (sz3 LO HI) (vp_updL (vF (prD w u LO HI) (c3 (sN LO HI 1) (sN LO HI 2) e j 0)) (c3 (sN LO HI 1) (sN LO HI 2) e j 0) (prT w u LO HI (c3 (sN LO HI 1) (sN LO HI 2) e j 0) (x7)).2))) za (aZ G (sz3 LO HI) (upd (zF (prD w u LO HI) (c3 (sN LO HI 1) (sN LO HI 2) e j 0)) (c3 (sN LO HI 1) (sN LO HI 2) e j 0) (bI (prT w u LO HI (c3 (sN LO HI 1) (sN LO HI 2) e j 0) (x7)).1)))) za (aZ G (sz3 LO HI) (upd (upd (zF (prD w u LO HI) (c3 (sN LO HI 1) (sN LO HI 2) e j 0)) (c3 (sN LO HI 1) (sN LO HI 2) e j 0) (bI (prT w u LO HI (c3 (sN LO HI 1) (sN LO HI 2) e j 0) (x7)).1)) (c3 (sN LO HI 1) (sN LO HI 2) e j 0) 1))) sla = some (aI G 3 (vlo u)) := (mU_n ((g_nef m_54 fza3))).trans (ksla (vp_updL (vF (prD w u LO HI) (c3 (sN LO HI 1) (sN LO HI 2) e j 0)) (c3 (sN LO HI 1) (sN LO HI 2) e j 0) (prT w u LO HI (c3 (sN LO HI 1) (sN LO HI 2) e j 0) (x7)).2) (upd (zF (prD w u LO HI) (c3 (sN LO HI 1) (sN LO HI 2) e j 0)) (c3 (sN LO HI 1) (sN LO HI 2) e j 0) (bI (prT w u LO HI (c3 (sN LO HI 1) (sN LO HI 2) e j 0) (x7)).1)))
                  have m_91 : (mU (mU (mU M4 va (aJ G (sz3 LO HI) (vp_updL (vF (prD w u LO HI) (c3 (sN LO HI 1) (sN LO HI 2) e j 0)) (c3 (sN LO HI 1) (sN LO HI 2) e j 0) (prT w u LO HI (c3 (sN LO HI 1) (sN LO HI 2) e j 0) (x7)).2))) za (aZ G (sz3 LO HI) (upd (zF (prD w u LO HI) (c3 (sN LO HI 1) (sN LO HI 2) e j 0)) (c3 (sN LO HI 1) (sN LO HI 2) e j 0) (bI (prT w u LO HI (c3 (sN LO HI 1) (sN LO HI 2) e j 0) (x7)).1)))) za (aZ G (sz3 LO HI) (upd (upd (zF (prD w u LO HI) (c3 (sN LO HI 1) (sN LO HI 2) e j 0)) (c3 (sN LO HI 1) (sN LO HI 2) e j 0) (bI (prT w u LO HI (c3 (sN LO HI 1) (sN LO HI 2) e j 0) (x7)).1)) (c3 (sN LO HI 1) (sN LO HI 2) e j 0) 1))) sha = some (aI G 3 (vhi u)) := (mU_n ((g_nef m_55 fza3))).trans (ksha (vp_updL (vF (prD w u LO HI) (c3 (sN LO HI 1) (sN LO HI 2) e j 0)) (c3 (sN LO HI 1) (sN LO HI 2) e j 0) (prT w u LO HI (c3 (sN LO HI 1) (sN LO HI 2) e j 0) (x7)).2) (upd (zF (prD w u LO HI) (c3 (sN LO HI 1) (sN LO HI 2) e j 0)) (c3 (sN LO HI 1) (sN LO HI 2) e j 0) (bI (prT w u LO HI (c3 (sN LO HI 1) (sN LO HI 2) e j 0) (x7)).1)))
                  have m_92 : (mU (mU (mU M4 va (aJ G (sz3 LO HI) (vp_updL (vF (prD w u LO HI) (c3 (sN LO HI 1) (sN LO HI 2) e j 0)) (c3 (sN LO HI 1) (sN LO HI 2) e j 0) (prT w u LO HI (c3 (sN LO HI 1) (sN LO HI 2) e j 0) (x7)).2))) za (aZ G (sz3 LO HI) (upd (zF (prD w u LO HI) (c3 (sN LO HI 1) (sN LO HI 2) e j 0)) (c3 (sN LO HI 1) (sN LO HI 2) e j 0) (bI (prT w u LO HI (c3 (sN LO HI 1) (sN LO HI 2) e j 0) (x7)).1)))) za (aZ G (sz3 LO HI) (upd (upd (zF (prD w u LO HI) (c3 (sN LO HI 1) (sN LO HI 2) e j 0)) (c3 (sN LO HI 1) (sN LO HI 2) e j 0) (bI (prT w u LO HI (c3 (sN LO HI 1) (sN LO HI 2) e j 0) (x7)).1)) (c3 (sN LO HI 1) (sN LO HI 2) e j 0) 1))) sva = some (aJ G (wsz u) svf) := (mU_n (g_neaa (ksva (vp_updL (vF (prD w u LO HI) (c3 (sN LO HI 1) (sN LO HI 2) e j 0)) (c3 (sN LO HI 1) (sN LO HI 2) e j 0) (prT w u LO HI (c3 (sN LO HI 1) (sN LO HI 2) e j 0) (x7)).2) (upd (zF (prD w u LO HI) (c3 (sN LO HI 1) (sN LO HI 2) e j 0)) (c3 (sN LO HI 1) (sN LO HI 2) e j 0) (bI (prT w u LO HI (c3 (sN LO HI 1) (sN LO HI 2) e j 0) (x7)).1))) (kza (vp_updL (vF (prD w u LO HI) (c3 (sN LO HI 1) (sN LO HI 2) e j 0)) (c3 (sN LO HI 1) (sN LO HI 2) e j 0) (prT w u LO HI (c3 (sN LO HI 1) (sN LO HI 2) e j 0) (x7)).2) (upd (zF (prD w u LO HI) (c3 (sN LO HI 1) (sN LO HI 2) e j 0)) (c3 (sN LO HI 1) (sN LO HI 2) e j 0) (bI (prT w u LO HI (c3 (sN LO HI 1) (sN LO HI 2) e j 0) (x7)).1))) (fun z => by simp at z))).trans (ksva (vp_updL (vF (prD w u LO HI) (c3 (sN LO HI 1) (sN LO HI 2) e j 0)) (c3 (sN LO HI 1) (sN LO HI 2) e j 0) (prT w u LO HI (c3 (sN LO HI 1) (sN LO HI 2) e j 0) (x7)).2) (upd (zF (prD w u LO HI) (c3 (sN LO HI 1) (sN LO HI 2) e j 0)) (c3 (sN LO HI 1) (sN LO HI 2) e j 0) (bI (prT w u LO HI (c3 (sN LO HI 1) (sN LO HI 2) e j 0) (x7)).1)))
                  refine q_aload X dX13_product_286 5 rfl ?_
                  refine q_get X m_80 rfl in_RX12 4 (by decide) tw_1163 rfl rfl dX13_product_288 ?_
                  refine q_aload X dX13_product_291 5 rfl ?_
                  refine q_iload X dX13_product_293 6 rfl ?_
                  refine q_iload X dX13_product_295 7 rfl ?_
                  refine q_iconst (v := 0) X dX13_product_297 (by decide) ?_
                  refine q_callVp X (c_X12_at m_80 m_81 m_82) Y_X12_at tw_1269 tw_1270 tw_1271 m_80 rfl (by omega) rfl rfl (Nat.le_of_ble_eq_true rfl) dX13_product_298 ?_
                  rw [egc]
                  refine q_dup2 X dX13_product_301 rfl rfl ?_
                  refine q_laldN X (c3 (sN LO HI 1) (sN LO HI 2) e j 0) m_83 (rfl) (hc9) (by omega) dX13_product_302 ?_
                  refine q_aload_n X dX13_product_303 3 rfl ?_
                  refine q_get X m_85 rfl in_RX12 4 (by decide) tw_1163 rfl rfl dX13_product_304 ?_
                  refine q_aload_n X dX13_product_307 3 rfl ?_
                  refine q_iload X dX13_product_308 6 rfl ?_
                  refine q_iload X dX13_product_310 8 rfl ?_
                  refine q_iconst (v := 0) X dX13_product_312 (by decide) ?_
                  refine q_callVp X (c_X12_at m_85 m_86 m_87) Y_X12_at tw_1269 tw_1270 tw_1271 m_85 rfl (by omega) rfl rfl (Nat.le_of_ble_eq_true rfl) dX13_product_313 ?_
                  rw [ejo]
                  refine q_laldN X jo m_88 (rfl) (hjo) (by omega) dX13_product_316 ?_
                  refine q_aload X dX13_product_317 4 rfl ?_
                  refine q_get X m_89 rfl in_RX12 4 (by decide) tw_1163 rfl rfl dX13_product_319 ?_
                  refine q_aload X dX13_product_322 4 rfl ?_
                  refine q_iload X dX13_product_324 8 rfl ?_
                  refine q_iload X dX13_product_326 7 rfl ?_
                  refine q_iconst (v := 0) X dX13_product_328 (by decide) ?_
                  refine q_callVp X (c_X12_at m_89 m_90 m_91) Y_X12_at tw_1269 tw_1270 tw_1271 m_89 rfl (by omega) rfl rfl (Nat.le_of_ble_eq_true rfl) dX13_product_329 ?_
                  rw [ejs]
                  refine q_laldN X js m_92 (rfl) (hjs) (by omega) dX13_product_332 ?_
                  refine q_lmul X dX13_product_333 ?_
                  refine q_ladd X dX13_product_334 ?_
                  refine q_lastN X (c3 (sN LO HI 1) (sN LO HI 2) e j 0) m_83 (rfl) (hc9) (by omega) dX13_product_335 ?_
                  have m_93 : (mU (mU (mU (mU M4 va (aJ G (sz3 LO HI) (vp_updL (vF (prD w u LO HI) (c3 (sN LO HI 1) (sN LO HI 2) e j 0)) (c3 (sN LO HI 1) (sN LO HI 2) e j 0) (prT w u LO HI (c3 (sN LO HI 1) (sN LO HI 2) e j 0) (x7)).2))) za (aZ G (sz3 LO HI) (upd (zF (prD w u LO HI) (c3 (sN LO HI 1) (sN LO HI 2) e j 0)) (c3 (sN LO HI 1) (sN LO HI 2) e j 0) (bI (prT w u LO HI (c3 (sN LO HI 1) (sN LO HI 2) e j 0) (x7)).1)))) za (aZ G (sz3 LO HI) (upd (upd (zF (prD w u LO HI) (c3 (sN LO HI 1) (sN LO HI 2) e j 0)) (c3 (sN LO HI 1) (sN LO HI 2) e j 0) (bI (prT w u LO HI (c3 (sN LO HI 1) (sN LO HI 2) e j 0) (x7)).1)) (c3 (sN LO HI 1) (sN LO HI 2) e j 0) 1))) va (aJ G (sz3 LO HI) (vp_updL (vp_updL (vF (prD w u LO HI) (c3 (sN LO HI 1) (sN LO HI 2) e j 0)) (c3 (sN LO HI 1) (sN LO HI 2) e j 0) (prT w u LO HI (c3 (sN LO HI 1) (sN LO HI 2) e j 0) (x7)).2) (c3 (sN LO HI 1) (sN LO HI 2) e j 0) (((vp_updL (vF (prD w u LO HI) (c3 (sN LO HI 1) (sN LO HI 2) e j 0)) (c3 (sN LO HI 1) (sN LO HI 2) e j 0) (prT w u LO HI (c3 (sN LO HI 1) (sN LO HI 2) e j 0) (x7)).2) (c3 (sN LO HI 1) (sN LO HI 2) e j 0)) + ((ovf jo) * (svf js)))))) q = some (oB 12 [.int (nI (vm w)), .int (nI (max (vdp w) (vdp u) + 1)), .ref la, .ref ha, .ref va, .ref za]) := (mU_n (g_neoa m_80 m_83)).trans m_80
                  have m_94 : (mU (mU (mU (mU M4 va (aJ G (sz3 LO HI) (vp_updL (vF (prD w u LO HI) (c3 (sN LO HI 1) (sN LO HI 2) e j 0)) (c3 (sN LO HI 1) (sN LO HI 2) e j 0) (prT w u LO HI (c3 (sN LO HI 1) (sN LO HI 2) e j 0) (x7)).2))) za (aZ G (sz3 LO HI) (upd (zF (prD w u LO HI) (c3 (sN LO HI 1) (sN LO HI 2) e j 0)) (c3 (sN LO HI 1) (sN LO HI 2) e j 0) (bI (prT w u LO HI (c3 (sN LO HI 1) (sN LO HI 2) e j 0) (x7)).1)))) za (aZ G (sz3 LO HI) (upd (upd (zF (prD w u LO HI) (c3 (sN LO HI 1) (sN LO HI 2) e j 0)) (c3 (sN LO HI 1) (sN LO HI 2) e j 0) (bI (prT w u LO HI (c3 (sN LO HI 1) (sN LO HI 2) e j 0) (x7)).1)) (c3 (sN LO HI 1) (sN LO HI 2) e j 0) 1))) va (aJ G (sz3 LO HI) (vp_updL (vp_updL (vF (prD w u LO HI) (c3 (sN LO HI 1) (sN LO HI 2) e j 0)) (c3 (sN LO HI 1) (sN LO HI 2) e j 0) (prT w u LO HI (c3 (sN LO HI 1) (sN LO HI 2) e j 0) (x7)).2) (c3 (sN LO HI 1) (sN LO HI 2) e j 0) (((vp_updL (vF (prD w u LO HI) (c3 (sN LO HI 1) (sN LO HI 2) e j 0)) (c3 (sN LO HI 1) (sN LO HI 2) e j 0) (prT w u LO HI (c3 (sN LO HI 1) (sN LO HI 2) e j 0) (x7)).2) (c3 (sN LO HI 1) (sN LO HI 2) e j 0)) + ((ovf jo) * (svf js)))))) la = some (aI G 3 LO) := (mU_n (g_neaa m_81 m_83 (fun z => by simp at z))).trans m_81
                  have m_95 : (mU (mU (mU (mU M4 va (aJ G (sz3 LO HI) (vp_updL (vF (prD w u LO HI) (c3 (sN LO HI 1) (sN LO HI 2) e j 0)) (c3 (sN LO HI 1) (sN LO HI 2) e j 0) (prT w u LO HI (c3 (sN LO HI 1) (sN LO HI 2) e j 0) (x7)).2))) za (aZ G (sz3 LO HI) (upd (zF (prD w u LO HI) (c3 (sN LO HI 1) (sN LO HI 2) e j 0)) (c3 (sN LO HI 1) (sN LO HI 2) e j 0) (bI (prT w u LO HI (c3 (sN LO HI 1) (sN LO HI 2) e j 0) (x7)).1)))) za (aZ G (sz3 LO HI) (upd (upd (zF (prD w u LO HI) (c3 (sN LO HI 1) (sN LO HI 2) e j 0)) (c3 (sN LO HI 1) (sN LO HI 2) e j 0) (bI (prT w u LO HI (c3 (sN LO HI 1) (sN LO HI 2) e j 0) (x7)).1)) (c3 (sN LO HI 1) (sN LO HI 2) e j 0) 1))) va (aJ G (sz3 LO HI) (vp_updL (vp_updL (vF (prD w u LO HI) (c3 (sN LO HI 1) (sN LO HI 2) e j 0)) (c3 (sN LO HI 1) (sN LO HI 2) e j 0) (prT w u LO HI (c3 (sN LO HI 1) (sN LO HI 2) e j 0) (x7)).2) (c3 (sN LO HI 1) (sN LO HI 2) e j 0) (((vp_updL (vF (prD w u LO HI) (c3 (sN LO HI 1) (sN LO HI 2) e j 0)) (c3 (sN LO HI 1) (sN LO HI 2) e j 0) (prT w u LO HI (c3 (sN LO HI 1) (sN LO HI 2) e j 0) (x7)).2) (c3 (sN LO HI 1) (sN LO HI 2) e j 0)) + ((ovf jo) * (svf js)))))) ha = some (aI G 3 HI) := (mU_n (g_neaa m_82 m_83 (fun z => by simp at z))).trans m_82
                  have m_96 : (mU (mU (mU (mU M4 va (aJ G (sz3 LO HI) (vp_updL (vF (prD w u LO HI) (c3 (sN LO HI 1) (sN LO HI 2) e j 0)) (c3 (sN LO HI 1) (sN LO HI 2) e j 0) (prT w u LO HI (c3 (sN LO HI 1) (sN LO HI 2) e j 0) (x7)).2))) za (aZ G (sz3 LO HI) (upd (zF (prD w u LO HI) (c3 (sN LO HI 1) (sN LO HI 2) e j 0)) (c3 (sN LO HI 1) (sN LO HI 2) e j 0) (bI (prT w u LO HI (c3 (sN LO HI 1) (sN LO HI 2) e j 0) (x7)).1)))) za (aZ G (sz3 LO HI) (upd (upd (zF (prD w u LO HI) (c3 (sN LO HI 1) (sN LO HI 2) e j 0)) (c3 (sN LO HI 1) (sN LO HI 2) e j 0) (bI (prT w u LO HI (c3 (sN LO HI 1) (sN LO HI 2) e j 0) (x7)).1)) (c3 (sN LO HI 1) (sN LO HI 2) e j 0) 1))) va (aJ G (sz3 LO HI) (vp_updL (vp_updL (vF (prD w u LO HI) (c3 (sN LO HI 1) (sN LO HI 2) e j 0)) (c3 (sN LO HI 1) (sN LO HI 2) e j 0) (prT w u LO HI (c3 (sN LO HI 1) (sN LO HI 2) e j 0) (x7)).2) (c3 (sN LO HI 1) (sN LO HI 2) e j 0) (((vp_updL (vF (prD w u LO HI) (c3 (sN LO HI 1) (sN LO HI 2) e j 0)) (c3 (sN LO HI 1) (sN LO HI 2) e j 0) (prT w u LO HI (c3 (sN LO HI 1) (sN LO HI 2) e j 0) (x7)).2) (c3 (sN LO HI 1) (sN LO HI 2) e j 0)) + ((ovf jo) * (svf js)))))) va = some (aJ G (sz3 LO HI) (vp_updL (vp_updL (vF (prD w u LO HI) (c3 (sN LO HI 1) (sN LO HI 2) e j 0)) (c3 (sN LO HI 1) (sN LO HI 2) e j 0) (prT w u LO HI (c3 (sN LO HI 1) (sN LO HI 2) e j 0) (x7)).2) (c3 (sN LO HI 1) (sN LO HI 2) e j 0) (((vp_updL (vF (prD w u LO HI) (c3 (sN LO HI 1) (sN LO HI 2) e j 0)) (c3 (sN LO HI 1) (sN LO HI 2) e j 0) (prT w u LO HI (c3 (sN LO HI 1) (sN LO HI 2) e j 0) (x7)).2) (c3 (sN LO HI 1) (sN LO HI 2) e j 0)) + ((ovf jo) * (svf js))))) := mU_s
                  have m_97 : (mU (mU (mU (mU M4 va (aJ G (sz3 LO HI) (vp_updL (vF (prD w u LO HI) (c3 (sN LO HI 1) (sN LO HI 2) e j 0)) (c3 (sN LO HI 1) (sN LO HI 2) e j 0) (prT w u LO HI (c3 (sN LO HI 1) (sN LO HI 2) e j 0) (x7)).2))) za (aZ G (sz3 LO HI) (upd (zF (prD w u LO HI) (c3 (sN LO HI 1) (sN LO HI 2) e j 0)) (c3 (sN LO HI 1) (sN LO HI 2) e j 0) (bI (prT w u LO HI (c3 (sN LO HI 1) (sN LO HI 2) e j 0) (x7)).1)))) za (aZ G (sz3 LO HI) (upd (upd (zF (prD w u LO HI) (c3 (sN LO HI 1) (sN LO HI 2) e j 0)) (c3 (sN LO HI 1) (sN LO HI 2) e j 0) (bI (prT w u LO HI (c3 (sN LO HI 1) (sN LO HI 2) e j 0) (x7)).1)) (c3 (sN LO HI 1) (sN LO HI 2) e j 0) 1))) va (aJ G (sz3 LO HI) (vp_updL (vp_updL (vF (prD w u LO HI) (c3 (sN LO HI 1) (sN LO HI 2) e j 0)) (c3 (sN LO HI 1) (sN LO HI 2) e j 0) (prT w u LO HI (c3 (sN LO HI 1) (sN LO HI 2) e j 0) (x7)).2) (c3 (sN LO HI 1) (sN LO HI 2) e j 0) (((vp_updL (vF (prD w u LO HI) (c3 (sN LO HI 1) (sN LO HI 2) e j 0)) (c3 (sN LO HI 1) (sN LO HI 2) e j 0) (prT w u LO HI (c3 (sN LO HI 1) (sN LO HI 2) e j 0) (x7)).2) (c3 (sN LO HI 1) (sN LO HI 2) e j 0)) + ((ovf jo) * (svf js)))))) za = some (aZ G (sz3 LO HI) (upd (upd (zF (prD w u LO HI) (c3 (sN LO HI 1) (sN LO HI 2) e j 0)) (c3 (sN LO HI 1) (sN LO HI 2) e j 0) (bI (prT w u LO HI (c3 (sN LO HI 1) (sN LO HI 2) e j 0) (x7)).1)) (c3 (sN LO HI 1) (sN LO HI 2) e j 0) 1)) := (mU_n (Ne.symm (lvz))).trans m_84
                  have m_98 : (mU (mU (mU (mU M4 va (aJ G (sz3 LO HI) (vp_updL (vF (prD w u LO HI) (c3 (sN LO HI 1) (sN LO HI 2) e j 0)) (c3 (sN LO HI 1) (sN LO HI 2) e j 0) (prT w u LO HI (c3 (sN LO HI 1) (sN LO HI 2) e j 0) (x7)).2))) za (aZ G (sz3 LO HI) (upd (zF (prD w u LO HI) (c3 (sN LO HI 1) (sN LO HI 2) e j 0)) (c3 (sN LO HI 1) (sN LO HI 2) e j 0) (bI (prT w u LO HI (c3 (sN LO HI 1) (sN LO HI 2) e j 0) (x7)).1)))) za (aZ G (sz3 LO HI) (upd (upd (zF (prD w u LO HI) (c3 (sN LO HI 1) (sN LO HI 2) e j 0)) (c3 (sN LO HI 1) (sN LO HI 2) e j 0) (bI (prT w u LO HI (c3 (sN LO HI 1) (sN LO HI 2) e j 0) (x7)).1)) (c3 (sN LO HI 1) (sN LO HI 2) e j 0) 1))) va (aJ G (sz3 LO HI) (vp_updL (vp_updL (vF (prD w u LO HI) (c3 (sN LO HI 1) (sN LO HI 2) e j 0)) (c3 (sN LO HI 1) (sN LO HI 2) e j 0) (prT w u LO HI (c3 (sN LO HI 1) (sN LO HI 2) e j 0) (x7)).2) (c3 (sN LO HI 1) (sN LO HI 2) e j 0) (((vp_updL (vF (prD w u LO HI) (c3 (sN LO HI 1) (sN LO HI 2) e j 0)) (c3 (sN LO HI 1) (sN LO HI 2) e j 0) (prT w u LO HI (c3 (sN LO HI 1) (sN LO HI 2) e j 0) (x7)).2) (c3 (sN LO HI 1) (sN LO HI 2) e j 0)) + ((ovf jo) * (svf js)))))) o = some (oB 12 [.int (nI (vm w)), .int (nI (vdp w)), .ref ola, .ref oha, .ref ova, .ref oza]) := (mU_n (g_neoa m_85 m_83)).trans m_85
                  have m_99 : (mU (mU (mU (mU M4 va (aJ G (sz3 LO HI) (vp_updL (vF (prD w u LO HI) (c3 (sN LO HI 1) (sN LO HI 2) e j 0)) (c3 (sN LO HI 1) (sN LO HI 2) e j 0) (prT w u LO HI (c3 (sN LO HI 1) (sN LO HI 2) e j 0) (x7)).2))) za (aZ G (sz3 LO HI) (upd (zF (prD w u LO HI) (c3 (sN LO HI 1) (sN LO HI 2) e j 0)) (c3 (sN LO HI 1) (sN LO HI 2) e j 0) (bI (prT w u LO HI (c3 (sN LO HI 1) (sN LO HI 2) e j 0) (x7)).1)))) za (aZ G (sz3 LO HI) (upd (upd (zF (prD w u LO HI) (c3 (sN LO HI 1) (sN LO HI 2) e j 0)) (c3 (sN LO HI 1) (sN LO HI 2) e j 0) (bI (prT w u LO HI (c3 (sN LO HI 1) (sN LO HI 2) e j 0) (x7)).1)) (c3 (sN LO HI 1) (sN LO HI 2) e j 0) 1))) va (aJ G (sz3 LO HI) (vp_updL (vp_updL (vF (prD w u LO HI) (c3 (sN LO HI 1) (sN LO HI 2) e j 0)) (c3 (sN LO HI 1) (sN LO HI 2) e j 0) (prT w u LO HI (c3 (sN LO HI 1) (sN LO HI 2) e j 0) (x7)).2) (c3 (sN LO HI 1) (sN LO HI 2) e j 0) (((vp_updL (vF (prD w u LO HI) (c3 (sN LO HI 1) (sN LO HI 2) e j 0)) (c3 (sN LO HI 1) (sN LO HI 2) e j 0) (prT w u LO HI (c3 (sN LO HI 1) (sN LO HI 2) e j 0) (x7)).2) (c3 (sN LO HI 1) (sN LO HI 2) e j 0)) + ((ovf jo) * (svf js)))))) ola = some (aI G 3 (vlo w)) := (mU_n (g_neaa m_86 m_83 (fun z => by simp at z))).trans m_86
                  have m_100 : (mU (mU (mU (mU M4 va (aJ G (sz3 LO HI) (vp_updL (vF (prD w u LO HI) (c3 (sN LO HI 1) (sN LO HI 2) e j 0)) (c3 (sN LO HI 1) (sN LO HI 2) e j 0) (prT w u LO HI (c3 (sN LO HI 1) (sN LO HI 2) e j 0) (x7)).2))) za (aZ G (sz3 LO HI) (upd (zF (prD w u LO HI) (c3 (sN LO HI 1) (sN LO HI 2) e j 0)) (c3 (sN LO HI 1) (sN LO HI 2) e j 0) (bI (prT w u LO HI (c3 (sN LO HI 1) (sN LO HI 2) e j 0) (x7)).1)))) za (aZ G (sz3 LO HI) (upd (upd (zF (prD w u LO HI) (c3 (sN LO HI 1) (sN LO HI 2) e j 0)) (c3 (sN LO HI 1) (sN LO HI 2) e j 0) (bI (prT w u LO HI (c3 (sN LO HI 1) (sN LO HI 2) e j 0) (x7)).1)) (c3 (sN LO HI 1) (sN LO HI 2) e j 0) 1))) va (aJ G (sz3 LO HI) (vp_updL (vp_updL (vF (prD w u LO HI) (c3 (sN LO HI 1) (sN LO HI 2) e j 0)) (c3 (sN LO HI 1) (sN LO HI 2) e j 0) (prT w u LO HI (c3 (sN LO HI 1) (sN LO HI 2) e j 0) (x7)).2) (c3 (sN LO HI 1) (sN LO HI 2) e j 0) (((vp_updL (vF (prD w u LO HI) (c3 (sN LO HI 1) (sN LO HI 2) e j 0)) (c3 (sN LO HI 1) (sN LO HI 2) e j 0) (prT w u LO HI (c3 (sN LO HI 1) (sN LO HI 2) e j 0) (x7)).2) (c3 (sN LO HI 1) (sN LO HI 2) e j 0)) + ((ovf jo) * (svf js)))))) oha = some (aI G 3 (vhi w)) := (mU_n (g_neaa m_87 m_83 (fun z => by simp at z))).trans m_87
                  have m_101 : (mU (mU (mU (mU M4 va (aJ G (sz3 LO HI) (vp_updL (vF (prD w u LO HI) (c3 (sN LO HI 1) (sN LO HI 2) e j 0)) (c3 (sN LO HI 1) (sN LO HI 2) e j 0) (prT w u LO HI (c3 (sN LO HI 1) (sN LO HI 2) e j 0) (x7)).2))) za (aZ G (sz3 LO HI) (upd (zF (prD w u LO HI) (c3 (sN LO HI 1) (sN LO HI 2) e j 0)) (c3 (sN LO HI 1) (sN LO HI 2) e j 0) (bI (prT w u LO HI (c3 (sN LO HI 1) (sN LO HI 2) e j 0) (x7)).1)))) za (aZ G (sz3 LO HI) (upd (upd (zF (prD w u LO HI) (c3 (sN LO HI 1) (sN LO HI 2) e j 0)) (c3 (sN LO HI 1) (sN LO HI 2) e j 0) (bI (prT w u LO HI (c3 (sN LO HI 1) (sN LO HI 2) e j 0) (x7)).1)) (c3 (sN LO HI 1) (sN LO HI 2) e j 0) 1))) va (aJ G (sz3 LO HI) (vp_updL (vp_updL (vF (prD w u LO HI) (c3 (sN LO HI 1) (sN LO HI 2) e j 0)) (c3 (sN LO HI 1) (sN LO HI 2) e j 0) (prT w u LO HI (c3 (sN LO HI 1) (sN LO HI 2) e j 0) (x7)).2) (c3 (sN LO HI 1) (sN LO HI 2) e j 0) (((vp_updL (vF (prD w u LO HI) (c3 (sN LO HI 1) (sN LO HI 2) e j 0)) (c3 (sN LO HI 1) (sN LO HI 2) e j 0) (prT w u LO HI (c3 (sN LO HI 1) (sN LO HI 2) e j 0) (x7)).2) (c3 (sN LO HI 1) (sN LO HI 2) e j 0)) + ((ovf jo) * (svf js)))))) ova = some (aJ G (wsz w) ovf) := (mU_n ((g_nef m_51 fva3))).trans m_88
                  have m_102 : (mU (mU (mU (mU M4 va (aJ G (sz3 LO HI) (vp_updL (vF (prD w u LO HI) (c3 (sN LO HI 1) (sN LO HI 2) e j 0)) (c3 (sN LO HI 1) (sN LO HI 2) e j 0) (prT w u LO HI (c3 (sN LO HI 1) (sN LO HI 2) e j 0) (x7)).2))) za (aZ G (sz3 LO HI) (upd (zF (prD w u LO HI) (c3 (sN LO HI 1) (sN LO HI 2) e j 0)) (c3 (sN LO HI 1) (sN LO HI 2) e j 0) (bI (prT w u LO HI (c3 (sN LO HI 1) (sN LO HI 2) e j 0) (x7)).1)))) za (aZ G (sz3 LO HI) (upd (upd (zF (prD w u LO HI) (c3 (sN LO HI 1) (sN LO HI 2) e j 0)) (c3 (sN LO HI 1) (sN LO HI 2) e j 0) (bI (prT w u LO HI (c3 (sN LO HI 1) (sN LO HI 2) e j 0) (x7)).1)) (c3 (sN LO HI 1) (sN LO HI 2) e j 0) 1))) va (aJ G (sz3 LO HI) (vp_updL (vp_updL (vF (prD w u LO HI) (c3 (sN LO HI 1) (sN LO HI 2) e j 0)) (c3 (sN LO HI 1) (sN LO HI 2) e j 0) (prT w u LO HI (c3 (sN LO HI 1) (sN LO HI 2) e j 0) (x7)).2) (c3 (sN LO HI 1) (sN LO HI 2) e j 0) (((vp_updL (vF (prD w u LO HI) (c3 (sN LO HI 1) (sN LO HI 2) e j 0)) (c3 (sN LO HI 1) (sN LO HI 2) e j 0) (prT w u LO HI (c3 (sN LO HI 1) (sN LO HI 2) e j 0) (x7)).2) (c3 (sN LO HI 1) (sN LO HI 2) e j 0)) + ((ovf jo) * (svf js)))))) s = some (oB 12 [.int (nI (vm u)), .int (nI (vdp u)), .ref sla, .ref sha, .ref sva, .ref sza]) := (mU_n (g_neoa m_89 m_83)).trans m_89
                  have m_103 : (mU (mU (mU (mU M4 va (aJ G (sz3 LO HI) (vp_updL (vF (prD w u LO HI) (c3 (sN LO HI 1) (sN LO HI 2) e j 0)) (c3 (sN LO HI 1) (sN LO HI 2) e j 0) (prT w u LO HI (c3 (sN LO HI 1) (sN LO HI 2) e j 0) (x7)).2))) za (aZ G (sz3 LO HI) (upd (zF (prD w u LO HI) (c3 (sN LO HI 1) (sN LO HI 2) e j 0)) (c3 (sN LO HI 1) (sN LO HI 2) e j 0) (bI (prT w u LO HI (c3 (sN LO HI 1) (sN LO HI 2) e j 0) (x7)).1)))) za (aZ G (sz3 LO HI) (upd (upd (zF (prD w u LO HI) (c3 (sN LO HI 1) (sN LO HI 2) e j 0)) (c3 (sN LO HI 1) (sN LO HI 2) e j 0) (bI (prT w u LO HI (c3 (sN LO HI 1) (sN LO HI 2) e j 0) (x7)).1)) (c3 (sN LO HI 1) (sN LO HI 2) e j 0) 1))) va (aJ G (sz3 LO HI) (vp_updL (vp_updL (vF (prD w u LO HI) (c3 (sN LO HI 1) (sN LO HI 2) e j 0)) (c3 (sN LO HI 1) (sN LO HI 2) e j 0) (prT w u LO HI (c3 (sN LO HI 1) (sN LO HI 2) e j 0) (x7)).2) (c3 (sN LO HI 1) (sN LO HI 2) e j 0) (((vp_updL (vF (prD w u LO HI) (c3 (sN LO HI 1) (sN LO HI 2) e j 0)) (c3 (sN LO HI 1) (sN LO HI 2) e j 0) (prT w u LO HI (c3 (sN LO HI 1) (sN LO HI 2) e j 0) (x7)).2) (c3 (sN LO HI 1) (sN LO HI 2) e j 0)) + ((ovf jo) * (svf js)))))) sla = some (aI G 3 (vlo u)) := (mU_n (g_neaa m_90 m_83 (fun z => by simp at z))).trans m_90
                  have m_104 : (mU (mU (mU (mU M4 va (aJ G (sz3 LO HI) (vp_updL (vF (prD w u LO HI) (c3 (sN LO HI 1) (sN LO HI 2) e j 0)) (c3 (sN LO HI 1) (sN LO HI 2) e j 0) (prT w u LO HI (c3 (sN LO HI 1) (sN LO HI 2) e j 0) (x7)).2))) za (aZ G (sz3 LO HI) (upd (zF (prD w u LO HI) (c3 (sN LO HI 1) (sN LO HI 2) e j 0)) (c3 (sN LO HI 1) (sN LO HI 2) e j 0) (bI (prT w u LO HI (c3 (sN LO HI 1) (sN LO HI 2) e j 0) (x7)).1)))) za (aZ G (sz3 LO HI) (upd (upd (zF (prD w u LO HI) (c3 (sN LO HI 1) (sN LO HI 2) e j 0)) (c3 (sN LO HI 1) (sN LO HI 2) e j 0) (bI (prT w u LO HI (c3 (sN LO HI 1) (sN LO HI 2) e j 0) (x7)).1)) (c3 (sN LO HI 1) (sN LO HI 2) e j 0) 1))) va (aJ G (sz3 LO HI) (vp_updL (vp_updL (vF (prD w u LO HI) (c3 (sN LO HI 1) (sN LO HI 2) e j 0)) (c3 (sN LO HI 1) (sN LO HI 2) e j 0) (prT w u LO HI (c3 (sN LO HI 1) (sN LO HI 2) e j 0) (x7)).2) (c3 (sN LO HI 1) (sN LO HI 2) e j 0) (((vp_updL (vF (prD w u LO HI) (c3 (sN LO HI 1) (sN LO HI 2) e j 0)) (c3 (sN LO HI 1) (sN LO HI 2) e j 0) (prT w u LO HI (c3 (sN LO HI 1) (sN LO HI 2) e j 0) (x7)).2) (c3 (sN LO HI 1) (sN LO HI 2) e j 0)) + ((ovf jo) * (svf js)))))) sha = some (aI G 3 (vhi u)) := (mU_n (g_neaa m_91 m_83 (fun z => by simp at z))).trans m_91
                  have m_105 : (mU (mU (mU (mU M4 va (aJ G (sz3 LO HI) (vp_updL (vF (prD w u LO HI) (c3 (sN LO HI 1) (sN LO HI 2) e j 0)) (c3 (sN LO HI 1) (sN LO HI 2) e j 0) (prT w u LO HI (c3 (sN LO HI 1) (sN LO HI 2) e j 0) (x7)).2))) za (aZ G (sz3 LO HI) (upd (zF (prD w u LO HI) (c3 (sN LO HI 1) (sN LO HI 2) e j 0)) (c3 (sN LO HI 1) (sN LO HI 2) e j 0) (bI (prT w u LO HI (c3 (sN LO HI 1) (sN LO HI 2) e j 0) (x7)).1)))) za (aZ G (sz3 LO HI) (upd (upd (zF (prD w u LO HI) (c3 (sN LO HI 1) (sN LO HI 2) e j 0)) (c3 (sN LO HI 1) (sN LO HI 2) e j 0) (bI (prT w u LO HI (c3 (sN LO HI 1) (sN LO HI 2) e j 0) (x7)).1)) (c3 (sN LO HI 1) (sN LO HI 2) e j 0) 1))) va (aJ G (sz3 LO HI) (vp_updL (vp_updL (vF (prD w u LO HI) (c3 (sN LO HI 1) (sN LO HI 2) e j 0)) (c3 (sN LO HI 1) (sN LO HI 2) e j 0) (prT w u LO HI (c3 (sN LO HI 1) (sN LO HI 2) e j 0) (x7)).2) (c3 (sN LO HI 1) (sN LO HI 2) e j 0) (((vp_updL (vF (prD w u LO HI) (c3 (sN LO HI 1) (sN LO HI 2) e j 0)) (c3 (sN LO HI 1) (sN LO HI 2) e j 0) (prT w u LO HI (c3 (sN LO HI 1) (sN LO HI 2) e j 0) (x7)).2) (c3 (sN LO HI 1) (sN LO HI 2) e j 0)) + ((ovf jo) * (svf js)))))) sva = some (aJ G (wsz u) svf) := (mU_n ((g_nef m_56 fva3))).trans m_92
                  refine q_iinc (v := (vlo w 1 + nI (x7 + 1))) (lv' := [(8, .int (vlo w 1 + nI (x7 + 1))), (0, .ref r), (1, .int (nI i)), (2, .int (nI i2)), (3, .ref o), (4, .ref s), (5, .ref q), (6, .int (LO 0 + nI (e))), (7, .int (LO 1 + nI (j)))]) X dX13_product_336 8 rfl (lo_s) (by decide) rfl ?_
                  refine q_goto X 195 dX13_product_339 (by decide) ?_
                  refine q_sub [1, 2, 3, 4, 5, 6, 7, 8, 0] rfl ?_
                  have hdk : prT w u LO HI (c3 (sN LO HI 1) (sN LO HI 2) e j 0) (x7 + 1) = (true, (prT w u LO HI (c3 (sN LO HI 1) (sN LO HI 2) e j 0) x7).2 + ovf jo * svf js) := ps9.trans (by rw [ct_some hO.2.2.2.2.2 hjo k1, ct_some hOs.2.2.2.2.2 hjs k2])
                  exact ih (x7 + 1) _ (by omega) (by rw [hdk, updL_s, updL_2, upd_2]; exact mU_5 lvz)
                · refine q_goto X 336 dX13_product_266 (by decide) ?_
                  refine q_iinc (v := (vlo w 1 + nI (x7 + 1))) (lv' := [(8, .int (vlo w 1 + nI (x7 + 1))), (0, .ref r), (1, .int (nI i)), (2, .int (nI i2)), (3, .ref o), (4, .ref s), (5, .ref q), (6, .int (LO 0 + nI (e))), (7, .int (LO 1 + nI (j)))]) X dX13_product_336 8 rfl (lo_s) (by decide) rfl ?_
                  refine q_goto X 195 dX13_product_339 (by decide) ?_
                  refine q_sub [1, 2, 3, 4, 5, 6, 7, 8, 0] rfl ?_
                  have hdk : prT w u LO HI (c3 (sN LO HI 1) (sN LO HI 2) e j 0) (x7 + 1) = prT w u LO HI (c3 (sN LO HI 1) (sN LO HI 2) e j 0) x7 := ps9.trans (by rw [ct_some hO.2.2.2.2.2 hjo k1, ct_none hOs.2.2.2.2.2 hjs k2])
                  exact ih (x7 + 1) _ (by omega) (by rw [hdk])
      have L1 : ∀ (e : Nat) (he : e < sN LO HI 0) (kk : ∀ M2 : gMem, (M2 = mU (mU M4 va (aJ G (sz3 LO HI) (vF (prD w u LO HI) (c3 (sN LO HI 1) (sN LO HI 2) e (sN LO HI 1) 0)))) za (aZ G (sz3 LO HI) (zF (prD w u LO HI) (c3 (sN LO HI 1) (sN LO HI 2) e (sN LO HI 1) 0)))) → qJ G F (qQ G F (rfP G r cOp (some (.int 0)) (sp_product σ (nI i) (nI i2)))) 9 M2 0 0 348 [(0, .ref r), (1, .int (nI i)), (2, .int (nI i2)), (3, .ref o), (4, .ref s), (5, .ref q), (6, .int (LO 0 + nI (e)))] []) (t j : Nat) (M1 : gMem), j + t = sN LO HI 1 → (M1 = mU (mU M4 va (aJ G (sz3 LO HI) (vF (prD w u LO HI) (c3 (sN LO HI 1) (sN LO HI 2) e j 0)))) za (aZ G (sz3 LO HI) (zF (prD w u LO HI) (c3 (sN LO HI 1) (sN LO HI 2) e j 0)))) → qJ G F (qQ G F (rfP G r cOp (some (.int 0)) (sp_product σ (nI i) (nI i2)))) 9 M1 0 0 175 [(0, .ref r), (1, .int (nI i)), (2, .int (nI i2)), (3, .ref o), (4, .ref s), (5, .ref q), (6, .int (LO 0 + nI (e))), (7, .int (LO 1 + nI (j)))] [] := by
        intro e he kk t
        induction t with
        | zero =>
          intro j M1 hj0 hI
          obtain rfl : j = sN LO HI 1 := by omega
          have hI0 := hI
          subst hI
          refine q_iload X dX13_product_175 7 rfl ?_
          refine q_aload X dX13_product_177 5 rfl ?_
          refine q_get X (kq (vF (prD w u LO HI) (c3 (sN LO HI 1) (sN LO HI 2) e (sN LO HI 1) 0)) (zF (prD w u LO HI) (c3 (sN LO HI 1) (sN LO HI 2) e (sN LO HI 1) 0))) rfl in_RX12 3 (by decide) tw_1161 rfl rfl dX13_product_179 ?_
          refine q_iconst (v := 1) X dX13_product_182 (by decide) ?_
          refine q_ialdN X 1 (kha (vF (prD w u LO HI) (c3 (sN LO HI 1) (sN LO HI 2) e (sN LO HI 1) 0)) (zF (prD w u LO HI) (c3 (sN LO HI 1) (sN LO HI 2) e (sN LO HI 1) 0))) (rfl) (by decide) (by decide) dX13_product_183 ?_
          refine q_icmp_gt X 348 dX13_product_184 (by decide) (fun c_106 => ?_) (fun c_106 => absurd (by rw [y1]; exact (lo_lt l1.1 l1.2 (by omega) (by omega)).mpr (by omega)) c_106)
          refine q_sub [0, 1, 2, 3, 4, 5, 6] rfl ?_
          exact kk _ hI0
        | succ t ih =>
          intro j M1 hj0 hI
          have hj : j < sN LO HI 1 := by omega
          have hI0 := hI
          subst hI
          have hc9 : c3 (sN LO HI 1) (sN LO HI 2) e j 0 < sz3 LO HI := c3_lt he hj (show 0 < sN LO HI 2 by omega)
          refine q_iload X dX13_product_175 7 rfl ?_
          refine q_aload X dX13_product_177 5 rfl ?_
          refine q_get X (kq (vF (prD w u LO HI) (c3 (sN LO HI 1) (sN LO HI 2) e j 0)) (zF (prD w u LO HI) (c3 (sN LO HI 1) (sN LO HI 2) e j 0))) rfl in_RX12 3 (by decide) tw_1161 rfl rfl dX13_product_179 ?_
          refine q_iconst (v := 1) X dX13_product_182 (by decide) ?_
          refine q_ialdN X 1 (kha (vF (prD w u LO HI) (c3 (sN LO HI 1) (sN LO HI 2) e j 0)) (zF (prD w u LO HI) (c3 (sN LO HI 1) (sN LO HI 2) e j 0))) (rfl) (by decide) (by decide) dX13_product_183 ?_
          refine q_icmp_gt X 348 dX13_product_184 (by decide) (fun c_107 => absurd ((lo_lt l1.1 l1.2 (by omega) (by omega)).mp (y1 ▸ c_107)) (by omega)) (fun c_107 => ?_)
          refine q_aload_n X dX13_product_187 3 rfl ?_
          refine q_get X (ko (vF (prD w u LO HI) (c3 (sN LO HI 1) (sN LO HI 2) e j 0)) (zF (prD w u LO HI) (c3 (sN LO HI 1) (sN LO HI 2) e j 0))) rfl in_RX12 2 (by decide) tw_1159 rfl rfl dX13_product_188 ?_
          refine q_iconst (v := 1) X dX13_product_191 (by decide) ?_
          refine q_ialdN X 1 (kola (vF (prD w u LO HI) (c3 (sN LO HI 1) (sN LO HI 2) e j 0)) (zF (prD w u LO HI) (c3 (sN LO HI 1) (sN LO HI 2) e j 0))) (rfl) (by decide) (by decide) dX13_product_192 ?_
          rw [show vlo w 1 = vlo w 1 + nI 0 from lo_0.symm]
          refine q_istore (lv' := [(8, .int (vlo w 1 + nI (0))), (0, .ref r), (1, .int (nI i)), (2, .int (nI i2)), (3, .ref o), (4, .ref s), (5, .ref q), (6, .int (LO 0 + nI (e))), (7, .int (LO 1 + nI (j)))]) X dX13_product_193 (by decide) rfl ?_
          refine q_sub [1, 2, 3, 4, 5, 6, 7, 8, 0] rfl ?_
          refine L3 e j he hj (fun M2 hI2 => ?_) (sN (vlo w) (vhi w) 1) 0 _ (Nat.zero_add _) (by rw [prT_0]; show _ = mU (mU M4 va (aJ G (sz3 LO HI) (vp_updL (vF (prD w u LO HI) (c3 (sN LO HI 1) (sN LO HI 2) e j 0)) (c3 (sN LO HI 1) (sN LO HI 2) e j 0) 0))) za (aZ G (sz3 LO HI) (upd (zF (prD w u LO HI) (c3 (sN LO HI 1) (sN LO HI 2) e j 0)) (c3 (sN LO HI 1) (sN LO HI 2) e j 0) 0)); rw [vF_id, zF_id])
          rw [prT_L hw hwu, pr_end.1, pr_end.2, ← c3_j1 hS2] at hI2
          subst hI2
          refine q_iinc (v := (LO 1 + nI (j + 1))) (lv' := [(7, .int (LO 1 + nI (j + 1))), (0, .ref r), (1, .int (nI i)), (2, .int (nI i2)), (3, .ref o), (4, .ref s), (5, .ref q), (6, .int (LO 0 + nI (e)))]) X dX13_product_342 7 rfl (lo_s) (by decide) rfl ?_
          refine q_goto X 175 dX13_product_345 (by decide) ?_
          refine q_sub [1, 2, 3, 4, 5, 6, 7, 0] rfl ?_
          exact ih (j + 1) _ (by omega) rfl
      have L0 : ∀ (kk : ∀ M2 : gMem, (M2 = mU (mU M4 va (aJ G (sz3 LO HI) (vF (prD w u LO HI) (c3 (sN LO HI 1) (sN LO HI 2) (sN LO HI 0) 0 0)))) za (aZ G (sz3 LO HI) (zF (prD w u LO HI) (c3 (sN LO HI 1) (sN LO HI 2) (sN LO HI 0) 0 0)))) → qJ G F (qQ G F (rfP G r cOp (some (.int 0)) (sp_product σ (nI i) (nI i2)))) 9 M2 0 0 354 [(0, .ref r), (1, .int (nI i)), (2, .int (nI i2)), (3, .ref o), (4, .ref s), (5, .ref q)] []) (t e : Nat) (M1 : gMem), e + t = sN LO HI 0 → (M1 = mU (mU M4 va (aJ G (sz3 LO HI) (vF (prD w u LO HI) (c3 (sN LO HI 1) (sN LO HI 2) e 0 0)))) za (aZ G (sz3 LO HI) (zF (prD w u LO HI) (c3 (sN LO HI 1) (sN LO HI 2) e 0 0)))) → qJ G F (qQ G F (rfP G r cOp (some (.int 0)) (sp_product σ (nI i) (nI i2)))) 9 M1 0 0 154 [(0, .ref r), (1, .int (nI i)), (2, .int (nI i2)), (3, .ref o), (4, .ref s), (5, .ref q), (6, .int (LO 0 + nI (e)))] [] := by
        intro  kk t
        induction t with
        | zero =>
          intro e M1 he0 hI
          obtain rfl : e = sN LO HI 0 := by omega
          have hI0 := hI
          subst hI
          refine q_iload X dX13_product_154 6 rfl ?_
          refine q_aload X dX13_product_156 5 rfl ?_
          refine q_get X (kq (vF (prD w u LO HI) (c3 (sN LO HI 1) (sN LO HI 2) (sN LO HI 0) 0 0)) (zF (prD w u LO HI) (c3 (sN LO HI 1) (sN LO HI 2) (sN LO HI 0) 0 0))) rfl in_RX12 3 (by decide) tw_1161 rfl rfl dX13_product_158 ?_
          refine q_iconst (v := 0) X dX13_product_161 (by decide) ?_
          refine q_ialdN X 0 (kha (vF (prD w u LO HI) (c3 (sN LO HI 1) (sN LO HI 2) (sN LO HI 0) 0 0)) (zF (prD w u LO HI) (c3 (sN LO HI 1) (sN LO HI 2) (sN LO HI 0) 0 0))) (rfl) (by decide) (by decide) dX13_product_162 ?_
          refine q_icmp_gt X 354 dX13_product_163 (by decide) (fun c_108 => ?_) (fun c_108 => absurd (by rw [y0]; exact (lo_lt l0.1 l0.2 (by omega) (by omega)).mpr (by omega)) c_108)
          refine q_sub [0, 1, 2, 3, 4, 5] rfl ?_
          exact kk _ hI0
        | succ t ih =>
          intro e M1 he0 hI
          have he : e < sN LO HI 0 := by omega
          have hI0 := hI
          subst hI
          refine q_iload X dX13_product_154 6 rfl ?_
          refine q_aload X dX13_product_156 5 rfl ?_
          refine q_get X (kq (vF (prD w u LO HI) (c3 (sN LO HI 1) (sN LO HI 2) e 0 0)) (zF (prD w u LO HI) (c3 (sN LO HI 1) (sN LO HI 2) e 0 0))) rfl in_RX12 3 (by decide) tw_1161 rfl rfl dX13_product_158 ?_
          refine q_iconst (v := 0) X dX13_product_161 (by decide) ?_
          refine q_ialdN X 0 (kha (vF (prD w u LO HI) (c3 (sN LO HI 1) (sN LO HI 2) e 0 0)) (zF (prD w u LO HI) (c3 (sN LO HI 1) (sN LO HI 2) e 0 0))) (rfl) (by decide) (by decide) dX13_product_162 ?_
          refine q_icmp_gt X 354 dX13_product_163 (by decide) (fun c_109 => absurd ((lo_lt l0.1 l0.2 (by omega) (by omega)).mp (y0 ▸ c_109)) (by omega)) (fun c_109 => ?_)
          refine q_aload X dX13_product_166 5 rfl ?_
          refine q_get X (kq (vF (prD w u LO HI) (c3 (sN LO HI 1) (sN LO HI 2) e 0 0)) (zF (prD w u LO HI) (c3 (sN LO HI 1) (sN LO HI 2) e 0 0))) rfl in_RX12 2 (by decide) tw_1159 rfl rfl dX13_product_168 ?_
          refine q_iconst (v := 1) X dX13_product_171 (by decide) ?_
          refine q_ialdN X 1 (kla (vF (prD w u LO HI) (c3 (sN LO HI 1) (sN LO HI 2) e 0 0)) (zF (prD w u LO HI) (c3 (sN LO HI 1) (sN LO HI 2) e 0 0))) (rfl) (by decide) (by decide) dX13_product_172 ?_
          rw [show LO 1 = LO 1 + nI 0 from lo_0.symm]
          refine q_istore (lv' := [(7, .int (LO 1 + nI (0))), (0, .ref r), (1, .int (nI i)), (2, .int (nI i2)), (3, .ref o), (4, .ref s), (5, .ref q), (6, .int (LO 0 + nI (e)))]) X dX13_product_173 (by decide) rfl ?_
          refine q_sub [1, 2, 3, 4, 5, 6, 7, 0] rfl ?_
          refine L1 e he (fun M2 hI2 => ?_) (sN LO HI 1) 0 _ (Nat.zero_add _) hI0
          rw [c3_j] at hI2
          refine q_iinc (v := (LO 0 + nI (e + 1))) (lv' := [(6, .int (LO 0 + nI (e + 1))), (0, .ref r), (1, .int (nI i)), (2, .int (nI i2)), (3, .ref o), (4, .ref s), (5, .ref q)]) X dX13_product_348 6 rfl (lo_s) (by decide) rfl ?_
          refine q_goto X 154 dX13_product_351 (by decide) ?_
          refine q_sub [1, 2, 3, 4, 5, 6, 0] rfl ?_
          exact ih (e + 1) M2 (by omega) hI2
      refine q_aload X dX13_product_145 0 rfl ?_
      refine q_get X hq4 rfl in_RX12 2 (by decide) tw_1159 rfl rfl dX13_product_147 ?_
      refine q_iconst (v := 0) X dX13_product_150 (by decide) ?_
      refine q_ialdN X 0 m_76 (rfl) (by decide) (by decide) dX13_product_151 ?_
      rw [show LO 0 = LO 0 + nI 0 from lo_0.symm]
      refine q_istore (lv' := [(6, .int (LO 0 + nI (0))), (5, .ref q), (4, .ref s), (3, .ref o), (0, .ref r), (1, .int (nI i)), (2, .int (nI i2))]) X dX13_product_152 (by decide) rfl ?_
      refine q_sub [4, 5, 6, 3, 2, 1, 0] rfl ?_
      exact L0 hfin (sN LO HI 0) 0 _ (Nat.zero_add _) (by rw [c3_0, vF_0, zF_0, mU_id hva4, mU_id hza4])
    · refine q_callV X (c_large_n hB2 hok hmx m_43 m_44 m_45 hlim) Y_X13_large tw_1359 tw_1361 sel_32 m_30 rfl (by omega) rfl rfl (Nat.le_of_ble_eq_true rfl) (rc' := 2) (rs' := 4096) (by omega) (by omega) dX13_product_132 (fun v M' hp _ => ?_)
      obtain ⟨rfl, eM⟩ := hp
      have m_110 : M' r = some (oB 13 [.int 3, .ref vA, .ref nA, .ref pA, .ref plA, .ref dg, .int (nI (aV σ).length), .int (nI (aN σ).length), .int (nI (aOf σ)), .int (nI (aBg σ)), .int tk, .long su, .long le, .long gr]) := by rw [eM]; exact mU_s
      have m_111 : M' nA = some (aG G 150 nf) := by rw [eM]; exact (mU_n (Ne.symm (g_neoa m_30 m_31))).trans m_31
      have m_112 : M' o = some (oB 12 [.int (nI (vm w)), .int (nI (vdp w)), .ref ola, .ref oha, .ref ova, .ref oza]) := by rw [eM]; exact (mU_n (g_neoo m_32 m_30 (by decide))).trans m_32
      have m_113 : M' ola = some (aI G 3 (vlo w)) := by rw [eM]; exact (mU_n (Ne.symm (g_neoa m_30 m_33))).trans m_33
      have m_114 : M' oha = some (aI G 3 (vhi w)) := by rw [eM]; exact (mU_n (Ne.symm (g_neoa m_30 m_34))).trans m_34
      have m_115 : M' ova = some (aJ G (wsz w) ovf) := by rw [eM]; exact (mU_n (Ne.symm (g_neoa m_30 m_35))).trans m_35
      have m_116 : M' oza = some (aZ G (wsz w) ozf) := by rw [eM]; exact (mU_n (Ne.symm (g_neoa m_30 m_36))).trans m_36
      have m_117 : M' s = some (oB 12 [.int (nI (vm u)), .int (nI (vdp u)), .ref sla, .ref sha, .ref sva, .ref sza]) := by rw [eM]; exact (mU_n (g_neoo m_37 m_30 (by decide))).trans m_37
      have m_118 : M' sla = some (aI G 3 (vlo u)) := by rw [eM]; exact (mU_n (Ne.symm (g_neoa m_30 m_38))).trans m_38
      have m_119 : M' sha = some (aI G 3 (vhi u)) := by rw [eM]; exact (mU_n (Ne.symm (g_neoa m_30 m_39))).trans m_39
      have m_120 : M' sva = some (aJ G (wsz u) svf) := by rw [eM]; exact (mU_n (Ne.symm (g_neoa m_30 m_40))).trans m_40
      have m_121 : M' sza = some (aZ G (wsz u) szf) := by rw [eM]; exact (mU_n (Ne.symm (g_neoa m_30 m_41))).trans m_41
      have m_122 : M' plA = some (aI G 3 pl0) := by rw [eM]; exact (mU_n (Ne.symm (g_neoa m_30 m_42))).trans m_42
      have m_123 : M' q = some (oB 12 [.int (nI (vm w)), .int (nI (max (vdp w) (vdp u) + 1)), .ref la, .ref ha, .null, .null]) := by rw [eM]; exact (mU_n (Ne.symm (g_nef hB.1 fq))).trans m_43
      have m_124 : M' la = some (aI G 3 LO) := by rw [eM]; exact (mU_n (Ne.symm (g_nef hB.1 fla))).trans m_44
      have m_125 : M' ha = some (aI G 3 HI) := by rw [eM]; exact (mU_n (Ne.symm (g_nef hB.1 fha))).trans m_45
      have evK3 : mEv (fun x => x = r ∨ x = plA) M M' := by rw [eM]; exact evM2.trans (mEv_upd (K := (fun x => x = r ∨ x = plA)) (Or.inl rfl))
      have hB3 : rfB G M' r 3 σ vA nA pA plA dg dla dha dva dza dvf dzf vf nf pf tk su le gr := by rw [eM]; exact hB2.ro
      clear eM
      generalize M' = M3 at *
      show qJ G F _ 9 M3 2 4096 135 [(5, .ref q), (4, .ref s), (3, .ref o), (0, .ref r), (1, .int (nI i)), (2, .int (nI i2))] [.int 1]
      refine q_if_eq X 140 dX13_product_135 (by decide) (fun c_126 => absurd c_126 (by decide)) (fun c_126 => ?_)
      refine q_iconst (v := 0) X dX13_product_138 (by decide) ?_
      exact q_iret X hr dX13_product_139 (rfP_T (by rw [specE]; exact gLim_n hlim) cOp_UO ⟨vA, nA, pA, plA, dg, dla, dha, dva, dza, dvf, dzf, vf, nf, pf, tk, su, le, gr, hB3⟩)
  show qJ G F _ 9 M 5 4108 0 [(0, .ref r), (1, .int a), (2, .int b)] []
  refine q_aload_n X dX13_product_0 0 rfl ?_
  rcases Nat.lt_or_ge (aN σ).length 150 with q150 | q150
  · refine q_callV X (c_full_y hB q150) Y_X13_full tw_1332 tw_1334 sel_27 hB.1 rfl (by omega) rfl rfl (Nat.le_of_ble_eq_true rfl) (rc' := 5) (rs' := 4108) (by omega) (by omega) dX13_product_1 (fun v M' hp _ => ?_)
    obtain ⟨rfl, eM⟩ := hp
    have hB227 : rfB G M' r 0 σ vA nA pA plA dg dla dha dva dza dvf dzf vf nf pf tk su le gr := by rw [eM]; exact hB.ro
    clear eM
    generalize M' = M227 at *
    show qJ G F _ 9 M227 5 4108 4 [(0, .ref r), (1, .int a), (2, .int b)] [.int 0]
    obtain ⟨z_128r, z_1281, z_1282, z_1283, ⟨z_128x, z_1284⟩, z_1285, z_1286, z_1287, z_1288, z_1289, z_12810⟩ := id hB227
    refine q_if_eq X 9 dX13_product_4 (by decide) (fun c_129 => ?_) (fun c_129 => absurd (by decide) c_129)
    refine q_aload_n X dX13_product_9 0 rfl ?_
    refine q_aload_n X dX13_product_10 0 rfl ?_
    refine q_iload_n X dX13_product_11 1 rfl ?_
    rcases hnd : ndAt σ a with _ | w
    · refine q_callVp X (c_none_n hB227 (by omega) hnd) Y_X13_none tw_1351 tw_1353 sel_30 z_128r rfl (by omega) rfl rfl (Nat.le_of_ble_eq_true rfl) dX13_product_12 ?_
      refine q_if_ne X 52 dX13_product_15 (by decide) (fun c_130 => ?_) (fun c_130 => absurd c_130 (by decide))
      refine q_iconst (v := 1) X dX13_product_52 (by decide) ?_
      refine q_goto X 57 dX13_product_53 (by decide) ?_
      refine q_iconst (v := 1) X dX13_product_57 (by decide) ?_
      refine q_callV X (c_fails1 (why := 1) hB227.1) Y_X13_fails tw_1246 tw_1248 sel_23 z_128r rfl (by omega) rfl rfl (Nat.le_of_ble_eq_true rfl) (rc' := 5) (rs' := 4108) (by omega) (by omega) dX13_product_58 (fun v M' hp _ => ?_)
      obtain ⟨rfl, eM⟩ := hp
      have hB231 : rfB G M' r 1 σ vA nA pA plA dg dla dha dva dza dvf dzf vf nf pf tk su le gr := by rw [eM]; exact hB227.ro
      clear eM
      generalize M' = M231 at *
      show qJ G F _ 9 M231 5 4108 61 [(0, .ref r), (1, .int a), (2, .int b)] [.int 1]
      obtain ⟨z_132r, z_1321, z_1322, z_1323, ⟨z_132x, z_1324⟩, z_1325, z_1326, z_1327, z_1328, z_1329, z_13210⟩ := id hB231
      refine q_if_eq X 66 dX13_product_61 (by decide) (fun c_133 => absurd c_133 (by decide)) (fun c_133 => ?_)
      refine q_iconst (v := 0) X dX13_product_64 (by decide) ?_
      exact q_iret X hr dX13_product_65 (rfP_T ((gRoom_y q150).trans (gNode_n hnd)) cOp_IA ⟨vA, nA, pA, plA, dg, dla, dha, dva, dza, dvf, dzf, vf, nf, pf, tk, su, le, gr, hB231⟩)
    · refine q_callVp X (c_none_y hB227 (by omega) hnd) Y_X13_none tw_1351 tw_1353 sel_30 z_128r rfl (by omega) rfl rfl (Nat.le_of_ble_eq_true rfl) dX13_product_12 ?_
      obtain ⟨i, hi9, rfl, hi⟩ := ndAt_some hnd
      have hw := hW.2 i w hi
      have hi150 : i < 150 := by omega
      refine q_if_ne X 52 dX13_product_15 (by decide) (fun c_134 => absurd (by decide) c_134) (fun c_134 => ?_)
      refine q_aload_n X dX13_product_18 0 rfl ?_
      refine q_iload_n X dX13_product_19 2 rfl ?_
      rcases hnd2 : ndAt σ b with _ | u
      · refine q_callVp X (c_none_n hB227 (by omega) hnd2) Y_X13_none tw_1351 tw_1353 sel_30 z_128r rfl (by omega) rfl rfl (Nat.le_of_ble_eq_true rfl) dX13_product_20 ?_
        refine q_if_ne X 52 dX13_product_23 (by decide) (fun c_135 => ?_) (fun c_135 => absurd c_135 (by decide))
        refine q_iconst (v := 1) X dX13_product_52 (by decide) ?_
        refine q_goto X 57 dX13_product_53 (by decide) ?_
        refine q_iconst (v := 1) X dX13_product_57 (by decide) ?_
        refine q_callV X (c_fails1 (why := 1) hB227.1) Y_X13_fails tw_1246 tw_1248 sel_23 z_128r rfl (by omega) rfl rfl (Nat.le_of_ble_eq_true rfl) (rc' := 5) (rs' := 4108) (by omega) (by omega) dX13_product_58 (fun v M' hp _ => ?_)
        obtain ⟨rfl, eM⟩ := hp
        have hB236 : rfB G M' r 1 σ vA nA pA plA dg dla dha dva dza dvf dzf vf nf pf tk su le gr := by rw [eM]; exact hB227.ro
        clear eM
        generalize M' = M236 at *
        show qJ G F _ 9 M236 5 4108 61 [(0, .ref r), (1, .int (nI i)), (2, .int b)] [.int 1]
        obtain ⟨z_137r, z_1371, z_1372, z_1373, ⟨z_137x, z_1374⟩, z_1375, z_1376, z_1377, z_1378, z_1379, z_13710⟩ := id hB236
        refine q_if_eq X 66 dX13_product_61 (by decide) (fun c_138 => absurd c_138 (by decide)) (fun c_138 => ?_)
        refine q_iconst (v := 0) X dX13_product_64 (by decide) ?_
        exact q_iret X hr dX13_product_65 (rfP_T ((gRoom_y q150).trans ((gNode_y hnd).trans (gNode_n hnd2))) cOp_IA ⟨vA, nA, pA, plA, dg, dla, dha, dva, dza, dvf, dzf, vf, nf, pf, tk, su, le, gr, hB236⟩)
      · refine q_callVp X (c_none_y hB227 (by omega) hnd2) Y_X13_none tw_1351 tw_1353 sel_30 z_128r rfl (by omega) rfl rfl (Nat.le_of_ble_eq_true rfl) dX13_product_20 ?_
        obtain ⟨i2, hi29, rfl, hi2⟩ := ndAt_some hnd2
        have hwu := hW.2 i2 u hi2
        have hi2150 : i2 < 150 := by omega
        refine q_if_ne X 52 dX13_product_23 (by decide) (fun c_139 => absurd (by decide) c_139) (fun c_139 => ?_)
        obtain ⟨o, hnfo, ola, oha, ova, oza, ovf, ozf, hO, bo1, bo2, bo3, bo4⟩ := hB227.2.2.2.2.2.2.2.2.1 i w hi
        obtain ⟨s, hnfs, sla, sha, sva, sza, svf, szf, hOs, bs1, bs2, bs3, bs4⟩ := hB227.2.2.2.2.2.2.2.2.1 i2 u hi2
        refine q_aload_n X dX13_product_26 0 rfl ?_
        refine q_get X z_128r rfl in_RX13 2 (by decide) tw_1196 rfl rfl dX13_product_27 ?_
        refine q_iload_n X dX13_product_30 1 rfl ?_
        refine q_gald X i z_1282 (rfl) (hi150) (by decide) hnfo dX13_product_31 ?_
        refine q_get X hO.1 rfl in_RX12 0 (by decide) tw_1156 rfl rfl dX13_product_32 ?_
        refine q_iconst (v := 2) X dX13_product_35 (by decide) ?_
        refine q_icmp_ne X 52 dX13_product_36 (by decide) (fun c36 => ?_) (fun c36 => ?_)
        · refine q_iconst (v := 1) X dX13_product_52 (by decide) ?_
          refine q_goto X 57 dX13_product_53 (by decide) ?_
          refine q_iconst (v := 1) X dX13_product_57 (by decide) ?_
          refine q_callV X (c_fails1 (why := 1) hB227.1) Y_X13_fails tw_1246 tw_1248 sel_23 z_128r rfl (by omega) rfl rfl (Nat.le_of_ble_eq_true rfl) (rc' := 5) (rs' := 4108) (by omega) (by omega) dX13_product_58 (fun v M' hp _ => ?_)
          obtain ⟨rfl, eM⟩ := hp
          have hB240 : rfB G M' r 1 σ vA nA pA plA dg dla dha dva dza dvf dzf vf nf pf tk su le gr := by rw [eM]; exact hB227.ro
          clear eM
          generalize M' = M240 at *
          show qJ G F _ 9 M240 5 4108 61 [(0, .ref r), (1, .int (nI i)), (2, .int (nI i2))] [.int 1]
          obtain ⟨z_141r, z_1411, z_1412, z_1413, ⟨z_141x, z_1414⟩, z_1415, z_1416, z_1417, z_1418, z_1419, z_14110⟩ := id hB240
          refine q_if_eq X 66 dX13_product_61 (by decide) (fun c_142 => absurd c_142 (by decide)) (fun c_142 => ?_)
          refine q_iconst (v := 0) X dX13_product_64 (by decide) ?_
          exact q_iret X hr dX13_product_65 (rfP_T ((gRoom_y q150).trans ((gNode_y hnd).trans ((gNode_y hnd2).trans (gNeed_n (fun z => c36 z.1))))) cOp_IA ⟨vA, nA, pA, plA, dg, dla, dha, dva, dza, dvf, dzf, vf, nf, pf, tk, su, le, gr, hB240⟩)
        · refine q_aload_n X dX13_product_39 0 rfl ?_
          refine q_get X z_128r rfl in_RX13 2 (by decide) tw_1196 rfl rfl dX13_product_40 ?_
          refine q_iload_n X dX13_product_43 2 rfl ?_
          refine q_gald X i2 z_1282 (rfl) (hi2150) (by decide) hnfs dX13_product_44 ?_
          refine q_get X hOs.1 rfl in_RX12 0 (by decide) tw_1156 rfl rfl dX13_product_45 ?_
          refine q_iconst (v := 2) X dX13_product_48 (by decide) ?_
          refine q_icmp_eq X 56 dX13_product_49 (by decide) (fun c49 => ?_) (fun c49 => ?_)
          · refine q_iconst (v := 0) X dX13_product_56 (by decide) ?_
            refine q_iconst (v := 1) X dX13_product_57 (by decide) ?_
            refine q_callV X (c_fails0 (why := 1) hB227.1) Y_X13_fails tw_1246 tw_1248 sel_23 z_128r rfl (by omega) rfl rfl (Nat.le_of_ble_eq_true rfl) (rc' := 5) (rs' := 4108) (by omega) (by omega) dX13_product_58 (fun v M' hp _ => ?_)
            obtain ⟨rfl, eM⟩ := hp
            have hB243 : rfB G M' r 0 σ vA nA pA plA dg dla dha dva dza dvf dzf vf nf pf tk su le gr := by rw [eM]; exact hB227.ro
            clear eM
            generalize M' = M243 at *
            show qJ G F _ 9 M243 5 4108 61 [(0, .ref r), (1, .int (nI i)), (2, .int (nI i2))] [.int 0]
            obtain ⟨z_144r, z_1441, z_1442, z_1443, ⟨z_144x, z_1444⟩, z_1445, z_1446, z_1447, z_1448, z_1449, z_14410⟩ := id hB243
            refine q_if_eq X 66 dX13_product_61 (by decide) (fun c_145 => ?_) (fun c_145 => absurd (by decide) c_145)
            refine q_sub [0, 1, 2] rfl ?_
            exact tail _ i i2 w u hB243 hi hi2 hw hwu q150 (nI_inj (by have := hw.1.2.1; omega) (by decide) (show nI (vm w) = nI 2 from c36)) (nI_inj (by have := hwu.1.2.1; omega) (by decide) (show nI (vm u) = nI 2 from c49)) ((gRoom_y q150).trans ((gNode_y hnd).trans ((gNode_y hnd2).trans (gNeed_y ⟨c36, c49⟩))))
          · refine q_iconst (v := 1) X dX13_product_52 (by decide) ?_
            refine q_goto X 57 dX13_product_53 (by decide) ?_
            refine q_iconst (v := 1) X dX13_product_57 (by decide) ?_
            refine q_callV X (c_fails1 (why := 1) hB227.1) Y_X13_fails tw_1246 tw_1248 sel_23 z_128r rfl (by omega) rfl rfl (Nat.le_of_ble_eq_true rfl) (rc' := 5) (rs' := 4108) (by omega) (by omega) dX13_product_58 (fun v M' hp _ => ?_)
            obtain ⟨rfl, eM⟩ := hp
            have hB246 : rfB G M' r 1 σ vA nA pA plA dg dla dha dva dza dvf dzf vf nf pf tk su le gr := by rw [eM]; exact hB227.ro
            clear eM
            generalize M' = M246 at *
            show qJ G F _ 9 M246 5 4108 61 [(0, .ref r), (1, .int (nI i)), (2, .int (nI i2))] [.int 1]
            obtain ⟨z_147r, z_1471, z_1472, z_1473, ⟨z_147x, z_1474⟩, z_1475, z_1476, z_1477, z_1478, z_1479, z_14710⟩ := id hB246
            refine q_if_eq X 66 dX13_product_61 (by decide) (fun c_148 => absurd c_148 (by decide)) (fun c_148 => ?_)
            refine q_iconst (v := 0) X dX13_product_64 (by decide) ?_
            exact q_iret X hr dX13_product_65 (rfP_T ((gRoom_y q150).trans ((gNode_y hnd).trans ((gNode_y hnd2).trans (gNeed_n (fun z => c49 z.2))))) cOp_IA ⟨vA, nA, pA, plA, dg, dla, dha, dva, dza, dvf, dzf, vf, nf, pf, tk, su, le, gr, hB246⟩)
  · refine q_callV X (c_full_n hB q150 hl150) Y_X13_full tw_1332 tw_1334 sel_27 hB.1 rfl (by omega) rfl rfl (Nat.le_of_ble_eq_true rfl) (rc' := 5) (rs' := 4108) (by omega) (by omega) dX13_product_1 (fun v M' hp _ => ?_)
    obtain ⟨rfl, eM⟩ := hp
    have hB249 : rfB G M' r 2 σ vA nA pA plA dg dla dha dva dza dvf dzf vf nf pf tk su le gr := by rw [eM]; exact hB.ro
    clear eM
    generalize M' = M249 at *
    show qJ G F _ 9 M249 5 4108 4 [(0, .ref r), (1, .int a), (2, .int b)] [.int 1]
    obtain ⟨z_150r, z_1501, z_1502, z_1503, ⟨z_150x, z_1504⟩, z_1505, z_1506, z_1507, z_1508, z_1509, z_15010⟩ := id hB249
    refine q_if_eq X 9 dX13_product_4 (by decide) (fun c_151 => absurd c_151 (by decide)) (fun c_151 => ?_)
    refine q_iconst (v := 0) X dX13_product_7 (by decide) ?_
    exact q_iret X hr dX13_product_8 (rfP_T (gRoom_n (Nat.not_lt.mpr q150)) cOp_IO ⟨vA, nA, pA, plA, dg, dla, dha, dva, dza, dvf, dzf, vf, nf, pf, tk, su, le, gr, hB249⟩)
