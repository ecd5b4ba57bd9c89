/-! the reference: ranged, sub, extend -/

theorem mU_4 {M : gMem} {p a : Nat} {e f g h : va_E} (hn : p ≠ a) : mU (mU (mU (mU M p e) a f) p g) a h = mU (mU M p g) a h := by
  rw [mU_3 hn, mU_mU]

set_option maxRecDepth 20000 in
theorem c_ranged {l : Launch} {G : gV} {M : gMem} {r : Nat} {e : Int32} {σ : sA} {vA nA pA plA dg dla dha dva dza : Nat} {dvf : Nat → Int64} {dzf : Nat → Int32} {vf nf : Nat → Option Nat} {pf : Nat → Int32} {tk : Int32} {su le gr : Int64} (hB : rfB G M r e σ vA nA pA plA dg dla dha dva dza dvf dzf vf nf pf tk su le gr) {i jd : Nat} {w : vN} {x y : Int32} (hw : vOk w) (hi : (aN σ)[i]? = some w) (h150 : (aN σ).length < 150) (hjd : jd < vm w) (hok : okS (vm w) (rpl3 (vlo w) (nI jd) x) (rpl3 (vhi w) (nI jd) y)) : qC l G yX13_ranged cX13_ranged 10 (some .int) 5 5 4108 [.ref r, .int (nI i), .int (nI jd), .int x, .int y] M (rfP G r cOp (some (.int 0)) (spRg σ w (nI jd) x y)) := by
  refine qC_of (by decide +kernel) (Nat.le_of_ble_eq_true rfl) (fun F hF X hr hn => ?_)
  subst hF
  have X : qX G F cX13_ranged 10 RX13 5 := X
  obtain ⟨o, hnfo, ola, oha, ova, oza, ovf, ozf, hO, bo1, bo2, bo3, bo4⟩ := hB.2.2.2.2.2.2.2.2.1 i w hi
  have hi150 : i < 150 := Nat.lt_of_lt_of_le (List.getElem?_eq_some_iff.mp hi).1 (by omega)
  have hj3 : jd < 3 := Nat.lt_of_lt_of_le hjd hw.1.2.1
  obtain ⟨pl0, hpl0⟩ := hB.2.2.2.2.1
  obtain ⟨LO, eLO⟩ : ∃ LO, LO = rpl3 (vlo w) (nI jd) x := ⟨_, rfl⟩
  obtain ⟨HI, eHI⟩ : ∃ HI, HI = rpl3 (vhi w) (nI jd) y := ⟨_, rfl⟩
  rw [← eLO, ← eHI] at hok
  have uLO : upd (vlo w) jd x = LO := by rw [eLO, rpl3_N jd hj3 rfl]
  have uHI : upd (vhi w) jd y = HI := by rw [eHI, rpl3_N jd hj3 rfl]
  have specE : spRg σ w (nI jd) x y = gLim σ LO HI (nI (vdp w)) (oN σ (vm w, LO, HI, vdp w + 1, vwD w LO HI stT 0)) := by rw [eLO, eHI]; rfl
  have hd40 := hw.2.2
  refine q_aload_n X dX13_ranged_0 0 rfl ?_
  refine q_get X hB.1 rfl in_RX13 2 (by decide) tw_1196 rfl rfl dX13_ranged_1 ?_
  refine q_iload_n X dX13_ranged_4 1 rfl ?_
  refine q_gald X i hB.2.2.1 (rfl) (hi150) (by decide) hnfo dX13_ranged_5 ?_
  refine q_astore (lv' := [(5, .ref o), (0, .ref r), (1, .int (nI i)), (2, .int (nI jd)), (3, .int x), (4, .int y)]) X dX13_ranged_6 (by decide) rfl ?_
  refine q_aload X dX13_ranged_8 0 rfl ?_
  refine q_aload X dX13_ranged_10 0 rfl ?_
  refine q_get X hO.1 rfl in_RX12 1 (by decide) tw_1157 rfl rfl dX13_ranged_12 ?_
  refine q_iconst (v := 1) X dX13_ranged_15 (by decide) ?_
  refine q_iadd X dX13_ranged_16 ?_
  rw [nI_1]
  refine q_callS X (c_like hO.1 hO.2.1 hO.2.2.1) Y_X13_like tw_1336 tw_1337 (by omega) rfl rfl (Nat.le_of_ble_eq_true rfl) (rc' := 2) (rs' := 4096) (by omega) (by omega) dX13_ranged_17 (fun v M' hp _ => ?_)
  obtain ⟨q, la, ha, rfl, fq, fla, fha, llh, llq, lhq, hq1, hla1, hha1, ev1⟩ := hp
  generalize M' = M1 at *
  have m_1 : M1 r = some (oB 13 [.int e, .ref vA, .ref nA, .ref pA, .ref plA, .ref dg, .int (nI (aV σ).length), .int (nI (aN σ).length), .int (nI (aOf σ)), .int (nI (aBg σ)), .int tk, .long su, .long le, .long gr]) := ev1.keep hB.1 id
  have m_2 : M1 nA = some (aG G 150 nf) := ev1.keep hB.2.2.1 id
  have m_3 : M1 o = some (oB 12 [.int (nI (vm w)), .int (nI (vdp w)), .ref ola, .ref oha, .ref ova, .ref oza]) := ev1.keep hO.1 id
  have m_4 : M1 ola = some (aI G 3 (vlo w)) := ev1.keep hO.2.1 id
  have m_5 : M1 oha = some (aI G 3 (vhi w)) := ev1.keep hO.2.2.1 id
  have m_6 : M1 ova = some (aJ G (wsz w) ovf) := ev1.keep hO.2.2.2.1 id
  have m_7 : M1 oza = some (aZ G (wsz w) ozf) := ev1.keep hO.2.2.2.2.1 id
  have m_8 : M1 plA = some (aI G 3 pl0) := ev1.keep hpl0 id
  have evK1 : mEv (fun x => x = r ∨ x = plA) M M1 := ev1.mono (fun _ _ z => z.elim)
  show qJ G F _ 10 M1 2 4096 20 [(5, .ref o), (0, .ref r), (1, .int (nI i)), (2, .int (nI jd)), (3, .int x), (4, .int y)] [.ref q]
  refine q_astore (lv' := [(6, .ref q), (5, .ref o), (0, .ref r), (1, .int (nI i)), (2, .int (nI jd)), (3, .int x), (4, .int y)]) X dX13_ranged_20 (by decide) rfl ?_
  refine q_aload X dX13_ranged_22 0 rfl ?_
  refine q_get X hq1 rfl in_RX12 2 (by decide) tw_1159 rfl rfl dX13_ranged_24 ?_
  refine q_iload_n X dX13_ranged_27 4 rfl ?_
  refine q_iload_n X dX13_ranged_28 5 rfl ?_
  refine q_iastN X jd hla1 (rfl) (hj3) (by decide) dX13_ranged_29 ?_
  have m_9 : (mU M1 la (aI G 3 (upd (vlo w) jd x))) r = some (oB 13 [.int e, .ref vA, .ref nA, .ref pA, .ref plA, .ref dg, .int (nI (aV σ).length), .int (nI (aN σ).length), .int (nI (aOf σ)), .int (nI (aBg σ)), .int tk, .long su, .long le, .long gr]) := (mU_n (g_nef hB.1 fla)).trans m_1
  have m_10 : (mU M1 la (aI G 3 (upd (vlo w) jd x))) nA = some (aG G 150 nf) := (mU_n (g_nef hB.2.2.1 fla)).trans m_2
  have m_11 : (mU M1 la (aI G 3 (upd (vlo w) jd x))) o = some (oB 12 [.int (nI (vm w)), .int (nI (vdp w)), .ref ola, .ref oha, .ref ova, .ref oza]) := (mU_n (g_nef hO.1 fla)).trans m_3
  have m_12 : (mU M1 la (aI G 3 (upd (vlo w) jd x))) ola = some (aI G 3 (vlo w)) := (mU_n (g_nef hO.2.1 fla)).trans m_4
  have m_13 : (mU M1 la (aI G 3 (upd (vlo w) jd x))) oha = some (aI G 3 (vhi w)) := (mU_n (g_nef hO.2.2.1 fla)).trans m_5
  have m_14 : (mU M1 la (aI G 3 (upd (vlo w) jd x))) ova = some (aJ G (wsz w) ovf) := (mU_n (g_nef hO.2.2.2.1 fla)).trans m_6
  have m_15 : (mU M1 la (aI G 3 (upd (vlo w) jd x))) oza = some (aZ G (wsz w) ozf) := (mU_n (g_nef hO.2.2.2.2.1 fla)).trans m_7
  have m_16 : (mU M1 la (aI G 3 (upd (vlo w) jd x))) plA = some (aI G 3 pl0) := (mU_n (g_nef hpl0 fla)).trans m_8
  have m_17 : (mU M1 la (aI G 3 (upd (vlo w) jd x))) q = some (oB 12 [.int (nI (vm w)), .int (nI (vdp w + 1)), .ref la, .ref ha, .null, .null]) := (mU_n (Ne.symm (llq))).trans hq1
  have m_18 : (mU M1 la (aI G 3 (upd (vlo w) jd x))) la = some (aI G 3 (upd (vlo w) jd x)) := mU_s
  have m_19 : (mU M1 la (aI G 3 (upd (vlo w) jd x))) ha = some (aI G 3 (vhi w)) := (mU_n (Ne.symm (llh))).trans hha1
  refine q_aload X dX13_ranged_30 0 rfl ?_
  refine q_get X m_17 rfl in_RX12 3 (by decide) tw_1161 rfl rfl dX13_ranged_32 ?_
  refine q_iload_n X dX13_ranged_35 4 rfl ?_
  refine q_iload X dX13_ranged_36 6 rfl ?_
  refine q_iastN X jd m_19 (rfl) (hj3) (by decide) dX13_ranged_38 ?_
  have m_20 : (mU (mU M1 la (aI G 3 (upd (vlo w) jd x))) ha (aI G 3 (upd (vhi w) jd y))) r = some (oB 13 [.int e, .ref vA, .ref nA, .ref pA, .ref plA, .ref dg, .int (nI (aV σ).length), .int (nI (aN σ).length), .int (nI (aOf σ)), .int (nI (aBg σ)), .int tk, .long su, .long le, .long gr]) := (mU_n (g_nef hB.1 fha)).trans m_9
  have m_21 : (mU (mU M1 la (aI G 3 (upd (vlo w) jd x))) ha (aI G 3 (upd (vhi w) jd y))) nA = some (aG G 150 nf) := (mU_n (g_nef hB.2.2.1 fha)).trans m_10
  have m_22 : (mU (mU M1 la (aI G 3 (upd (vlo w) jd x))) ha (aI G 3 (upd (vhi w) jd y))) o = some (oB 12 [.int (nI (vm w)), .int (nI (vdp w)), .ref ola, .ref oha, .ref ova, .ref oza]) := (mU_n (g_nef hO.1 fha)).trans m_11
  have m_23 : (mU (mU M1 la (aI G 3 (upd (vlo w) jd x))) ha (aI G 3 (upd (vhi w) jd y))) ola = some (aI G 3 (vlo w)) := (mU_n (g_nef hO.2.1 fha)).trans m_12
  have m_24 : (mU (mU M1 la (aI G 3 (upd (vlo w) jd x))) ha (aI G 3 (upd (vhi w) jd y))) oha = some (aI G 3 (vhi w)) := (mU_n (g_nef hO.2.2.1 fha)).trans m_13
  have m_25 : (mU (mU M1 la (aI G 3 (upd (vlo w) jd x))) ha (aI G 3 (upd (vhi w) jd y))) ova = some (aJ G (wsz w) ovf) := (mU_n (g_nef hO.2.2.2.1 fha)).trans m_14
  have m_26 : (mU (mU M1 la (aI G 3 (upd (vlo w) jd x))) ha (aI G 3 (upd (vhi w) jd y))) oza = some (aZ G (wsz w) ozf) := (mU_n (g_nef hO.2.2.2.2.1 fha)).trans m_15
  have m_27 : (mU (mU M1 la (aI G 3 (upd (vlo w) jd x))) ha (aI G 3 (upd (vhi w) jd y))) plA = some (aI G 3 pl0) := (mU_n (g_nef hpl0 fha)).trans m_16
  have m_28 : (mU (mU M1 la (aI G 3 (upd (vlo w) jd x))) ha (aI G 3 (upd (vhi w) jd y))) q = some (oB 12 [.int (nI (vm w)), .int (nI (vdp w + 1)), .ref la, .ref ha, .null, .null]) := (mU_n (Ne.symm (lhq))).trans m_17
  have m_29 : (mU (mU M1 la (aI G 3 (upd (vlo w) jd x))) ha (aI G 3 (upd (vhi w) jd y))) la = some (aI G 3 (upd (vlo w) jd x)) := (mU_n (llh)).trans m_18
  have m_30 : (mU (mU M1 la (aI G 3 (upd (vlo w) jd x))) ha (aI G 3 (upd (vhi w) jd y))) ha = some (aI G 3 (upd (vhi w) jd y)) := mU_s
  rw [uLO, uHI] at *
  have evM2 : mEv (fun x => x = r ∨ x = plA) M (mU (mU M1 la (aI G 3 LO)) ha (aI G 3 HI)) := fun x hx => by
    have wla : x ≠ la := fun z => hx (z ▸ fla)
    have wha : x ≠ ha := fun z => hx (z ▸ fha)
    have e1 := evK1 x hx
    have e : (mU (mU M1 la (aI G 3 LO)) ha (aI G 3 HI)) x = M1 x := by simp only [mU, wla, wha, if_false]
    exact ⟨by rw [e]; exact e1.1, fun k => e.trans (e1.2 k)⟩
  generalize mU (mU M1 la (aI G 3 LO)) ha (aI G 3 HI) = M2 at *
  refine q_aload_n X dX13_ranged_39 2 rfl ?_
  refine q_aload X dX13_ranged_40 0 rfl ?_
  have hB2 : rfB G M2 r e σ vA nA pA plA dg dla dha dva dza dvf dzf vf nf pf tk su le gr := hB.ev2 evM2 m_20 ⟨_, m_27⟩
  by_cases hlim : ¬ sWithin (LO) (HI) = 0 ∧ nI (vdp w) < 40
  · refine q_callV X (c_large_y hB2 hok hd40 m_28 m_29 m_30 hlim) Y_X13_large tw_1359 tw_1361 sel_32 m_20 rfl (by omega) rfl rfl (Nat.le_of_ble_eq_true rfl) (rc' := 2) (rs' := 4096) (by omega) (by omega) dX13_ranged_42 (fun v M' hp _ => ?_)
    obtain ⟨rfl, eM⟩ := hp
    have m_31 : M' r = some (oB 13 [.int 0, .ref vA, .ref nA, .ref pA, .ref plA, .ref dg, .int (nI (aV σ).length), .int (nI (aN σ).length), .int (nI (aOf σ)), .int (nI (aBg σ)), .int tk, .long su, .long le, .long gr]) := by rw [eM]; exact mU_s
    have m_32 : M' nA = some (aG G 150 nf) := by rw [eM]; exact (mU_n (Ne.symm (g_neoa m_20 m_21))).trans m_21
    have m_33 : M' o = some (oB 12 [.int (nI (vm w)), .int (nI (vdp w)), .ref ola, .ref oha, .ref ova, .ref oza]) := by rw [eM]; exact (mU_n (g_neoo m_22 m_20 (by decide))).trans m_22
    have m_34 : M' ola = some (aI G 3 (vlo w)) := by rw [eM]; exact (mU_n (Ne.symm (g_neoa m_20 m_23))).trans m_23
    have m_35 : M' oha = some (aI G 3 (vhi w)) := by rw [eM]; exact (mU_n (Ne.symm (g_neoa m_20 m_24))).trans m_24
    have m_36 : M' ova = some (aJ G (wsz w) ovf) := by rw [eM]; exact (mU_n (Ne.symm (g_neoa m_20 m_25))).trans m_25
    have m_37 : M' oza = some (aZ G (wsz w) ozf) := by rw [eM]; exact (mU_n (Ne.symm (g_neoa m_20 m_26))).trans m_26
    have m_38 : M' plA = some (aI G 3 pl0) := by rw [eM]; exact (mU_n (Ne.symm (g_neoa m_20 m_27))).trans m_27
    have m_39 : M' q = some (oB 12 [.int (nI (vm w)), .int (nI (vdp w + 1)), .ref la, .ref ha, .null, .null]) := by rw [eM]; exact (mU_n (Ne.symm (g_nef hB.1 fq))).trans m_28
    have m_40 : M' la = some (aI G 3 LO) := by rw [eM]; exact (mU_n (Ne.symm (g_nef hB.1 fla))).trans m_29
    have m_41 : M' ha = some (aI G 3 HI) := by rw [eM]; exact (mU_n (Ne.symm (g_nef hB.1 fha))).trans m_30
    have evK3 : mEv (fun x => x = r ∨ x = plA) M M' := by rw [eM]; exact evM2.trans (mEv_upd (K := (fun x => x = r ∨ x = plA)) (Or.inl rfl))
    have hB3 : rfB G M' r 0 σ vA nA pA plA dg dla dha dva dza dvf dzf vf nf pf tk su le gr := by rw [eM]; exact hB2.ro
    clear eM
    generalize M' = M3 at *
    show qJ G F _ 10 M3 2 4096 45 [(6, .ref q), (5, .ref o), (0, .ref r), (1, .int (nI i)), (2, .int (nI jd)), (3, .int x), (4, .int y)] [.int 0]
    refine q_if_eq X 50 dX13_ranged_45 (by decide) (fun c_42 => ?_) (fun c_42 => absurd (by decide) c_42)
    have hw2 := within_ok hok hlim.1
    refine q_aload X dX13_ranged_50 0 rfl ?_
    refine q_callV X (c_X12_make (n := sz3 LO HI) m_39 m_40 m_41 hok.size (by omega)) Y_X12_make tw_1179 tw_1180 tw_1181 m_39 rfl (by omega) rfl rfl (Nat.le_of_ble_eq_true rfl) (rc' := 0) (rs' := 0) (by omega) (by omega) dX13_ranged_52 (fun v M' hp _ => ?_)
    obtain ⟨rfl, va, za, fva3, fza3, lvz, hq4, hva4, hza4, ev4⟩ := hp
    generalize M' = M4 at *
    have fva : M va = none := evK3.none fva3
    have fza : M za = none := evK3.none fza3
    have m_43 : M4 r = some (oB 13 [.int 0, .ref vA, .ref nA, .ref pA, .ref plA, .ref dg, .int (nI (aV σ).length), .int (nI (aN σ).length), .int (nI (aOf σ)), .int (nI (aBg σ)), .int tk, .long su, .long le, .long gr]) := ev4.keep m_31 (g_nef hB.1 fq)
    have m_44 : M4 nA = some (aG G 150 nf) := ev4.keep m_32 (g_nef hB.2.2.1 fq)
    have m_45 : M4 o = some (oB 12 [.int (nI (vm w)), .int (nI (vdp w)), .ref ola, .ref oha, .ref ova, .ref oza]) := ev4.keep m_33 (g_nef hO.1 fq)
    have m_46 : M4 ola = some (aI G 3 (vlo w)) := ev4.keep m_34 (g_nef hO.2.1 fq)
    have m_47 : M4 oha = some (aI G 3 (vhi w)) := ev4.keep m_35 (g_nef hO.2.2.1 fq)
    have m_48 : M4 ova = some (aJ G (wsz w) ovf) := ev4.keep m_36 (g_nef hO.2.2.2.1 fq)
    have m_49 : M4 oza = some (aZ G (wsz w) ozf) := ev4.keep m_37 (g_nef hO.2.2.2.2.1 fq)
    have m_50 : M4 plA = some (aI G 3 pl0) := ev4.keep m_38 (g_nef hpl0 fq)
    have m_51 : M4 la = some (aI G 3 LO) := ev4.keep m_40 (llq)
    have m_52 : M4 ha = some (aI G 3 HI) := ev4.keep m_41 (lhq)
    have evK4 : mEv (fun x => x = r ∨ x = plA) M M4 := fun x hx => by
      have wq : x ≠ q := fun z => hx (z ▸ fq)
      have e1 := evK3 x hx
      have e2 := ev4 x e1.1
      exact ⟨e2.1, fun k => (e2.2 wq).trans (e1.2 k)⟩
    have hB4 : rfB G M4 r 0 σ vA nA pA plA dg dla dha dva dza dvf dzf vf nf pf tk su le gr := hB.ev2 evK4 m_43 ⟨_, m_50⟩
    show qJ G F _ 10 M4 0 0 55 [(6, .ref q), (5, .ref o), (0, .ref r), (1, .int (nI i)), (2, .int (nI jd)), (3, .int x), (4, .int y)] []
    have ne4 : ∀ {x : Nat} {e : va_E}, M4 x = some e → M3 x ≠ none → x ≠ va ∧ x ≠ za := fun _ h => ⟨fun z => h (z ▸ fva3), fun z => h (z ▸ fza3)⟩
    have kv : ∀ {x : Nat} {e : va_E}, M4 x = some e → x ≠ va → x ≠ za → ∀ c, (mU (mU M4 va (aJ G (sz3 LO HI) (vF (vwD w LO HI stT 0) (c)))) za (aZ G (sz3 LO HI) (zF (vwD w LO HI stT 0) (c)))) x = some e := fun h h1 h2 c => (mU_n h2).trans ((mU_n h1).trans h)
    have kr : ∀ c, (mU (mU M4 va (aJ G (sz3 LO HI) (vF (vwD w LO HI stT 0) (c)))) za (aZ G (sz3 LO HI) (zF (vwD w LO HI stT 0) (c)))) r = some (oB 13 [.int 0, .ref vA, .ref nA, .ref pA, .ref plA, .ref dg, .int (nI (aV σ).length), .int (nI (aN σ).length), .int (nI (aOf σ)), .int (nI (aBg σ)), .int tk, .long su, .long le, .long gr]) := kv m_43 (g_nef m_31 fva3) (g_nef m_31 fza3)
    have kplA : ∀ c, (mU (mU M4 va (aJ G (sz3 LO HI) (vF (vwD w LO HI stT 0) (c)))) za (aZ G (sz3 LO HI) (zF (vwD w LO HI stT 0) (c)))) plA = some (aI G 3 pl0) := kv m_50 (g_nef m_38 fva3) (g_nef m_38 fza3)
    have kq : ∀ c, (mU (mU M4 va (aJ G (sz3 LO HI) (vF (vwD w LO HI stT 0) (c)))) za (aZ G (sz3 LO HI) (zF (vwD w LO HI stT 0) (c)))) q = some (oB 12 [.int (nI (vm w)), .int (nI (vdp w + 1)), .ref la, .ref ha, .ref va, .ref za]) := kv hq4 (g_nef m_39 fva3) (g_nef m_39 fza3)
    have kla : ∀ c, (mU (mU M4 va (aJ G (sz3 LO HI) (vF (vwD w LO HI stT 0) (c)))) za (aZ G (sz3 LO HI) (zF (vwD w LO HI stT 0) (c)))) la = some (aI G 3 LO) := kv m_51 (g_nef m_40 fva3) (g_nef m_40 fza3)
    have kha : ∀ c, (mU (mU M4 va (aJ G (sz3 LO HI) (vF (vwD w LO HI stT 0) (c)))) za (aZ G (sz3 LO HI) (zF (vwD w LO HI stT 0) (c)))) ha = some (aI G 3 HI) := kv m_52 (g_nef m_41 fva3) (g_nef m_41 fza3)
    have ko : ∀ c, (mU (mU M4 va (aJ G (sz3 LO HI) (vF (vwD w LO HI stT 0) (c)))) za (aZ G (sz3 LO HI) (zF (vwD w LO HI stT 0) (c)))) o = some (oB 12 [.int (nI (vm w)), .int (nI (vdp w)), .ref ola, .ref oha, .ref ova, .ref oza]) := kv m_45 (g_nef m_33 fva3) (g_nef m_33 fza3)
    have kola : ∀ c, (mU (mU M4 va (aJ G (sz3 LO HI) (vF (vwD w LO HI stT 0) (c)))) za (aZ G (sz3 LO HI) (zF (vwD w LO HI stT 0) (c)))) ola = some (aI G 3 (vlo w)) := kv m_46 (g_nef m_34 fva3) (g_nef m_34 fza3)
    have koha : ∀ c, (mU (mU M4 va (aJ G (sz3 LO HI) (vF (vwD w LO HI stT 0) (c)))) za (aZ G (sz3 LO HI) (zF (vwD w LO HI stT 0) (c)))) oha = some (aI G 3 (vhi w)) := kv m_47 (g_nef m_35 fva3) (g_nef m_35 fza3)
    have kova : ∀ c, (mU (mU M4 va (aJ G (sz3 LO HI) (vF (vwD w LO HI stT 0) (c)))) za (aZ G (sz3 LO HI) (zF (vwD w LO HI stT 0) (c)))) ova = some (aJ G (wsz w) ovf) := kv m_48 (g_nef m_36 fva3) (g_nef m_36 fza3)
    have koza : ∀ c, (mU (mU M4 va (aJ G (sz3 LO HI) (vF (vwD w LO HI stT 0) (c)))) za (aZ G (sz3 LO HI) (zF (vwD w LO HI stT 0) (c)))) oza = some (aZ G (wsz w) ozf) := kv m_49 (g_nef m_37 fva3) (g_nef m_37 fza3)
    have kva : ∀ c, (mU (mU M4 va (aJ G (sz3 LO HI) (vF (vwD w LO HI stT 0) (c)))) za (aZ G (sz3 LO HI) (zF (vwD w LO HI stT 0) (c)))) va = some (aJ G (sz3 LO HI) (vF (vwD w LO HI stT 0) c)) := fun c => (mU_n lvz).trans mU_s
    have kza : ∀ c, (mU (mU M4 va (aJ G (sz3 LO HI) (vF (vwD w LO HI stT 0) (c)))) za (aZ G (sz3 LO HI) (zF (vwD w LO HI stT 0) (c)))) za = some (aZ G (sz3 LO HI) (zF (vwD w LO HI stT 0) c)) := fun c => mU_s
    have kO : ∀ c, isGrX G (mU (mU M4 va (aJ G (sz3 LO HI) (vF (vwD w LO HI stT 0) (c)))) za (aZ G (sz3 LO HI) (zF (vwD w LO HI stT 0) (c)))) o ola oha ova oza ovf ozf w := fun c => ⟨ko c, kola c, koha c, kova c, koza c, hO.2.2.2.2.2⟩
    have l0 := hok.lo (d := 0) (by decide)
    have N0 := hok.N (d := 0) (by decide)
    have y0 := hok.hi (d := 0) (by decide)
    have l1 := hok.lo (d := 1) (by decide)
    have N1 := hok.N (d := 1) (by decide)
    have y1 := hok.hi (d := 1) (by decide)
    have l2 := hok.lo (d := 2) (by decide)
    have N2 := hok.N (d := 2) (by decide)
    have y2 := hok.hi (d := 2) (by decide)
    have hfin : qJ G F (qQ G F (rfP G r cOp (some (.int 0)) (spRg σ w (nI jd) x y))) 10 (mU (mU M4 va (aJ G (sz3 LO HI) (vF (vwD w LO HI stT 0) (c3 (sN LO HI 1) (sN LO HI 2) (sN LO HI 0) 0 0)))) za (aZ G (sz3 LO HI) (zF (vwD w LO HI stT 0) (c3 (sN LO HI 1) (sN LO HI 2) (sN LO HI 0) 0 0)))) 0 0 160 [(0, .ref r), (1, .int (nI i)), (2, .int (nI jd)), (3, .int x), (4, .int y), (5, .ref o), (6, .ref q)] [] := by
      rw [c3_A, show sN LO HI 0 * sN LO HI 1 * sN LO HI 2 = sz3 LO HI from rfl]
      have evz : mEv (fun x => x = r ∨ x = plA) M (mU (mU M4 va (aJ G (sz3 LO HI) (vF (vwD w LO HI stT 0) (sz3 LO HI)))) za (aZ G (sz3 LO HI) (zF (vwD w LO HI stT 0) (sz3 LO HI)))) := fun x hx => by
        have w1 : x ≠ va := fun z => hx (z ▸ fva)
        have w2 : x ≠ za := fun z => hx (z ▸ fza)
        have e1 := evK4 x hx
        have e : (mU (mU M4 va (aJ G (sz3 LO HI) (vF (vwD w LO HI stT 0) (sz3 LO HI)))) za (aZ G (sz3 LO HI) (zF (vwD w LO HI stT 0) (sz3 LO HI)))) x = M4 x := (mU_n w2).trans (mU_n w1)
        exact ⟨by rw [e]; exact e1.1, fun k => e.trans (e1.2 k)⟩
      have hBz : rfB G (mU (mU M4 va (aJ G (sz3 LO HI) (vF (vwD w LO HI stT 0) (sz3 LO HI)))) za (aZ G (sz3 LO HI) (zF (vwD w LO HI stT 0) (sz3 LO HI)))) r 0 σ vA nA pA plA dg dla dha dva dza dvf dzf vf nf pf tk su le gr := hB.ev2 evz (kr (sz3 LO HI)) ⟨_, kplA (sz3 LO HI)⟩
      have nb : ∀ {x : Nat}, M x = none → ¬ rBad plA pA dva dza x := fun h z => by
        rcases z with z | z | z | z
        · rw [z, hpl0] at h; cases h
        · rw [z, hB.2.2.2.1] at h; cases h
        · rw [z, hB.2.2.2.2.2.1.2.2.2.1] at h; cases h
        · rw [z, hB.2.2.2.2.2.1.2.2.2.2.1] at h; cases h
      have hg : isGrd G (mU (mU M4 va (aJ G (sz3 LO HI) (vF (vwD w LO HI stT 0) (sz3 LO HI)))) za (aZ G (sz3 LO HI) (zF (vwD w LO HI stT 0) (sz3 LO HI)))) (rBad plA pA dva dza) q (vm w, LO, HI, vdp w + 1, (vwD w LO HI stT 0)) := grd_mk (kq (sz3 LO HI)) (kla (sz3 LO HI)) (kha (sz3 LO HI)) (kva (sz3 LO HI)) (kza (sz3 LO HI)) (gCt_F (vwD w LO HI stT 0) (sz3 LO HI)) (nb fla) (nb fha) (nb fva) (nb fza)
      refine q_aload_n X dX13_ranged_160 0 rfl ?_
      refine q_aload X dX13_ranged_161 6 rfl ?_
      refine q_callV X (c_made hBz hg h150) Y_X13_made tw_1339 tw_1341 sel_28 (kr _) rfl (by omega) rfl rfl (Nat.le_of_ble_eq_true rfl) (rc' := 0) (rs' := 0) (Nat.le_refl _) (Nat.le_refl _) dX13_ranged_163 (fun v M' hp _ => ?_)
      obtain ⟨rfl, hz9⟩ := hp
      generalize M' = M9 at *
      show qJ G F _ 10 M9 0 0 166 [(0, .ref r), (1, .int (nI i)), (2, .int (nI jd)), (3, .int x), (4, .int y), (5, .ref o), (6, .ref q)] [.int (nI (aN σ).length)]
      exact q_iret X hr dX13_ranged_166 (rfP_K (by rw [specE]; exact gLim_y hlim) hz9)
    have L2 : ∀ (e j : Nat) (he : e < sN LO HI 0) (hj : j < sN LO HI 1) (kk : qJ G F (qQ G F (rfP G r cOp (some (.int 0)) (spRg σ w (nI jd) x y))) 10 (mU (mU M4 va (aJ G (sz3 LO HI) (vF (vwD w LO HI stT 0) (c3 (sN LO HI 1) (sN LO HI 2) e j (sN LO HI 2))))) za (aZ G (sz3 LO HI) (zF (vwD w LO HI stT 0) (c3 (sN LO HI 1) (sN LO HI 2) e j (sN LO HI 2))))) 0 0 148 [(0, .ref r), (1, .int (nI i)), (2, .int (nI jd)), (3, .int x), (4, .int y), (5, .ref o), (6, .ref q), (7, .int (LO 0 + nI (e))), (8, .int (LO 1 + nI (j)))] []) (t k : Nat), k + t = sN LO HI 2 → qJ G F (qQ G F (rfP G r cOp (some (.int 0)) (spRg σ w (nI jd) x y))) 10 (mU (mU M4 va (aJ G (sz3 LO HI) (vF (vwD w LO HI stT 0) (c3 (sN LO HI 1) (sN LO HI 2) e j k)))) za (aZ G (sz3 LO HI) (zF (vwD w LO HI stT 0) (c3 (sN LO HI 1) (sN LO HI 2) e j k)))) 0 0 106 [(0, .ref r), (1, .int (nI i)), (2, .int (nI jd)), (3, .int x), (4, .int y), (5, .ref o), (6, .ref q), (7, .int (LO 0 + nI (e))), (8, .int (LO 1 + nI (j))), (9, .int (LO 2 + nI (k)))] [] := by
      intro e j he hj kk t
      induction t with
      | zero =>
        intro k hk0
        obtain rfl : k = sN LO HI 2 := by omega
        refine q_iload X dX13_ranged_106 9 rfl ?_
        refine q_aload X dX13_ranged_108 6 rfl ?_
        refine q_get X (kq (c3 (sN LO HI 1) (sN LO HI 2) e j (sN LO HI 2))) rfl in_RX12 3 (by decide) tw_1161 rfl rfl dX13_ranged_110 ?_
        refine q_iconst (v := 2) X dX13_ranged_113 (by decide) ?_
        refine q_ialdN X 2 (kha (c3 (sN LO HI 1) (sN LO HI 2) e j (sN LO HI 2))) (rfl) (by decide) (by decide) dX13_ranged_114 ?_
        refine q_icmp_gt X 148 dX13_ranged_115 (by decide) (fun c_53 => ?_) (fun c_53 => absurd (by rw [y2]; exact (lo_lt l2.1 l2.2 (by omega) (by omega)).mpr (by omega)) c_53)
        refine q_sub [0, 1, 2, 3, 4, 5, 6, 7, 8] rfl ?_
        exact kk
      | succ t ih =>
        intro k hk0
        have hk : k < sN LO HI 2 := by omega
        have hc9 : c3 (sN LO HI 1) (sN LO HI 2) e j k < sz3 LO HI := c3_lt he hj hk
        have fr9 := vwD_st hw hok (show sz3 LO HI ≤ 4096 by omega) he hj hk
        refine q_iload X dX13_ranged_106 9 rfl ?_
        refine q_aload X dX13_ranged_108 6 rfl ?_
        refine q_get X (kq (c3 (sN LO HI 1) (sN LO HI 2) e j k)) rfl in_RX12 3 (by decide) tw_1161 rfl rfl dX13_ranged_110 ?_
        refine q_iconst (v := 2) X dX13_ranged_113 (by decide) ?_
        refine q_ialdN X 2 (kha (c3 (sN LO HI 1) (sN LO HI 2) e j k)) (rfl) (by decide) (by decide) dX13_ranged_114 ?_
        refine q_icmp_gt X 148 dX13_ranged_115 (by decide) (fun c_54 => absurd ((lo_lt l2.1 l2.2 (by omega) (by omega)).mp (y2 ▸ c_54)) (by omega)) (fun c_54 => ?_)
        refine q_aload X dX13_ranged_118 6 rfl ?_
        refine q_aload X dX13_ranged_120 6 rfl ?_
        refine q_iload X dX13_ranged_122 7 rfl ?_
        refine q_iload X dX13_ranged_124 8 rfl ?_
        refine q_iload X dX13_ranged_126 9 rfl ?_
        refine q_callVp X (c_X12_at (kq _) (kla _) (kha _)) Y_X12_at tw_1269 tw_1270 tw_1271 (kq (c3 (sN LO HI 1) (sN LO HI 2) e j k)) rfl (by omega) rfl rfl (Nat.le_of_ble_eq_true rfl) dX13_ranged_128 ?_
        rw [gAt_lo hok]
        refine q_aload X dX13_ranged_131 5 rfl ?_
        refine q_iload X dX13_ranged_133 7 rfl ?_
        refine q_iload X dX13_ranged_135 8 rfl ?_
        refine q_iload X dX13_ranged_137 9 rfl ?_
        refine q_callS X (c_from hw (kO _) (kq _) (kva _) (kza _) hc9 (by omega)) Y_X13_from tw_1364 tw_1365 (by omega) rfl rfl (Nat.le_of_ble_eq_true rfl) (rc' := 0) (rs' := 0) (Nat.le_refl _) (Nat.le_refl _) dX13_ranged_139 (fun v M' hp _ => ?_)
        obtain ⟨rfl, eM⟩ := hp
        rw [eM]
        clear eM
        refine q_memE (M' := mU (mU M4 va (aJ G (sz3 LO HI) (vF (vwD w LO HI stT 0) (c3 (sN LO HI 1) (sN LO HI 2) e j (k + 1))))) za (aZ G (sz3 LO HI) (zF (vwD w LO HI stT 0) (c3 (sN LO HI 1) (sN LO HI 2) e j (k + 1))))) (by rw [show c3 (sN LO HI 1) (sN LO HI 2) e j (k + 1) = c3 (sN LO HI 1) (sN LO HI 2) e j k + 1 from rfl, ← vF_s (fr9), ← zF_s (fr9)]; exact mU_4 lvz) ?_
        show qJ G F _ 10 (mU (mU M4 va (aJ G (sz3 LO HI) (vF (vwD w LO HI stT 0) (c3 (sN LO HI 1) (sN LO HI 2) e j (k + 1))))) za (aZ G (sz3 LO HI) (zF (vwD w LO HI stT 0) (c3 (sN LO HI 1) (sN LO HI 2) e j (k + 1))))) 0 0 142 [(0, .ref r), (1, .int (nI i)), (2, .int (nI jd)), (3, .int x), (4, .int y), (5, .ref o), (6, .ref q), (7, .int (LO 0 + nI (e))), (8, .int (LO 1 + nI (j))), (9, .int (LO 2 + nI (k)))] []
        refine q_iinc (v := (LO 2 + nI (k + 1))) (lv' := [(9, .int (LO 2 + nI (k + 1))), (0, .ref r), (1, .int (nI i)), (2, .int (nI jd)), (3, .int x), (4, .int y), (5, .ref o), (6, .ref q), (7, .int (LO 0 + nI (e))), (8, .int (LO 1 + nI (j)))]) X dX13_ranged_142 9 rfl (lo_s) (by decide) rfl ?_
        refine q_goto X 106 dX13_ranged_145 (by decide) ?_
        refine q_sub [1, 2, 3, 4, 5, 6, 7, 8, 9, 0] rfl ?_
        exact ih (k + 1) (by omega)
    have L1 : ∀ (e : Nat) (he : e < sN LO HI 0) (kk : qJ G F (qQ G F (rfP G r cOp (some (.int 0)) (spRg σ w (nI jd) x y))) 10 (mU (mU M4 va (aJ G (sz3 LO HI) (vF (vwD w LO HI stT 0) (c3 (sN LO HI 1) (sN LO HI 2) e (sN LO HI 1) 0)))) za (aZ G (sz3 LO HI) (zF (vwD w LO HI stT 0) (c3 (sN LO HI 1) (sN LO HI 2) e (sN LO HI 1) 0)))) 0 0 154 [(0, .ref r), (1, .int (nI i)), (2, .int (nI jd)), (3, .int x), (4, .int y), (5, .ref o), (6, .ref q), (7, .int (LO 0 + nI (e)))] []) (t j : Nat), j + t = sN LO HI 1 → qJ G F (qQ G F (rfP G r cOp (some (.int 0)) (spRg σ w (nI jd) x y))) 10 (mU (mU M4 va (aJ G (sz3 LO HI) (vF (vwD w LO HI stT 0) (c3 (sN LO HI 1) (sN LO HI 2) e j 0)))) za (aZ G (sz3 LO HI) (zF (vwD w LO HI stT 0) (c3 (sN LO HI 1) (sN LO HI 2) e j 0)))) 0 0 85 [(0, .ref r), (1, .int (nI i)), (2, .int (nI jd)), (3, .int x), (4, .int y), (5, .ref o), (6, .ref q), (7, .int (LO 0 + nI (e))), (8, .int (LO 1 + nI (j)))] [] := by
      intro e he kk t
      induction t with
      | zero =>
        intro j hj0
        obtain rfl : j = sN LO HI 1 := by omega
        refine q_iload X dX13_ranged_85 8 rfl ?_
        refine q_aload X dX13_ranged_87 6 rfl ?_
        refine q_get X (kq (c3 (sN LO HI 1) (sN LO HI 2) e (sN LO HI 1) 0)) rfl in_RX12 3 (by decide) tw_1161 rfl rfl dX13_ranged_89 ?_
        refine q_iconst (v := 1) X dX13_ranged_92 (by decide) ?_
        refine q_ialdN X 1 (kha (c3 (sN LO HI 1) (sN LO HI 2) e (sN LO HI 1) 0)) (rfl) (by decide) (by decide) dX13_ranged_93 ?_
        refine q_icmp_gt X 154 dX13_ranged_94 (by decide) (fun c_55 => ?_) (fun c_55 => absurd (by rw [y1]; exact (lo_lt l1.1 l1.2 (by omega) (by omega)).mpr (by omega)) c_55)
        refine q_sub [0, 1, 2, 3, 4, 5, 6, 7] rfl ?_
        exact kk
      | succ t ih =>
        intro j hj0
        have hj : j < sN LO HI 1 := by omega
        refine q_iload X dX13_ranged_85 8 rfl ?_
        refine q_aload X dX13_ranged_87 6 rfl ?_
        refine q_get X (kq (c3 (sN LO HI 1) (sN LO HI 2) e j 0)) rfl in_RX12 3 (by decide) tw_1161 rfl rfl dX13_ranged_89 ?_
        refine q_iconst (v := 1) X dX13_ranged_92 (by decide) ?_
        refine q_ialdN X 1 (kha (c3 (sN LO HI 1) (sN LO HI 2) e j 0)) (rfl) (by decide) (by decide) dX13_ranged_93 ?_
        refine q_icmp_gt X 154 dX13_ranged_94 (by decide) (fun c_56 => absurd ((lo_lt l1.1 l1.2 (by omega) (by omega)).mp (y1 ▸ c_56)) (by omega)) (fun c_56 => ?_)
        refine q_aload X dX13_ranged_97 6 rfl ?_
        refine q_get X (kq (c3 (sN LO HI 1) (sN LO HI 2) e j 0)) rfl in_RX12 2 (by decide) tw_1159 rfl rfl dX13_ranged_99 ?_
        refine q_iconst (v := 2) X dX13_ranged_102 (by decide) ?_
        refine q_ialdN X 2 (kla (c3 (sN LO HI 1) (sN LO HI 2) e j 0)) (rfl) (by decide) (by decide) dX13_ranged_103 ?_
        rw [show LO 2 = LO 2 + nI 0 from lo_0.symm]
        refine q_istore (lv' := [(9, .int (LO 2 + nI (0))), (0, .ref r), (1, .int (nI i)), (2, .int (nI jd)), (3, .int x), (4, .int y), (5, .ref o), (6, .ref q), (7, .int (LO 0 + nI (e))), (8, .int (LO 1 + nI (j)))]) X dX13_ranged_104 (by decide) rfl ?_
        refine q_sub [1, 2, 3, 4, 5, 6, 7, 8, 9, 0] rfl ?_
        refine L2 e j he hj ?_ (sN LO HI 2) 0 (by omega)
        rw [c3_k]
        refine q_iinc (v := (LO 1 + nI (j + 1))) (lv' := [(8, .int (LO 1 + nI (j + 1))), (0, .ref r), (1, .int (nI i)), (2, .int (nI jd)), (3, .int x), (4, .int y), (5, .ref o), (6, .ref q), (7, .int (LO 0 + nI (e)))]) X dX13_ranged_148 8 rfl (lo_s) (by decide) rfl ?_
        refine q_goto X 85 dX13_ranged_151 (by decide) ?_
        refine q_sub [1, 2, 3, 4, 5, 6, 7, 8, 0] rfl ?_
        exact ih (j + 1) (by omega)
    have L0 : ∀ (kk : qJ G F (qQ G F (rfP G r cOp (some (.int 0)) (spRg σ w (nI jd) x y))) 10 (mU (mU M4 va (aJ G (sz3 LO HI) (vF (vwD w LO HI stT 0) (c3 (sN LO HI 1) (sN LO HI 2) (sN LO HI 0) 0 0)))) za (aZ G (sz3 LO HI) (zF (vwD w LO HI stT 0) (c3 (sN LO HI 1) (sN LO HI 2) (sN LO HI 0) 0 0)))) 0 0 160 [(0, .ref r), (1, .int (nI i)), (2, .int (nI jd)), (3, .int x), (4, .int y), (5, .ref o), (6, .ref q)] []) (t e : Nat), e + t = sN LO HI 0 → qJ G F (qQ G F (rfP G r cOp (some (.int 0)) (spRg σ w (nI jd) x y))) 10 (mU (mU M4 va (aJ G (sz3 LO HI) (vF (vwD w LO HI stT 0) (c3 (sN LO HI 1) (sN LO HI 2) e 0 0)))) za (aZ G (sz3 LO HI) (zF (vwD w LO HI stT 0) (c3 (sN LO HI 1) (sN LO HI 2) e 0 0)))) 0 0 64 [(0, .ref r), (1, .int (nI i)), (2, .int (nI jd)), (3, .int x), (4, .int y), (5, .ref o), (6, .ref q), (7, .int (LO 0 + nI (e)))] [] := by
      intro  kk t
      induction t with
      | zero =>
        intro e he0
        obtain rfl : e = sN LO HI 0 := by omega
        refine q_iload X dX13_ranged_64 7 rfl ?_
        refine q_aload X dX13_ranged_66 6 rfl ?_
        refine q_get X (kq (c3 (sN LO HI 1) (sN LO HI 2) (sN LO HI 0) 0 0)) rfl in_RX12 3 (by decide) tw_1161 rfl rfl dX13_ranged_68 ?_
        refine q_iconst (v := 0) X dX13_ranged_71 (by decide) ?_
        refine q_ialdN X 0 (kha (c3 (sN LO HI 1) (sN LO HI 2) (sN LO HI 0) 0 0)) (rfl) (by decide) (by decide) dX13_ranged_72 ?_
        refine q_icmp_gt X 160 dX13_ranged_73 (by decide) (fun c_57 => ?_) (fun c_57 => absurd (by rw [y0]; exact (lo_lt l0.1 l0.2 (by omega) (by omega)).mpr (by omega)) c_57)
        refine q_sub [0, 1, 2, 3, 4, 5, 6] rfl ?_
        exact kk
      | succ t ih =>
        intro e he0
        have he : e < sN LO HI 0 := by omega
        refine q_iload X dX13_ranged_64 7 rfl ?_
        refine q_aload X dX13_ranged_66 6 rfl ?_
        refine q_get X (kq (c3 (sN LO HI 1) (sN LO HI 2) e 0 0)) rfl in_RX12 3 (by decide) tw_1161 rfl rfl dX13_ranged_68 ?_
        refine q_iconst (v := 0) X dX13_ranged_71 (by decide) ?_
        refine q_ialdN X 0 (kha (c3 (sN LO HI 1) (sN LO HI 2) e 0 0)) (rfl) (by decide) (by decide) dX13_ranged_72 ?_
        refine q_icmp_gt X 160 dX13_ranged_73 (by decide) (fun c_58 => absurd ((lo_lt l0.1 l0.2 (by omega) (by omega)).mp (y0 ▸ c_58)) (by omega)) (fun c_58 => ?_)
        refine q_aload X dX13_ranged_76 6 rfl ?_
        refine q_get X (kq (c3 (sN LO HI 1) (sN LO HI 2) e 0 0)) rfl in_RX12 2 (by decide) tw_1159 rfl rfl dX13_ranged_78 ?_
        refine q_iconst (v := 1) X dX13_ranged_81 (by decide) ?_
        refine q_ialdN X 1 (kla (c3 (sN LO HI 1) (sN LO HI 2) e 0 0)) (rfl) (by decide) (by decide) dX13_ranged_82 ?_
        rw [show LO 1 = LO 1 + nI 0 from lo_0.symm]
        refine q_istore (lv' := [(8, .int (LO 1 + nI (0))), (0, .ref r), (1, .int (nI i)), (2, .int (nI jd)), (3, .int x), (4, .int y), (5, .ref o), (6, .ref q), (7, .int (LO 0 + nI (e)))]) X dX13_ranged_83 (by decide) rfl ?_
        refine q_sub [1, 2, 3, 4, 5, 6, 7, 8, 0] rfl ?_
        refine L1 e he ?_ (sN LO HI 1) 0 (by omega)
        rw [c3_j]
        refine q_iinc (v := (LO 0 + nI (e + 1))) (lv' := [(7, .int (LO 0 + nI (e + 1))), (0, .ref r), (1, .int (nI i)), (2, .int (nI jd)), (3, .int x), (4, .int y), (5, .ref o), (6, .ref q)]) X dX13_ranged_154 7 rfl (lo_s) (by decide) rfl ?_
        refine q_goto X 64 dX13_ranged_157 (by decide) ?_
        refine q_sub [1, 2, 3, 4, 5, 6, 7, 0] rfl ?_
        exact ih (e + 1) (by omega)
    refine q_aload X dX13_ranged_55 0 rfl ?_
    refine q_get X hq4 rfl in_RX12 2 (by decide) tw_1159 rfl rfl dX13_ranged_57 ?_
    refine q_iconst (v := 0) X dX13_ranged_60 (by decide) ?_
    refine q_ialdN X 0 m_51 (rfl) (by decide) (by decide) dX13_ranged_61 ?_
    rw [show LO 0 = LO 0 + nI 0 from lo_0.symm]
    refine q_istore (lv' := [(7, .int (LO 0 + nI (0))), (6, .ref q), (5, .ref o), (0, .ref r), (1, .int (nI i)), (2, .int (nI jd)), (3, .int x), (4, .int y)]) X dX13_ranged_62 (by decide) rfl ?_
    refine q_sub [3, 4, 5, 6, 7, 2, 1, 0] rfl ?_
    refine q_memE (M' := mU (mU M4 va (aJ G (sz3 LO HI) (vF (vwD w LO HI stT 0) (c3 (sN LO HI 1) (sN LO HI 2) 0 0 0)))) za (aZ G (sz3 LO HI) (zF (vwD w LO HI stT 0) (c3 (sN LO HI 1) (sN LO HI 2) 0 0 0)))) (by rw [c3_0, vF_0, zF_0, mU_id hva4, mU_id hza4]) ?_
    exact L0 hfin (sN LO HI 0) 0 (by omega)
  · refine q_callV X (c_large_n hB2 hok hd40 m_28 m_29 m_30 hlim) Y_X13_large tw_1359 tw_1361 sel_32 m_20 rfl (by omega) rfl rfl (Nat.le_of_ble_eq_true rfl) (rc' := 2) (rs' := 4096) (by omega) (by omega) dX13_ranged_42 (fun v M' hp _ => ?_)
    obtain ⟨rfl, eM⟩ := hp
    have m_59 : M' r = some (oB 13 [.int 3, .ref vA, .ref nA, .ref pA, .ref plA, .ref dg, .int (nI (aV σ).length), .int (nI (aN σ).length), .int (nI (aOf σ)), .int (nI (aBg σ)), .int tk, .long su, .long le, .long gr]) := by rw [eM]; exact mU_s
    have m_60 : M' nA = some (aG G 150 nf) := by rw [eM]; exact (mU_n (Ne.symm (g_neoa m_20 m_21))).trans m_21
    have m_61 : M' o = some (oB 12 [.int (nI (vm w)), .int (nI (vdp w)), .ref ola, .ref oha, .ref ova, .ref oza]) := by rw [eM]; exact (mU_n (g_neoo m_22 m_20 (by decide))).trans m_22
    have m_62 : M' ola = some (aI G 3 (vlo w)) := by rw [eM]; exact (mU_n (Ne.symm (g_neoa m_20 m_23))).trans m_23
    have m_63 : M' oha = some (aI G 3 (vhi w)) := by rw [eM]; exact (mU_n (Ne.symm (g_neoa m_20 m_24))).trans m_24
    have m_64 : M' ova = some (aJ G (wsz w) ovf) := by rw [eM]; exact (mU_n (Ne.symm (g_neoa m_20 m_25))).trans m_25
    have m_65 : M' oza = some (aZ G (wsz w) ozf) := by rw [eM]; exact (mU_n (Ne.symm (g_neoa m_20 m_26))).trans m_26
    have m_66 : M' plA = some (aI G 3 pl0) := by rw [eM]; exact (mU_n (Ne.symm (g_neoa m_20 m_27))).trans m_27
    have m_67 : M' q = some (oB 12 [.int (nI (vm w)), .int (nI (vdp w + 1)), .ref la, .ref ha, .null, .null]) := by rw [eM]; exact (mU_n (Ne.symm (g_nef hB.1 fq))).trans m_28
    have m_68 : M' la = some (aI G 3 LO) := by rw [eM]; exact (mU_n (Ne.symm (g_nef hB.1 fla))).trans m_29
    have m_69 : M' ha = some (aI G 3 HI) := by rw [eM]; exact (mU_n (Ne.symm (g_nef hB.1 fha))).trans m_30
    have evK3 : mEv (fun x => x = r ∨ x = plA) M M' := by rw [eM]; exact evM2.trans (mEv_upd (K := (fun x => x = r ∨ x = plA)) (Or.inl rfl))
    have hB3 : rfB G M' r 3 σ vA nA pA plA dg dla dha dva dza dvf dzf vf nf pf tk su le gr := by rw [eM]; exact hB2.ro
    clear eM
    generalize M' = M3 at *
    show qJ G F _ 10 M3 2 4096 45 [(6, .ref q), (5, .ref o), (0, .ref r), (1, .int (nI i)), (2, .int (nI jd)), (3, .int x), (4, .int y)] [.int 1]
    refine q_if_eq X 50 dX13_ranged_45 (by decide) (fun c_70 => absurd c_70 (by decide)) (fun c_70 => ?_)
    refine q_iconst (v := 0) X dX13_ranged_48 (by decide) ?_
    exact q_iret X hr dX13_ranged_49 (rfP_T (by rw [specE]; exact gLim_n hlim) cOp_UO ⟨vA, nA, pA, plA, dg, dla, dha, dva, dza, dvf, dzf, vf, nf, pf, tk, su, le, gr, hB3⟩)
