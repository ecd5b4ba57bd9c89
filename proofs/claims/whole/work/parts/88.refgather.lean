/-! the reference: gather -/

set_option maxRecDepth 20000 in
theorem r_gather {l : Launch} {G : gV} {M : gMem} {r : Nat} {e : Int32} {σ : sA} (hW : gvW σ) (hR : isRF G M r e σ) {a d what : Int32} : qC l G yX13_gather cX13_gather 9 (some .int) 6 5 4108 [.ref r, .int a, .int d, .int what] M (rfP G r cOp (some (.int 0)) (sp_gather σ a d what)) := by
  refine qC_of (by decide +kernel) (Nat.le_of_ble_eq_true rfl) (fun F hF X hr hn => ?_)
  subst hF
  have X : qX G F cX13_gather 9 RX13 6 := X
  obtain ⟨vA, nA, pA, plA, dg, dla, dha, dva, dza, dvf, dzf, vf, nf, pf, tk, su, le, gr, hB⟩ := hR
  have hl150 := hW.1.2.2.2.2.1
  have hl41 := hW.1.2.2.2.1
  have tail : ∀ (M : gMem) (i : Nat) (w : vN) (hB : rfB G M r 0 σ vA nA pA plA dg dla dha dva dza dvf dzf vf nf pf tk su le gr) (hi : (aN σ)[i]? = some w) (hw : vOk w) (h150 : (aN σ).length < 150) (jd : Nat) (hjd : jd < vm w) (hm2 : 2 ≤ vm w) (specE : sp_gather σ (nI i) (nI jd) what = gLim σ (dr3 (vlo w) jd 3) (dr3 (vhi w) jd 3) (nI (vdp w)) (oN σ (vm w - 1, dr3 (vlo w) jd 3, dr3 (vhi w) jd 3, vdp w + 1, foD w (dr3 (vlo w) jd 3) (dr3 (vhi w) jd 3) (nI jd) 0 0 what))), qJ G F (qQ G F (rfP G r cOp (some (.int 0)) (sp_gather σ (nI i) (nI jd) what))) 9 M 5 4108 55 [(0, .ref r), (1, .int (nI i)), (2, .int (nI jd)), (3, .int what)] [] := by
    intro M i w hB hi hw h150 jd hjd hm2 specE
    obtain ⟨o, hnfo, ola, oha, ova, oza, ovf, ozf, hO, bo1, bo2, bo3, bo4⟩ := hB.2.2.2.2.2.2.2.2.1 i w hi
    have hi150 : i < 150 := Nat.lt_of_lt_of_le (List.getElem?_eq_some_iff.mp hi).1 (by omega)
    obtain ⟨pl0, hpl0⟩ := hB.2.2.2.2.1
    have hd40 := hw.2.2
    have hm3 := hw.1.2.1
    have hj3 : jd < 3 := by omega
    obtain ⟨LO, eLO⟩ : ∃ LO, LO = dr3 (vlo w) jd 3 := ⟨_, rfl⟩
    obtain ⟨HI, eHI⟩ : ∃ HI, HI = dr3 (vhi w) jd 3 := ⟨_, rfl⟩
    have hok := okS_dr hw.1 hjd hm2
    rw [← eLO, ← eHI] at hok
    rw [← eLO, ← eHI] at specE
    refine q_aload_n X dX13_gather_55 0 rfl ?_
    refine q_get X hB.1 rfl in_RX13 2 (by decide) tw_1196 rfl rfl dX13_gather_56 ?_
    refine q_iload_n X dX13_gather_59 1 rfl ?_
    refine q_gald X i hB.2.2.1 (rfl) (hi150) (by decide) hnfo dX13_gather_60 ?_
    refine q_astore (lv' := [(4, .ref o), (0, .ref r), (1, .int (nI i)), (2, .int (nI jd)), (3, .int what)]) X dX13_gather_61 (by decide) rfl ?_
    refine q_aload X dX13_gather_63 0 rfl ?_
    refine q_iload_n X dX13_gather_65 3 rfl ?_
    refine q_callS X (c_less hw.1 hm2 hjd hO.1 hO.2.1 hO.2.2.1) Y_X13_less tw_1375 tw_1376 (by omega) rfl rfl (Nat.le_of_ble_eq_true rfl) (rc' := 2) (rs' := 4096) (by omega) (by omega) dX13_gather_66 (fun v M' hp _ => ?_)
    obtain ⟨q, la, ha, rfl, fq, fla, fha, llh, llq, lhq, hq1, hla1, hha1, ev1⟩ := hp
    generalize M' = M1 at *
    have m_1 : M1 r = some (oB 13 [.int 0, .ref vA, .ref nA, .ref pA, .ref plA, .ref dg, .int (nI (aV σ).length), .int (nI (aN σ).length), .int (nI (aOf σ)), .int (nI (aBg σ)), .int tk, .long su, .long le, .long gr]) := ev1.keep hB.1 id
    have m_2 : M1 nA = some (aG G 150 nf) := ev1.keep hB.2.2.1 id
    have m_3 : M1 o = some (oB 12 [.int (nI (vm w)), .int (nI (vdp w)), .ref ola, .ref oha, .ref ova, .ref oza]) := ev1.keep hO.1 id
    have m_4 : M1 ola = some (aI G 3 (vlo w)) := ev1.keep hO.2.1 id
    have m_5 : M1 oha = some (aI G 3 (vhi w)) := ev1.keep hO.2.2.1 id
    have m_6 : M1 ova = some (aJ G (wsz w) ovf) := ev1.keep hO.2.2.2.1 id
    have m_7 : M1 oza = some (aZ G (wsz w) ozf) := ev1.keep hO.2.2.2.2.1 id
    have m_8 : M1 plA = some (aI G 3 pl0) := ev1.keep hpl0 id
    have evK1 : mEv (fun x => x = r ∨ x = plA) M M1 := ev1.mono (fun _ _ z => z.elim)
    show qJ G F _ 9 M1 2 4096 69 [(4, .ref o), (0, .ref r), (1, .int (nI i)), (2, .int (nI jd)), (3, .int what)] [.ref q]
    rw [← eLO] at hla1
    rw [← eHI] at hha1
    refine q_astore (lv' := [(5, .ref q), (4, .ref o), (0, .ref r), (1, .int (nI i)), (2, .int (nI jd)), (3, .int what)]) X dX13_gather_69 (by decide) rfl ?_
    refine q_aload_n X dX13_gather_71 2 rfl ?_
    refine q_aload X dX13_gather_72 0 rfl ?_
    have hB2 : rfB G M1 r 0 σ vA nA pA plA dg dla dha dva dza dvf dzf vf nf pf tk su le gr := hB.ev2 evK1 m_1 ⟨_, m_8⟩
    by_cases hlim : ¬ sWithin (LO) (HI) = 0 ∧ nI (vdp w) < 40
    · refine q_callV X (c_large_y hB2 hok hd40 hq1 hla1 hha1 hlim) Y_X13_large tw_1359 tw_1361 sel_32 m_1 rfl (by omega) rfl rfl (Nat.le_of_ble_eq_true rfl) (rc' := 2) (rs' := 4096) (by omega) (by omega) dX13_gather_74 (fun v M' hp _ => ?_)
      obtain ⟨rfl, eM⟩ := hp
      have m_9 : M' r = some (oB 13 [.int 0, .ref vA, .ref nA, .ref pA, .ref plA, .ref dg, .int (nI (aV σ).length), .int (nI (aN σ).length), .int (nI (aOf σ)), .int (nI (aBg σ)), .int tk, .long su, .long le, .long gr]) := by rw [eM]; exact mU_s
      have m_10 : M' nA = some (aG G 150 nf) := by rw [eM]; exact (mU_n (Ne.symm (g_neoa m_1 m_2))).trans m_2
      have m_11 : M' o = some (oB 12 [.int (nI (vm w)), .int (nI (vdp w)), .ref ola, .ref oha, .ref ova, .ref oza]) := by rw [eM]; exact (mU_n (g_neoo m_3 m_1 (by decide))).trans m_3
      have m_12 : M' ola = some (aI G 3 (vlo w)) := by rw [eM]; exact (mU_n (Ne.symm (g_neoa m_1 m_4))).trans m_4
      have m_13 : M' oha = some (aI G 3 (vhi w)) := by rw [eM]; exact (mU_n (Ne.symm (g_neoa m_1 m_5))).trans m_5
      have m_14 : M' ova = some (aJ G (wsz w) ovf) := by rw [eM]; exact (mU_n (Ne.symm (g_neoa m_1 m_6))).trans m_6
      have m_15 : M' oza = some (aZ G (wsz w) ozf) := by rw [eM]; exact (mU_n (Ne.symm (g_neoa m_1 m_7))).trans m_7
      have m_16 : M' plA = some (aI G 3 pl0) := by rw [eM]; exact (mU_n (Ne.symm (g_neoa m_1 m_8))).trans m_8
      have m_17 : M' q = some (oB 12 [.int (nI (vm w - 1)), .int (nI (vdp w + 1)), .ref la, .ref ha, .null, .null]) := by rw [eM]; exact (mU_n (Ne.symm (g_nef hB.1 fq))).trans hq1
      have m_18 : M' la = some (aI G 3 LO) := by rw [eM]; exact (mU_n (Ne.symm (g_nef hB.1 fla))).trans hla1
      have m_19 : M' ha = some (aI G 3 HI) := by rw [eM]; exact (mU_n (Ne.symm (g_nef hB.1 fha))).trans hha1
      have evK3 : mEv (fun x => x = r ∨ x = plA) M M' := by rw [eM]; exact evK1.trans (mEv_upd (K := (fun x => x = r ∨ x = plA)) (Or.inl rfl))
      have hB3 : rfB G M' r 0 σ vA nA pA plA dg dla dha dva dza dvf dzf vf nf pf tk su le gr := by rw [eM]; exact hB2.ro
      clear eM
      generalize M' = M3 at *
      show qJ G F _ 9 M3 2 4096 77 [(5, .ref q), (4, .ref o), (0, .ref r), (1, .int (nI i)), (2, .int (nI jd)), (3, .int what)] [.int 0]
      refine q_if_eq X 82 dX13_gather_77 (by decide) (fun c_20 => ?_) (fun c_20 => absurd (by decide) c_20)
      have hw2 := (within_ok hok hlim.1).2
      refine q_aload X dX13_gather_82 0 rfl ?_
      refine q_callV X (c_X12_make (n := sz3 LO HI) m_17 m_18 m_19 hok.size (by omega)) Y_X12_make tw_1179 tw_1180 tw_1181 m_17 rfl (by omega) rfl rfl (Nat.le_of_ble_eq_true rfl) (rc' := 0) (rs' := 0) (by omega) (by omega) dX13_gather_84 (fun v M' hp _ => ?_)
      obtain ⟨rfl, va, za, fva3, fza3, lvz, hq4, hva4, hza4, ev4⟩ := hp
      generalize M' = M4 at *
      have fva : M va = none := evK3.none fva3
      have fza : M za = none := evK3.none fza3
      have m_21 : M4 r = some (oB 13 [.int 0, .ref vA, .ref nA, .ref pA, .ref plA, .ref dg, .int (nI (aV σ).length), .int (nI (aN σ).length), .int (nI (aOf σ)), .int (nI (aBg σ)), .int tk, .long su, .long le, .long gr]) := ev4.keep m_9 (g_nef hB.1 fq)
      have m_22 : M4 nA = some (aG G 150 nf) := ev4.keep m_10 (g_nef hB.2.2.1 fq)
      have m_23 : M4 o = some (oB 12 [.int (nI (vm w)), .int (nI (vdp w)), .ref ola, .ref oha, .ref ova, .ref oza]) := ev4.keep m_11 (g_nef hO.1 fq)
      have m_24 : M4 ola = some (aI G 3 (vlo w)) := ev4.keep m_12 (g_nef hO.2.1 fq)
      have m_25 : M4 oha = some (aI G 3 (vhi w)) := ev4.keep m_13 (g_nef hO.2.2.1 fq)
      have m_26 : M4 ova = some (aJ G (wsz w) ovf) := ev4.keep m_14 (g_nef hO.2.2.2.1 fq)
      have m_27 : M4 oza = some (aZ G (wsz w) ozf) := ev4.keep m_15 (g_nef hO.2.2.2.2.1 fq)
      have m_28 : M4 plA = some (aI G 3 pl0) := ev4.keep m_16 (g_nef hpl0 fq)
      have m_29 : M4 la = some (aI G 3 LO) := ev4.keep m_18 (llq)
      have m_30 : M4 ha = some (aI G 3 HI) := ev4.keep m_19 (lhq)
      have evK4 : mEv (fun x => x = r ∨ x = plA) M M4 := fun x hx => by
        have wq : x ≠ q := fun z => hx (z ▸ fq)
        have e1 := evK3 x hx
        have e2 := ev4 x e1.1
        exact ⟨e2.1, fun k => (e2.2 wq).trans (e1.2 k)⟩
      have hB4 : rfB G M4 r 0 σ vA nA pA plA dg dla dha dva dza dvf dzf vf nf pf tk su le gr := hB.ev2 evK4 m_21 ⟨_, m_28⟩
      show qJ G F _ 9 M4 0 0 87 [(5, .ref q), (4, .ref o), (0, .ref r), (1, .int (nI i)), (2, .int (nI jd)), (3, .int what)] []
      have hzz : sz3 LO HI ≤ 4096 := by omega
      have hS2 : sN LO HI 2 = 1 := hok.one (by decide) (by omega)
      have hl2 : LO 2 = 0 := (hok.2.2.2 2 (by omega) (by decide)).1
      have lA := hw.1.lo (d := jd) hj3
      have NA := hw.1.N (d := jd) hj3
      have yA := hw.1.hi (d := jd) hj3
      have hzw := hw.2.1
      have nr : ∀ {x : Nat} {e : va_E}, M4 x = some e → (∀ fs, e ≠ oB 13 fs) → x ≠ r := fun h h1 z => by rw [z, m_21] at h; cases h; exact h1 _ rfl
      have kv : ∀ {x : Nat} {e : va_E}, M4 x = some e → x ≠ va → x ≠ za → x ≠ plA → x ≠ r → ∀ (p9 : Nat → Int32) (tk9 : Int32) (su9 le9 gr9 : Int64) (c : Nat), (mU (mU (mU (mU M4 plA (aI G 3 p9)) r (rfO 0 vA nA pA plA dg σ tk9 su9 le9 gr9)) va (aJ G (sz3 LO HI) (vF (foD w LO HI (nI jd) 0 0 what) (c)))) za (aZ G (sz3 LO HI) (zF (foD w LO HI (nI jd) 0 0 what) (c)))) x = some e := fun h h1 h2 h3 h4 p9 tk9 su9 le9 gr9 c => (mU_n h2).trans ((mU_n h1).trans ((mU_n h4).trans ((mU_n h3).trans h)))
      have kq : ∀ (p9 : Nat → Int32) (tk9 : Int32) (su9 le9 gr9 : Int64) (c : Nat), (mU (mU (mU (mU M4 plA (aI G 3 p9)) r (rfO 0 vA nA pA plA dg σ tk9 su9 le9 gr9)) va (aJ G (sz3 LO HI) (vF (foD w LO HI (nI jd) 0 0 what) (c)))) za (aZ G (sz3 LO HI) (zF (foD w LO HI (nI jd) 0 0 what) (c)))) q = some (oB 12 [.int (nI (vm w - 1)), .int (nI (vdp w + 1)), .ref la, .ref ha, .ref va, .ref za]) := kv hq4 (g_nef m_17 fva3) (g_nef m_17 fza3) (g_neoa hq4 m_28) (nr hq4 (fun _ z => by cases z))
      have kla : ∀ (p9 : Nat → Int32) (tk9 : Int32) (su9 le9 gr9 : Int64) (c : Nat), (mU (mU (mU (mU M4 plA (aI G 3 p9)) r (rfO 0 vA nA pA plA dg σ tk9 su9 le9 gr9)) va (aJ G (sz3 LO HI) (vF (foD w LO HI (nI jd) 0 0 what) (c)))) za (aZ G (sz3 LO HI) (zF (foD w LO HI (nI jd) 0 0 what) (c)))) la = some (aI G 3 LO) := kv m_29 (g_nef m_18 fva3) (g_nef m_18 fza3) (fun z => by rw [z, hpl0] at fla; cases fla) (nr m_29 (fun _ z => by cases z))
      have kha : ∀ (p9 : Nat → Int32) (tk9 : Int32) (su9 le9 gr9 : Int64) (c : Nat), (mU (mU (mU (mU M4 plA (aI G 3 p9)) r (rfO 0 vA nA pA plA dg σ tk9 su9 le9 gr9)) va (aJ G (sz3 LO HI) (vF (foD w LO HI (nI jd) 0 0 what) (c)))) za (aZ G (sz3 LO HI) (zF (foD w LO HI (nI jd) 0 0 what) (c)))) ha = some (aI G 3 HI) := kv m_30 (g_nef m_19 fva3) (g_nef m_19 fza3) (fun z => by rw [z, hpl0] at fha; cases fha) (nr m_30 (fun _ z => by cases z))
      have ko : ∀ (p9 : Nat → Int32) (tk9 : Int32) (su9 le9 gr9 : Int64) (c : Nat), (mU (mU (mU (mU M4 plA (aI G 3 p9)) r (rfO 0 vA nA pA plA dg σ tk9 su9 le9 gr9)) va (aJ G (sz3 LO HI) (vF (foD w LO HI (nI jd) 0 0 what) (c)))) za (aZ G (sz3 LO HI) (zF (foD w LO HI (nI jd) 0 0 what) (c)))) o = some (oB 12 [.int (nI (vm w)), .int (nI (vdp w)), .ref ola, .ref oha, .ref ova, .ref oza]) := kv m_23 (g_nef m_11 fva3) (g_nef m_11 fza3) (g_neoa m_23 m_28) (nr m_23 (fun _ z => by cases z))
      have kola : ∀ (p9 : Nat → Int32) (tk9 : Int32) (su9 le9 gr9 : Int64) (c : Nat), (mU (mU (mU (mU M4 plA (aI G 3 p9)) r (rfO 0 vA nA pA plA dg σ tk9 su9 le9 gr9)) va (aJ G (sz3 LO HI) (vF (foD w LO HI (nI jd) 0 0 what) (c)))) za (aZ G (sz3 LO HI) (zF (foD w LO HI (nI jd) 0 0 what) (c)))) ola = some (aI G 3 (vlo w)) := kv m_24 (g_nef m_12 fva3) (g_nef m_12 fza3) (fun z => bo1 (Or.inl z)) (nr m_24 (fun _ z => by cases z))
      have koha : ∀ (p9 : Nat → Int32) (tk9 : Int32) (su9 le9 gr9 : Int64) (c : Nat), (mU (mU (mU (mU M4 plA (aI G 3 p9)) r (rfO 0 vA nA pA plA dg σ tk9 su9 le9 gr9)) va (aJ G (sz3 LO HI) (vF (foD w LO HI (nI jd) 0 0 what) (c)))) za (aZ G (sz3 LO HI) (zF (foD w LO HI (nI jd) 0 0 what) (c)))) oha = some (aI G 3 (vhi w)) := kv m_25 (g_nef m_13 fva3) (g_nef m_13 fza3) (fun z => bo2 (Or.inl z)) (nr m_25 (fun _ z => by cases z))
      have kova : ∀ (p9 : Nat → Int32) (tk9 : Int32) (su9 le9 gr9 : Int64) (c : Nat), (mU (mU (mU (mU M4 plA (aI G 3 p9)) r (rfO 0 vA nA pA plA dg σ tk9 su9 le9 gr9)) va (aJ G (sz3 LO HI) (vF (foD w LO HI (nI jd) 0 0 what) (c)))) za (aZ G (sz3 LO HI) (zF (foD w LO HI (nI jd) 0 0 what) (c)))) ova = some (aJ G (wsz w) ovf) := kv m_26 (g_nef m_14 fva3) (g_nef m_14 fza3) (fun z => bo3 (Or.inl z)) (nr m_26 (fun _ z => by cases z))
      have koza : ∀ (p9 : Nat → Int32) (tk9 : Int32) (su9 le9 gr9 : Int64) (c : Nat), (mU (mU (mU (mU M4 plA (aI G 3 p9)) r (rfO 0 vA nA pA plA dg σ tk9 su9 le9 gr9)) va (aJ G (sz3 LO HI) (vF (foD w LO HI (nI jd) 0 0 what) (c)))) za (aZ G (sz3 LO HI) (zF (foD w LO HI (nI jd) 0 0 what) (c)))) oza = some (aZ G (wsz w) ozf) := kv m_27 (g_nef m_15 fva3) (g_nef m_15 fza3) (fun z => bo4 (Or.inl z)) (nr m_27 (fun _ z => by cases z))
      have plva : plA ≠ va := fun z => by rw [← z, hpl0] at fva; cases fva
      have plza : plA ≠ za := fun z => by rw [← z, hpl0] at fza; cases fza
      have rva : r ≠ va := fun z => by rw [← z, hB.1] at fva; cases fva
      have rza : r ≠ za := fun z => by rw [← z, hB.1] at fza; cases fza
      have rpl : r ≠ plA := fun z => by have h9 := hB.1; rw [z, hpl0] at h9; cases h9
      have kr : ∀ (p9 : Nat → Int32) (tk9 : Int32) (su9 le9 gr9 : Int64) (c : Nat), (mU (mU (mU (mU M4 plA (aI G 3 p9)) r (rfO 0 vA nA pA plA dg σ tk9 su9 le9 gr9)) va (aJ G (sz3 LO HI) (vF (foD w LO HI (nI jd) 0 0 what) (c)))) za (aZ G (sz3 LO HI) (zF (foD w LO HI (nI jd) 0 0 what) (c)))) r = some (rfO 0 vA nA pA plA dg σ tk9 su9 le9 gr9) := fun p9 tk9 su9 le9 gr9 c => (mU_n rza).trans ((mU_n rva).trans mU_s)
      have kplA : ∀ (p9 : Nat → Int32) (tk9 : Int32) (su9 le9 gr9 : Int64) (c : Nat), (mU (mU (mU (mU M4 plA (aI G 3 p9)) r (rfO 0 vA nA pA plA dg σ tk9 su9 le9 gr9)) va (aJ G (sz3 LO HI) (vF (foD w LO HI (nI jd) 0 0 what) (c)))) za (aZ G (sz3 LO HI) (zF (foD w LO HI (nI jd) 0 0 what) (c)))) plA = some (aI G 3 p9) := fun p9 tk9 su9 le9 gr9 c => (mU_n plza).trans ((mU_n plva).trans ((mU_n (Ne.symm rpl)).trans mU_s))
      have kva : ∀ (p9 : Nat → Int32) (tk9 : Int32) (su9 le9 gr9 : Int64) (c : Nat), (mU (mU (mU (mU M4 plA (aI G 3 p9)) r (rfO 0 vA nA pA plA dg σ tk9 su9 le9 gr9)) va (aJ G (sz3 LO HI) (vF (foD w LO HI (nI jd) 0 0 what) (c)))) za (aZ G (sz3 LO HI) (zF (foD w LO HI (nI jd) 0 0 what) (c)))) va = some (aJ G (sz3 LO HI) (vF (foD w LO HI (nI jd) 0 0 what) (c))) := fun p9 tk9 su9 le9 gr9 c => (mU_n lvz).trans mU_s
      have kza : ∀ (p9 : Nat → Int32) (tk9 : Int32) (su9 le9 gr9 : Int64) (c : Nat), (mU (mU (mU (mU M4 plA (aI G 3 p9)) r (rfO 0 vA nA pA plA dg σ tk9 su9 le9 gr9)) va (aJ G (sz3 LO HI) (vF (foD w LO HI (nI jd) 0 0 what) (c)))) za (aZ G (sz3 LO HI) (zF (foD w LO HI (nI jd) 0 0 what) (c)))) za = some (aZ G (sz3 LO HI) (zF (foD w LO HI (nI jd) 0 0 what) c)) := fun p9 tk9 su9 le9 gr9 c => mU_s
      have koX : ∀ (p9 : Nat → Int32) (tk9 : Int32) (su9 le9 gr9 : Int64) (c : Nat), isGrX G (mU (mU (mU (mU M4 plA (aI G 3 p9)) r (rfO 0 vA nA pA plA dg σ tk9 su9 le9 gr9)) va (aJ G (sz3 LO HI) (vF (foD w LO HI (nI jd) 0 0 what) (c)))) za (aZ G (sz3 LO HI) (zF (foD w LO HI (nI jd) 0 0 what) (c)))) o ola oha ova oza ovf ozf w := fun p9 tk9 su9 le9 gr9 c => ⟨ko p9 tk9 su9 le9 gr9 c, kola p9 tk9 su9 le9 gr9 c, koha p9 tk9 su9 le9 gr9 c, kova p9 tk9 su9 le9 gr9 c, koza p9 tk9 su9 le9 gr9 c, hO.2.2.2.2.2⟩
      have l0 := hok.lo (d := 0) (by decide)
      have N0 := hok.N (d := 0) (by decide)
      have y0 := hok.hi (d := 0) (by decide)
      have l1 := hok.lo (d := 1) (by decide)
      have N1 := hok.N (d := 1) (by decide)
      have y1 := hok.hi (d := 1) (by decide)
      have l2 := hok.lo (d := 2) (by decide)
      have N2 := hok.N (d := 2) (by decide)
      have y2 := hok.hi (d := 2) (by decide)
      have hfin : ∀ M2 : gMem, (∃ (p9 : Nat → Int32) (tk9 : Int32) (su9 le9 gr9 : Int64), M2 = mU (mU (mU (mU M4 plA (aI G 3 p9)) r (rfO 0 vA nA pA plA dg σ tk9 su9 le9 gr9)) va (aJ G (sz3 LO HI) (vF (foD w LO HI (nI jd) 0 0 what) (c3 (sN LO HI 1) (sN LO HI 2) (sN LO HI 0) 0 0)))) za (aZ G (sz3 LO HI) (zF (foD w LO HI (nI jd) 0 0 what) (c3 (sN LO HI 1) (sN LO HI 2) (sN LO HI 0) 0 0)))) → qJ G F (qQ G F (rfP G r cOp (some (.int 0)) (sp_gather σ (nI i) (nI jd) what))) 9 M2 0 0 224 [(0, .ref r), (1, .int (nI i)), (2, .int (nI jd)), (3, .int what), (4, .ref o), (5, .ref q)] [] := by
        intro M2 hI
        obtain ⟨p9, tk9, su9, le9, gr9, rfl⟩ := hI
        rw [c3_A, show sN LO HI 0 * sN LO HI 1 * sN LO HI 2 = sz3 LO HI from rfl]
        have evz : mEv (fun x => x = r ∨ x = plA) M (mU (mU (mU (mU M4 plA (aI G 3 p9)) r (rfO 0 vA nA pA plA dg σ tk9 su9 le9 gr9)) va (aJ G (sz3 LO HI) (vF (foD w LO HI (nI jd) 0 0 what) (sz3 LO HI)))) za (aZ G (sz3 LO HI) (zF (foD w LO HI (nI jd) 0 0 what) (sz3 LO HI)))) := fun x hx => by
          have w1 : x ≠ va := fun z => hx (z ▸ fva)
          have w2 : x ≠ za := fun z => hx (z ▸ fza)
          have e1 := evK4 x hx
          by_cases w3 : x = plA
          · rw [w3]; exact ⟨g_so (kplA p9 tk9 su9 le9 gr9 (sz3 LO HI)), fun k => absurd (Or.inr rfl) k⟩
          by_cases w4 : x = r
          · rw [w4]; exact ⟨g_so (kr p9 tk9 su9 le9 gr9 (sz3 LO HI)), fun k => absurd (Or.inl rfl) k⟩
          have e : (mU (mU (mU (mU M4 plA (aI G 3 p9)) r (rfO 0 vA nA pA plA dg σ tk9 su9 le9 gr9)) va (aJ G (sz3 LO HI) (vF (foD w LO HI (nI jd) 0 0 what) (sz3 LO HI)))) za (aZ G (sz3 LO HI) (zF (foD w LO HI (nI jd) 0 0 what) (sz3 LO HI)))) x = M4 x := (mU_n w2).trans ((mU_n w1).trans ((mU_n w4).trans (mU_n w3)))
          exact ⟨by rw [e]; exact e1.1, fun k => e.trans (e1.2 k)⟩
        have hBz : rfB G (mU (mU (mU (mU M4 plA (aI G 3 p9)) r (rfO 0 vA nA pA plA dg σ tk9 su9 le9 gr9)) va (aJ G (sz3 LO HI) (vF (foD w LO HI (nI jd) 0 0 what) (sz3 LO HI)))) za (aZ G (sz3 LO HI) (zF (foD w LO HI (nI jd) 0 0 what) (sz3 LO HI)))) r 0 σ vA nA pA plA dg dla dha dva dza dvf dzf vf nf pf tk9 su9 le9 gr9 := hB.ev2 evz (kr p9 tk9 su9 le9 gr9 (sz3 LO HI)) ⟨_, kplA p9 tk9 su9 le9 gr9 (sz3 LO HI)⟩
        have nb : ∀ {x : Nat}, M x = none → ¬ rBad plA pA dva dza x := fun h z => by
          rcases z with z | z | z | z
          · rw [z, hpl0] at h; cases h
          · rw [z, hB.2.2.2.1] at h; cases h
          · rw [z, hB.2.2.2.2.2.1.2.2.2.1] at h; cases h
          · rw [z, hB.2.2.2.2.2.1.2.2.2.2.1] at h; cases h
        have hg : isGrd G (mU (mU (mU (mU M4 plA (aI G 3 p9)) r (rfO 0 vA nA pA plA dg σ tk9 su9 le9 gr9)) va (aJ G (sz3 LO HI) (vF (foD w LO HI (nI jd) 0 0 what) (sz3 LO HI)))) za (aZ G (sz3 LO HI) (zF (foD w LO HI (nI jd) 0 0 what) (sz3 LO HI)))) (rBad plA pA dva dza) q (vm w - 1, LO, HI, vdp w + 1, (foD w LO HI (nI jd) 0 0 what)) := grd_mk (kq p9 tk9 su9 le9 gr9 (sz3 LO HI)) (kla p9 tk9 su9 le9 gr9 (sz3 LO HI)) (kha p9 tk9 su9 le9 gr9 (sz3 LO HI)) (kva p9 tk9 su9 le9 gr9 (sz3 LO HI)) (kza p9 tk9 su9 le9 gr9 (sz3 LO HI)) (gCt_F (foD w LO HI (nI jd) 0 0 what) (sz3 LO HI)) (nb fla) (nb fha) (nb fva) (nb fza)
        refine q_aload_n X dX13_gather_224 0 rfl ?_
        refine q_aload X dX13_gather_225 5 rfl ?_
        refine q_callV X (c_made hBz hg h150) Y_X13_made tw_1339 tw_1341 sel_28 (kr p9 tk9 su9 le9 gr9 (sz3 LO HI)) rfl (by omega) rfl rfl (Nat.le_of_ble_eq_true rfl) (rc' := 0) (rs' := 0) (Nat.le_refl _) (Nat.le_refl _) dX13_gather_227 (fun v M' hp _ => ?_)
        obtain ⟨rfl, hz9⟩ := hp
        generalize M' = M9 at *
        show qJ G F _ 9 M9 0 0 230 [(0, .ref r), (1, .int (nI i)), (2, .int (nI jd)), (3, .int what), (4, .ref o), (5, .ref q)] [.int (nI (aN σ).length)]
        exact q_iret X hr dX13_gather_230 (rfP_K (by rw [specE]; exact gLim_y hlim) hz9)
      have L3 : ∀ (e j : Nat) (he : e < sN LO HI 0) (hj : j < sN LO HI 1) (kk : ∀ M2 : gMem, (∃ (p9 : Nat → Int32) (t9 : tT), M2 = mU (mU (mU (mU M4 plA (aI G 3 p9)) r (rfO 0 vA nA pA plA dg σ (nI t9.1) t9.2.1 t9.2.2.1 t9.2.2.2)) va (aJ G (sz3 LO HI) (vF (foD w LO HI (nI jd) 0 0 what) (c3 (sN LO HI 1) (sN LO HI 2) e j 0)))) za (aZ G (sz3 LO HI) (zF (foD w LO HI (nI jd) 0 0 what) (c3 (sN LO HI 1) (sN LO HI 2) e j 0))) ∧ tOk what (rwT w LO HI (nI jd) 0 0 what (vlo w jd) (c3 (sN LO HI 1) (sN LO HI 2) e j 0) (sN (vlo w) (vhi w) jd)) t9) → qJ G F (qQ G F (rfP G r cOp (some (.int 0)) (sp_gather σ (nI i) (nI jd) what))) 9 M2 0 0 195 [(0, .ref r), (1, .int (nI i)), (2, .int (nI jd)), (3, .int what), (4, .ref o), (5, .ref q), (6, .int (LO 0 + nI (e))), (7, .int (LO 1 + nI (j)))] []) (t a : Nat) (M1 : gMem), a + t = sN (vlo w) (vhi w) jd → (∃ (p9 : Nat → Int32) (t9 : tT), M1 = mU (mU (mU (mU M4 plA (aI G 3 p9)) r (rfO 0 vA nA pA plA dg σ (nI t9.1) t9.2.1 t9.2.2.1 t9.2.2.2)) va (aJ G (sz3 LO HI) (vF (foD w LO HI (nI jd) 0 0 what) (c3 (sN LO HI 1) (sN LO HI 2) e j 0)))) za (aZ G (sz3 LO HI) (zF (foD w LO HI (nI jd) 0 0 what) (c3 (sN LO HI 1) (sN LO HI 2) e j 0))) ∧ tOk what (rwT w LO HI (nI jd) 0 0 what (vlo w jd) (c3 (sN LO HI 1) (sN LO HI 2) e j 0) (a)) t9) → qJ G F (qQ G F (rfP G r cOp (some (.int 0)) (sp_gather σ (nI i) (nI jd) what))) 9 M1 0 0 142 [(0, .ref r), (1, .int (nI i)), (2, .int (nI jd)), (3, .int what), (4, .ref o), (5, .ref q), (6, .int (LO 0 + nI (e))), (7, .int (LO 1 + nI (j))), (8, .int (vlo w jd + nI (a)))] [] := by
        intro e j he hj kk t
        induction t with
        | zero =>
          intro a M1 ha0 hI
          obtain rfl : a = sN (vlo w) (vhi w) jd := by omega
          have hI0 := hI
          obtain ⟨p9, t9, rfl, hT⟩ := hI
          refine q_iload X dX13_gather_142 8 rfl ?_
          refine q_aload X dX13_gather_144 4 rfl ?_
          refine q_get X (ko p9 (nI t9.1) t9.2.1 t9.2.2.1 t9.2.2.2 (c3 (sN LO HI 1) (sN LO HI 2) e j 0)) rfl in_RX12 3 (by decide) tw_1161 rfl rfl dX13_gather_146 ?_
          refine q_iload_n X dX13_gather_149 2 rfl ?_
          refine q_ialdN X jd (koha p9 (nI t9.1) t9.2.1 t9.2.2.1 t9.2.2.2 (c3 (sN LO HI 1) (sN LO HI 2) e j 0)) (rfl) (hj3) (by decide) dX13_gather_150 ?_
          refine q_icmp_gt X 195 dX13_gather_151 (by decide) (fun c_31 => ?_) (fun c_31 => absurd (by rw [yA]; exact (lo_lt lA.1 lA.2 (by omega) (by omega)).mpr (by omega)) c_31)
          refine q_sub [0, 1, 2, 3, 4, 5, 6, 7] rfl ?_
          exact kk _ hI0
        | succ t ih =>
          intro a M1 ha0 hI
          have ha : a < sN (vlo w) (vhi w) jd := by omega
          have hI0 := hI
          obtain ⟨p9, t9, rfl, hT⟩ := hI
          have hrow := gt_row hw.1 hj3 (lo := LO) (hi := HI) (i := c3 (sN LO HI 1) (sN LO HI 2) e j 0)
          have hle := rwT_le (w := w) (lo := LO) (hi := HI) (d := nI jd) (kind := 0) (reach := 0) (what := what) (A := vlo w jd) (i := c3 (sN LO HI 1) (sN LO HI 2) e j 0) (a := a)
          have ht9 : t9.1 < 2 ^ 30 := by rw [hT.1] at hle; omega
          obtain ⟨p0, p1, p2⟩ := pl3_c3 hok hzz he hj (show 0 < sN LO HI 2 by omega)
          have hIn : rIn w jd (rG jd (LO 0 + nI (e)) (LO 1 + nI (j))) := by have hok2 := hok; rw [eLO, eHI] at he hj hok2; rw [eLO]; exact gt_in hj3 hok2 he hj
          refine q_iload X dX13_gather_142 8 rfl ?_
          refine q_aload X dX13_gather_144 4 rfl ?_
          refine q_get X (ko p9 (nI t9.1) t9.2.1 t9.2.2.1 t9.2.2.2 (c3 (sN LO HI 1) (sN LO HI 2) e j 0)) rfl in_RX12 3 (by decide) tw_1161 rfl rfl dX13_gather_146 ?_
          refine q_iload_n X dX13_gather_149 2 rfl ?_
          refine q_ialdN X jd (koha p9 (nI t9.1) t9.2.1 t9.2.2.1 t9.2.2.2 (c3 (sN LO HI 1) (sN LO HI 2) e j 0)) (rfl) (hj3) (by decide) dX13_gather_150 ?_
          refine q_icmp_gt X 195 dX13_gather_151 (by decide) (fun c_32 => absurd ((lo_lt lA.1 lA.2 (by omega) (by omega)).mp (yA ▸ c_32)) (by omega)) (fun c_32 => ?_)
          refine q_aload_n X dX13_gather_154 0 rfl ?_
          refine q_iload_n X dX13_gather_155 2 rfl ?_
          refine q_iload X dX13_gather_156 8 rfl ?_
          refine q_iload X dX13_gather_158 6 rfl ?_
          refine q_iload X dX13_gather_160 7 rfl ?_
          refine q_callV X (c_wider (t := vlo w jd + nI (a)) (kr p9 (nI t9.1) t9.2.1 t9.2.2.1 t9.2.2.2 (c3 (sN LO HI 1) (sN LO HI 2) e j 0)) (kplA p9 (nI t9.1) t9.2.1 t9.2.2.1 t9.2.2.2 (c3 (sN LO HI 1) (sN LO HI 2) e j 0))) Y_X13_wider tw_1378 tw_1380 sel_33 (kr p9 (nI t9.1) t9.2.1 t9.2.2.1 t9.2.2.2 (c3 (sN LO HI 1) (sN LO HI 2) e j 0)) rfl (by omega) rfl rfl (Nat.le_of_ble_eq_true rfl) (rc' := 0) (rs' := 0) (Nat.le_refl _) (Nat.le_refl _) dX13_gather_162 (fun v M' hp _ => ?_)
          obtain ⟨rfl, pf9, eM, w9a, w9b, w9c⟩ := hp
          rw [eM, mU_p (Ne.symm rpl) plva plza]
          clear eM
          rw [(gt_wd hj3 (t := vlo w jd + nI (a)) (x := LO 0 + nI (e)) (y := LO 1 + nI (j))).1] at w9a
          rw [(gt_wd hj3 (t := vlo w jd + nI (a)) (x := LO 0 + nI (e)) (y := LO 1 + nI (j))).2.1] at w9b
          rw [(gt_wd hj3 (t := vlo w jd + nI (a)) (x := LO 0 + nI (e)) (y := LO 1 + nI (j))).2.2] at w9c
          show qJ G F _ 9 (mU (mU (mU (mU M4 plA (aI G 3 pf9)) r (rfO 0 vA nA pA plA dg σ (nI t9.1) t9.2.1 t9.2.2.1 t9.2.2.2)) va (aJ G (sz3 LO HI) (vF (foD w LO HI (nI jd) 0 0 what) (c3 (sN LO HI 1) (sN LO HI 2) e j 0)))) za (aZ G (sz3 LO HI) (zF (foD w LO HI (nI jd) 0 0 what) (c3 (sN LO HI 1) (sN LO HI 2) e j 0)))) 0 0 165 [(0, .ref r), (1, .int (nI i)), (2, .int (nI jd)), (3, .int what), (4, .ref o), (5, .ref q), (6, .int (LO 0 + nI (e))), (7, .int (LO 1 + nI (j))), (8, .int (vlo w jd + nI (a)))] []
          refine q_aload_n X dX13_gather_165 0 rfl ?_
          refine q_aload X dX13_gather_166 4 rfl ?_
          refine q_aload_n X dX13_gather_168 0 rfl ?_
          refine q_get X (kr pf9 (nI t9.1) t9.2.1 t9.2.2.1 t9.2.2.2 (c3 (sN LO HI 1) (sN LO HI 2) e j 0)) rfl in_RX13 4 (by decide) tw_1198 rfl rfl dX13_gather_169 ?_
          refine q_iconst (v := 0) X dX13_gather_172 (by decide) ?_
          refine q_ialdN X 0 (kplA pf9 (nI t9.1) t9.2.1 t9.2.2.1 t9.2.2.2 (c3 (sN LO HI 1) (sN LO HI 2) e j 0)) (rfl) (by decide) (by decide) dX13_gather_173 ?_
          rw [w9a]
          refine q_aload_n X dX13_gather_174 0 rfl ?_
          refine q_get X (kr pf9 (nI t9.1) t9.2.1 t9.2.2.1 t9.2.2.2 (c3 (sN LO HI 1) (sN LO HI 2) e j 0)) rfl in_RX13 4 (by decide) tw_1198 rfl rfl dX13_gather_175 ?_
          refine q_iconst (v := 1) X dX13_gather_178 (by decide) ?_
          refine q_ialdN X 1 (kplA pf9 (nI t9.1) t9.2.1 t9.2.2.1 t9.2.2.2 (c3 (sN LO HI 1) (sN LO HI 2) e j 0)) (rfl) (by decide) (by decide) dX13_gather_179 ?_
          rw [w9b]
          refine q_aload_n X dX13_gather_180 0 rfl ?_
          refine q_get X (kr pf9 (nI t9.1) t9.2.1 t9.2.2.1 t9.2.2.2 (c3 (sN LO HI 1) (sN LO HI 2) e j 0)) rfl in_RX13 4 (by decide) tw_1198 rfl rfl dX13_gather_181 ?_
          refine q_iconst (v := 2) X dX13_gather_184 (by decide) ?_
          refine q_ialdN X 2 (kplA pf9 (nI t9.1) t9.2.1 t9.2.2.1 t9.2.2.2 (c3 (sN LO HI 1) (sN LO HI 2) e j 0)) (rfl) (by decide) (by decide) dX13_gather_185 ?_
          rw [w9c]
          refine q_callV X (c_take (t := t9) (kr pf9 (nI t9.1) t9.2.1 t9.2.2.1 t9.2.2.2 (c3 (sN LO HI 1) (sN LO HI 2) e j 0)) hw (koX pf9 (nI t9.1) t9.2.1 t9.2.2.1 t9.2.2.2 (c3 (sN LO HI 1) (sN LO HI 2) e j 0)) ht9) Y_X13_take tw_1413 tw_1415 sel_35 (kr pf9 (nI t9.1) t9.2.1 t9.2.2.1 t9.2.2.2 (c3 (sN LO HI 1) (sN LO HI 2) e j 0)) rfl (by omega) rfl rfl (Nat.le_of_ble_eq_true rfl) (rc' := 0) (rs' := 0) (Nat.le_refl _) (Nat.le_refl _) dX13_gather_186 (fun v M' hp _ => ?_)
          obtain ⟨rfl, eM⟩ := hp
          rw [eM, mU_r rva rza]
          clear eM
          show qJ G F _ 9 (mU (mU (mU (mU M4 plA (aI G 3 pf9)) r (rfO 0 vA nA pA plA dg σ (nI (tkU (frV w (rP (rG jd (LO 0 + nI (e)) (LO 1 + nI (j))) jd (vlo w jd + nI (a)) 0) (rP (rG jd (LO 0 + nI (e)) (LO 1 + nI (j))) jd (vlo w jd + nI (a)) 1) (rP (rG jd (LO 0 + nI (e)) (LO 1 + nI (j))) jd (vlo w jd + nI (a)) 2)) t9).1) (tkU (frV w (rP (rG jd (LO 0 + nI (e)) (LO 1 + nI (j))) jd (vlo w jd + nI (a)) 0) (rP (rG jd (LO 0 + nI (e)) (LO 1 + nI (j))) jd (vlo w jd + nI (a)) 1) (rP (rG jd (LO 0 + nI (e)) (LO 1 + nI (j))) jd (vlo w jd + nI (a)) 2)) t9).2.1 (tkU (frV w (rP (rG jd (LO 0 + nI (e)) (LO 1 + nI (j))) jd (vlo w jd + nI (a)) 0) (rP (rG jd (LO 0 + nI (e)) (LO 1 + nI (j))) jd (vlo w jd + nI (a)) 1) (rP (rG jd (LO 0 + nI (e)) (LO 1 + nI (j))) jd (vlo w jd + nI (a)) 2)) t9).2.2.1 (tkU (frV w (rP (rG jd (LO 0 + nI (e)) (LO 1 + nI (j))) jd (vlo w jd + nI (a)) 0) (rP (rG jd (LO 0 + nI (e)) (LO 1 + nI (j))) jd (vlo w jd + nI (a)) 1) (rP (rG jd (LO 0 + nI (e)) (LO 1 + nI (j))) jd (vlo w jd + nI (a)) 2)) t9).2.2.2)) va (aJ G (sz3 LO HI) (vF (foD w LO HI (nI jd) 0 0 what) (c3 (sN LO HI 1) (sN LO HI 2) e j 0)))) za (aZ G (sz3 LO HI) (zF (foD w LO HI (nI jd) 0 0 what) (c3 (sN LO HI 1) (sN LO HI 2) e j 0)))) 0 0 189 [(0, .ref r), (1, .int (nI i)), (2, .int (nI jd)), (3, .int what), (4, .ref o), (5, .ref q), (6, .int (LO 0 + nI (e))), (7, .int (LO 1 + nI (j))), (8, .int (vlo w jd + nI (a)))] []
          refine q_iinc (v := (vlo w jd + nI (a + 1))) (lv' := [(8, .int (vlo w jd + nI (a + 1))), (0, .ref r), (1, .int (nI i)), (2, .int (nI jd)), (3, .int what), (4, .ref o), (5, .ref q), (6, .int (LO 0 + nI (e))), (7, .int (LO 1 + nI (j)))]) X dX13_gather_189 8 rfl (lo_s) (by decide) rfl ?_
          refine q_goto X 142 dX13_gather_192 (by decide) ?_
          refine q_sub [1, 2, 3, 4, 5, 6, 7, 8, 0] rfl ?_
          exact ih (a + 1) _ (by omega) ⟨_, _, rfl, rwT_s hw hjd hIn hrow ha (fun S => (gt_fP hj3 p0 p1 S).1) (fun S => (gt_fP hj3 p0 p1 S).2.1) (fun S => (gt_fP hj3 p0 p1 S).2.2) hT⟩
      have L1 : ∀ (e : Nat) (he : e < sN LO HI 0) (kk : ∀ M2 : gMem, (∃ (p9 : Nat → Int32) (tk9 : Int32) (su9 le9 gr9 : Int64), M2 = mU (mU (mU (mU M4 plA (aI G 3 p9)) r (rfO 0 vA nA pA plA dg σ tk9 su9 le9 gr9)) va (aJ G (sz3 LO HI) (vF (foD w LO HI (nI jd) 0 0 what) (c3 (sN LO HI 1) (sN LO HI 2) e (sN LO HI 1) 0)))) za (aZ G (sz3 LO HI) (zF (foD w LO HI (nI jd) 0 0 what) (c3 (sN LO HI 1) (sN LO HI 2) e (sN LO HI 1) 0)))) → qJ G F (qQ G F (rfP G r cOp (some (.int 0)) (sp_gather σ (nI i) (nI jd) what))) 9 M2 0 0 218 [(0, .ref r), (1, .int (nI i)), (2, .int (nI jd)), (3, .int what), (4, .ref o), (5, .ref q), (6, .int (LO 0 + nI (e)))] []) (t j : Nat) (M1 : gMem), j + t = sN LO HI 1 → (∃ (p9 : Nat → Int32) (tk9 : Int32) (su9 le9 gr9 : Int64), M1 = mU (mU (mU (mU M4 plA (aI G 3 p9)) r (rfO 0 vA nA pA plA dg σ tk9 su9 le9 gr9)) va (aJ G (sz3 LO HI) (vF (foD w LO HI (nI jd) 0 0 what) (c3 (sN LO HI 1) (sN LO HI 2) e j 0)))) za (aZ G (sz3 LO HI) (zF (foD w LO HI (nI jd) 0 0 what) (c3 (sN LO HI 1) (sN LO HI 2) e j 0)))) → qJ G F (qQ G F (rfP G r cOp (some (.int 0)) (sp_gather σ (nI i) (nI jd) what))) 9 M1 0 0 117 [(0, .ref r), (1, .int (nI i)), (2, .int (nI jd)), (3, .int what), (4, .ref o), (5, .ref q), (6, .int (LO 0 + nI (e))), (7, .int (LO 1 + nI (j)))] [] := by
        intro e he kk t
        induction t with
        | zero =>
          intro j M1 hj0 hI
          obtain rfl : j = sN LO HI 1 := by omega
          have hI0 := hI
          obtain ⟨p9, tk9, su9, le9, gr9, rfl⟩ := hI
          refine q_iload X dX13_gather_117 7 rfl ?_
          refine q_aload X dX13_gather_119 5 rfl ?_
          refine q_get X (kq p9 tk9 su9 le9 gr9 (c3 (sN LO HI 1) (sN LO HI 2) e (sN LO HI 1) 0)) rfl in_RX12 3 (by decide) tw_1161 rfl rfl dX13_gather_121 ?_
          refine q_iconst (v := 1) X dX13_gather_124 (by decide) ?_
          refine q_ialdN X 1 (kha p9 tk9 su9 le9 gr9 (c3 (sN LO HI 1) (sN LO HI 2) e (sN LO HI 1) 0)) (rfl) (by decide) (by decide) dX13_gather_125 ?_
          refine q_icmp_gt X 218 dX13_gather_126 (by decide) (fun c_33 => ?_) (fun c_33 => absurd (by rw [y1]; exact (lo_lt l1.1 l1.2 (by omega) (by omega)).mpr (by omega)) c_33)
          refine q_sub [0, 1, 2, 3, 4, 5, 6] rfl ?_
          exact kk _ hI0
        | succ t ih =>
          intro j M1 hj0 hI
          have hj : j < sN LO HI 1 := by omega
          have hI0 := hI
          obtain ⟨p9, tk9, su9, le9, gr9, rfl⟩ := hI
          have hc9 : c3 (sN LO HI 1) (sN LO HI 2) e j 0 < sz3 LO HI := c3_lt he hj (show 0 < sN LO HI 2 by omega)
          refine q_iload X dX13_gather_117 7 rfl ?_
          refine q_aload X dX13_gather_119 5 rfl ?_
          refine q_get X (kq p9 tk9 su9 le9 gr9 (c3 (sN LO HI 1) (sN LO HI 2) e j 0)) rfl in_RX12 3 (by decide) tw_1161 rfl rfl dX13_gather_121 ?_
          refine q_iconst (v := 1) X dX13_gather_124 (by decide) ?_
          refine q_ialdN X 1 (kha p9 tk9 su9 le9 gr9 (c3 (sN LO HI 1) (sN LO HI 2) e j 0)) (rfl) (by decide) (by decide) dX13_gather_125 ?_
          refine q_icmp_gt X 218 dX13_gather_126 (by decide) (fun c_34 => absurd ((lo_lt l1.1 l1.2 (by omega) (by omega)).mp (y1 ▸ c_34)) (by omega)) (fun c_34 => ?_)
          refine q_aload_n X dX13_gather_129 0 rfl ?_
          refine q_callV X (c_nothing (kr p9 tk9 su9 le9 gr9 (c3 (sN LO HI 1) (sN LO HI 2) e j 0))) Y_X13_nothing tw_1409 tw_1411 sel_34 (kr p9 tk9 su9 le9 gr9 (c3 (sN LO HI 1) (sN LO HI 2) e j 0)) rfl (by omega) rfl rfl (Nat.le_of_ble_eq_true rfl) (rc' := 0) (rs' := 0) (Nat.le_refl _) (Nat.le_refl _) dX13_gather_130 (fun v M' hp _ => ?_)
          obtain ⟨rfl, eM⟩ := hp
          rw [eM, mU_r rva rza]
          clear eM
          show qJ G F _ 9 (mU (mU (mU (mU M4 plA (aI G 3 p9)) r (rfO 0 vA nA pA plA dg σ (nI 0) 0 le9 gr9)) va (aJ G (sz3 LO HI) (vF (foD w LO HI (nI jd) 0 0 what) (c3 (sN LO HI 1) (sN LO HI 2) e j 0)))) za (aZ G (sz3 LO HI) (zF (foD w LO HI (nI jd) 0 0 what) (c3 (sN LO HI 1) (sN LO HI 2) e j 0)))) 0 0 133 [(0, .ref r), (1, .int (nI i)), (2, .int (nI jd)), (3, .int what), (4, .ref o), (5, .ref q), (6, .int (LO 0 + nI (e))), (7, .int (LO 1 + nI (j)))] []
          refine q_aload X dX13_gather_133 4 rfl ?_
          refine q_get X (ko p9 (nI 0) 0 le9 gr9 (c3 (sN LO HI 1) (sN LO HI 2) e j 0)) rfl in_RX12 2 (by decide) tw_1159 rfl rfl dX13_gather_135 ?_
          refine q_iload_n X dX13_gather_138 2 rfl ?_
          refine q_ialdN X jd (kola p9 (nI 0) 0 le9 gr9 (c3 (sN LO HI 1) (sN LO HI 2) e j 0)) (rfl) (hj3) (by decide) dX13_gather_139 ?_
          rw [show vlo w jd = vlo w jd + nI 0 from lo_0.symm]
          refine q_istore (lv' := [(8, .int (vlo w jd + nI (0))), (0, .ref r), (1, .int (nI i)), (2, .int (nI jd)), (3, .int what), (4, .ref o), (5, .ref q), (6, .int (LO 0 + nI (e))), (7, .int (LO 1 + nI (j)))]) X dX13_gather_140 (by decide) rfl ?_
          refine q_sub [1, 2, 3, 4, 5, 6, 7, 8, 0] rfl ?_
          refine L3 e j he hj (fun M2 hI2 => ?_) (sN (vlo w) (vhi w) jd) 0 _ (Nat.zero_add _) ⟨p9, (0, 0, le9, gr9), rfl, by rw [rwT_0]; exact tOk_0⟩
          obtain ⟨q9, t9, rfl, hT⟩ := hI2
          have hrow := gt_row hw.1 hj3 (lo := LO) (hi := HI) (i := c3 (sN LO HI 1) (sN LO HI 2) e j 0)
          have hle := rwT_le (w := w) (lo := LO) (hi := HI) (d := nI jd) (kind := 0) (reach := 0) (what := what) (A := vlo w jd) (i := c3 (sN LO HI 1) (sN LO HI 2) e j 0) (a := sN (vlo w) (vhi w) jd)
          have ht9 : t9.1 < 2 ^ 30 := by rw [hT.1] at hle; omega
          have fr9 : (if t9.1 = 0 then none else some (tgV what t9)) = (foD w LO HI (nI jd) 0 0 what) (c3 (sN LO HI 1) (sN LO HI 2) e j 0) := by rw [rwT_L hrow, tOk_O hT]
          refine q_aload_n X dX13_gather_195 0 rfl ?_
          refine q_aload X dX13_gather_196 5 rfl ?_
          refine q_aload X dX13_gather_198 5 rfl ?_
          refine q_iload X dX13_gather_200 6 rfl ?_
          refine q_iload X dX13_gather_202 7 rfl ?_
          refine q_iconst (v := 0) X dX13_gather_204 (by decide) ?_
          refine q_callVp X (c_X12_at (kq q9 (nI t9.1) t9.2.1 t9.2.2.1 t9.2.2.2 (c3 (sN LO HI 1) (sN LO HI 2) e j 0)) (kla q9 (nI t9.1) t9.2.1 t9.2.2.1 t9.2.2.2 (c3 (sN LO HI 1) (sN LO HI 2) e j 0)) (kha q9 (nI t9.1) t9.2.1 t9.2.2.1 t9.2.2.2 (c3 (sN LO HI 1) (sN LO HI 2) e j 0))) Y_X12_at tw_1269 tw_1270 tw_1271 (kq q9 (nI t9.1) t9.2.1 t9.2.2.1 t9.2.2.2 (c3 (sN LO HI 1) (sN LO HI 2) e j 0)) rfl (by omega) rfl rfl (Nat.le_of_ble_eq_true rfl) dX13_gather_205 ?_
          rw [show gAt LO HI (LO 0 + nI (e)) (LO 1 + nI (j)) 0 = nI (c3 (sN LO HI 1) (sN LO HI 2) e j 0) from by have g9 := gAt_lo hok (e := e) (j := j) (k := 0); rw [hl2, lo_0] at g9; exact g9]
          refine q_iload_n X dX13_gather_208 3 rfl ?_
          refine q_callV X (c_give (t := t9) (kr q9 (nI t9.1) t9.2.1 t9.2.2.1 t9.2.2.2 (c3 (sN LO HI 1) (sN LO HI 2) e j 0)) (kq q9 (nI t9.1) t9.2.1 t9.2.2.1 t9.2.2.2 (c3 (sN LO HI 1) (sN LO HI 2) e j 0)) (kva q9 (nI t9.1) t9.2.1 t9.2.2.1 t9.2.2.2 (c3 (sN LO HI 1) (sN LO HI 2) e j 0)) (kza q9 (nI t9.1) t9.2.1 t9.2.2.1 t9.2.2.2 (c3 (sN LO HI 1) (sN LO HI 2) e j 0)) hc9 hzz ht9) Y_X13_give tw_1417 tw_1419 sel_36 (kr q9 (nI t9.1) t9.2.1 t9.2.2.1 t9.2.2.2 (c3 (sN LO HI 1) (sN LO HI 2) e j 0)) rfl (by omega) rfl rfl (Nat.le_of_ble_eq_true rfl) (rc' := 0) (rs' := 0) (Nat.le_refl _) (Nat.le_refl _) dX13_gather_209 (fun v M' hp _ => ?_)
          obtain ⟨rfl, eM⟩ := hp
          rw [eM]
          clear eM
          refine q_memE (M' := mU (mU (mU (mU M4 plA (aI G 3 q9)) r (rfO 0 vA nA pA plA dg σ (nI t9.1) t9.2.1 t9.2.2.1 t9.2.2.2)) va (aJ G (sz3 LO HI) (vF (foD w LO HI (nI jd) 0 0 what) (c3 (sN LO HI 1) (sN LO HI 2) e (j + 1) 0)))) za (aZ G (sz3 LO HI) (zF (foD w LO HI (nI jd) 0 0 what) (c3 (sN LO HI 1) (sN LO HI 2) e (j + 1) 0)))) (by rw [c3_j1 hS2, ← vF_s fr9, ← zF_s fr9]; exact mU_4 lvz) ?_
          show qJ G F _ 9 (mU (mU (mU (mU M4 plA (aI G 3 q9)) r (rfO 0 vA nA pA plA dg σ (nI t9.1) t9.2.1 t9.2.2.1 t9.2.2.2)) va (aJ G (sz3 LO HI) (vF (foD w LO HI (nI jd) 0 0 what) (c3 (sN LO HI 1) (sN LO HI 2) e (j + 1) 0)))) za (aZ G (sz3 LO HI) (zF (foD w LO HI (nI jd) 0 0 what) (c3 (sN LO HI 1) (sN LO HI 2) e (j + 1) 0)))) 0 0 212 [(0, .ref r), (1, .int (nI i)), (2, .int (nI jd)), (3, .int what), (4, .ref o), (5, .ref q), (6, .int (LO 0 + nI (e))), (7, .int (LO 1 + nI (j)))] []
          refine q_iinc (v := (LO 1 + nI (j + 1))) (lv' := [(7, .int (LO 1 + nI (j + 1))), (0, .ref r), (1, .int (nI i)), (2, .int (nI jd)), (3, .int what), (4, .ref o), (5, .ref q), (6, .int (LO 0 + nI (e)))]) X dX13_gather_212 7 rfl (lo_s) (by decide) rfl ?_
          refine q_goto X 117 dX13_gather_215 (by decide) ?_
          refine q_sub [1, 2, 3, 4, 5, 6, 7, 0] rfl ?_
          exact ih (j + 1) _ (by omega) ⟨_, _, _, _, _, rfl⟩
      have L0 : ∀ (kk : ∀ M2 : gMem, (∃ (p9 : Nat → Int32) (tk9 : Int32) (su9 le9 gr9 : Int64), M2 = mU (mU (mU (mU M4 plA (aI G 3 p9)) r (rfO 0 vA nA pA plA dg σ tk9 su9 le9 gr9)) va (aJ G (sz3 LO HI) (vF (foD w LO HI (nI jd) 0 0 what) (c3 (sN LO HI 1) (sN LO HI 2) (sN LO HI 0) 0 0)))) za (aZ G (sz3 LO HI) (zF (foD w LO HI (nI jd) 0 0 what) (c3 (sN LO HI 1) (sN LO HI 2) (sN LO HI 0) 0 0)))) → qJ G F (qQ G F (rfP G r cOp (some (.int 0)) (sp_gather σ (nI i) (nI jd) what))) 9 M2 0 0 224 [(0, .ref r), (1, .int (nI i)), (2, .int (nI jd)), (3, .int what), (4, .ref o), (5, .ref q)] []) (t e : Nat) (M1 : gMem), e + t = sN LO HI 0 → (∃ (p9 : Nat → Int32) (tk9 : Int32) (su9 le9 gr9 : Int64), M1 = mU (mU (mU (mU M4 plA (aI G 3 p9)) r (rfO 0 vA nA pA plA dg σ tk9 su9 le9 gr9)) va (aJ G (sz3 LO HI) (vF (foD w LO HI (nI jd) 0 0 what) (c3 (sN LO HI 1) (sN LO HI 2) e 0 0)))) za (aZ G (sz3 LO HI) (zF (foD w LO HI (nI jd) 0 0 what) (c3 (sN LO HI 1) (sN LO HI 2) e 0 0)))) → qJ G F (qQ G F (rfP G r cOp (some (.int 0)) (sp_gather σ (nI i) (nI jd) what))) 9 M1 0 0 96 [(0, .ref r), (1, .int (nI i)), (2, .int (nI jd)), (3, .int what), (4, .ref o), (5, .ref q), (6, .int (LO 0 + nI (e)))] [] := by
        intro  kk t
        induction t with
        | zero =>
          intro e M1 he0 hI
          obtain rfl : e = sN LO HI 0 := by omega
          have hI0 := hI
          obtain ⟨p9, tk9, su9, le9, gr9, rfl⟩ := hI
          refine q_iload X dX13_gather_96 6 rfl ?_
          refine q_aload X dX13_gather_98 5 rfl ?_
          refine q_get X (kq p9 tk9 su9 le9 gr9 (c3 (sN LO HI 1) (sN LO HI 2) (sN LO HI 0) 0 0)) rfl in_RX12 3 (by decide) tw_1161 rfl rfl dX13_gather_100 ?_
          refine q_iconst (v := 0) X dX13_gather_103 (by decide) ?_
          refine q_ialdN X 0 (kha p9 tk9 su9 le9 gr9 (c3 (sN LO HI 1) (sN LO HI 2) (sN LO HI 0) 0 0)) (rfl) (by decide) (by decide) dX13_gather_104 ?_
          refine q_icmp_gt X 224 dX13_gather_105 (by decide) (fun c_35 => ?_) (fun c_35 => absurd (by rw [y0]; exact (lo_lt l0.1 l0.2 (by omega) (by omega)).mpr (by omega)) c_35)
          refine q_sub [0, 1, 2, 3, 4, 5] rfl ?_
          exact kk _ hI0
        | succ t ih =>
          intro e M1 he0 hI
          have he : e < sN LO HI 0 := by omega
          have hI0 := hI
          obtain ⟨p9, tk9, su9, le9, gr9, rfl⟩ := hI
          refine q_iload X dX13_gather_96 6 rfl ?_
          refine q_aload X dX13_gather_98 5 rfl ?_
          refine q_get X (kq p9 tk9 su9 le9 gr9 (c3 (sN LO HI 1) (sN LO HI 2) e 0 0)) rfl in_RX12 3 (by decide) tw_1161 rfl rfl dX13_gather_100 ?_
          refine q_iconst (v := 0) X dX13_gather_103 (by decide) ?_
          refine q_ialdN X 0 (kha p9 tk9 su9 le9 gr9 (c3 (sN LO HI 1) (sN LO HI 2) e 0 0)) (rfl) (by decide) (by decide) dX13_gather_104 ?_
          refine q_icmp_gt X 224 dX13_gather_105 (by decide) (fun c_36 => absurd ((lo_lt l0.1 l0.2 (by omega) (by omega)).mp (y0 ▸ c_36)) (by omega)) (fun c_36 => ?_)
          refine q_aload X dX13_gather_108 5 rfl ?_
          refine q_get X (kq p9 tk9 su9 le9 gr9 (c3 (sN LO HI 1) (sN LO HI 2) e 0 0)) rfl in_RX12 2 (by decide) tw_1159 rfl rfl dX13_gather_110 ?_
          refine q_iconst (v := 1) X dX13_gather_113 (by decide) ?_
          refine q_ialdN X 1 (kla p9 tk9 su9 le9 gr9 (c3 (sN LO HI 1) (sN LO HI 2) e 0 0)) (rfl) (by decide) (by decide) dX13_gather_114 ?_
          rw [show LO 1 = LO 1 + nI 0 from lo_0.symm]
          refine q_istore (lv' := [(7, .int (LO 1 + nI (0))), (0, .ref r), (1, .int (nI i)), (2, .int (nI jd)), (3, .int what), (4, .ref o), (5, .ref q), (6, .int (LO 0 + nI (e)))]) X dX13_gather_115 (by decide) rfl ?_
          refine q_sub [1, 2, 3, 4, 5, 6, 7, 0] rfl ?_
          refine L1 e he (fun M2 hI2 => ?_) (sN LO HI 1) 0 _ (Nat.zero_add _) hI0
          rw [c3_j] at hI2
          refine q_iinc (v := (LO 0 + nI (e + 1))) (lv' := [(6, .int (LO 0 + nI (e + 1))), (0, .ref r), (1, .int (nI i)), (2, .int (nI jd)), (3, .int what), (4, .ref o), (5, .ref q)]) X dX13_gather_218 6 rfl (lo_s) (by decide) rfl ?_
          refine q_goto X 96 dX13_gather_221 (by decide) ?_
          refine q_sub [1, 2, 3, 4, 5, 6, 0] rfl ?_
          exact ih (e + 1) M2 (by omega) hI2
      refine q_aload X dX13_gather_87 0 rfl ?_
      refine q_get X hq4 rfl in_RX12 2 (by decide) tw_1159 rfl rfl dX13_gather_89 ?_
      refine q_iconst (v := 0) X dX13_gather_92 (by decide) ?_
      refine q_ialdN X 0 m_29 (rfl) (by decide) (by decide) dX13_gather_93 ?_
      rw [show LO 0 = LO 0 + nI 0 from lo_0.symm]
      refine q_istore (lv' := [(6, .int (LO 0 + nI (0))), (5, .ref q), (4, .ref o), (0, .ref r), (1, .int (nI i)), (2, .int (nI jd)), (3, .int what)]) X dX13_gather_94 (by decide) rfl ?_
      refine q_sub [3, 4, 5, 6, 2, 1, 0] rfl ?_
      refine L0 hfin (sN LO HI 0) 0 M4 (Nat.zero_add _) ⟨pl0, tk, su, le, gr, ?_⟩
      rw [c3_0, vF_0, zF_0, mU_id m_28, mU_id m_21, mU_id hva4, mU_id hza4]
    · refine q_callV X (c_large_n hB2 hok hd40 hq1 hla1 hha1 hlim) Y_X13_large tw_1359 tw_1361 sel_32 m_1 rfl (by omega) rfl rfl (Nat.le_of_ble_eq_true rfl) (rc' := 2) (rs' := 4096) (by omega) (by omega) dX13_gather_74 (fun v M' hp _ => ?_)
      obtain ⟨rfl, eM⟩ := hp
      have m_37 : M' r = some (oB 13 [.int 3, .ref vA, .ref nA, .ref pA, .ref plA, .ref dg, .int (nI (aV σ).length), .int (nI (aN σ).length), .int (nI (aOf σ)), .int (nI (aBg σ)), .int tk, .long su, .long le, .long gr]) := by rw [eM]; exact mU_s
      have m_38 : M' nA = some (aG G 150 nf) := by rw [eM]; exact (mU_n (Ne.symm (g_neoa m_1 m_2))).trans m_2
      have m_39 : M' o = some (oB 12 [.int (nI (vm w)), .int (nI (vdp w)), .ref ola, .ref oha, .ref ova, .ref oza]) := by rw [eM]; exact (mU_n (g_neoo m_3 m_1 (by decide))).trans m_3
      have m_40 : M' ola = some (aI G 3 (vlo w)) := by rw [eM]; exact (mU_n (Ne.symm (g_neoa m_1 m_4))).trans m_4
      have m_41 : M' oha = some (aI G 3 (vhi w)) := by rw [eM]; exact (mU_n (Ne.symm (g_neoa m_1 m_5))).trans m_5
      have m_42 : M' ova = some (aJ G (wsz w) ovf) := by rw [eM]; exact (mU_n (Ne.symm (g_neoa m_1 m_6))).trans m_6
      have m_43 : M' oza = some (aZ G (wsz w) ozf) := by rw [eM]; exact (mU_n (Ne.symm (g_neoa m_1 m_7))).trans m_7
      have m_44 : M' plA = some (aI G 3 pl0) := by rw [eM]; exact (mU_n (Ne.symm (g_neoa m_1 m_8))).trans m_8
      have m_45 : M' q = some (oB 12 [.int (nI (vm w - 1)), .int (nI (vdp w + 1)), .ref la, .ref ha, .null, .null]) := by rw [eM]; exact (mU_n (Ne.symm (g_nef hB.1 fq))).trans hq1
      have m_46 : M' la = some (aI G 3 LO) := by rw [eM]; exact (mU_n (Ne.symm (g_nef hB.1 fla))).trans hla1
      have m_47 : M' ha = some (aI G 3 HI) := by rw [eM]; exact (mU_n (Ne.symm (g_nef hB.1 fha))).trans hha1
      have evK3 : mEv (fun x => x = r ∨ x = plA) M M' := by rw [eM]; exact evK1.trans (mEv_upd (K := (fun x => x = r ∨ x = plA)) (Or.inl rfl))
      have hB3 : rfB G M' r 3 σ vA nA pA plA dg dla dha dva dza dvf dzf vf nf pf tk su le gr := by rw [eM]; exact hB2.ro
      clear eM
      generalize M' = M3 at *
      show qJ G F _ 9 M3 2 4096 77 [(5, .ref q), (4, .ref o), (0, .ref r), (1, .int (nI i)), (2, .int (nI jd)), (3, .int what)] [.int 1]
      refine q_if_eq X 82 dX13_gather_77 (by decide) (fun c_48 => absurd c_48 (by decide)) (fun c_48 => ?_)
      refine q_iconst (v := 0) X dX13_gather_80 (by decide) ?_
      exact q_iret X hr dX13_gather_81 (rfP_T (by rw [specE]; exact gLim_n hlim) cOp_UO ⟨vA, nA, pA, plA, dg, dla, dha, dva, dza, dvf, dzf, vf, nf, pf, tk, su, le, gr, hB3⟩)
  show qJ G F _ 9 M 5 4108 0 [(0, .ref r), (1, .int a), (2, .int d), (3, .int what)] []
  refine q_aload_n X dX13_gather_0 0 rfl ?_
  rcases Nat.lt_or_ge (aN σ).length 150 with q150 | q150
  · refine q_callV X (c_full_y hB q150) Y_X13_full tw_1332 tw_1334 sel_27 hB.1 rfl (by omega) rfl rfl (Nat.le_of_ble_eq_true rfl) (rc' := 5) (rs' := 4108) (by omega) (by omega) dX13_gather_1 (fun v M' hp _ => ?_)
    obtain ⟨rfl, eM⟩ := hp
    have hB149 : rfB G M' r 0 σ vA nA pA plA dg dla dha dva dza dvf dzf vf nf pf tk su le gr := by rw [eM]; exact hB.ro
    clear eM
    generalize M' = M149 at *
    show qJ G F _ 9 M149 5 4108 4 [(0, .ref r), (1, .int a), (2, .int d), (3, .int what)] [.int 0]
    obtain ⟨z_50r, z_501, z_502, z_503, ⟨z_50x, z_504⟩, z_505, z_506, z_507, z_508, z_509, z_5010⟩ := id hB149
    refine q_if_eq X 9 dX13_gather_4 (by decide) (fun c_51 => ?_) (fun c_51 => absurd (by decide) c_51)
    refine q_aload_n X dX13_gather_9 0 rfl ?_
    refine q_aload_n X dX13_gather_10 0 rfl ?_
    refine q_iload_n X dX13_gather_11 1 rfl ?_
    refine q_iload_n X dX13_gather_12 2 rfl ?_
    rcases hnd : ndAt σ a with _ | w
    · refine q_callVp X (c_noDim_n hB149 (by omega) hnd) Y_X13_noDim tw_1347 tw_1349 sel_29 z_50r rfl (by omega) rfl rfl (Nat.le_of_ble_eq_true rfl) dX13_gather_13 ?_
      refine q_if_ne X 41 dX13_gather_16 (by decide) (fun c16 => ?_) (fun c16 => absurd c16 (by decide))
      refine q_iconst (v := 1) X dX13_gather_41 (by decide) ?_
      refine q_goto X 46 dX13_gather_42 (by decide) ?_
      refine q_iconst (v := 1) X dX13_gather_46 (by decide) ?_
      refine q_callV X (c_fails1 (why := 1) hB149.1) Y_X13_fails tw_1246 tw_1248 sel_23 z_50r rfl (by omega) rfl rfl (Nat.le_of_ble_eq_true rfl) (rc' := 5) (rs' := 4108) (by omega) (by omega) dX13_gather_47 (fun v M' hp _ => ?_)
      obtain ⟨rfl, eM⟩ := hp
      have hB152 : rfB G M' r 1 σ vA nA pA plA dg dla dha dva dza dvf dzf vf nf pf tk su le gr := by rw [eM]; exact hB149.ro
      clear eM
      generalize M' = M152 at *
      show qJ G F _ 9 M152 5 4108 50 [(0, .ref r), (1, .int a), (2, .int d), (3, .int what)] [.int 1]
      obtain ⟨z_53r, z_531, z_532, z_533, ⟨z_53x, z_534⟩, z_535, z_536, z_537, z_538, z_539, z_5310⟩ := id hB152
      refine q_if_eq X 55 dX13_gather_50 (by decide) (fun c_54 => absurd c_54 (by decide)) (fun c_54 => ?_)
      refine q_iconst (v := 0) X dX13_gather_53 (by decide) ?_
      exact q_iret X hr dX13_gather_54 (rfP_T ((gRoom_y q150).trans (gNode_n hnd)) cOp_IA ⟨vA, nA, pA, plA, dg, dla, dha, dva, dza, dvf, dzf, vf, nf, pf, tk, su, le, gr, hB152⟩)
    · obtain ⟨i, hi9, rfl, hi⟩ := ndAt_some hnd
      have hw := hW.2 i w hi
      have hi150 : i < 150 := by omega
      obtain ⟨o, hnfo, ola, oha, ova, oza, ovf, ozf, hO, bo1, bo2, bo3, bo4⟩ := hB149.2.2.2.2.2.2.2.2.1 i w hi
      refine q_callVp X (c_noDim_y hB149 hl150 hi) Y_X13_noDim tw_1347 tw_1349 sel_29 z_50r rfl (by omega) rfl rfl (Nat.le_of_ble_eq_true rfl) dX13_gather_13 ?_
      refine q_if_ne X 41 dX13_gather_16 (by decide) (fun c16 => ?_) (fun c16 => ?_)
      · refine q_iconst (v := 1) X dX13_gather_41 (by decide) ?_
        refine q_goto X 46 dX13_gather_42 (by decide) ?_
        refine q_iconst (v := 1) X dX13_gather_46 (by decide) ?_
        refine q_callV X (c_fails1 (why := 1) hB149.1) Y_X13_fails tw_1246 tw_1248 sel_23 z_50r rfl (by omega) rfl rfl (Nat.le_of_ble_eq_true rfl) (rc' := 5) (rs' := 4108) (by omega) (by omega) dX13_gather_47 (fun v M' hp _ => ?_)
        obtain ⟨rfl, eM⟩ := hp
        have hB155 : rfB G M' r 1 σ vA nA pA plA dg dla dha dva dza dvf dzf vf nf pf tk su le gr := by rw [eM]; exact hB149.ro
        clear eM
        generalize M' = M155 at *
        show qJ G F _ 9 M155 5 4108 50 [(0, .ref r), (1, .int (nI i)), (2, .int d), (3, .int what)] [.int 1]
        obtain ⟨z_56r, z_561, z_562, z_563, ⟨z_56x, z_564⟩, z_565, z_566, z_567, z_568, z_569, z_5610⟩ := id hB155
        refine q_if_eq X 55 dX13_gather_50 (by decide) (fun c_57 => absurd c_57 (by decide)) (fun c_57 => ?_)
        refine q_iconst (v := 0) X dX13_gather_53 (by decide) ?_
        exact q_iret X hr dX13_gather_54 (rfP_T ((gRoom_y q150).trans ((gNode_y hnd).trans (gNeed_n (fun z => z.1 (Classical.not_not.mp (mt nHas_0.mpr c16)))))) cOp_IA ⟨vA, nA, pA, plA, dg, dla, dha, dva, dza, dvf, dzf, vf, nf, pf, tk, su, le, gr, hB155⟩)
      · obtain ⟨jd, hjd, rfl⟩ := sHas_in hw.1.2.1 (nHas_0.mp c16)
        have hj3 : jd < 3 := Nat.lt_of_lt_of_le hjd hw.1.2.1
        refine q_aload_n X dX13_gather_19 0 rfl ?_
        refine q_get X z_50r rfl in_RX13 2 (by decide) tw_1196 rfl rfl dX13_gather_20 ?_
        refine q_iload_n X dX13_gather_23 1 rfl ?_
        refine q_gald X i z_502 (rfl) (hi150) (by decide) hnfo dX13_gather_24 ?_
        refine q_get X hO.1 rfl in_RX12 0 (by decide) tw_1156 rfl rfl dX13_gather_25 ?_
        refine q_iconst (v := 1) X dX13_gather_28 (by decide) ?_
        refine q_icmp_eq X 41 dX13_gather_29 (by decide) (fun c29 => ?_) (fun c29 => ?_)
        · refine q_iconst (v := 1) X dX13_gather_41 (by decide) ?_
          refine q_goto X 46 dX13_gather_42 (by decide) ?_
          refine q_iconst (v := 1) X dX13_gather_46 (by decide) ?_
          refine q_callV X (c_fails1 (why := 1) hB149.1) Y_X13_fails tw_1246 tw_1248 sel_23 z_50r rfl (by omega) rfl rfl (Nat.le_of_ble_eq_true rfl) (rc' := 5) (rs' := 4108) (by omega) (by omega) dX13_gather_47 (fun v M' hp _ => ?_)
          obtain ⟨rfl, eM⟩ := hp
          have hB158 : rfB G M' r 1 σ vA nA pA plA dg dla dha dva dza dvf dzf vf nf pf tk su le gr := by rw [eM]; exact hB149.ro
          clear eM
          generalize M' = M158 at *
          show qJ G F _ 9 M158 5 4108 50 [(0, .ref r), (1, .int (nI i)), (2, .int (nI jd)), (3, .int what)] [.int 1]
          obtain ⟨z_59r, z_591, z_592, z_593, ⟨z_59x, z_594⟩, z_595, z_596, z_597, z_598, z_599, z_5910⟩ := id hB158
          refine q_if_eq X 55 dX13_gather_50 (by decide) (fun c_60 => absurd c_60 (by decide)) (fun c_60 => ?_)
          refine q_iconst (v := 0) X dX13_gather_53 (by decide) ?_
          exact q_iret X hr dX13_gather_54 (rfP_T ((gRoom_y q150).trans ((gNode_y hnd).trans (gNeed_n (fun z => z.2.1 (by rw [c29]; decide))))) cOp_IA ⟨vA, nA, pA, plA, dg, dla, dha, dva, dza, dvf, dzf, vf, nf, pf, tk, su, le, gr, hB158⟩)
        · refine q_iload_n X dX13_gather_32 3 rfl ?_
          refine q_if_lt X 41 dX13_gather_33 (by decide) (fun c33 => ?_) (fun c33 => ?_)
          · refine q_iconst (v := 1) X dX13_gather_41 (by decide) ?_
            refine q_goto X 46 dX13_gather_42 (by decide) ?_
            refine q_iconst (v := 1) X dX13_gather_46 (by decide) ?_
            refine q_callV X (c_fails1 (why := 1) hB149.1) Y_X13_fails tw_1246 tw_1248 sel_23 z_50r rfl (by omega) rfl rfl (Nat.le_of_ble_eq_true rfl) (rc' := 5) (rs' := 4108) (by omega) (by omega) dX13_gather_47 (fun v M' hp _ => ?_)
            obtain ⟨rfl, eM⟩ := hp
            have hB161 : rfB G M' r 1 σ vA nA pA plA dg dla dha dva dza dvf dzf vf nf pf tk su le gr := by rw [eM]; exact hB149.ro
            clear eM
            generalize M' = M161 at *
            show qJ G F _ 9 M161 5 4108 50 [(0, .ref r), (1, .int (nI i)), (2, .int (nI jd)), (3, .int what)] [.int 1]
            obtain ⟨z_62r, z_621, z_622, z_623, ⟨z_62x, z_624⟩, z_625, z_626, z_627, z_628, z_629, z_6210⟩ := id hB161
            refine q_if_eq X 55 dX13_gather_50 (by decide) (fun c_63 => absurd c_63 (by decide)) (fun c_63 => ?_)
            refine q_iconst (v := 0) X dX13_gather_53 (by decide) ?_
            exact q_iret X hr dX13_gather_54 (rfP_T ((gRoom_y q150).trans ((gNode_y hnd).trans (gNeed_n (fun z => z.2.2 (tKn_n (Or.inl c33)))))) cOp_IA ⟨vA, nA, pA, plA, dg, dla, dha, dva, dza, dvf, dzf, vf, nf, pf, tk, su, le, gr, hB161⟩)
          · refine q_iload_n X dX13_gather_36 3 rfl ?_
            refine q_iconst (v := 3) X dX13_gather_37 (by decide) ?_
            refine q_icmp_le X 45 dX13_gather_38 (by decide) (fun c38 => ?_) (fun c38 => ?_)
            · refine q_iconst (v := 0) X dX13_gather_45 (by decide) ?_
              refine q_iconst (v := 1) X dX13_gather_46 (by decide) ?_
              refine q_callV X (c_fails0 (why := 1) hB149.1) Y_X13_fails tw_1246 tw_1248 sel_23 z_50r rfl (by omega) rfl rfl (Nat.le_of_ble_eq_true rfl) (rc' := 5) (rs' := 4108) (by omega) (by omega) dX13_gather_47 (fun v M' hp _ => ?_)
              obtain ⟨rfl, eM⟩ := hp
              have hB164 : rfB G M' r 0 σ vA nA pA plA dg dla dha dva dza dvf dzf vf nf pf tk su le gr := by rw [eM]; exact hB149.ro
              clear eM
              generalize M' = M164 at *
              show qJ G F _ 9 M164 5 4108 50 [(0, .ref r), (1, .int (nI i)), (2, .int (nI jd)), (3, .int what)] [.int 0]
              obtain ⟨z_65r, z_651, z_652, z_653, ⟨z_65x, z_654⟩, z_655, z_656, z_657, z_658, z_659, z_6510⟩ := id hB164
              refine q_if_eq X 55 dX13_gather_50 (by decide) (fun c_66 => ?_) (fun c_66 => absurd (by decide) c_66)
              have hm2 : 2 ≤ vm w := by have a1 := hw.1.1; have a3 := hw.1.2.1; by_cases q : vm w = 1; exact absurd (show nI (vm w) = 1 by rw [q]; rfl) c29; omega
              have hm29 : ¬ nI (vm w) ≤ 1 := fun z => by have := (m_le (k := 1) hw.1.2.1 (by decide)).mp z; omega
              refine q_sub [0, 1, 2, 3] rfl ?_
              exact tail _ i w hB164 hi hw q150 jd hjd hm2 (by unfold sp_gather; rw [nI_nn (show jd < 2 ^ 31 by omega)]; exact (gRoom_y q150).trans ((gNode_y hnd).trans (gNeed_y ⟨nHas_0.mp c16, hm29, tKn_y c33 c38⟩)))
            · refine q_iconst (v := 1) X dX13_gather_41 (by decide) ?_
              refine q_goto X 46 dX13_gather_42 (by decide) ?_
              refine q_iconst (v := 1) X dX13_gather_46 (by decide) ?_
              refine q_callV X (c_fails1 (why := 1) hB149.1) Y_X13_fails tw_1246 tw_1248 sel_23 z_50r rfl (by omega) rfl rfl (Nat.le_of_ble_eq_true rfl) (rc' := 5) (rs' := 4108) (by omega) (by omega) dX13_gather_47 (fun v M' hp _ => ?_)
              obtain ⟨rfl, eM⟩ := hp
              have hB167 : rfB G M' r 1 σ vA nA pA plA dg dla dha dva dza dvf dzf vf nf pf tk su le gr := by rw [eM]; exact hB149.ro
              clear eM
              generalize M' = M167 at *
              show qJ G F _ 9 M167 5 4108 50 [(0, .ref r), (1, .int (nI i)), (2, .int (nI jd)), (3, .int what)] [.int 1]
              obtain ⟨z_68r, z_681, z_682, z_683, ⟨z_68x, z_684⟩, z_685, z_686, z_687, z_688, z_689, z_6810⟩ := id hB167
              refine q_if_eq X 55 dX13_gather_50 (by decide) (fun c_69 => absurd c_69 (by decide)) (fun c_69 => ?_)
              refine q_iconst (v := 0) X dX13_gather_53 (by decide) ?_
              exact q_iret X hr dX13_gather_54 (rfP_T ((gRoom_y q150).trans ((gNode_y hnd).trans (gNeed_n (fun z => z.2.2 (tKn_n (Or.inr c38)))))) cOp_IA ⟨vA, nA, pA, plA, dg, dla, dha, dva, dza, dvf, dzf, vf, nf, pf, tk, su, le, gr, hB167⟩)
  · refine q_callV X (c_full_n hB q150 hl150) Y_X13_full tw_1332 tw_1334 sel_27 hB.1 rfl (by omega) rfl rfl (Nat.le_of_ble_eq_true rfl) (rc' := 5) (rs' := 4108) (by omega) (by omega) dX13_gather_1 (fun v M' hp _ => ?_)
    obtain ⟨rfl, eM⟩ := hp
    have hB170 : rfB G M' r 2 σ vA nA pA plA dg dla dha dva dza dvf dzf vf nf pf tk su le gr := by rw [eM]; exact hB.ro
    clear eM
    generalize M' = M170 at *
    show qJ G F _ 9 M170 5 4108 4 [(0, .ref r), (1, .int a), (2, .int d), (3, .int what)] [.int 1]
    obtain ⟨z_71r, z_711, z_712, z_713, ⟨z_71x, z_714⟩, z_715, z_716, z_717, z_718, z_719, z_7110⟩ := id hB170
    refine q_if_eq X 9 dX13_gather_4 (by decide) (fun c_72 => absurd c_72 (by decide)) (fun c_72 => ?_)
    refine q_iconst (v := 0) X dX13_gather_7 (by decide) ?_
    exact q_iret X hr dX13_gather_8 (rfP_T (gRoom_n (Nat.not_lt.mpr q150)) cOp_IO ⟨vA, nA, pA, plA, dg, dla, dha, dva, dza, dvf, dzf, vf, nf, pf, tk, su, le, gr, hB170⟩)
