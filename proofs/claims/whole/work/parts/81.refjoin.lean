/-! the reference: join -/
theorem meetB_f {lo hi lo2 hi2 : Nat → Int32} (k : Nat) : meetB false lo hi lo2 hi2 k = false := by
  induction k with
  | zero => rfl
  | succ k ih => unfold meetB; rw [ih]; rfl
theorem meetB_t {lo hi lo2 hi2 : Nat → Int32} {k : Nat} (h : ∀ d, d < k → lo d ≤ hi2 d ∧ lo2 d ≤ hi d) : meetB true lo hi lo2 hi2 k = true := by
  induction k with
  | zero => rfl
  | succ k ih => unfold meetB; rw [ih (fun d hd => h d (by omega)), decide_eq_true (h k (by omega)).1, decide_eq_true (h k (by omega)).2]; rfl
theorem jn_meet {m : Nat} {lo hi lo2 hi2 : Nat → Int32} (hm : m ≤ 3) {z : Bool} (hz : z = true) (h0 : mxI (lo 0) (lo2 0) ≤ mnI (hi 0) (hi2 0)) (h1 : mxI (lo 1) (lo2 1) ≤ mnI (hi 1) (hi2 1)) (h2 : mxI (lo 2) (lo2 2) ≤ mnI (hi 2) (hi2 2)) : ¬ bI (meetB z lo hi lo2 hi2 m) = 0 := by
  subst hz
  have q : ∀ d, d < 3 → mxI (lo d) (lo2 d) ≤ mnI (hi d) (hi2 d) → lo d ≤ hi2 d ∧ lo2 d ≤ hi d := fun d _ h => by
    rw [Int32.le_iff_toInt_le, mxI_t, mnI_t] at h
    rw [Int32.le_iff_toInt_le, Int32.le_iff_toInt_le]; omega
  rw [meetB_t (fun d hd => by rcases (show d = 0 ∨ d = 1 ∨ d = 2 by omega) with rfl | rfl | rfl; exact q 0 (by decide) h0; exact q 1 (by decide) h1; exact q 2 (by decide) h2)]
  decide
theorem jn_no {m m2 : Nat} {lo hi lo2 hi2 : Nat → Int32} (h : okS m lo hi) (h2 : okS m2 lo2 hi2) {d : Nat} (hd : d < 3) (hn : ¬ mxI (lo d) (lo2 d) ≤ mnI (hi d) (hi2 d)) : ¬ ¬ bI (meetB (decide (nI m = nI m2)) lo hi lo2 hi2 m) = 0 := fun z => by
  have a := (okS_jn h h2 z).2.2.2.1 d hd
  rw [jnF_at hd, jnF_at hd] at a
  rw [Int32.le_iff_toInt_le] at hn
  omega
theorem mx_nI {a b : Nat} (ha : a ≤ 40) (hb : b ≤ 40) : mxI (nI a) (nI b) = nI (max a b) := by
  apply Int32.toInt_inj.mp; rw [mxI_t, nI_toInt (by omega), nI_toInt (by omega), nI_toInt (by omega)]; omega
theorem mx_dp {a b : Nat} (ha : a ≤ 40) (hb : b ≤ 40) : 1 + mxI (nI a) (nI b) = nI (max a b + 1) := by rw [mx_nI ha hb, Int32.add_comm, nI_1]
/-- places of what is joined lie in both -/
theorem jn_in {m : Nat} {lo hi LO HI : Nat → Int32} (h : okS m lo hi) (hL : ∀ d, d < 3 → (lo d).toInt ≤ (LO d).toInt ∧ (HI d).toInt ≤ (hi d).toInt) (hk : okS m LO HI) {e j k : Nat} (he : e < sN LO HI 0) (hj : j < sN LO HI 1) (hk2 : k < sN LO HI 2) : ¬ gIn lo hi (LO 0 + nI e) (LO 1 + nI j) (LO 2 + nI k) = 0 := by
  have dd : ∀ {d a : Nat}, d < 3 → a < sN LO HI d → (lo d).toInt ≤ (LO d + nI a).toInt ∧ (LO d + nI a).toInt ≤ (hi d).toInt := fun {d a} hd ha => by
    have b := hk.2.2.1 d hd
    have n := hk.N hd
    have q := hL d hd
    rw [i_add (by rw [nI_toInt (by omega)]; omega) (by rw [nI_toInt (by omega)]; omega), nI_toInt (by omega)]
    omega
  exact gIn_1.mpr ⟨dd (by decide) he, dd (by decide) hj, dd (by decide) hk2⟩
theorem joD_st {w u : vN} (hw : vOk w) (hu : vOk u) (em : vm w = vm u) {lo hi : Nat → Int32} (h : okS (vm w) lo hi) (hz : sz3 lo hi ≤ 4096) {op : Int32} {e j k : Nat} (he : e < sN lo hi 0) (hj : j < sN lo hi 1) (hk : k < sN lo hi 2) : joD w u lo hi op (c3 (sN lo hi 1) (sN lo hi 2) e j k) = (frV w (lo 0 + nI e) (lo 1 + nI j) (lo 2 + nI k)).bind (fun v => (frV u (lo 0 + nI e) (lo 1 + nI j) (lo 2 + nI k)).map (joinD op v)) := by
  obtain ⟨p0, p1, p2⟩ := pl3_c3 h hz he hj hk
  have q := frV_w hw (x := lo 0 + nI e) (y := lo 1 + nI j) (z := lo 2 + nI k)
  rw [c1n_id h hj, c2n_id h hk] at q
  have q2 := frV_w hu (x := lo 0 + nI e) (y := lo 1 + nI j) (z := lo 2 + nI k)
  rw [← em, c1n_id h hj, c2n_id h hk] at q2
  rw [q, q2]
  unfold joD
  rw [p0, p1, p2]

set_option maxRecDepth 20000 in
theorem r_join {l : Launch} {G : gV} {M : gMem} {r : Nat} {e : Int32} {σ : sA} (hW : gvW σ) (hR : isRF G M r e σ) {a b op : Int32} : qC l G yX13_join cX13_join 18 (some .int) 6 5 4108 [.ref r, .int a, .int b, .int op] M (rfP G r cOp (some (.int 0)) (sp_join σ a b op)) := by
  refine qC_of (by decide +kernel) (Nat.le_of_ble_eq_true rfl) (fun F hF X hr hn => ?_)
  subst hF
  have X : qX G F cX13_join 18 RX13 6 := X
  obtain ⟨vA, nA, pA, plA, dg, dla, dha, dva, dza, dvf, dzf, vf, nf, pf, tk, su, le, gr, hB⟩ := hR
  have hl150 := hW.1.2.2.2.2.1
  have hl41 := hW.1.2.2.2.1
  have tail : ∀ (M : gMem) (i i2 : Nat) (w u : vN) (hB : rfB G M r 0 σ vA nA pA plA dg dla dha dva dza dvf dzf vf nf pf tk su le gr) (hi : (aN σ)[i]? = some w) (hi2 : (aN σ)[i2]? = some u) (hw : vOk w) (hwu : vOk u) (h150 : (aN σ).length < 150) (c1 : ¬ op < 0) (c2 : ¬ nI 6 ≤ op) (em : vm w = vm u) (specE : sp_join σ (nI i) (nI i2) op = gNeed σ (¬ bI (meetB (decide (nI (vm w) = nI (vm u))) (vlo w) (vhi w) (vlo u) (vhi u) (vm w)) = 0) (gLim σ (jnF mxI (vlo w) (vlo u)) (jnF mnI (vhi w) (vhi u)) (mxI (nI (vdp w)) (nI (vdp u))) (oN σ (vm w, jnF mxI (vlo w) (vlo u), jnF mnI (vhi w) (vhi u), max (vdp w) (vdp u) + 1, joD w u (jnF mxI (vlo w) (vlo u)) (jnF mnI (vhi w) (vhi u)) op)))), qJ G F (qQ G F (rfP G r cOp (some (.int 0)) (sp_join σ (nI i) (nI i2) op))) 18 M 5 4108 70 [(0, .ref r), (1, .int (nI i)), (2, .int (nI i2)), (3, .int op)] [] := by
    intro M i i2 w u hB hi hi2 hw hwu h150 c1 c2 em specE
    obtain ⟨o, hnfo, ola, oha, ova, oza, ovf, ozf, hO, bo1, bo2, bo3, bo4⟩ := hB.2.2.2.2.2.2.2.2.1 i w hi
    obtain ⟨s, hnfs, sla, sha, sva, sza, svf, szf, hOs, bs1, bs2, bs3, bs4⟩ := hB.2.2.2.2.2.2.2.2.1 i2 u hi2
    have hi150 : i < 150 := Nat.lt_of_lt_of_le (List.getElem?_eq_some_iff.mp hi).1 (by omega)
    have hi2150 : i2 < 150 := Nat.lt_of_lt_of_le (List.getElem?_eq_some_iff.mp hi2).1 (by omega)
    obtain ⟨pl0, hpl0⟩ := hB.2.2.2.2.1
    have hmx : max (vdp w) (vdp u) ≤ 40 := by have := hw.2.2; have := hwu.2.2; omega
    obtain ⟨LO, eLO⟩ : ∃ LO, LO = jnF mxI (vlo w) (vlo u) := ⟨_, rfl⟩
    obtain ⟨HI, eHI⟩ : ∃ HI, HI = jnF mnI (vhi w) (vhi u) := ⟨_, rfl⟩
    rw [← eLO, ← eHI, mx_nI hw.2.2 hwu.2.2] at specE
    have hLw : ∀ d, d < 3 → (vlo w d).toInt ≤ (LO d).toInt ∧ (HI d).toInt ≤ (vhi w d).toInt := fun d hd => by rw [eLO, eHI, jnF_at hd, jnF_at hd, mxI_t, mnI_t]; omega
    have hLu : ∀ d, d < 3 → (vlo u d).toInt ≤ (LO d).toInt ∧ (HI d).toInt ≤ (vhi u d).toInt := fun d hd => by rw [eLO, eHI, jnF_at hd, jnF_at hd, mxI_t, mnI_t]; omega
    refine q_aload_n X dX13_join_70 0 rfl ?_
    refine q_get X hB.1 rfl in_RX13 2 (by decide) tw_1196 rfl rfl dX13_join_71 ?_
    refine q_iload_n X dX13_join_74 1 rfl ?_
    refine q_gald X i hB.2.2.1 (rfl) (hi150) (by decide) hnfo dX13_join_75 ?_
    refine q_astore (lv' := [(4, .ref o), (0, .ref r), (1, .int (nI i)), (2, .int (nI i2)), (3, .int op)]) X dX13_join_76 (by decide) rfl ?_
    refine q_aload_n X dX13_join_78 1 rfl ?_
    refine q_get X hB.1 rfl in_RX13 2 (by decide) tw_1196 rfl rfl dX13_join_79 ?_
    refine q_iload_n X dX13_join_82 3 rfl ?_
    refine q_gald X i2 hB.2.2.1 (rfl) (hi2150) (by decide) hnfs dX13_join_83 ?_
    refine q_astore (lv' := [(5, .ref s), (4, .ref o), (0, .ref r), (1, .int (nI i)), (2, .int (nI i2)), (3, .int op)]) X dX13_join_84 (by decide) rfl ?_
    refine q_aload X dX13_join_86 1 rfl ?_
    refine q_iconst (v := 1) X dX13_join_88 (by decide) ?_
    refine q_aload X dX13_join_89 1 rfl ?_
    refine q_get X hO.1 rfl in_RX12 1 (by decide) tw_1157 rfl rfl dX13_join_91 ?_
    refine q_aload X dX13_join_94 0 rfl ?_
    refine q_get X hOs.1 rfl in_RX12 1 (by decide) tw_1157 rfl rfl dX13_join_96 ?_
    refine q_callSp X (c_J9_max_7cf53) Y_J9_max_7cf53 tw_1394 tw_123 (by omega) rfl rfl (Nat.le_of_ble_eq_true rfl) dX13_join_99 ?_
    refine q_iadd X dX13_join_102 ?_
    rw [mx_dp hw.2.2 hwu.2.2]
    refine q_callS X (c_like hO.1 hO.2.1 hO.2.2.1) Y_X13_like tw_1336 tw_1337 (by omega) rfl rfl (Nat.le_of_ble_eq_true rfl) (rc' := 2) (rs' := 4096) (by omega) (by omega) dX13_join_103 (fun v M' hp _ => ?_)
    obtain ⟨q, la, ha, rfl, fq, fla, fha, llh, llq, lhq, hq1, hla1, hha1, ev1⟩ := hp
    generalize M' = M1 at *
    have m_1 : M1 r = some (oB 13 [.int 0, .ref vA, .ref nA, .ref pA, .ref plA, .ref dg, .int (nI (aV σ).length), .int (nI (aN σ).length), .int (nI (aOf σ)), .int (nI (aBg σ)), .int tk, .long su, .long le, .long gr]) := ev1.keep hB.1 id
    have m_2 : M1 nA = some (aG G 150 nf) := ev1.keep hB.2.2.1 id
    have m_3 : M1 o = some (oB 12 [.int (nI (vm w)), .int (nI (vdp w)), .ref ola, .ref oha, .ref ova, .ref oza]) := ev1.keep hO.1 id
    have m_4 : M1 ola = some (aI G 3 (vlo w)) := ev1.keep hO.2.1 id
    have m_5 : M1 oha = some (aI G 3 (vhi w)) := ev1.keep hO.2.2.1 id
    have m_6 : M1 ova = some (aJ G (wsz w) ovf) := ev1.keep hO.2.2.2.1 id
    have m_7 : M1 oza = some (aZ G (wsz w) ozf) := ev1.keep hO.2.2.2.2.1 id
    have m_8 : M1 s = some (oB 12 [.int (nI (vm u)), .int (nI (vdp u)), .ref sla, .ref sha, .ref sva, .ref sza]) := ev1.keep hOs.1 id
    have m_9 : M1 sla = some (aI G 3 (vlo u)) := ev1.keep hOs.2.1 id
    have m_10 : M1 sha = some (aI G 3 (vhi u)) := ev1.keep hOs.2.2.1 id
    have m_11 : M1 sva = some (aJ G (wsz u) svf) := ev1.keep hOs.2.2.2.1 id
    have m_12 : M1 sza = some (aZ G (wsz u) szf) := ev1.keep hOs.2.2.2.2.1 id
    have m_13 : M1 plA = some (aI G 3 pl0) := ev1.keep hpl0 id
    have evK1 : mEv (fun x => x = r ∨ x = plA) M M1 := ev1.mono (fun _ _ z => z.elim)
    show qJ G F _ 18 M1 2 4096 106 [(5, .ref s), (4, .ref o), (0, .ref r), (1, .int (nI i)), (2, .int (nI i2)), (3, .int op)] [.ref q]
    refine q_astore (lv' := [(6, .ref q), (5, .ref s), (4, .ref o), (0, .ref r), (1, .int (nI i)), (2, .int (nI i2)), (3, .int op)]) X dX13_join_106 (by decide) rfl ?_
    refine q_iconst (v := 1) X dX13_join_108 (by decide) ?_
    refine q_istore (lv' := [(7, .int 1), (6, .ref q), (5, .ref s), (4, .ref o), (0, .ref r), (1, .int (nI i)), (2, .int (nI i2)), (3, .int op)]) X dX13_join_109 (by decide) rfl ?_
    refine q_iconst (v := 0) X dX13_join_111 (by decide) ?_
    refine q_istore (lv' := [(8, .int 0), (7, .int 1), (6, .ref q), (5, .ref s), (4, .ref o), (0, .ref r), (1, .int (nI i)), (2, .int (nI i2)), (3, .int op)]) X dX13_join_112 (by decide) rfl ?_
    refine q_iload X dX13_join_114 0 rfl ?_
    refine q_iconst (v := 3) X dX13_join_116 (by decide) ?_
    refine q_icmp_ge X 202 dX13_join_117 (by decide) (fun c_14 => absurd c_14 (by decide)) (fun c_14 => ?_)
    refine q_aload X dX13_join_120 2 rfl ?_
    refine q_get X hq1 rfl in_RX12 2 (by decide) tw_1159 rfl rfl dX13_join_122 ?_
    refine q_iload X dX13_join_125 0 rfl ?_
    refine q_aload X dX13_join_127 4 rfl ?_
    refine q_get X m_3 rfl in_RX12 2 (by decide) tw_1159 rfl rfl dX13_join_129 ?_
    refine q_iload X dX13_join_132 0 rfl ?_
    refine q_ialdN X 0 m_4 (rfl) (by decide) (by decide) dX13_join_134 ?_
    refine q_aload X dX13_join_135 3 rfl ?_
    refine q_get X m_8 rfl in_RX12 2 (by decide) tw_1159 rfl rfl dX13_join_137 ?_
    refine q_iload X dX13_join_140 0 rfl ?_
    refine q_ialdN X 0 m_9 (rfl) (by decide) (by decide) dX13_join_142 ?_
    refine q_callSp X (c_J9_max_7cf53) Y_J9_max_7cf53 tw_1394 tw_123 (by omega) rfl rfl (Nat.le_of_ble_eq_true rfl) dX13_join_143 ?_
    refine q_iastN X 0 hla1 (rfl) (by decide) (by decide) dX13_join_146 ?_
    have m_15 : (mU M1 la (aI G 3 (upd (vlo w) 0 (mxI ((vlo w) 0) ((vlo u) 0))))) r = some (oB 13 [.int 0, .ref vA, .ref nA, .ref pA, .ref plA, .ref dg, .int (nI (aV σ).length), .int (nI (aN σ).length), .int (nI (aOf σ)), .int (nI (aBg σ)), .int tk, .long su, .long le, .long gr]) := (mU_n (g_nef hB.1 fla)).trans m_1
    have m_16 : (mU M1 la (aI G 3 (upd (vlo w) 0 (mxI ((vlo w) 0) ((vlo u) 0))))) nA = some (aG G 150 nf) := (mU_n (g_nef hB.2.2.1 fla)).trans m_2
    have m_17 : (mU M1 la (aI G 3 (upd (vlo w) 0 (mxI ((vlo w) 0) ((vlo u) 0))))) o = some (oB 12 [.int (nI (vm w)), .int (nI (vdp w)), .ref ola, .ref oha, .ref ova, .ref oza]) := (mU_n (g_nef hO.1 fla)).trans m_3
    have m_18 : (mU M1 la (aI G 3 (upd (vlo w) 0 (mxI ((vlo w) 0) ((vlo u) 0))))) ola = some (aI G 3 (vlo w)) := (mU_n (g_nef hO.2.1 fla)).trans m_4
    have m_19 : (mU M1 la (aI G 3 (upd (vlo w) 0 (mxI ((vlo w) 0) ((vlo u) 0))))) oha = some (aI G 3 (vhi w)) := (mU_n (g_nef hO.2.2.1 fla)).trans m_5
    have m_20 : (mU M1 la (aI G 3 (upd (vlo w) 0 (mxI ((vlo w) 0) ((vlo u) 0))))) ova = some (aJ G (wsz w) ovf) := (mU_n (g_nef hO.2.2.2.1 fla)).trans m_6
    have m_21 : (mU M1 la (aI G 3 (upd (vlo w) 0 (mxI ((vlo w) 0) ((vlo u) 0))))) oza = some (aZ G (wsz w) ozf) := (mU_n (g_nef hO.2.2.2.2.1 fla)).trans m_7
    have m_22 : (mU M1 la (aI G 3 (upd (vlo w) 0 (mxI ((vlo w) 0) ((vlo u) 0))))) s = some (oB 12 [.int (nI (vm u)), .int (nI (vdp u)), .ref sla, .ref sha, .ref sva, .ref sza]) := (mU_n (g_nef hOs.1 fla)).trans m_8
    have m_23 : (mU M1 la (aI G 3 (upd (vlo w) 0 (mxI ((vlo w) 0) ((vlo u) 0))))) sla = some (aI G 3 (vlo u)) := (mU_n (g_nef hOs.2.1 fla)).trans m_9
    have m_24 : (mU M1 la (aI G 3 (upd (vlo w) 0 (mxI ((vlo w) 0) ((vlo u) 0))))) sha = some (aI G 3 (vhi u)) := (mU_n (g_nef hOs.2.2.1 fla)).trans m_10
    have m_25 : (mU M1 la (aI G 3 (upd (vlo w) 0 (mxI ((vlo w) 0) ((vlo u) 0))))) sva = some (aJ G (wsz u) svf) := (mU_n (g_nef hOs.2.2.2.1 fla)).trans m_11
    have m_26 : (mU M1 la (aI G 3 (upd (vlo w) 0 (mxI ((vlo w) 0) ((vlo u) 0))))) sza = some (aZ G (wsz u) szf) := (mU_n (g_nef hOs.2.2.2.2.1 fla)).trans m_12
    have m_27 : (mU M1 la (aI G 3 (upd (vlo w) 0 (mxI ((vlo w) 0) ((vlo u) 0))))) plA = some (aI G 3 pl0) := (mU_n (g_nef hpl0 fla)).trans m_13
    have m_28 : (mU M1 la (aI G 3 (upd (vlo w) 0 (mxI ((vlo w) 0) ((vlo u) 0))))) q = some (oB 12 [.int (nI (vm w)), .int (nI (max (vdp w) (vdp u) + 1)), .ref la, .ref ha, .null, .null]) := (mU_n (Ne.symm (llq))).trans hq1
    have m_29 : (mU M1 la (aI G 3 (upd (vlo w) 0 (mxI ((vlo w) 0) ((vlo u) 0))))) la = some (aI G 3 (upd (vlo w) 0 (mxI ((vlo w) 0) ((vlo u) 0)))) := mU_s
    have m_30 : (mU M1 la (aI G 3 (upd (vlo w) 0 (mxI ((vlo w) 0) ((vlo u) 0))))) ha = some (aI G 3 (vhi w)) := (mU_n (Ne.symm (llh))).trans hha1
    refine q_aload X dX13_join_147 2 rfl ?_
    refine q_get X m_28 rfl in_RX12 3 (by decide) tw_1161 rfl rfl dX13_join_149 ?_
    refine q_iload X dX13_join_152 0 rfl ?_
    refine q_aload X dX13_join_154 4 rfl ?_
    refine q_get X m_17 rfl in_RX12 3 (by decide) tw_1161 rfl rfl dX13_join_156 ?_
    refine q_iload X dX13_join_159 0 rfl ?_
    refine q_ialdN X 0 m_19 (rfl) (by decide) (by decide) dX13_join_161 ?_
    refine q_aload X dX13_join_162 3 rfl ?_
    refine q_get X m_22 rfl in_RX12 3 (by decide) tw_1161 rfl rfl dX13_join_164 ?_
    refine q_iload X dX13_join_167 0 rfl ?_
    refine q_ialdN X 0 m_24 (rfl) (by decide) (by decide) dX13_join_169 ?_
    refine q_callSp X (c_J9_min_7cf53) Y_J9_min_7cf53 tw_1321 tw_239 (by omega) rfl rfl (Nat.le_of_ble_eq_true rfl) dX13_join_170 ?_
    refine q_iastN X 0 m_30 (rfl) (by decide) (by decide) dX13_join_173 ?_
    have m_31 : (mU (mU M1 la (aI G 3 (upd (vlo w) 0 (mxI ((vlo w) 0) ((vlo u) 0))))) ha (aI G 3 (upd (vhi w) 0 (mnI ((vhi w) 0) ((vhi u) 0))))) r = some (oB 13 [.int 0, .ref vA, .ref nA, .ref pA, .ref plA, .ref dg, .int (nI (aV σ).length), .int (nI (aN σ).length), .int (nI (aOf σ)), .int (nI (aBg σ)), .int tk, .long su, .long le, .long gr]) := (mU_n (g_nef hB.1 fha)).trans m_15
    have m_32 : (mU (mU M1 la (aI G 3 (upd (vlo w) 0 (mxI ((vlo w) 0) ((vlo u) 0))))) ha (aI G 3 (upd (vhi w) 0 (mnI ((vhi w) 0) ((vhi u) 0))))) nA = some (aG G 150 nf) := (mU_n (g_nef hB.2.2.1 fha)).trans m_16
    have m_33 : (mU (mU M1 la (aI G 3 (upd (vlo w) 0 (mxI ((vlo w) 0) ((vlo u) 0))))) ha (aI G 3 (upd (vhi w) 0 (mnI ((vhi w) 0) ((vhi u) 0))))) o = some (oB 12 [.int (nI (vm w)), .int (nI (vdp w)), .ref ola, .ref oha, .ref ova, .ref oza]) := (mU_n (g_nef hO.1 fha)).trans m_17
    have m_34 : (mU (mU M1 la (aI G 3 (upd (vlo w) 0 (mxI ((vlo w) 0) ((vlo u) 0))))) ha (aI G 3 (upd (vhi w) 0 (mnI ((vhi w) 0) ((vhi u) 0))))) ola = some (aI G 3 (vlo w)) := (mU_n (g_nef hO.2.1 fha)).trans m_18
    have m_35 : (mU (mU M1 la (aI G 3 (upd (vlo w) 0 (mxI ((vlo w) 0) ((vlo u) 0))))) ha (aI G 3 (upd (vhi w) 0 (mnI ((vhi w) 0) ((vhi u) 0))))) oha = some (aI G 3 (vhi w)) := (mU_n (g_nef hO.2.2.1 fha)).trans m_19
    have m_36 : (mU (mU M1 la (aI G 3 (upd (vlo w) 0 (mxI ((vlo w) 0) ((vlo u) 0))))) ha (aI G 3 (upd (vhi w) 0 (mnI ((vhi w) 0) ((vhi u) 0))))) ova = some (aJ G (wsz w) ovf) := (mU_n (g_nef hO.2.2.2.1 fha)).trans m_20
    have m_37 : (mU (mU M1 la (aI G 3 (upd (vlo w) 0 (mxI ((vlo w) 0) ((vlo u) 0))))) ha (aI G 3 (upd (vhi w) 0 (mnI ((vhi w) 0) ((vhi u) 0))))) oza = some (aZ G (wsz w) ozf) := (mU_n (g_nef hO.2.2.2.2.1 fha)).trans m_21
    have m_38 : (mU (mU M1 la (aI G 3 (upd (vlo w) 0 (mxI ((vlo w) 0) ((vlo u) 0))))) ha (aI G 3 (upd (vhi w) 0 (mnI ((vhi w) 0) ((vhi u) 0))))) s = some (oB 12 [.int (nI (vm u)), .int (nI (vdp u)), .ref sla, .ref sha, .ref sva, .ref sza]) := (mU_n (g_nef hOs.1 fha)).trans m_22
    have m_39 : (mU (mU M1 la (aI G 3 (upd (vlo w) 0 (mxI ((vlo w) 0) ((vlo u) 0))))) ha (aI G 3 (upd (vhi w) 0 (mnI ((vhi w) 0) ((vhi u) 0))))) sla = some (aI G 3 (vlo u)) := (mU_n (g_nef hOs.2.1 fha)).trans m_23
    have m_40 : (mU (mU M1 la (aI G 3 (upd (vlo w) 0 (mxI ((vlo w) 0) ((vlo u) 0))))) ha (aI G 3 (upd (vhi w) 0 (mnI ((vhi w) 0) ((vhi u) 0))))) sha = some (aI G 3 (vhi u)) := (mU_n (g_nef hOs.2.2.1 fha)).trans m_24
    have m_41 : (mU (mU M1 la (aI G 3 (upd (vlo w) 0 (mxI ((vlo w) 0) ((vlo u) 0))))) ha (aI G 3 (upd (vhi w) 0 (mnI ((vhi w) 0) ((vhi u) 0))))) sva = some (aJ G (wsz u) svf) := (mU_n (g_nef hOs.2.2.2.1 fha)).trans m_25
    have m_42 : (mU (mU M1 la (aI G 3 (upd (vlo w) 0 (mxI ((vlo w) 0) ((vlo u) 0))))) ha (aI G 3 (upd (vhi w) 0 (mnI ((vhi w) 0) ((vhi u) 0))))) sza = some (aZ G (wsz u) szf) := (mU_n (g_nef hOs.2.2.2.2.1 fha)).trans m_26
    have m_43 : (mU (mU M1 la (aI G 3 (upd (vlo w) 0 (mxI ((vlo w) 0) ((vlo u) 0))))) ha (aI G 3 (upd (vhi w) 0 (mnI ((vhi w) 0) ((vhi u) 0))))) plA = some (aI G 3 pl0) := (mU_n (g_nef hpl0 fha)).trans m_27
    have m_44 : (mU (mU M1 la (aI G 3 (upd (vlo w) 0 (mxI ((vlo w) 0) ((vlo u) 0))))) ha (aI G 3 (upd (vhi w) 0 (mnI ((vhi w) 0) ((vhi u) 0))))) q = some (oB 12 [.int (nI (vm w)), .int (nI (max (vdp w) (vdp u) + 1)), .ref la, .ref ha, .null, .null]) := (mU_n (Ne.symm (lhq))).trans m_28
    have m_45 : (mU (mU M1 la (aI G 3 (upd (vlo w) 0 (mxI ((vlo w) 0) ((vlo u) 0))))) ha (aI G 3 (upd (vhi w) 0 (mnI ((vhi w) 0) ((vhi u) 0))))) la = some (aI G 3 (upd (vlo w) 0 (mxI ((vlo w) 0) ((vlo u) 0)))) := (mU_n (llh)).trans m_29
    have m_46 : (mU (mU M1 la (aI G 3 (upd (vlo w) 0 (mxI ((vlo w) 0) ((vlo u) 0))))) ha (aI G 3 (upd (vhi w) 0 (mnI ((vhi w) 0) ((vhi u) 0))))) ha = some (aI G 3 (upd (vhi w) 0 (mnI ((vhi w) 0) ((vhi u) 0)))) := mU_s
    refine q_aload X dX13_join_174 2 rfl ?_
    refine q_get X m_44 rfl in_RX12 2 (by decide) tw_1159 rfl rfl dX13_join_176 ?_
    refine q_iload X dX13_join_179 0 rfl ?_
    refine q_ialdN X 0 m_45 (rfl) (by decide) (by decide) dX13_join_181 ?_
    refine q_aload X dX13_join_182 2 rfl ?_
    refine q_get X m_44 rfl in_RX12 3 (by decide) tw_1161 rfl rfl dX13_join_184 ?_
    refine q_iload X dX13_join_187 0 rfl ?_
    refine q_ialdN X 0 m_46 (rfl) (by decide) (by decide) dX13_join_189 ?_
    show qJ G F _ 18 (mU (mU M1 la (aI G 3 (upd (vlo w) 0 (mxI ((vlo w) 0) ((vlo u) 0))))) ha (aI G 3 (upd (vhi w) 0 (mnI ((vhi w) 0) ((vhi u) 0))))) 2 4096 190 [(8, .int 0), (7, .int 1), (6, .ref q), (5, .ref s), (4, .ref o), (0, .ref r), (1, .int (nI i)), (2, .int (nI i2)), (3, .int op)] [.int (mnI (vhi w 0) (vhi u 0)), .int (mxI (vlo w 0) (vlo u 0))]
    refine q_icmp_le X 196 dX13_join_190 (by decide) (fun mm0 => ?_) (fun mm0 => ?_)
    · refine q_iinc (v := 1) (lv' := [(8, .int 1), (7, .int 1), (6, .ref q), (5, .ref s), (4, .ref o), (0, .ref r), (1, .int (nI i)), (2, .int (nI i2)), (3, .int op)]) X dX13_join_196 0 rfl (by decide) (by decide) rfl ?_
      refine q_goto X 114 dX13_join_199 (by decide) ?_
      refine q_iload X dX13_join_114 0 rfl ?_
      refine q_iconst (v := 3) X dX13_join_116 (by decide) ?_
      refine q_icmp_ge X 202 dX13_join_117 (by decide) (fun c_47 => absurd c_47 (by decide)) (fun c_47 => ?_)
      refine q_aload X dX13_join_120 2 rfl ?_
      refine q_get X m_44 rfl in_RX12 2 (by decide) tw_1159 rfl rfl dX13_join_122 ?_
      refine q_iload X dX13_join_125 0 rfl ?_
      refine q_aload X dX13_join_127 4 rfl ?_
      refine q_get X m_33 rfl in_RX12 2 (by decide) tw_1159 rfl rfl dX13_join_129 ?_
      refine q_iload X dX13_join_132 0 rfl ?_
      refine q_ialdN X 1 m_34 (rfl) (by decide) (by decide) dX13_join_134 ?_
      refine q_aload X dX13_join_135 3 rfl ?_
      refine q_get X m_38 rfl in_RX12 2 (by decide) tw_1159 rfl rfl dX13_join_137 ?_
      refine q_iload X dX13_join_140 0 rfl ?_
      refine q_ialdN X 1 m_39 (rfl) (by decide) (by decide) dX13_join_142 ?_
      refine q_callSp X (c_J9_max_7cf53) Y_J9_max_7cf53 tw_1394 tw_123 (by omega) rfl rfl (Nat.le_of_ble_eq_true rfl) dX13_join_143 ?_
      refine q_iastN X 1 m_45 (rfl) (by decide) (by decide) dX13_join_146 ?_
      have m_48 : (mU (mU (mU M1 la (aI G 3 (upd (vlo w) 0 (mxI ((vlo w) 0) ((vlo u) 0))))) ha (aI G 3 (upd (vhi w) 0 (mnI ((vhi w) 0) ((vhi u) 0))))) la (aI G 3 (upd (upd (vlo w) 0 (mxI ((vlo w) 0) ((vlo u) 0))) 1 (mxI ((vlo w) 1) ((vlo u) 1))))) r = some (oB 13 [.int 0, .ref vA, .ref nA, .ref pA, .ref plA, .ref dg, .int (nI (aV σ).length), .int (nI (aN σ).length), .int (nI (aOf σ)), .int (nI (aBg σ)), .int tk, .long su, .long le, .long gr]) := (mU_n (g_nef hB.1 fla)).trans m_31
      have m_49 : (mU (mU (mU M1 la (aI G 3 (upd (vlo w) 0 (mxI ((vlo w) 0) ((vlo u) 0))))) ha (aI G 3 (upd (vhi w) 0 (mnI ((vhi w) 0) ((vhi u) 0))))) la (aI G 3 (upd (upd (vlo w) 0 (mxI ((vlo w) 0) ((vlo u) 0))) 1 (mxI ((vlo w) 1) ((vlo u) 1))))) nA = some (aG G 150 nf) := (mU_n (g_nef hB.2.2.1 fla)).trans m_32
      have m_50 : (mU (mU (mU M1 la (aI G 3 (upd (vlo w) 0 (mxI ((vlo w) 0) ((vlo u) 0))))) ha (aI G 3 (upd (vhi w) 0 (mnI ((vhi w) 0) ((vhi u) 0))))) la (aI G 3 (upd (upd (vlo w) 0 (mxI ((vlo w) 0) ((vlo u) 0))) 1 (mxI ((vlo w) 1) ((vlo u) 1))))) o = some (oB 12 [.int (nI (vm w)), .int (nI (vdp w)), .ref ola, .ref oha, .ref ova, .ref oza]) := (mU_n (g_nef hO.1 fla)).trans m_33
      have m_51 : (mU (mU (mU M1 la (aI G 3 (upd (vlo w) 0 (mxI ((vlo w) 0) ((vlo u) 0))))) ha (aI G 3 (upd (vhi w) 0 (mnI ((vhi w) 0) ((vhi u) 0))))) la (aI G 3 (upd (upd (vlo w) 0 (mxI ((vlo w) 0) ((vlo u) 0))) 1 (mxI ((vlo w) 1) ((vlo u) 1))))) ola = some (aI G 3 (vlo w)) := (mU_n (g_nef hO.2.1 fla)).trans m_34
      have m_52 : (mU (mU (mU M1 la (aI G 3 (upd (vlo w) 0 (mxI ((vlo w) 0) ((vlo u) 0))))) ha (aI G 3 (upd (vhi w) 0 (mnI ((vhi w) 0) ((vhi u) 0))))) la (aI G 3 (upd (upd (vlo w) 0 (mxI ((vlo w) 0) ((vlo u) 0))) 1 (mxI ((vlo w) 1) ((vlo u) 1))))) oha = some (aI G 3 (vhi w)) := (mU_n (g_nef hO.2.2.1 fla)).trans m_35
      have m_53 : (mU (mU (mU M1 la (aI G 3 (upd (vlo w) 0 (mxI ((vlo w) 0) ((vlo u) 0))))) ha (aI G 3 (upd (vhi w) 0 (mnI ((vhi w) 0) ((vhi u) 0))))) la (aI G 3 (upd (upd (vlo w) 0 (mxI ((vlo w) 0) ((vlo u) 0))) 1 (mxI ((vlo w) 1) ((vlo u) 1))))) ova = some (aJ G (wsz w) ovf) := (mU_n (g_nef hO.2.2.2.1 fla)).trans m_36
      have m_54 : (mU (mU (mU M1 la (aI G 3 (upd (vlo w) 0 (mxI ((vlo w) 0) ((vlo u) 0))))) ha (aI G 3 (upd (vhi w) 0 (mnI ((vhi w) 0) ((vhi u) 0))))) la (aI G 3 (upd (upd (vlo w) 0 (mxI ((vlo w) 0) ((vlo u) 0))) 1 (mxI ((vlo w) 1) ((vlo u) 1))))) oza = some (aZ G (wsz w) ozf) := (mU_n (g_nef hO.2.2.2.2.1 fla)).trans m_37
      have m_55 : (mU (mU (mU M1 la (aI G 3 (upd (vlo w) 0 (mxI ((vlo w) 0) ((vlo u) 0))))) ha (aI G 3 (upd (vhi w) 0 (mnI ((vhi w) 0) ((vhi u) 0))))) la (aI G 3 (upd (upd (vlo w) 0 (mxI ((vlo w) 0) ((vlo u) 0))) 1 (mxI ((vlo w) 1) ((vlo u) 1))))) s = some (oB 12 [.int (nI (vm u)), .int (nI (vdp u)), .ref sla, .ref sha, .ref sva, .ref sza]) := (mU_n (g_nef hOs.1 fla)).trans m_38
      have m_56 : (mU (mU (mU M1 la (aI G 3 (upd (vlo w) 0 (mxI ((vlo w) 0) ((vlo u) 0))))) ha (aI G 3 (upd (vhi w) 0 (mnI ((vhi w) 0) ((vhi u) 0))))) la (aI G 3 (upd (upd (vlo w) 0 (mxI ((vlo w) 0) ((vlo u) 0))) 1 (mxI ((vlo w) 1) ((vlo u) 1))))) sla = some (aI G 3 (vlo u)) := (mU_n (g_nef hOs.2.1 fla)).trans m_39
      have m_57 : (mU (mU (mU M1 la (aI G 3 (upd (vlo w) 0 (mxI ((vlo w) 0) ((vlo u) 0))))) ha (aI G 3 (upd (vhi w) 0 (mnI ((vhi w) 0) ((vhi u) 0))))) la (aI G 3 (upd (upd (vlo w) 0 (mxI ((vlo w) 0) ((vlo u) 0))) 1 (mxI ((vlo w) 1) ((vlo u) 1))))) sha = some (aI G 3 (vhi u)) := (mU_n (g_nef hOs.2.2.1 fla)).trans m_40
      have m_58 : (mU (mU (mU M1 la (aI G 3 (upd (vlo w) 0 (mxI ((vlo w) 0) ((vlo u) 0))))) ha (aI G 3 (upd (vhi w) 0 (mnI ((vhi w) 0) ((vhi u) 0))))) la (aI G 3 (upd (upd (vlo w) 0 (mxI ((vlo w) 0) ((vlo u) 0))) 1 (mxI ((vlo w) 1) ((vlo u) 1))))) sva = some (aJ G (wsz u) svf) := (mU_n (g_nef hOs.2.2.2.1 fla)).trans m_41
      have m_59 : (mU (mU (mU M1 la (aI G 3 (upd (vlo w) 0 (mxI ((vlo w) 0) ((vlo u) 0))))) ha (aI G 3 (upd (vhi w) 0 (mnI ((vhi w) 0) ((vhi u) 0))))) la (aI G 3 (upd (upd (vlo w) 0 (mxI ((vlo w) 0) ((vlo u) 0))) 1 (mxI ((vlo w) 1) ((vlo u) 1))))) sza = some (aZ G (wsz u) szf) := (mU_n (g_nef hOs.2.2.2.2.1 fla)).trans m_42
      have m_60 : (mU (mU (mU M1 la (aI G 3 (upd (vlo w) 0 (mxI ((vlo w) 0) ((vlo u) 0))))) ha (aI G 3 (upd (vhi w) 0 (mnI ((vhi w) 0) ((vhi u) 0))))) la (aI G 3 (upd (upd (vlo w) 0 (mxI ((vlo w) 0) ((vlo u) 0))) 1 (mxI ((vlo w) 1) ((vlo u) 1))))) plA = some (aI G 3 pl0) := (mU_n (g_nef hpl0 fla)).trans m_43
      have m_61 : (mU (mU (mU M1 la (aI G 3 (upd (vlo w) 0 (mxI ((vlo w) 0) ((vlo u) 0))))) ha (aI G 3 (upd (vhi w) 0 (mnI ((vhi w) 0) ((vhi u) 0))))) la (aI G 3 (upd (upd (vlo w) 0 (mxI ((vlo w) 0) ((vlo u) 0))) 1 (mxI ((vlo w) 1) ((vlo u) 1))))) q = some (oB 12 [.int (nI (vm w)), .int (nI (max (vdp w) (vdp u) + 1)), .ref la, .ref ha, .null, .null]) := (mU_n (Ne.symm (llq))).trans m_44
      have m_62 : (mU (mU (mU M1 la (aI G 3 (upd (vlo w) 0 (mxI ((vlo w) 0) ((vlo u) 0))))) ha (aI G 3 (upd (vhi w) 0 (mnI ((vhi w) 0) ((vhi u) 0))))) la (aI G 3 (upd (upd (vlo w) 0 (mxI ((vlo w) 0) ((vlo u) 0))) 1 (mxI ((vlo w) 1) ((vlo u) 1))))) la = some (aI G 3 (upd (upd (vlo w) 0 (mxI ((vlo w) 0) ((vlo u) 0))) 1 (mxI ((vlo w) 1) ((vlo u) 1)))) := mU_s
      have m_63 : (mU (mU (mU M1 la (aI G 3 (upd (vlo w) 0 (mxI ((vlo w) 0) ((vlo u) 0))))) ha (aI G 3 (upd (vhi w) 0 (mnI ((vhi w) 0) ((vhi u) 0))))) la (aI G 3 (upd (upd (vlo w) 0 (mxI ((vlo w) 0) ((vlo u) 0))) 1 (mxI ((vlo w) 1) ((vlo u) 1))))) ha = some (aI G 3 (upd (vhi w) 0 (mnI ((vhi w) 0) ((vhi u) 0)))) := (mU_n (Ne.symm (llh))).trans m_46
      refine q_aload X dX13_join_147 2 rfl ?_
      refine q_get X m_61 rfl in_RX12 3 (by decide) tw_1161 rfl rfl dX13_join_149 ?_
      refine q_iload X dX13_join_152 0 rfl ?_
      refine q_aload X dX13_join_154 4 rfl ?_
      refine q_get X m_50 rfl in_RX12 3 (by decide) tw_1161 rfl rfl dX13_join_156 ?_
      refine q_iload X dX13_join_159 0 rfl ?_
      refine q_ialdN X 1 m_52 (rfl) (by decide) (by decide) dX13_join_161 ?_
      refine q_aload X dX13_join_162 3 rfl ?_
      refine q_get X m_55 rfl in_RX12 3 (by decide) tw_1161 rfl rfl dX13_join_164 ?_
      refine q_iload X dX13_join_167 0 rfl ?_
      refine q_ialdN X 1 m_57 (rfl) (by decide) (by decide) dX13_join_169 ?_
      refine q_callSp X (c_J9_min_7cf53) Y_J9_min_7cf53 tw_1321 tw_239 (by omega) rfl rfl (Nat.le_of_ble_eq_true rfl) dX13_join_170 ?_
      refine q_iastN X 1 m_63 (rfl) (by decide) (by decide) dX13_join_173 ?_
      have m_64 : (mU (mU (mU (mU M1 la (aI G 3 (upd (vlo w) 0 (mxI ((vlo w) 0) ((vlo u) 0))))) ha (aI G 3 (upd (vhi w) 0 (mnI ((vhi w) 0) ((vhi u) 0))))) la (aI G 3 (upd (upd (vlo w) 0 (mxI ((vlo w) 0) ((vlo u) 0))) 1 (mxI ((vlo w) 1) ((vlo u) 1))))) ha (aI G 3 (upd (upd (vhi w) 0 (mnI ((vhi w) 0) ((vhi u) 0))) 1 (mnI ((vhi w) 1) ((vhi u) 1))))) r = some (oB 13 [.int 0, .ref vA, .ref nA, .ref pA, .ref plA, .ref dg, .int (nI (aV σ).length), .int (nI (aN σ).length), .int (nI (aOf σ)), .int (nI (aBg σ)), .int tk, .long su, .long le, .long gr]) := (mU_n (g_nef hB.1 fha)).trans m_48
      have m_65 : (mU (mU (mU (mU M1 la (aI G 3 (upd (vlo w) 0 (mxI ((vlo w) 0) ((vlo u) 0))))) ha (aI G 3 (upd (vhi w) 0 (mnI ((vhi w) 0) ((vhi u) 0))))) la (aI G 3 (upd (upd (vlo w) 0 (mxI ((vlo w) 0) ((vlo u) 0))) 1 (mxI ((vlo w) 1) ((vlo u) 1))))) ha (aI G 3 (upd (upd (vhi w) 0 (mnI ((vhi w) 0) ((vhi u) 0))) 1 (mnI ((vhi w) 1) ((vhi u) 1))))) nA = some (aG G 150 nf) := (mU_n (g_nef hB.2.2.1 fha)).trans m_49
      have m_66 : (mU (mU (mU (mU M1 la (aI G 3 (upd (vlo w) 0 (mxI ((vlo w) 0) ((vlo u) 0))))) ha (aI G 3 (upd (vhi w) 0 (mnI ((vhi w) 0) ((vhi u) 0))))) la (aI G 3 (upd (upd (vlo w) 0 (mxI ((vlo w) 0) ((vlo u) 0))) 1 (mxI ((vlo w) 1) ((vlo u) 1))))) ha (aI G 3 (upd (upd (vhi w) 0 (mnI ((vhi w) 0) ((vhi u) 0))) 1 (mnI ((vhi w) 1) ((vhi u) 1))))) o = some (oB 12 [.int (nI (vm w)), .int (nI (vdp w)), .ref ola, .ref oha, .ref ova, .ref oza]) := (mU_n (g_nef hO.1 fha)).trans m_50
      have m_67 : (mU (mU (mU (mU M1 la (aI G 3 (upd (vlo w) 0 (mxI ((vlo w) 0) ((vlo u) 0))))) ha (aI G 3 (upd (vhi w) 0 (mnI ((vhi w) 0) ((vhi u) 0))))) la (aI G 3 (upd (upd (vlo w) 0 (mxI ((vlo w) 0) ((vlo u) 0))) 1 (mxI ((vlo w) 1) ((vlo u) 1))))) ha (aI G 3 (upd (upd (vhi w) 0 (mnI ((vhi w) 0) ((vhi u) 0))) 1 (mnI ((vhi w) 1) ((vhi u) 1))))) ola = some (aI G 3 (vlo w)) := (mU_n (g_nef hO.2.1 fha)).trans m_51
      have m_68 : (mU (mU (mU (mU M1 la (aI G 3 (upd (vlo w) 0 (mxI ((vlo w) 0) ((vlo u) 0))))) ha (aI G 3 (upd (vhi w) 0 (mnI ((vhi w) 0) ((vhi u) 0))))) la (aI G 3 (upd (upd (vlo w) 0 (mxI ((vlo w) 0) ((vlo u) 0))) 1 (mxI ((vlo w) 1) ((vlo u) 1))))) ha (aI G 3 (upd (upd (vhi w) 0 (mnI ((vhi w) 0) ((vhi u) 0))) 1 (mnI ((vhi w) 1) ((vhi u) 1))))) oha = some (aI G 3 (vhi w)) := (mU_n (g_nef hO.2.2.1 fha)).trans m_52
      have m_69 : (mU (mU (mU (mU M1 la (aI G 3 (upd (vlo w) 0 (mxI ((vlo w) 0) ((vlo u) 0))))) ha (aI G 3 (upd (vhi w) 0 (mnI ((vhi w) 0) ((vhi u) 0))))) la (aI G 3 (upd (upd (vlo w) 0 (mxI ((vlo w) 0) ((vlo u) 0))) 1 (mxI ((vlo w) 1) ((vlo u) 1))))) ha (aI G 3 (upd (upd (vhi w) 0 (mnI ((vhi w) 0) ((vhi u) 0))) 1 (mnI ((vhi w) 1) ((vhi u) 1))))) ova = some (aJ G (wsz w) ovf) := (mU_n (g_nef hO.2.2.2.1 fha)).trans m_53
      have m_70 : (mU (mU (mU (mU M1 la (aI G 3 (upd (vlo w) 0 (mxI ((vlo w) 0) ((vlo u) 0))))) ha (aI G 3 (upd (vhi w) 0 (mnI ((vhi w) 0) ((vhi u) 0))))) la (aI G 3 (upd (upd (vlo w) 0 (mxI ((vlo w) 0) ((vlo u) 0))) 1 (mxI ((vlo w) 1) ((vlo u) 1))))) ha (aI G 3 (upd (upd (vhi w) 0 (mnI ((vhi w) 0) ((vhi u) 0))) 1 (mnI ((vhi w) 1) ((vhi u) 1))))) oza = some (aZ G (wsz w) ozf) := (mU_n (g_nef hO.2.2.2.2.1 fha)).trans m_54
      have m_71 : (mU (mU (mU (mU M1 la (aI G 3 (upd (vlo w) 0 (mxI ((vlo w) 0) ((vlo u) 0))))) ha (aI G 3 (upd (vhi w) 0 (mnI ((vhi w) 0) ((vhi u) 0))))) la (aI G 3 (upd (upd (vlo w) 0 (mxI ((vlo w) 0) ((vlo u) 0))) 1 (mxI ((vlo w) 1) ((vlo u) 1))))) ha (aI G 3 (upd (upd (vhi w) 0 (mnI ((vhi w) 0) ((vhi u) 0))) 1 (mnI ((vhi w) 1) ((vhi u) 1))))) s = some (oB 12 [.int (nI (vm u)), .int (nI (vdp u)), .ref sla, .ref sha, .ref sva, .ref sza]) := (mU_n (g_nef hOs.1 fha)).trans m_55
      have m_72 : (mU (mU (mU (mU M1 la (aI G 3 (upd (vlo w) 0 (mxI ((vlo w) 0) ((vlo u) 0))))) ha (aI G 3 (upd (vhi w) 0 (mnI ((vhi w) 0) ((vhi u) 0))))) la (aI G 3 (upd (upd (vlo w) 0 (mxI ((vlo w) 0) ((vlo u) 0))) 1 (mxI ((vlo w) 1) ((vlo u) 1))))) ha (aI G 3 (upd (upd (vhi w) 0 (mnI ((vhi w) 0) ((vhi u) 0))) 1 (mnI ((vhi w) 1) ((vhi u) 1))))) sla = some (aI G 3 (vlo u)) := (mU_n (g_nef hOs.2.1 fha)).trans m_56
      have m_73 : (mU (mU (mU (mU M1 la (aI G 3 (upd (vlo w) 0 (mxI ((vlo w) 0) ((vlo u) 0))))) ha (aI G 3 (upd (vhi w) 0 (mnI ((vhi w) 0) ((vhi u) 0))))) la (aI G 3 (upd (upd (vlo w) 0 (mxI ((vlo w) 0) ((vlo u) 0))) 1 (mxI ((vlo w) 1) ((vlo u) 1))))) ha (aI G 3 (upd (upd (vhi w) 0 (mnI ((vhi w) 0) ((vhi u) 0))) 1 (mnI ((vhi w) 1) ((vhi u) 1))))) sha = some (aI G 3 (vhi u)) := (mU_n (g_nef hOs.2.2.1 fha)).trans m_57
      have m_74 : (mU (mU (mU (mU M1 la (aI G 3 (upd (vlo w) 0 (mxI ((vlo w) 0) ((vlo u) 0))))) ha (aI G 3 (upd (vhi w) 0 (mnI ((vhi w) 0) ((vhi u) 0))))) la (aI G 3 (upd (upd (vlo w) 0 (mxI ((vlo w) 0) ((vlo u) 0))) 1 (mxI ((vlo w) 1) ((vlo u) 1))))) ha (aI G 3 (upd (upd (vhi w) 0 (mnI ((vhi w) 0) ((vhi u) 0))) 1 (mnI ((vhi w) 1) ((vhi u) 1))))) sva = some (aJ G (wsz u) svf) := (mU_n (g_nef hOs.2.2.2.1 fha)).trans m_58
      have m_75 : (mU (mU (mU (mU M1 la (aI G 3 (upd (vlo w) 0 (mxI ((vlo w) 0) ((vlo u) 0))))) ha (aI G 3 (upd (vhi w) 0 (mnI ((vhi w) 0) ((vhi u) 0))))) la (aI G 3 (upd (upd (vlo w) 0 (mxI ((vlo w) 0) ((vlo u) 0))) 1 (mxI ((vlo w) 1) ((vlo u) 1))))) ha (aI G 3 (upd (upd (vhi w) 0 (mnI ((vhi w) 0) ((vhi u) 0))) 1 (mnI ((vhi w) 1) ((vhi u) 1))))) sza = some (aZ G (wsz u) szf) := (mU_n (g_nef hOs.2.2.2.2.1 fha)).trans m_59
      have m_76 : (mU (mU (mU (mU M1 la (aI G 3 (upd (vlo w) 0 (mxI ((vlo w) 0) ((vlo u) 0))))) ha (aI G 3 (upd (vhi w) 0 (mnI ((vhi w) 0) ((vhi u) 0))))) la (aI G 3 (upd (upd (vlo w) 0 (mxI ((vlo w) 0) ((vlo u) 0))) 1 (mxI ((vlo w) 1) ((vlo u) 1))))) ha (aI G 3 (upd (upd (vhi w) 0 (mnI ((vhi w) 0) ((vhi u) 0))) 1 (mnI ((vhi w) 1) ((vhi u) 1))))) plA = some (aI G 3 pl0) := (mU_n (g_nef hpl0 fha)).trans m_60
      have m_77 : (mU (mU (mU (mU M1 la (aI G 3 (upd (vlo w) 0 (mxI ((vlo w) 0) ((vlo u) 0))))) ha (aI G 3 (upd (vhi w) 0 (mnI ((vhi w) 0) ((vhi u) 0))))) la (aI G 3 (upd (upd (vlo w) 0 (mxI ((vlo w) 0) ((vlo u) 0))) 1 (mxI ((vlo w) 1) ((vlo u) 1))))) ha (aI G 3 (upd (upd (vhi w) 0 (mnI ((vhi w) 0) ((vhi u) 0))) 1 (mnI ((vhi w) 1) ((vhi u) 1))))) q = some (oB 12 [.int (nI (vm w)), .int (nI (max (vdp w) (vdp u) + 1)), .ref la, .ref ha, .null, .null]) := (mU_n (Ne.symm (lhq))).trans m_61
      have m_78 : (mU (mU (mU (mU M1 la (aI G 3 (upd (vlo w) 0 (mxI ((vlo w) 0) ((vlo u) 0))))) ha (aI G 3 (upd (vhi w) 0 (mnI ((vhi w) 0) ((vhi u) 0))))) la (aI G 3 (upd (upd (vlo w) 0 (mxI ((vlo w) 0) ((vlo u) 0))) 1 (mxI ((vlo w) 1) ((vlo u) 1))))) ha (aI G 3 (upd (upd (vhi w) 0 (mnI ((vhi w) 0) ((vhi u) 0))) 1 (mnI ((vhi w) 1) ((vhi u) 1))))) la = some (aI G 3 (upd (upd (vlo w) 0 (mxI ((vlo w) 0) ((vlo u) 0))) 1 (mxI ((vlo w) 1) ((vlo u) 1)))) := (mU_n (llh)).trans m_62
      have m_79 : (mU (mU (mU (mU M1 la (aI G 3 (upd (vlo w) 0 (mxI ((vlo w) 0) ((vlo u) 0))))) ha (aI G 3 (upd (vhi w) 0 (mnI ((vhi w) 0) ((vhi u) 0))))) la (aI G 3 (upd (upd (vlo w) 0 (mxI ((vlo w) 0) ((vlo u) 0))) 1 (mxI ((vlo w) 1) ((vlo u) 1))))) ha (aI G 3 (upd (upd (vhi w) 0 (mnI ((vhi w) 0) ((vhi u) 0))) 1 (mnI ((vhi w) 1) ((vhi u) 1))))) ha = some (aI G 3 (upd (upd (vhi w) 0 (mnI ((vhi w) 0) ((vhi u) 0))) 1 (mnI ((vhi w) 1) ((vhi u) 1)))) := mU_s
      refine q_aload X dX13_join_174 2 rfl ?_
      refine q_get X m_77 rfl in_RX12 2 (by decide) tw_1159 rfl rfl dX13_join_176 ?_
      refine q_iload X dX13_join_179 0 rfl ?_
      refine q_ialdN X 1 m_78 (rfl) (by decide) (by decide) dX13_join_181 ?_
      refine q_aload X dX13_join_182 2 rfl ?_
      refine q_get X m_77 rfl in_RX12 3 (by decide) tw_1161 rfl rfl dX13_join_184 ?_
      refine q_iload X dX13_join_187 0 rfl ?_
      refine q_ialdN X 1 m_79 (rfl) (by decide) (by decide) dX13_join_189 ?_
      show qJ G F _ 18 (mU (mU (mU (mU M1 la (aI G 3 (upd (vlo w) 0 (mxI ((vlo w) 0) ((vlo u) 0))))) ha (aI G 3 (upd (vhi w) 0 (mnI ((vhi w) 0) ((vhi u) 0))))) la (aI G 3 (upd (upd (vlo w) 0 (mxI ((vlo w) 0) ((vlo u) 0))) 1 (mxI ((vlo w) 1) ((vlo u) 1))))) ha (aI G 3 (upd (upd (vhi w) 0 (mnI ((vhi w) 0) ((vhi u) 0))) 1 (mnI ((vhi w) 1) ((vhi u) 1))))) 2 4096 190 [(8, .int 1), (7, .int 1), (6, .ref q), (5, .ref s), (4, .ref o), (0, .ref r), (1, .int (nI i)), (2, .int (nI i2)), (3, .int op)] [.int (mnI (vhi w 1) (vhi u 1)), .int (mxI (vlo w 1) (vlo u 1))]
      refine q_icmp_le X 196 dX13_join_190 (by decide) (fun mm1 => ?_) (fun mm1 => ?_)
      · refine q_iinc (v := 2) (lv' := [(8, .int 2), (7, .int 1), (6, .ref q), (5, .ref s), (4, .ref o), (0, .ref r), (1, .int (nI i)), (2, .int (nI i2)), (3, .int op)]) X dX13_join_196 0 rfl (by decide) (by decide) rfl ?_
        refine q_goto X 114 dX13_join_199 (by decide) ?_
        refine q_iload X dX13_join_114 0 rfl ?_
        refine q_iconst (v := 3) X dX13_join_116 (by decide) ?_
        refine q_icmp_ge X 202 dX13_join_117 (by decide) (fun c_80 => absurd c_80 (by decide)) (fun c_80 => ?_)
        refine q_aload X dX13_join_120 2 rfl ?_
        refine q_get X m_77 rfl in_RX12 2 (by decide) tw_1159 rfl rfl dX13_join_122 ?_
        refine q_iload X dX13_join_125 0 rfl ?_
        refine q_aload X dX13_join_127 4 rfl ?_
        refine q_get X m_66 rfl in_RX12 2 (by decide) tw_1159 rfl rfl dX13_join_129 ?_
        refine q_iload X dX13_join_132 0 rfl ?_
        refine q_ialdN X 2 m_67 (rfl) (by decide) (by decide) dX13_join_134 ?_
        refine q_aload X dX13_join_135 3 rfl ?_
        refine q_get X m_71 rfl in_RX12 2 (by decide) tw_1159 rfl rfl dX13_join_137 ?_
        refine q_iload X dX13_join_140 0 rfl ?_
        refine q_ialdN X 2 m_72 (rfl) (by decide) (by decide) dX13_join_142 ?_
        refine q_callSp X (c_J9_max_7cf53) Y_J9_max_7cf53 tw_1394 tw_123 (by omega) rfl rfl (Nat.le_of_ble_eq_true rfl) dX13_join_143 ?_
        refine q_iastN X 2 m_78 (rfl) (by decide) (by decide) dX13_join_146 ?_
        have m_81 : (mU (mU (mU (mU (mU M1 la (aI G 3 (upd (vlo w) 0 (mxI ((vlo w) 0) ((vlo u) 0))))) ha (aI G 3 (upd (vhi w) 0 (mnI ((vhi w) 0) ((vhi u) 0))))) la (aI G 3 (upd (upd (vlo w) 0 (mxI ((vlo w) 0) ((vlo u) 0))) 1 (mxI ((vlo w) 1) ((vlo u) 1))))) ha (aI G 3 (upd (upd (vhi w) 0 (mnI ((vhi w) 0) ((vhi u) 0))) 1 (mnI ((vhi w) 1) ((vhi u) 1))))) la (aI G 3 (upd (upd (upd (vlo w) 0 (mxI ((vlo w) 0) ((vlo u) 0))) 1 (mxI ((vlo w) 1) ((vlo u) 1))) 2 (mxI ((vlo w) 2) ((vlo u) 2))))) r = some (oB 13 [.int 0, .ref vA, .ref nA, .ref pA, .ref plA, .ref dg, .int (nI (aV σ).length), .int (nI (aN σ).length), .int (nI (aOf σ)), .int (nI (aBg σ)), .int tk, .long su, .long le, .long gr]) := (mU_n (g_nef hB.1 fla)).trans m_64
        have m_82 : (mU (mU (mU (mU (mU M1 la (aI G 3 (upd (vlo w) 0 (mxI ((vlo w) 0) ((vlo u) 0))))) ha (aI G 3 (upd (vhi w) 0 (mnI ((vhi w) 0) ((vhi u) 0))))) la (aI G 3 (upd (upd (vlo w) 0 (mxI ((vlo w) 0) ((vlo u) 0))) 1 (mxI ((vlo w) 1) ((vlo u) 1))))) ha (aI G 3 (upd (upd (vhi w) 0 (mnI ((vhi w) 0) ((vhi u) 0))) 1 (mnI ((vhi w) 1) ((vhi u) 1))))) la (aI G 3 (upd (upd (upd (vlo w) 0 (mxI ((vlo w) 0) ((vlo u) 0))) 1 (mxI ((vlo w) 1) ((vlo u) 1))) 2 (mxI ((vlo w) 2) ((vlo u) 2))))) nA = some (aG G 150 nf) := (mU_n (g_nef hB.2.2.1 fla)).trans m_65
        have m_83 : (mU (mU (mU (mU (mU M1 la (aI G 3 (upd (vlo w) 0 (mxI ((vlo w) 0) ((vlo u) 0))))) ha (aI G 3 (upd (vhi w) 0 (mnI ((vhi w) 0) ((vhi u) 0))))) la (aI G 3 (upd (upd (vlo w) 0 (mxI ((vlo w) 0) ((vlo u) 0))) 1 (mxI ((vlo w) 1) ((vlo u) 1))))) ha (aI G 3 (upd (upd (vhi w) 0 (mnI ((vhi w) 0) ((vhi u) 0))) 1 (mnI ((vhi w) 1) ((vhi u) 1))))) la (aI G 3 (upd (upd (upd (vlo w) 0 (mxI ((vlo w) 0) ((vlo u) 0))) 1 (mxI ((vlo w) 1) ((vlo u) 1))) 2 (mxI ((vlo w) 2) ((vlo u) 2))))) o = some (oB 12 [.int (nI (vm w)), .int (nI (vdp w)), .ref ola, .ref oha, .ref ova, .ref oza]) := (mU_n (g_nef hO.1 fla)).trans m_66
        have m_84 : (mU (mU (mU (mU (mU M1 la (aI G 3 (upd (vlo w) 0 (mxI ((vlo w) 0) ((vlo u) 0))))) ha (aI G 3 (upd (vhi w) 0 (mnI ((vhi w) 0) ((vhi u) 0))))) la (aI G 3 (upd (upd (vlo w) 0 (mxI ((vlo w) 0) ((vlo u) 0))) 1 (mxI ((vlo w) 1) ((vlo u) 1))))) ha (aI G 3 (upd (upd (vhi w) 0 (mnI ((vhi w) 0) ((vhi u) 0))) 1 (mnI ((vhi w) 1) ((vhi u) 1))))) la (aI G 3 (upd (upd (upd (vlo w) 0 (mxI ((vlo w) 0) ((vlo u) 0))) 1 (mxI ((vlo w) 1) ((vlo u) 1))) 2 (mxI ((vlo w) 2) ((vlo u) 2))))) ola = some (aI G 3 (vlo w)) := (mU_n (g_nef hO.2.1 fla)).trans m_67
        have m_85 : (mU (mU (mU (mU (mU M1 la (aI G 3 (upd (vlo w) 0 (mxI ((vlo w) 0) ((vlo u) 0))))) ha (aI G 3 (upd (vhi w) 0 (mnI ((vhi w) 0) ((vhi u) 0))))) la (aI G 3 (upd (upd (vlo w) 0 (mxI ((vlo w) 0) ((vlo u) 0))) 1 (mxI ((vlo w) 1) ((vlo u) 1))))) ha (aI G 3 (upd (upd (vhi w) 0 (mnI ((vhi w) 0) ((vhi u) 0))) 1 (mnI ((vhi w) 1) ((vhi u) 1))))) la (aI G 3 (upd (upd (upd (vlo w) 0 (mxI ((vlo w) 0) ((vlo u) 0))) 1 (mxI ((vlo w) 1) ((vlo u) 1))) 2 (mxI ((vlo w) 2) ((vlo u) 2))))) oha = some (aI G 3 (vhi w)) := (mU_n (g_nef hO.2.2.1 fla)).trans m_68
        have m_86 : (mU (mU (mU (mU (mU M1 la (aI G 3 (upd (vlo w) 0 (mxI ((vlo w) 0) ((vlo u) 0))))) ha (aI G 3 (upd (vhi w) 0 (mnI ((vhi w) 0) ((vhi u) 0))))) la (aI G 3 (upd (upd (vlo w) 0 (mxI ((vlo w) 0) ((vlo u) 0))) 1 (mxI ((vlo w) 1) ((vlo u) 1))))) ha (aI G 3 (upd (upd (vhi w) 0 (mnI ((vhi w) 0) ((vhi u) 0))) 1 (mnI ((vhi w) 1) ((vhi u) 1))))) la (aI G 3 (upd (upd (upd (vlo w) 0 (mxI ((vlo w) 0) ((vlo u) 0))) 1 (mxI ((vlo w) 1) ((vlo u) 1))) 2 (mxI ((vlo w) 2) ((vlo u) 2))))) ova = some (aJ G (wsz w) ovf) := (mU_n (g_nef hO.2.2.2.1 fla)).trans m_69
        have m_87 : (mU (mU (mU (mU (mU M1 la (aI G 3 (upd (vlo w) 0 (mxI ((vlo w) 0) ((vlo u) 0))))) ha (aI G 3 (upd (vhi w) 0 (mnI ((vhi w) 0) ((vhi u) 0))))) la (aI G 3 (upd (upd (vlo w) 0 (mxI ((vlo w) 0) ((vlo u) 0))) 1 (mxI ((vlo w) 1) ((vlo u) 1))))) ha (aI G 3 (upd (upd (vhi w) 0 (mnI ((vhi w) 0) ((vhi u) 0))) 1 (mnI ((vhi w) 1) ((vhi u) 1))))) la (aI G 3 (upd (upd (upd (vlo w) 0 (mxI ((vlo w) 0) ((vlo u) 0))) 1 (mxI ((vlo w) 1) ((vlo u) 1))) 2 (mxI ((vlo w) 2) ((vlo u) 2))))) oza = some (aZ G (wsz w) ozf) := (mU_n (g_nef hO.2.2.2.2.1 fla)).trans m_70
        have m_88 : (mU (mU (mU (mU (mU M1 la (aI G 3 (upd (vlo w) 0 (mxI ((vlo w) 0) ((vlo u) 0))))) ha (aI G 3 (upd (vhi w) 0 (mnI ((vhi w) 0) ((vhi u) 0))))) la (aI G 3 (upd (upd (vlo w) 0 (mxI ((vlo w) 0) ((vlo u) 0))) 1 (mxI ((vlo w) 1) ((vlo u) 1))))) ha (aI G 3 (upd (upd (vhi w) 0 (mnI ((vhi w) 0) ((vhi u) 0))) 1 (mnI ((vhi w) 1) ((vhi u) 1))))) la (aI G 3 (upd (upd (upd (vlo w) 0 (mxI ((vlo w) 0) ((vlo u) 0))) 1 (mxI ((vlo w) 1) ((vlo u) 1))) 2 (mxI ((vlo w) 2) ((vlo u) 2))))) s = some (oB 12 [.int (nI (vm u)), .int (nI (vdp u)), .ref sla, .ref sha, .ref sva, .ref sza]) := (mU_n (g_nef hOs.1 fla)).trans m_71
        have m_89 : (mU (mU (mU (mU (mU M1 la (aI G 3 (upd (vlo w) 0 (mxI ((vlo w) 0) ((vlo u) 0))))) ha (aI G 3 (upd (vhi w) 0 (mnI ((vhi w) 0) ((vhi u) 0))))) la (aI G 3 (upd (upd (vlo w) 0 (mxI ((vlo w) 0) ((vlo u) 0))) 1 (mxI ((vlo w) 1) ((vlo u) 1))))) ha (aI G 3 (upd (upd (vhi w) 0 (mnI ((vhi w) 0) ((vhi u) 0))) 1 (mnI ((vhi w) 1) ((vhi u) 1))))) la (aI G 3 (upd (upd (upd (vlo w) 0 (mxI ((vlo w) 0) ((vlo u) 0))) 1 (mxI ((vlo w) 1) ((vlo u) 1))) 2 (mxI ((vlo w) 2) ((vlo u) 2))))) sla = some (aI G 3 (vlo u)) := (mU_n (g_nef hOs.2.1 fla)).trans m_72
        have m_90 : (mU (mU (mU (mU (mU M1 la (aI G 3 (upd (vlo w) 0 (mxI ((vlo w) 0) ((vlo u) 0))))) ha (aI G 3 (upd (vhi w) 0 (mnI ((vhi w) 0) ((vhi u) 0))))) la (aI G 3 (upd (upd (vlo w) 0 (mxI ((vlo w) 0) ((vlo u) 0))) 1 (mxI ((vlo w) 1) ((vlo u) 1))))) ha (aI G 3 (upd (upd (vhi w) 0 (mnI ((vhi w) 0) ((vhi u) 0))) 1 (mnI ((vhi w) 1) ((vhi u) 1))))) la (aI G 3 (upd (upd (upd (vlo w) 0 (mxI ((vlo w) 0) ((vlo u) 0))) 1 (mxI ((vlo w) 1) ((vlo u) 1))) 2 (mxI ((vlo w) 2) ((vlo u) 2))))) sha = some (aI G 3 (vhi u)) := (mU_n (g_nef hOs.2.2.1 fla)).trans m_73
        have m_91 : (mU (mU (mU (mU (mU M1 la (aI G 3 (upd (vlo w) 0 (mxI ((vlo w) 0) ((vlo u) 0))))) ha (aI G 3 (upd (vhi w) 0 (mnI ((vhi w) 0) ((vhi u) 0))))) la (aI G 3 (upd (upd (vlo w) 0 (mxI ((vlo w) 0) ((vlo u) 0))) 1 (mxI ((vlo w) 1) ((vlo u) 1))))) ha (aI G 3 (upd (upd (vhi w) 0 (mnI ((vhi w) 0) ((vhi u) 0))) 1 (mnI ((vhi w) 1) ((vhi u) 1))))) la (aI G 3 (upd (upd (upd (vlo w) 0 (mxI ((vlo w) 0) ((vlo u) 0))) 1 (mxI ((vlo w) 1) ((vlo u) 1))) 2 (mxI ((vlo w) 2) ((vlo u) 2))))) sva = some (aJ G (wsz u) svf) := (mU_n (g_nef hOs.2.2.2.1 fla)).trans m_74
        have m_92 : (mU (mU (mU (mU (mU M1 la (aI G 3 (upd (vlo w) 0 (mxI ((vlo w) 0) ((vlo u) 0))))) ha (aI G 3 (upd (vhi w) 0 (mnI ((vhi w) 0) ((vhi u) 0))))) la (aI G 3 (upd (upd (vlo w) 0 (mxI ((vlo w) 0) ((vlo u) 0))) 1 (mxI ((vlo w) 1) ((vlo u) 1))))) ha (aI G 3 (upd (upd (vhi w) 0 (mnI ((vhi w) 0) ((vhi u) 0))) 1 (mnI ((vhi w) 1) ((vhi u) 1))))) la (aI G 3 (upd (upd (upd (vlo w) 0 (mxI ((vlo w) 0) ((vlo u) 0))) 1 (mxI ((vlo w) 1) ((vlo u) 1))) 2 (mxI ((vlo w) 2) ((vlo u) 2))))) sza = some (aZ G (wsz u) szf) := (mU_n (g_nef hOs.2.2.2.2.1 fla)).trans m_75
        have m_93 : (mU (mU (mU (mU (mU M1 la (aI G 3 (upd (vlo w) 0 (mxI ((vlo w) 0) ((vlo u) 0))))) ha (aI G 3 (upd (vhi w) 0 (mnI ((vhi w) 0) ((vhi u) 0))))) la (aI G 3 (upd (upd (vlo w) 0 (mxI ((vlo w) 0) ((vlo u) 0))) 1 (mxI ((vlo w) 1) ((vlo u) 1))))) ha (aI G 3 (upd (upd (vhi w) 0 (mnI ((vhi w) 0) ((vhi u) 0))) 1 (mnI ((vhi w) 1) ((vhi u) 1))))) la (aI G 3 (upd (upd (upd (vlo w) 0 (mxI ((vlo w) 0) ((vlo u) 0))) 1 (mxI ((vlo w) 1) ((vlo u) 1))) 2 (mxI ((vlo w) 2) ((vlo u) 2))))) plA = some (aI G 3 pl0) := (mU_n (g_nef hpl0 fla)).trans m_76
        have m_94 : (mU (mU (mU (mU (mU M1 la (aI G 3 (upd (vlo w) 0 (mxI ((vlo w) 0) ((vlo u) 0))))) ha (aI G 3 (upd (vhi w) 0 (mnI ((vhi w) 0) ((vhi u) 0))))) la (aI G 3 (upd (upd (vlo w) 0 (mxI ((vlo w) 0) ((vlo u) 0))) 1 (mxI ((vlo w) 1) ((vlo u) 1))))) ha (aI G 3 (upd (upd (vhi w) 0 (mnI ((vhi w) 0) ((vhi u) 0))) 1 (mnI ((vhi w) 1) ((vhi u) 1))))) la (aI G 3 (upd (upd (upd (vlo w) 0 (mxI ((vlo w) 0) ((vlo u) 0))) 1 (mxI ((vlo w) 1) ((vlo u) 1))) 2 (mxI ((vlo w) 2) ((vlo u) 2))))) q = some (oB 12 [.int (nI (vm w)), .int (nI (max (vdp w) (vdp u) + 1)), .ref la, .ref ha, .null, .null]) := (mU_n (Ne.symm (llq))).trans m_77
        have m_95 : (mU (mU (mU (mU (mU M1 la (aI G 3 (upd (vlo w) 0 (mxI ((vlo w) 0) ((vlo u) 0))))) ha (aI G 3 (upd (vhi w) 0 (mnI ((vhi w) 0) ((vhi u) 0))))) la (aI G 3 (upd (upd (vlo w) 0 (mxI ((vlo w) 0) ((vlo u) 0))) 1 (mxI ((vlo w) 1) ((vlo u) 1))))) ha (aI G 3 (upd (upd (vhi w) 0 (mnI ((vhi w) 0) ((vhi u) 0))) 1 (mnI ((vhi w) 1) ((vhi u) 1))))) la (aI G 3 (upd (upd (upd (vlo w) 0 (mxI ((vlo w) 0) ((vlo u) 0))) 1 (mxI ((vlo w) 1) ((vlo u) 1))) 2 (mxI ((vlo w) 2) ((vlo u) 2))))) la = some (aI G 3 (upd (upd (upd (vlo w) 0 (mxI ((vlo w) 0) ((vlo u) 0))) 1 (mxI ((vlo w) 1) ((vlo u) 1))) 2 (mxI ((vlo w) 2) ((vlo u) 2)))) := mU_s
        have m_96 : (mU (mU (mU (mU (mU M1 la (aI G 3 (upd (vlo w) 0 (mxI ((vlo w) 0) ((vlo u) 0))))) ha (aI G 3 (upd (vhi w) 0 (mnI ((vhi w) 0) ((vhi u) 0))))) la (aI G 3 (upd (upd (vlo w) 0 (mxI ((vlo w) 0) ((vlo u) 0))) 1 (mxI ((vlo w) 1) ((vlo u) 1))))) ha (aI G 3 (upd (upd (vhi w) 0 (mnI ((vhi w) 0) ((vhi u) 0))) 1 (mnI ((vhi w) 1) ((vhi u) 1))))) la (aI G 3 (upd (upd (upd (vlo w) 0 (mxI ((vlo w) 0) ((vlo u) 0))) 1 (mxI ((vlo w) 1) ((vlo u) 1))) 2 (mxI ((vlo w) 2) ((vlo u) 2))))) ha = some (aI G 3 (upd (upd (vhi w) 0 (mnI ((vhi w) 0) ((vhi u) 0))) 1 (mnI ((vhi w) 1) ((vhi u) 1)))) := (mU_n (Ne.symm (llh))).trans m_79
        refine q_aload X dX13_join_147 2 rfl ?_
        refine q_get X m_94 rfl in_RX12 3 (by decide) tw_1161 rfl rfl dX13_join_149 ?_
        refine q_iload X dX13_join_152 0 rfl ?_
        refine q_aload X dX13_join_154 4 rfl ?_
        refine q_get X m_83 rfl in_RX12 3 (by decide) tw_1161 rfl rfl dX13_join_156 ?_
        refine q_iload X dX13_join_159 0 rfl ?_
        refine q_ialdN X 2 m_85 (rfl) (by decide) (by decide) dX13_join_161 ?_
        refine q_aload X dX13_join_162 3 rfl ?_
        refine q_get X m_88 rfl in_RX12 3 (by decide) tw_1161 rfl rfl dX13_join_164 ?_
        refine q_iload X dX13_join_167 0 rfl ?_
        refine q_ialdN X 2 m_90 (rfl) (by decide) (by decide) dX13_join_169 ?_
        refine q_callSp X (c_J9_min_7cf53) Y_J9_min_7cf53 tw_1321 tw_239 (by omega) rfl rfl (Nat.le_of_ble_eq_true rfl) dX13_join_170 ?_
        refine q_iastN X 2 m_96 (rfl) (by decide) (by decide) dX13_join_173 ?_
        have m_97 : (mU (mU (mU (mU (mU (mU M1 la (aI G 3 (upd (vlo w) 0 (mxI ((vlo w) 0) ((vlo u) 0))))) ha (aI G 3 (upd (vhi w) 0 (mnI ((vhi w) 0) ((vhi u) 0))))) la (aI G 3 (upd (upd (vlo w) 0 (mxI ((vlo w) 0) ((vlo u) 0))) 1 (mxI ((vlo w) 1) ((vlo u) 1))))) ha (aI G 3 (upd (upd (vhi w) 0 (mnI ((vhi w) 0) ((vhi u) 0))) 1 (mnI ((vhi w) 1) ((vhi u) 1))))) la (aI G 3 (upd (upd (upd (vlo w) 0 (mxI ((vlo w) 0) ((vlo u) 0))) 1 (mxI ((vlo w) 1) ((vlo u) 1))) 2 (mxI ((vlo w) 2) ((vlo u) 2))))) ha (aI G 3 (upd (upd (upd (vhi w) 0 (mnI ((vhi w) 0) ((vhi u) 0))) 1 (mnI ((vhi w) 1) ((vhi u) 1))) 2 (mnI ((vhi w) 2) ((vhi u) 2))))) r = some (oB 13 [.int 0, .ref vA, .ref nA, .ref pA, .ref plA, .ref dg, .int (nI (aV σ).length), .int (nI (aN σ).length), .int (nI (aOf σ)), .int (nI (aBg σ)), .int tk, .long su, .long le, .long gr]) := (mU_n (g_nef hB.1 fha)).trans m_81
        have m_98 : (mU (mU (mU (mU (mU (mU M1 la (aI G 3 (upd (vlo w) 0 (mxI ((vlo w) 0) ((vlo u) 0))))) ha (aI G 3 (upd (vhi w) 0 (mnI ((vhi w) 0) ((vhi u) 0))))) la (aI G 3 (upd (upd (vlo w) 0 (mxI ((vlo w) 0) ((vlo u) 0))) 1 (mxI ((vlo w) 1) ((vlo u) 1))))) ha (aI G 3 (upd (upd (vhi w) 0 (mnI ((vhi w) 0) ((vhi u) 0))) 1 (mnI ((vhi w) 1) ((vhi u) 1))))) la (aI G 3 (upd (upd (upd (vlo w) 0 (mxI ((vlo w) 0) ((vlo u) 0))) 1 (mxI ((vlo w) 1) ((vlo u) 1))) 2 (mxI ((vlo w) 2) ((vlo u) 2))))) ha (aI G 3 (upd (upd (upd (vhi w) 0 (mnI ((vhi w) 0) ((vhi u) 0))) 1 (mnI ((vhi w) 1) ((vhi u) 1))) 2 (mnI ((vhi w) 2) ((vhi u) 2))))) nA = some (aG G 150 nf) := (mU_n (g_nef hB.2.2.1 fha)).trans m_82
        have m_99 : (mU (mU (mU (mU (mU (mU M1 la (aI G 3 (upd (vlo w) 0 (mxI ((vlo w) 0) ((vlo u) 0))))) ha (aI G 3 (upd (vhi w) 0 (mnI ((vhi w) 0) ((vhi u) 0))))) la (aI G 3 (upd (upd (vlo w) 0 (mxI ((vlo w) 0) ((vlo u) 0))) 1 (mxI ((vlo w) 1) ((vlo u) 1))))) ha (aI G 3 (upd (upd (vhi w) 0 (mnI ((vhi w) 0) ((vhi u) 0))) 1 (mnI ((vhi w) 1) ((vhi u) 1))))) la (aI G 3 (upd (upd (upd (vlo w) 0 (mxI ((vlo w) 0) ((vlo u) 0))) 1 (mxI ((vlo w) 1) ((vlo u) 1))) 2 (mxI ((vlo w) 2) ((vlo u) 2))))) ha (aI G 3 (upd (upd (upd (vhi w) 0 (mnI ((vhi w) 0) ((vhi u) 0))) 1 (mnI ((vhi w) 1) ((vhi u) 1))) 2 (mnI ((vhi w) 2) ((vhi u) 2))))) o = some (oB 12 [.int (nI (vm w)), .int (nI (vdp w)), .ref ola, .ref oha, .ref ova, .ref oza]) := (mU_n (g_nef hO.1 fha)).trans m_83
        have m_100 : (mU (mU (mU (mU (mU (mU M1 la (aI G 3 (upd (vlo w) 0 (mxI ((vlo w) 0) ((vlo u) 0))))) ha (aI G 3 (upd (vhi w) 0 (mnI ((vhi w) 0) ((vhi u) 0))))) la (aI G 3 (upd (upd (vlo w) 0 (mxI ((vlo w) 0) ((vlo u) 0))) 1 (mxI ((vlo w) 1) ((vlo u) 1))))) ha (aI G 3 (upd (upd (vhi w) 0 (mnI ((vhi w) 0) ((vhi u) 0))) 1 (mnI ((vhi w) 1) ((vhi u) 1))))) la (aI G 3 (upd (upd (upd (vlo w) 0 (mxI ((vlo w) 0) ((vlo u) 0))) 1 (mxI ((vlo w) 1) ((vlo u) 1))) 2 (mxI ((vlo w) 2) ((vlo u) 2))))) ha (aI G 3 (upd (upd (upd (vhi w) 0 (mnI ((vhi w) 0) ((vhi u) 0))) 1 (mnI ((vhi w) 1) ((vhi u) 1))) 2 (mnI ((vhi w) 2) ((vhi u) 2))))) ola = some (aI G 3 (vlo w)) := (mU_n (g_nef hO.2.1 fha)).trans m_84
        have m_101 : (mU (mU (mU (mU (mU (mU M1 la (aI G 3 (upd (vlo w) 0 (mxI ((vlo w) 0) ((vlo u) 0))))) ha (aI G 3 (upd (vhi w) 0 (mnI ((vhi w) 0) ((vhi u) 0))))) la (aI G 3 (upd (upd (vlo w) 0 (mxI ((vlo w) 0) ((vlo u) 0))) 1 (mxI ((vlo w) 1) ((vlo u) 1))))) ha (aI G 3 (upd (upd (vhi w) 0 (mnI ((vhi w) 0) ((vhi u) 0))) 1 (mnI ((vhi w) 1) ((vhi u) 1))))) la (aI G 3 (upd (upd (upd (vlo w) 0 (mxI ((vlo w) 0) ((vlo u) 0))) 1 (mxI ((vlo w) 1) ((vlo u) 1))) 2 (mxI ((vlo w) 2) ((vlo u) 2))))) ha (aI G 3 (upd (upd (upd (vhi w) 0 (mnI ((vhi w) 0) ((vhi u) 0))) 1 (mnI ((vhi w) 1) ((vhi u) 1))) 2 (mnI ((vhi w) 2) ((vhi u) 2))))) oha = some (aI G 3 (vhi w)) := (mU_n (g_nef hO.2.2.1 fha)).trans m_85
        have m_102 : (mU (mU (mU (mU (mU (mU M1 la (aI G 3 (upd (vlo w) 0 (mxI ((vlo w) 0) ((vlo u) 0))))) ha (aI G 3 (upd (vhi w) 0 (mnI ((vhi w) 0) ((vhi u) 0))))) la (aI G 3 (upd (upd (vlo w) 0 (mxI ((vlo w) 0) ((vlo u) 0))) 1 (mxI ((vlo w) 1) ((vlo u) 1))))) ha (aI G 3 (upd (upd (vhi w) 0 (mnI ((vhi w) 0) ((vhi u) 0))) 1 (mnI ((vhi w) 1) ((vhi u) 1))))) la (aI G 3 (upd (upd (upd (vlo w) 0 (mxI ((vlo w) 0) ((vlo u) 0))) 1 (mxI ((vlo w) 1) ((vlo u) 1))) 2 (mxI ((vlo w) 2) ((vlo u) 2))))) ha (aI G 3 (upd (upd (upd (vhi w) 0 (mnI ((vhi w) 0) ((vhi u) 0))) 1 (mnI ((vhi w) 1) ((vhi u) 1))) 2 (mnI ((vhi w) 2) ((vhi u) 2))))) ova = some (aJ G (wsz w) ovf) := (mU_n (g_nef hO.2.2.2.1 fha)).trans m_86
        have m_103 : (mU (mU (mU (mU (mU (mU M1 la (aI G 3 (upd (vlo w) 0 (mxI ((vlo w) 0) ((vlo u) 0))))) ha (aI G 3 (upd (vhi w) 0 (mnI ((vhi w) 0) ((vhi u) 0))))) la (aI G 3 (upd (upd (vlo w) 0 (mxI ((vlo w) 0) ((vlo u) 0))) 1 (mxI ((vlo w) 1) ((vlo u) 1))))) ha (aI G 3 (upd (upd (vhi w) 0 (mnI ((vhi w) 0) ((vhi u) 0))) 1 (mnI ((vhi w) 1) ((vhi u) 1))))) la (aI G 3 (upd (upd (upd (vlo w) 0 (mxI ((vlo w) 0) ((vlo u) 0))) 1 (mxI ((vlo w) 1) ((vlo u) 1))) 2 (mxI ((vlo w) 2) ((vlo u) 2))))) ha (aI G 3 (upd (upd (upd (vhi w) 0 (mnI ((vhi w) 0) ((vhi u) 0))) 1 (mnI ((vhi w) 1) ((vhi u) 1))) 2 (mnI ((vhi w) 2) ((vhi u) 2))))) oza = some (aZ G (wsz w) ozf) := (mU_n (g_nef hO.2.2.2.2.1 fha)).trans m_87
        have m_104 : (mU (mU (mU (mU (mU (mU M1 la (aI G 3 (upd (vlo w) 0 (mxI ((vlo w) 0) ((vlo u) 0))))) ha (aI G 3 (upd (vhi w) 0 (mnI ((vhi w) 0) ((vhi u) 0))))) la (aI G 3 (upd (upd (vlo w) 0 (mxI ((vlo w) 0) ((vlo u) 0))) 1 (mxI ((vlo w) 1) ((vlo u) 1))))) ha (aI G 3 (upd (upd (vhi w) 0 (mnI ((vhi w) 0) ((vhi u) 0))) 1 (mnI ((vhi w) 1) ((vhi u) 1))))) la (aI G 3 (upd (upd (upd (vlo w) 0 (mxI ((vlo w) 0) ((vlo u) 0))) 1 (mxI ((vlo w) 1) ((vlo u) 1))) 2 (mxI ((vlo w) 2) ((vlo u) 2))))) ha (aI G 3 (upd (upd (upd (vhi w) 0 (mnI ((vhi w) 0) ((vhi u) 0))) 1 (mnI ((vhi w) 1) ((vhi u) 1))) 2 (mnI ((vhi w) 2) ((vhi u) 2))))) s = some (oB 12 [.int (nI (vm u)), .int (nI (vdp u)), .ref sla, .ref sha, .ref sva, .ref sza]) := (mU_n (g_nef hOs.1 fha)).trans m_88
        have m_105 : (mU (mU (mU (mU (mU (mU M1 la (aI G 3 (upd (vlo w) 0 (mxI ((vlo w) 0) ((vlo u) 0))))) ha (aI G 3 (upd (vhi w) 0 (mnI ((vhi w) 0) ((vhi u) 0))))) la (aI G 3 (upd (upd (vlo w) 0 (mxI ((vlo w) 0) ((vlo u) 0))) 1 (mxI ((vlo w) 1) ((vlo u) 1))))) ha (aI G 3 (upd (upd (vhi w) 0 (mnI ((vhi w) 0) ((vhi u) 0))) 1 (mnI ((vhi w) 1) ((vhi u) 1))))) la (aI G 3 (upd (upd (upd (vlo w) 0 (mxI ((vlo w) 0) ((vlo u) 0))) 1 (mxI ((vlo w) 1) ((vlo u) 1))) 2 (mxI ((vlo w) 2) ((vlo u) 2))))) ha (aI G 3 (upd (upd (upd (vhi w) 0 (mnI ((vhi w) 0) ((vhi u) 0))) 1 (mnI ((vhi w) 1) ((vhi u) 1))) 2 (mnI ((vhi w) 2) ((vhi u) 2))))) sla = some (aI G 3 (vlo u)) := (mU_n (g_nef hOs.2.1 fha)).trans m_89
        have m_106 : (mU (mU (mU (mU (mU (mU M1 la (aI G 3 (upd (vlo w) 0 (mxI ((vlo w) 0) ((vlo u) 0))))) ha (aI G 3 (upd (vhi w) 0 (mnI ((vhi w) 0) ((vhi u) 0))))) la (aI G 3 (upd (upd (vlo w) 0 (mxI ((vlo w) 0) ((vlo u) 0))) 1 (mxI ((vlo w) 1) ((vlo u) 1))))) ha (aI G 3 (upd (upd (vhi w) 0 (mnI ((vhi w) 0) ((vhi u) 0))) 1 (mnI ((vhi w) 1) ((vhi u) 1))))) la (aI G 3 (upd (upd (upd (vlo w) 0 (mxI ((vlo w) 0) ((vlo u) 0))) 1 (mxI ((vlo w) 1) ((vlo u) 1))) 2 (mxI ((vlo w) 2) ((vlo u) 2))))) ha (aI G 3 (upd (upd (upd (vhi w) 0 (mnI ((vhi w) 0) ((vhi u) 0))) 1 (mnI ((vhi w) 1) ((vhi u) 1))) 2 (mnI ((vhi w) 2) ((vhi u) 2))))) sha = some (aI G 3 (vhi u)) := (mU_n (g_nef hOs.2.2.1 fha)).trans m_90
        have m_107 : (mU (mU (mU (mU (mU (mU M1 la (aI G 3 (upd (vlo w) 0 (mxI ((vlo w) 0) ((vlo u) 0))))) ha (aI G 3 (upd (vhi w) 0 (mnI ((vhi w) 0) ((vhi u) 0))))) la (aI G 3 (upd (upd (vlo w) 0 (mxI ((vlo w) 0) ((vlo u) 0))) 1 (mxI ((vlo w) 1) ((vlo u) 1))))) ha (aI G 3 (upd (upd (vhi w) 0 (mnI ((vhi w) 0) ((vhi u) 0))) 1 (mnI ((vhi w) 1) ((vhi u) 1))))) la (aI G 3 (upd (upd (upd (vlo w) 0 (mxI ((vlo w) 0) ((vlo u) 0))) 1 (mxI ((vlo w) 1) ((vlo u) 1))) 2 (mxI ((vlo w) 2) ((vlo u) 2))))) ha (aI G 3 (upd (upd (upd (vhi w) 0 (mnI ((vhi w) 0) ((vhi u) 0))) 1 (mnI ((vhi w) 1) ((vhi u) 1))) 2 (mnI ((vhi w) 2) ((vhi u) 2))))) sva = some (aJ G (wsz u) svf) := (mU_n (g_nef hOs.2.2.2.1 fha)).trans m_91
        have m_108 : (mU (mU (mU (mU (mU (mU M1 la (aI G 3 (upd (vlo w) 0 (mxI ((vlo w) 0) ((vlo u) 0))))) ha (aI G 3 (upd (vhi w) 0 (mnI ((vhi w) 0) ((vhi u) 0))))) la (aI G 3 (upd (upd (vlo w) 0 (mxI ((vlo w) 0) ((vlo u) 0))) 1 (mxI ((vlo w) 1) ((vlo u) 1))))) ha (aI G 3 (upd (upd (vhi w) 0 (mnI ((vhi w) 0) ((vhi u) 0))) 1 (mnI ((vhi w) 1) ((vhi u) 1))))) la (aI G 3 (upd (upd (upd (vlo w) 0 (mxI ((vlo w) 0) ((vlo u) 0))) 1 (mxI ((vlo w) 1) ((vlo u) 1))) 2 (mxI ((vlo w) 2) ((vlo u) 2))))) ha (aI G 3 (upd (upd (upd (vhi w) 0 (mnI ((vhi w) 0) ((vhi u) 0))) 1 (mnI ((vhi w) 1) ((vhi u) 1))) 2 (mnI ((vhi w) 2) ((vhi u) 2))))) sza = some (aZ G (wsz u) szf) := (mU_n (g_nef hOs.2.2.2.2.1 fha)).trans m_92
        have m_109 : (mU (mU (mU (mU (mU (mU M1 la (aI G 3 (upd (vlo w) 0 (mxI ((vlo w) 0) ((vlo u) 0))))) ha (aI G 3 (upd (vhi w) 0 (mnI ((vhi w) 0) ((vhi u) 0))))) la (aI G 3 (upd (upd (vlo w) 0 (mxI ((vlo w) 0) ((vlo u) 0))) 1 (mxI ((vlo w) 1) ((vlo u) 1))))) ha (aI G 3 (upd (upd (vhi w) 0 (mnI ((vhi w) 0) ((vhi u) 0))) 1 (mnI ((vhi w) 1) ((vhi u) 1))))) la (aI G 3 (upd (upd (upd (vlo w) 0 (mxI ((vlo w) 0) ((vlo u) 0))) 1 (mxI ((vlo w) 1) ((vlo u) 1))) 2 (mxI ((vlo w) 2) ((vlo u) 2))))) ha (aI G 3 (upd (upd (upd (vhi w) 0 (mnI ((vhi w) 0) ((vhi u) 0))) 1 (mnI ((vhi w) 1) ((vhi u) 1))) 2 (mnI ((vhi w) 2) ((vhi u) 2))))) plA = some (aI G 3 pl0) := (mU_n (g_nef hpl0 fha)).trans m_93
        have m_110 : (mU (mU (mU (mU (mU (mU M1 la (aI G 3 (upd (vlo w) 0 (mxI ((vlo w) 0) ((vlo u) 0))))) ha (aI G 3 (upd (vhi w) 0 (mnI ((vhi w) 0) ((vhi u) 0))))) la (aI G 3 (upd (upd (vlo w) 0 (mxI ((vlo w) 0) ((vlo u) 0))) 1 (mxI ((vlo w) 1) ((vlo u) 1))))) ha (aI G 3 (upd (upd (vhi w) 0 (mnI ((vhi w) 0) ((vhi u) 0))) 1 (mnI ((vhi w) 1) ((vhi u) 1))))) la (aI G 3 (upd (upd (upd (vlo w) 0 (mxI ((vlo w) 0) ((vlo u) 0))) 1 (mxI ((vlo w) 1) ((vlo u) 1))) 2 (mxI ((vlo w) 2) ((vlo u) 2))))) ha (aI G 3 (upd (upd (upd (vhi w) 0 (mnI ((vhi w) 0) ((vhi u) 0))) 1 (mnI ((vhi w) 1) ((vhi u) 1))) 2 (mnI ((vhi w) 2) ((vhi u) 2))))) q = some (oB 12 [.int (nI (vm w)), .int (nI (max (vdp w) (vdp u) + 1)), .ref la, .ref ha, .null, .null]) := (mU_n (Ne.symm (lhq))).trans m_94
        have m_111 : (mU (mU (mU (mU (mU (mU M1 la (aI G 3 (upd (vlo w) 0 (mxI ((vlo w) 0) ((vlo u) 0))))) ha (aI G 3 (upd (vhi w) 0 (mnI ((vhi w) 0) ((vhi u) 0))))) la (aI G 3 (upd (upd (vlo w) 0 (mxI ((vlo w) 0) ((vlo u) 0))) 1 (mxI ((vlo w) 1) ((vlo u) 1))))) ha (aI G 3 (upd (upd (vhi w) 0 (mnI ((vhi w) 0) ((vhi u) 0))) 1 (mnI ((vhi w) 1) ((vhi u) 1))))) la (aI G 3 (upd (upd (upd (vlo w) 0 (mxI ((vlo w) 0) ((vlo u) 0))) 1 (mxI ((vlo w) 1) ((vlo u) 1))) 2 (mxI ((vlo w) 2) ((vlo u) 2))))) ha (aI G 3 (upd (upd (upd (vhi w) 0 (mnI ((vhi w) 0) ((vhi u) 0))) 1 (mnI ((vhi w) 1) ((vhi u) 1))) 2 (mnI ((vhi w) 2) ((vhi u) 2))))) la = some (aI G 3 (upd (upd (upd (vlo w) 0 (mxI ((vlo w) 0) ((vlo u) 0))) 1 (mxI ((vlo w) 1) ((vlo u) 1))) 2 (mxI ((vlo w) 2) ((vlo u) 2)))) := (mU_n (llh)).trans m_95
        have m_112 : (mU (mU (mU (mU (mU (mU M1 la (aI G 3 (upd (vlo w) 0 (mxI ((vlo w) 0) ((vlo u) 0))))) ha (aI G 3 (upd (vhi w) 0 (mnI ((vhi w) 0) ((vhi u) 0))))) la (aI G 3 (upd (upd (vlo w) 0 (mxI ((vlo w) 0) ((vlo u) 0))) 1 (mxI ((vlo w) 1) ((vlo u) 1))))) ha (aI G 3 (upd (upd (vhi w) 0 (mnI ((vhi w) 0) ((vhi u) 0))) 1 (mnI ((vhi w) 1) ((vhi u) 1))))) la (aI G 3 (upd (upd (upd (vlo w) 0 (mxI ((vlo w) 0) ((vlo u) 0))) 1 (mxI ((vlo w) 1) ((vlo u) 1))) 2 (mxI ((vlo w) 2) ((vlo u) 2))))) ha (aI G 3 (upd (upd (upd (vhi w) 0 (mnI ((vhi w) 0) ((vhi u) 0))) 1 (mnI ((vhi w) 1) ((vhi u) 1))) 2 (mnI ((vhi w) 2) ((vhi u) 2))))) ha = some (aI G 3 (upd (upd (upd (vhi w) 0 (mnI ((vhi w) 0) ((vhi u) 0))) 1 (mnI ((vhi w) 1) ((vhi u) 1))) 2 (mnI ((vhi w) 2) ((vhi u) 2)))) := mU_s
        refine q_aload X dX13_join_174 2 rfl ?_
        refine q_get X m_110 rfl in_RX12 2 (by decide) tw_1159 rfl rfl dX13_join_176 ?_
        refine q_iload X dX13_join_179 0 rfl ?_
        refine q_ialdN X 2 m_111 (rfl) (by decide) (by decide) dX13_join_181 ?_
        refine q_aload X dX13_join_182 2 rfl ?_
        refine q_get X m_110 rfl in_RX12 3 (by decide) tw_1161 rfl rfl dX13_join_184 ?_
        refine q_iload X dX13_join_187 0 rfl ?_
        refine q_ialdN X 2 m_112 (rfl) (by decide) (by decide) dX13_join_189 ?_
        show qJ G F _ 18 (mU (mU (mU (mU (mU (mU M1 la (aI G 3 (upd (vlo w) 0 (mxI ((vlo w) 0) ((vlo u) 0))))) ha (aI G 3 (upd (vhi w) 0 (mnI ((vhi w) 0) ((vhi u) 0))))) la (aI G 3 (upd (upd (vlo w) 0 (mxI ((vlo w) 0) ((vlo u) 0))) 1 (mxI ((vlo w) 1) ((vlo u) 1))))) ha (aI G 3 (upd (upd (vhi w) 0 (mnI ((vhi w) 0) ((vhi u) 0))) 1 (mnI ((vhi w) 1) ((vhi u) 1))))) la (aI G 3 (upd (upd (upd (vlo w) 0 (mxI ((vlo w) 0) ((vlo u) 0))) 1 (mxI ((vlo w) 1) ((vlo u) 1))) 2 (mxI ((vlo w) 2) ((vlo u) 2))))) ha (aI G 3 (upd (upd (upd (vhi w) 0 (mnI ((vhi w) 0) ((vhi u) 0))) 1 (mnI ((vhi w) 1) ((vhi u) 1))) 2 (mnI ((vhi w) 2) ((vhi u) 2))))) 2 4096 190 [(8, .int 2), (7, .int 1), (6, .ref q), (5, .ref s), (4, .ref o), (0, .ref r), (1, .int (nI i)), (2, .int (nI i2)), (3, .int op)] [.int (mnI (vhi w 2) (vhi u 2)), .int (mxI (vlo w 2) (vlo u 2))]
        refine q_icmp_le X 196 dX13_join_190 (by decide) (fun mm2 => ?_) (fun mm2 => ?_)
        · refine q_iinc (v := 3) (lv' := [(8, .int 3), (7, .int 1), (6, .ref q), (5, .ref s), (4, .ref o), (0, .ref r), (1, .int (nI i)), (2, .int (nI i2)), (3, .int op)]) X dX13_join_196 0 rfl (by decide) (by decide) rfl ?_
          refine q_goto X 114 dX13_join_199 (by decide) ?_
          refine q_iload X dX13_join_114 0 rfl ?_
          refine q_iconst (v := 3) X dX13_join_116 (by decide) ?_
          refine q_icmp_ge X 202 dX13_join_117 (by decide) (fun c_113 => ?_) (fun c_113 => absurd (by decide) c_113)
          have hmt := jn_meet hw.1.2.1 (decide_eq_true (show nI (vm w) = nI (vm u) by rw [em])) mm0 mm1 mm2
          have hok := (okS_jn hw.1 hwu.1 hmt).2
          rw [← eLO, ← eHI] at hok
          refine q_arrI (g := LO) m_111 (fun i hi9 => by rw [eLO]; rcases (show i = 0 ∨ i = 1 ∨ i = 2 by omega) with rfl | rfl | rfl <;> simp [upd, jnF, tr3]) ?_
          have m_114 : (mU (mU (mU (mU (mU (mU (mU M1 la (aI G 3 (upd (vlo w) 0 (mxI ((vlo w) 0) ((vlo u) 0))))) ha (aI G 3 (upd (vhi w) 0 (mnI ((vhi w) 0) ((vhi u) 0))))) la (aI G 3 (upd (upd (vlo w) 0 (mxI ((vlo w) 0) ((vlo u) 0))) 1 (mxI ((vlo w) 1) ((vlo u) 1))))) ha (aI G 3 (upd (upd (vhi w) 0 (mnI ((vhi w) 0) ((vhi u) 0))) 1 (mnI ((vhi w) 1) ((vhi u) 1))))) la (aI G 3 (upd (upd (upd (vlo w) 0 (mxI ((vlo w) 0) ((vlo u) 0))) 1 (mxI ((vlo w) 1) ((vlo u) 1))) 2 (mxI ((vlo w) 2) ((vlo u) 2))))) ha (aI G 3 (upd (upd (upd (vhi w) 0 (mnI ((vhi w) 0) ((vhi u) 0))) 1 (mnI ((vhi w) 1) ((vhi u) 1))) 2 (mnI ((vhi w) 2) ((vhi u) 2))))) la (aI G 3 LO)) r = some (oB 13 [.int 0, .ref vA, .ref nA, .ref pA, .ref plA, .ref dg, .int (nI (aV σ).length), .int (nI (aN σ).length), .int (nI (aOf σ)), .int (nI (aBg σ)), .int tk, .long su, .long le, .long gr]) := (mU_n (g_nef hB.1 fla)).trans m_97
          have m_115 : (mU (mU (mU (mU (mU (mU (mU M1 la (aI G 3 (upd (vlo w) 0 (mxI ((vlo w) 0) ((vlo u) 0))))) ha (aI G 3 (upd (vhi w) 0 (mnI ((vhi w) 0) ((vhi u) 0))))) la (aI G 3 (upd (upd (vlo w) 0 (mxI ((vlo w) 0) ((vlo u) 0))) 1 (mxI ((vlo w) 1) ((vlo u) 1))))) ha (aI G 3 (upd (upd (vhi w) 0 (mnI ((vhi w) 0) ((vhi u) 0))) 1 (mnI ((vhi w) 1) ((vhi u) 1))))) la (aI G 3 (upd (upd (upd (vlo w) 0 (mxI ((vlo w) 0) ((vlo u) 0))) 1 (mxI ((vlo w) 1) ((vlo u) 1))) 2 (mxI ((vlo w) 2) ((vlo u) 2))))) ha (aI G 3 (upd (upd (upd (vhi w) 0 (mnI ((vhi w) 0) ((vhi u) 0))) 1 (mnI ((vhi w) 1) ((vhi u) 1))) 2 (mnI ((vhi w) 2) ((vhi u) 2))))) la (aI G 3 LO)) nA = some (aG G 150 nf) := (mU_n (g_nef hB.2.2.1 fla)).trans m_98
          have m_116 : (mU (mU (mU (mU (mU (mU (mU M1 la (aI G 3 (upd (vlo w) 0 (mxI ((vlo w) 0) ((vlo u) 0))))) ha (aI G 3 (upd (vhi w) 0 (mnI ((vhi w) 0) ((vhi u) 0))))) la (aI G 3 (upd (upd (vlo w) 0 (mxI ((vlo w) 0) ((vlo u) 0))) 1 (mxI ((vlo w) 1) ((vlo u) 1))))) ha (aI G 3 (upd (upd (vhi w) 0 (mnI ((vhi w) 0) ((vhi u) 0))) 1 (mnI ((vhi w) 1) ((vhi u) 1))))) la (aI G 3 (upd (upd (upd (vlo w) 0 (mxI ((vlo w) 0) ((vlo u) 0))) 1 (mxI ((vlo w) 1) ((vlo u) 1))) 2 (mxI ((vlo w) 2) ((vlo u) 2))))) ha (aI G 3 (upd (upd (upd (vhi w) 0 (mnI ((vhi w) 0) ((vhi u) 0))) 1 (mnI ((vhi w) 1) ((vhi u) 1))) 2 (mnI ((vhi w) 2) ((vhi u) 2))))) la (aI G 3 LO)) o = some (oB 12 [.int (nI (vm w)), .int (nI (vdp w)), .ref ola, .ref oha, .ref ova, .ref oza]) := (mU_n (g_nef hO.1 fla)).trans m_99
          have m_117 : (mU (mU (mU (mU (mU (mU (mU M1 la (aI G 3 (upd (vlo w) 0 (mxI ((vlo w) 0) ((vlo u) 0))))) ha (aI G 3 (upd (vhi w) 0 (mnI ((vhi w) 0) ((vhi u) 0))))) la (aI G 3 (upd (upd (vlo w) 0 (mxI ((vlo w) 0) ((vlo u) 0))) 1 (mxI ((vlo w) 1) ((vlo u) 1))))) ha (aI G 3 (upd (upd (vhi w) 0 (mnI ((vhi w) 0) ((vhi u) 0))) 1 (mnI ((vhi w) 1) ((vhi u) 1))))) la (aI G 3 (upd (upd (upd (vlo w) 0 (mxI ((vlo w) 0) ((vlo u) 0))) 1 (mxI ((vlo w) 1) ((vlo u) 1))) 2 (mxI ((vlo w) 2) ((vlo u) 2))))) ha (aI G 3 (upd (upd (upd (vhi w) 0 (mnI ((vhi w) 0) ((vhi u) 0))) 1 (mnI ((vhi w) 1) ((vhi u) 1))) 2 (mnI ((vhi w) 2) ((vhi u) 2))))) la (aI G 3 LO)) ola = some (aI G 3 (vlo w)) := (mU_n (g_nef hO.2.1 fla)).trans m_100
          have m_118 : (mU (mU (mU (mU (mU (mU (mU M1 la (aI G 3 (upd (vlo w) 0 (mxI ((vlo w) 0) ((vlo u) 0))))) ha (aI G 3 (upd (vhi w) 0 (mnI ((vhi w) 0) ((vhi u) 0))))) la (aI G 3 (upd (upd (vlo w) 0 (mxI ((vlo w) 0) ((vlo u) 0))) 1 (mxI ((vlo w) 1) ((vlo u) 1))))) ha (aI G 3 (upd (upd (vhi w) 0 (mnI ((vhi w) 0) ((vhi u) 0))) 1 (mnI ((vhi w) 1) ((vhi u) 1))))) la (aI G 3 (upd (upd (upd (vlo w) 0 (mxI ((vlo w) 0) ((vlo u) 0))) 1 (mxI ((vlo w) 1) ((vlo u) 1))) 2 (mxI ((vlo w) 2) ((vlo u) 2))))) ha (aI G 3 (upd (upd (upd (vhi w) 0 (mnI ((vhi w) 0) ((vhi u) 0))) 1 (mnI ((vhi w) 1) ((vhi u) 1))) 2 (mnI ((vhi w) 2) ((vhi u) 2))))) la (aI G 3 LO)) oha = some (aI G 3 (vhi w)) := (mU_n (g_nef hO.2.2.1 fla)).trans m_101
          have m_119 : (mU (mU (mU (mU (mU (mU (mU M1 la (aI G 3 (upd (vlo w) 0 (mxI ((vlo w) 0) ((vlo u) 0))))) ha (aI G 3 (upd (vhi w) 0 (mnI ((vhi w) 0) ((vhi u) 0))))) la (aI G 3 (upd (upd (vlo w) 0 (mxI ((vlo w) 0) ((vlo u) 0))) 1 (mxI ((vlo w) 1) ((vlo u) 1))))) ha (aI G 3 (upd (upd (vhi w) 0 (mnI ((vhi w) 0) ((vhi u) 0))) 1 (mnI ((vhi w) 1) ((vhi u) 1))))) la (aI G 3 (upd (upd (upd (vlo w) 0 (mxI ((vlo w) 0) ((vlo u) 0))) 1 (mxI ((vlo w) 1) ((vlo u) 1))) 2 (mxI ((vlo w) 2) ((vlo u) 2))))) ha (aI G 3 (upd (upd (upd (vhi w) 0 (mnI ((vhi w) 0) ((vhi u) 0))) 1 (mnI ((vhi w) 1) ((vhi u) 1))) 2 (mnI ((vhi w) 2) ((vhi u) 2))))) la (aI G 3 LO)) ova = some (aJ G (wsz w) ovf) := (mU_n (g_nef hO.2.2.2.1 fla)).trans m_102
          have m_120 : (mU (mU (mU (mU (mU (mU (mU M1 la (aI G 3 (upd (vlo w) 0 (mxI ((vlo w) 0) ((vlo u) 0))))) ha (aI G 3 (upd (vhi w) 0 (mnI ((vhi w) 0) ((vhi u) 0))))) la (aI G 3 (upd (upd (vlo w) 0 (mxI ((vlo w) 0) ((vlo u) 0))) 1 (mxI ((vlo w) 1) ((vlo u) 1))))) ha (aI G 3 (upd (upd (vhi w) 0 (mnI ((vhi w) 0) ((vhi u) 0))) 1 (mnI ((vhi w) 1) ((vhi u) 1))))) la (aI G 3 (upd (upd (upd (vlo w) 0 (mxI ((vlo w) 0) ((vlo u) 0))) 1 (mxI ((vlo w) 1) ((vlo u) 1))) 2 (mxI ((vlo w) 2) ((vlo u) 2))))) ha (aI G 3 (upd (upd (upd (vhi w) 0 (mnI ((vhi w) 0) ((vhi u) 0))) 1 (mnI ((vhi w) 1) ((vhi u) 1))) 2 (mnI ((vhi w) 2) ((vhi u) 2))))) la (aI G 3 LO)) oza = some (aZ G (wsz w) ozf) := (mU_n (g_nef hO.2.2.2.2.1 fla)).trans m_103
          have m_121 : (mU (mU (mU (mU (mU (mU (mU M1 la (aI G 3 (upd (vlo w) 0 (mxI ((vlo w) 0) ((vlo u) 0))))) ha (aI G 3 (upd (vhi w) 0 (mnI ((vhi w) 0) ((vhi u) 0))))) la (aI G 3 (upd (upd (vlo w) 0 (mxI ((vlo w) 0) ((vlo u) 0))) 1 (mxI ((vlo w) 1) ((vlo u) 1))))) ha (aI G 3 (upd (upd (vhi w) 0 (mnI ((vhi w) 0) ((vhi u) 0))) 1 (mnI ((vhi w) 1) ((vhi u) 1))))) la (aI G 3 (upd (upd (upd (vlo w) 0 (mxI ((vlo w) 0) ((vlo u) 0))) 1 (mxI ((vlo w) 1) ((vlo u) 1))) 2 (mxI ((vlo w) 2) ((vlo u) 2))))) ha (aI G 3 (upd (upd (upd (vhi w) 0 (mnI ((vhi w) 0) ((vhi u) 0))) 1 (mnI ((vhi w) 1) ((vhi u) 1))) 2 (mnI ((vhi w) 2) ((vhi u) 2))))) la (aI G 3 LO)) s = some (oB 12 [.int (nI (vm u)), .int (nI (vdp u)), .ref sla, .ref sha, .ref sva, .ref sza]) := (mU_n (g_nef hOs.1 fla)).trans m_104
          have m_122 : (mU (mU (mU (mU (mU (mU (mU M1 la (aI G 3 (upd (vlo w) 0 (mxI ((vlo w) 0) ((vlo u) 0))))) ha (aI G 3 (upd (vhi w) 0 (mnI ((vhi w) 0) ((vhi u) 0))))) la (aI G 3 (upd (upd (vlo w) 0 (mxI ((vlo w) 0) ((vlo u) 0))) 1 (mxI ((vlo w) 1) ((vlo u) 1))))) ha (aI G 3 (upd (upd (vhi w) 0 (mnI ((vhi w) 0) ((vhi u) 0))) 1 (mnI ((vhi w) 1) ((vhi u) 1))))) la (aI G 3 (upd (upd (upd (vlo w) 0 (mxI ((vlo w) 0) ((vlo u) 0))) 1 (mxI ((vlo w) 1) ((vlo u) 1))) 2 (mxI ((vlo w) 2) ((vlo u) 2))))) ha (aI G 3 (upd (upd (upd (vhi w) 0 (mnI ((vhi w) 0) ((vhi u) 0))) 1 (mnI ((vhi w) 1) ((vhi u) 1))) 2 (mnI ((vhi w) 2) ((vhi u) 2))))) la (aI G 3 LO)) sla = some (aI G 3 (vlo u)) := (mU_n (g_nef hOs.2.1 fla)).trans m_105
          have m_123 : (mU (mU (mU (mU (mU (mU (mU M1 la (aI G 3 (upd (vlo w) 0 (mxI ((vlo w) 0) ((vlo u) 0))))) ha (aI G 3 (upd (vhi w) 0 (mnI ((vhi w) 0) ((vhi u) 0))))) la (aI G 3 (upd (upd (vlo w) 0 (mxI ((vlo w) 0) ((vlo u) 0))) 1 (mxI ((vlo w) 1) ((vlo u) 1))))) ha (aI G 3 (upd (upd (vhi w) 0 (mnI ((vhi w) 0) ((vhi u) 0))) 1 (mnI ((vhi w) 1) ((vhi u) 1))))) la (aI G 3 (upd (upd (upd (vlo w) 0 (mxI ((vlo w) 0) ((vlo u) 0))) 1 (mxI ((vlo w) 1) ((vlo u) 1))) 2 (mxI ((vlo w) 2) ((vlo u) 2))))) ha (aI G 3 (upd (upd (upd (vhi w) 0 (mnI ((vhi w) 0) ((vhi u) 0))) 1 (mnI ((vhi w) 1) ((vhi u) 1))) 2 (mnI ((vhi w) 2) ((vhi u) 2))))) la (aI G 3 LO)) sha = some (aI G 3 (vhi u)) := (mU_n (g_nef hOs.2.2.1 fla)).trans m_106
          have m_124 : (mU (mU (mU (mU (mU (mU (mU M1 la (aI G 3 (upd (vlo w) 0 (mxI ((vlo w) 0) ((vlo u) 0))))) ha (aI G 3 (upd (vhi w) 0 (mnI ((vhi w) 0) ((vhi u) 0))))) la (aI G 3 (upd (upd (vlo w) 0 (mxI ((vlo w) 0) ((vlo u) 0))) 1 (mxI ((vlo w) 1) ((vlo u) 1))))) ha (aI G 3 (upd (upd (vhi w) 0 (mnI ((vhi w) 0) ((vhi u) 0))) 1 (mnI ((vhi w) 1) ((vhi u) 1))))) la (aI G 3 (upd (upd (upd (vlo w) 0 (mxI ((vlo w) 0) ((vlo u) 0))) 1 (mxI ((vlo w) 1) ((vlo u) 1))) 2 (mxI ((vlo w) 2) ((vlo u) 2))))) ha (aI G 3 (upd (upd (upd (vhi w) 0 (mnI ((vhi w) 0) ((vhi u) 0))) 1 (mnI ((vhi w) 1) ((vhi u) 1))) 2 (mnI ((vhi w) 2) ((vhi u) 2))))) la (aI G 3 LO)) sva = some (aJ G (wsz u) svf) := (mU_n (g_nef hOs.2.2.2.1 fla)).trans m_107
          have m_125 : (mU (mU (mU (mU (mU (mU (mU M1 la (aI G 3 (upd (vlo w) 0 (mxI ((vlo w) 0) ((vlo u) 0))))) ha (aI G 3 (upd (vhi w) 0 (mnI ((vhi w) 0) ((vhi u) 0))))) la (aI G 3 (upd (upd (vlo w) 0 (mxI ((vlo w) 0) ((vlo u) 0))) 1 (mxI ((vlo w) 1) ((vlo u) 1))))) ha (aI G 3 (upd (upd (vhi w) 0 (mnI ((vhi w) 0) ((vhi u) 0))) 1 (mnI ((vhi w) 1) ((vhi u) 1))))) la (aI G 3 (upd (upd (upd (vlo w) 0 (mxI ((vlo w) 0) ((vlo u) 0))) 1 (mxI ((vlo w) 1) ((vlo u) 1))) 2 (mxI ((vlo w) 2) ((vlo u) 2))))) ha (aI G 3 (upd (upd (upd (vhi w) 0 (mnI ((vhi w) 0) ((vhi u) 0))) 1 (mnI ((vhi w) 1) ((vhi u) 1))) 2 (mnI ((vhi w) 2) ((vhi u) 2))))) la (aI G 3 LO)) sza = some (aZ G (wsz u) szf) := (mU_n (g_nef hOs.2.2.2.2.1 fla)).trans m_108
          have m_126 : (mU (mU (mU (mU (mU (mU (mU M1 la (aI G 3 (upd (vlo w) 0 (mxI ((vlo w) 0) ((vlo u) 0))))) ha (aI G 3 (upd (vhi w) 0 (mnI ((vhi w) 0) ((vhi u) 0))))) la (aI G 3 (upd (upd (vlo w) 0 (mxI ((vlo w) 0) ((vlo u) 0))) 1 (mxI ((vlo w) 1) ((vlo u) 1))))) ha (aI G 3 (upd (upd (vhi w) 0 (mnI ((vhi w) 0) ((vhi u) 0))) 1 (mnI ((vhi w) 1) ((vhi u) 1))))) la (aI G 3 (upd (upd (upd (vlo w) 0 (mxI ((vlo w) 0) ((vlo u) 0))) 1 (mxI ((vlo w) 1) ((vlo u) 1))) 2 (mxI ((vlo w) 2) ((vlo u) 2))))) ha (aI G 3 (upd (upd (upd (vhi w) 0 (mnI ((vhi w) 0) ((vhi u) 0))) 1 (mnI ((vhi w) 1) ((vhi u) 1))) 2 (mnI ((vhi w) 2) ((vhi u) 2))))) la (aI G 3 LO)) plA = some (aI G 3 pl0) := (mU_n (g_nef hpl0 fla)).trans m_109
          have m_127 : (mU (mU (mU (mU (mU (mU (mU M1 la (aI G 3 (upd (vlo w) 0 (mxI ((vlo w) 0) ((vlo u) 0))))) ha (aI G 3 (upd (vhi w) 0 (mnI ((vhi w) 0) ((vhi u) 0))))) la (aI G 3 (upd (upd (vlo w) 0 (mxI ((vlo w) 0) ((vlo u) 0))) 1 (mxI ((vlo w) 1) ((vlo u) 1))))) ha (aI G 3 (upd (upd (vhi w) 0 (mnI ((vhi w) 0) ((vhi u) 0))) 1 (mnI ((vhi w) 1) ((vhi u) 1))))) la (aI G 3 (upd (upd (upd (vlo w) 0 (mxI ((vlo w) 0) ((vlo u) 0))) 1 (mxI ((vlo w) 1) ((vlo u) 1))) 2 (mxI ((vlo w) 2) ((vlo u) 2))))) ha (aI G 3 (upd (upd (upd (vhi w) 0 (mnI ((vhi w) 0) ((vhi u) 0))) 1 (mnI ((vhi w) 1) ((vhi u) 1))) 2 (mnI ((vhi w) 2) ((vhi u) 2))))) la (aI G 3 LO)) q = some (oB 12 [.int (nI (vm w)), .int (nI (max (vdp w) (vdp u) + 1)), .ref la, .ref ha, .null, .null]) := (mU_n (Ne.symm (llq))).trans m_110
          have m_128 : (mU (mU (mU (mU (mU (mU (mU M1 la (aI G 3 (upd (vlo w) 0 (mxI ((vlo w) 0) ((vlo u) 0))))) ha (aI G 3 (upd (vhi w) 0 (mnI ((vhi w) 0) ((vhi u) 0))))) la (aI G 3 (upd (upd (vlo w) 0 (mxI ((vlo w) 0) ((vlo u) 0))) 1 (mxI ((vlo w) 1) ((vlo u) 1))))) ha (aI G 3 (upd (upd (vhi w) 0 (mnI ((vhi w) 0) ((vhi u) 0))) 1 (mnI ((vhi w) 1) ((vhi u) 1))))) la (aI G 3 (upd (upd (upd (vlo w) 0 (mxI ((vlo w) 0) ((vlo u) 0))) 1 (mxI ((vlo w) 1) ((vlo u) 1))) 2 (mxI ((vlo w) 2) ((vlo u) 2))))) ha (aI G 3 (upd (upd (upd (vhi w) 0 (mnI ((vhi w) 0) ((vhi u) 0))) 1 (mnI ((vhi w) 1) ((vhi u) 1))) 2 (mnI ((vhi w) 2) ((vhi u) 2))))) la (aI G 3 LO)) la = some (aI G 3 LO) := mU_s
          have m_129 : (mU (mU (mU (mU (mU (mU (mU M1 la (aI G 3 (upd (vlo w) 0 (mxI ((vlo w) 0) ((vlo u) 0))))) ha (aI G 3 (upd (vhi w) 0 (mnI ((vhi w) 0) ((vhi u) 0))))) la (aI G 3 (upd (upd (vlo w) 0 (mxI ((vlo w) 0) ((vlo u) 0))) 1 (mxI ((vlo w) 1) ((vlo u) 1))))) ha (aI G 3 (upd (upd (vhi w) 0 (mnI ((vhi w) 0) ((vhi u) 0))) 1 (mnI ((vhi w) 1) ((vhi u) 1))))) la (aI G 3 (upd (upd (upd (vlo w) 0 (mxI ((vlo w) 0) ((vlo u) 0))) 1 (mxI ((vlo w) 1) ((vlo u) 1))) 2 (mxI ((vlo w) 2) ((vlo u) 2))))) ha (aI G 3 (upd (upd (upd (vhi w) 0 (mnI ((vhi w) 0) ((vhi u) 0))) 1 (mnI ((vhi w) 1) ((vhi u) 1))) 2 (mnI ((vhi w) 2) ((vhi u) 2))))) la (aI G 3 LO)) ha = some (aI G 3 (upd (upd (upd (vhi w) 0 (mnI ((vhi w) 0) ((vhi u) 0))) 1 (mnI ((vhi w) 1) ((vhi u) 1))) 2 (mnI ((vhi w) 2) ((vhi u) 2)))) := (mU_n (Ne.symm (llh))).trans m_112
          refine q_arrI (g := HI) m_129 (fun i hi9 => by rw [eHI]; rcases (show i = 0 ∨ i = 1 ∨ i = 2 by omega) with rfl | rfl | rfl <;> simp [upd, jnF, tr3]) ?_
          have m_130 : (mU (mU (mU (mU (mU (mU (mU (mU M1 la (aI G 3 (upd (vlo w) 0 (mxI ((vlo w) 0) ((vlo u) 0))))) ha (aI G 3 (upd (vhi w) 0 (mnI ((vhi w) 0) ((vhi u) 0))))) la (aI G 3 (upd (upd (vlo w) 0 (mxI ((vlo w) 0) ((vlo u) 0))) 1 (mxI ((vlo w) 1) ((vlo u) 1))))) ha (aI G 3 (upd (upd (vhi w) 0 (mnI ((vhi w) 0) ((vhi u) 0))) 1 (mnI ((vhi w) 1) ((vhi u) 1))))) la (aI G 3 (upd (upd (upd (vlo w) 0 (mxI ((vlo w) 0) ((vlo u) 0))) 1 (mxI ((vlo w) 1) ((vlo u) 1))) 2 (mxI ((vlo w) 2) ((vlo u) 2))))) ha (aI G 3 (upd (upd (upd (vhi w) 0 (mnI ((vhi w) 0) ((vhi u) 0))) 1 (mnI ((vhi w) 1) ((vhi u) 1))) 2 (mnI ((vhi w) 2) ((vhi u) 2))))) la (aI G 3 LO)) ha (aI G 3 HI)) r = some (oB 13 [.int 0, .ref vA, .ref nA, .ref pA, .ref plA, .ref dg, .int (nI (aV σ).length), .int (nI (aN σ).length), .int (nI (aOf σ)), .int (nI (aBg σ)), .int tk, .long su, .long le, .long gr]) := (mU_n (g_nef hB.1 fha)).trans m_114
          have m_131 : (mU (mU (mU (mU (mU (mU (mU (mU M1 la (aI G 3 (upd (vlo w) 0 (mxI ((vlo w) 0) ((vlo u) 0))))) ha (aI G 3 (upd (vhi w) 0 (mnI ((vhi w) 0) ((vhi u) 0))))) la (aI G 3 (upd (upd (vlo w) 0 (mxI ((vlo w) 0) ((vlo u) 0))) 1 (mxI ((vlo w) 1) ((vlo u) 1))))) ha (aI G 3 (upd (upd (vhi w) 0 (mnI ((vhi w) 0) ((vhi u) 0))) 1 (mnI ((vhi w) 1) ((vhi u) 1))))) la (aI G 3 (upd (upd (upd (vlo w) 0 (mxI ((vlo w) 0) ((vlo u) 0))) 1 (mxI ((vlo w) 1) ((vlo u) 1))) 2 (mxI ((vlo w) 2) ((vlo u) 2))))) ha (aI G 3 (upd (upd (upd (vhi w) 0 (mnI ((vhi w) 0) ((vhi u) 0))) 1 (mnI ((vhi w) 1) ((vhi u) 1))) 2 (mnI ((vhi w) 2) ((vhi u) 2))))) la (aI G 3 LO)) ha (aI G 3 HI)) nA = some (aG G 150 nf) := (mU_n (g_nef hB.2.2.1 fha)).trans m_115
          have m_132 : (mU (mU (mU (mU (mU (mU (mU (mU M1 la (aI G 3 (upd (vlo w) 0 (mxI ((vlo w) 0) ((vlo u) 0))))) ha (aI G 3 (upd (vhi w) 0 (mnI ((vhi w) 0) ((vhi u) 0))))) la (aI G 3 (upd (upd (vlo w) 0 (mxI ((vlo w) 0) ((vlo u) 0))) 1 (mxI ((vlo w) 1) ((vlo u) 1))))) ha (aI G 3 (upd (upd (vhi w) 0 (mnI ((vhi w) 0) ((vhi u) 0))) 1 (mnI ((vhi w) 1) ((vhi u) 1))))) la (aI G 3 (upd (upd (upd (vlo w) 0 (mxI ((vlo w) 0) ((vlo u) 0))) 1 (mxI ((vlo w) 1) ((vlo u) 1))) 2 (mxI ((vlo w) 2) ((vlo u) 2))))) ha (aI G 3 (upd (upd (upd (vhi w) 0 (mnI ((vhi w) 0) ((vhi u) 0))) 1 (mnI ((vhi w) 1) ((vhi u) 1))) 2 (mnI ((vhi w) 2) ((vhi u) 2))))) la (aI G 3 LO)) ha (aI G 3 HI)) o = some (oB 12 [.int (nI (vm w)), .int (nI (vdp w)), .ref ola, .ref oha, .ref ova, .ref oza]) := (mU_n (g_nef hO.1 fha)).trans m_116
          have m_133 : (mU (mU (mU (mU (mU (mU (mU (mU M1 la (aI G 3 (upd (vlo w) 0 (mxI ((vlo w) 0) ((vlo u) 0))))) ha (aI G 3 (upd (vhi w) 0 (mnI ((vhi w) 0) ((vhi u) 0))))) la (aI G 3 (upd (upd (vlo w) 0 (mxI ((vlo w) 0) ((vlo u) 0))) 1 (mxI ((vlo w) 1) ((vlo u) 1))))) ha (aI G 3 (upd (upd (vhi w) 0 (mnI ((vhi w) 0) ((vhi u) 0))) 1 (mnI ((vhi w) 1) ((vhi u) 1))))) la (aI G 3 (upd (upd (upd (vlo w) 0 (mxI ((vlo w) 0) ((vlo u) 0))) 1 (mxI ((vlo w) 1) ((vlo u) 1))) 2 (mxI ((vlo w) 2) ((vlo u) 2))))) ha (aI G 3 (upd (upd (upd (vhi w) 0 (mnI ((vhi w) 0) ((vhi u) 0))) 1 (mnI ((vhi w) 1) ((vhi u) 1))) 2 (mnI ((vhi w) 2) ((vhi u) 2))))) la (aI G 3 LO)) ha (aI G 3 HI)) ola = some (aI G 3 (vlo w)) := (mU_n (g_nef hO.2.1 fha)).trans m_117
          have m_134 : (mU (mU (mU (mU (mU (mU (mU (mU M1 la (aI G 3 (upd (vlo w) 0 (mxI ((vlo w) 0) ((vlo u) 0))))) ha (aI G 3 (upd (vhi w) 0 (mnI ((vhi w) 0) ((vhi u) 0))))) la (aI G 3 (upd (upd (vlo w) 0 (mxI ((vlo w) 0) ((vlo u) 0))) 1 (mxI ((vlo w) 1) ((vlo u) 1))))) ha (aI G 3 (upd (upd (vhi w) 0 (mnI ((vhi w) 0) ((vhi u) 0))) 1 (mnI ((vhi w) 1) ((vhi u) 1))))) la (aI G 3 (upd (upd (upd (vlo w) 0 (mxI ((vlo w) 0) ((vlo u) 0))) 1 (mxI ((vlo w) 1) ((vlo u) 1))) 2 (mxI ((vlo w) 2) ((vlo u) 2))))) ha (aI G 3 (upd (upd (upd (vhi w) 0 (mnI ((vhi w) 0) ((vhi u) 0))) 1 (mnI ((vhi w) 1) ((vhi u) 1))) 2 (mnI ((vhi w) 2) ((vhi u) 2))))) la (aI G 3 LO)) ha (aI G 3 HI)) oha = some (aI G 3 (vhi w)) := (mU_n (g_nef hO.2.2.1 fha)).trans m_118
          have m_135 : (mU (mU (mU (mU (mU (mU (mU (mU M1 la (aI G 3 (upd (vlo w) 0 (mxI ((vlo w) 0) ((vlo u) 0))))) ha (aI G 3 (upd (vhi w) 0 (mnI ((vhi w) 0) ((vhi u) 0))))) la (aI G 3 (upd (upd (vlo w) 0 (mxI ((vlo w) 0) ((vlo u) 0))) 1 (mxI ((vlo w) 1) ((vlo u) 1))))) ha (aI G 3 (upd (upd (vhi w) 0 (mnI ((vhi w) 0) ((vhi u) 0))) 1 (mnI ((vhi w) 1) ((vhi u) 1))))) la (aI G 3 (upd (upd (upd (vlo w) 0 (mxI ((vlo w) 0) ((vlo u) 0))) 1 (mxI ((vlo w) 1) ((vlo u) 1))) 2 (mxI ((vlo w) 2) ((vlo u) 2))))) ha (aI G 3 (upd (upd (upd (vhi w) 0 (mnI ((vhi w) 0) ((vhi u) 0))) 1 (mnI ((vhi w) 1) ((vhi u) 1))) 2 (mnI ((vhi w) 2) ((vhi u) 2))))) la (aI G 3 LO)) ha (aI G 3 HI)) ova = some (aJ G (wsz w) ovf) := (mU_n (g_nef hO.2.2.2.1 fha)).trans m_119
          have m_136 : (mU (mU (mU (mU (mU (mU (mU (mU M1 la (aI G 3 (upd (vlo w) 0 (mxI ((vlo w) 0) ((vlo u) 0))))) ha (aI G 3 (upd (vhi w) 0 (mnI ((vhi w) 0) ((vhi u) 0))))) la (aI G 3 (upd (upd (vlo w) 0 (mxI ((vlo w) 0) ((vlo u) 0))) 1 (mxI ((vlo w) 1) ((vlo u) 1))))) ha (aI G 3 (upd (upd (vhi w) 0 (mnI ((vhi w) 0) ((vhi u) 0))) 1 (mnI ((vhi w) 1) ((vhi u) 1))))) la (aI G 3 (upd (upd (upd (vlo w) 0 (mxI ((vlo w) 0) ((vlo u) 0))) 1 (mxI ((vlo w) 1) ((vlo u) 1))) 2 (mxI ((vlo w) 2) ((vlo u) 2))))) ha (aI G 3 (upd (upd (upd (vhi w) 0 (mnI ((vhi w) 0) ((vhi u) 0))) 1 (mnI ((vhi w) 1) ((vhi u) 1))) 2 (mnI ((vhi w) 2) ((vhi u) 2))))) la (aI G 3 LO)) ha (aI G 3 HI)) oza = some (aZ G (wsz w) ozf) := (mU_n (g_nef hO.2.2.2.2.1 fha)).trans m_120
          have m_137 : (mU (mU (mU (mU (mU (mU (mU (mU M1 la (aI G 3 (upd (vlo w) 0 (mxI ((vlo w) 0) ((vlo u) 0))))) ha (aI G 3 (upd (vhi w) 0 (mnI ((vhi w) 0) ((vhi u) 0))))) la (aI G 3 (upd (upd (vlo w) 0 (mxI ((vlo w) 0) ((vlo u) 0))) 1 (mxI ((vlo w) 1) ((vlo u) 1))))) ha (aI G 3 (upd (upd (vhi w) 0 (mnI ((vhi w) 0) ((vhi u) 0))) 1 (mnI ((vhi w) 1) ((vhi u) 1))))) la (aI G 3 (upd (upd (upd (vlo w) 0 (mxI ((vlo w) 0) ((vlo u) 0))) 1 (mxI ((vlo w) 1) ((vlo u) 1))) 2 (mxI ((vlo w) 2) ((vlo u) 2))))) ha (aI G 3 (upd (upd (upd (vhi w) 0 (mnI ((vhi w) 0) ((vhi u) 0))) 1 (mnI ((vhi w) 1) ((vhi u) 1))) 2 (mnI ((vhi w) 2) ((vhi u) 2))))) la (aI G 3 LO)) ha (aI G 3 HI)) s = some (oB 12 [.int (nI (vm u)), .int (nI (vdp u)), .ref sla, .ref sha, .ref sva, .ref sza]) := (mU_n (g_nef hOs.1 fha)).trans m_121
          have m_138 : (mU (mU (mU (mU (mU (mU (mU (mU M1 la (aI G 3 (upd (vlo w) 0 (mxI ((vlo w) 0) ((vlo u) 0))))) ha (aI G 3 (upd (vhi w) 0 (mnI ((vhi w) 0) ((vhi u) 0))))) la (aI G 3 (upd (upd (vlo w) 0 (mxI ((vlo w) 0) ((vlo u) 0))) 1 (mxI ((vlo w) 1) ((vlo u) 1))))) ha (aI G 3 (upd (upd (vhi w) 0 (mnI ((vhi w) 0) ((vhi u) 0))) 1 (mnI ((vhi w) 1) ((vhi u) 1))))) la (aI G 3 (upd (upd (upd (vlo w) 0 (mxI ((vlo w) 0) ((vlo u) 0))) 1 (mxI ((vlo w) 1) ((vlo u) 1))) 2 (mxI ((vlo w) 2) ((vlo u) 2))))) ha (aI G 3 (upd (upd (upd (vhi w) 0 (mnI ((vhi w) 0) ((vhi u) 0))) 1 (mnI ((vhi w) 1) ((vhi u) 1))) 2 (mnI ((vhi w) 2) ((vhi u) 2))))) la (aI G 3 LO)) ha (aI G 3 HI)) sla = some (aI G 3 (vlo u)) := (mU_n (g_nef hOs.2.1 fha)).trans m_122
          have m_139 : (mU (mU (mU (mU (mU (mU (mU (mU M1 la (aI G 3 (upd (vlo w) 0 (mxI ((vlo w) 0) ((vlo u) 0))))) ha (aI G 3 (upd (vhi w) 0 (mnI ((vhi w) 0) ((vhi u) 0))))) la (aI G 3 (upd (upd (vlo w) 0 (mxI ((vlo w) 0) ((vlo u) 0))) 1 (mxI ((vlo w) 1) ((vlo u) 1))))) ha (aI G 3 (upd (upd (vhi w) 0 (mnI ((vhi w) 0) ((vhi u) 0))) 1 (mnI ((vhi w) 1) ((vhi u) 1))))) la (aI G 3 (upd (upd (upd (vlo w) 0 (mxI ((vlo w) 0) ((vlo u) 0))) 1 (mxI ((vlo w) 1) ((vlo u) 1))) 2 (mxI ((vlo w) 2) ((vlo u) 2))))) ha (aI G 3 (upd (upd (upd (vhi w) 0 (mnI ((vhi w) 0) ((vhi u) 0))) 1 (mnI ((vhi w) 1) ((vhi u) 1))) 2 (mnI ((vhi w) 2) ((vhi u) 2))))) la (aI G 3 LO)) ha (aI G 3 HI)) sha = some (aI G 3 (vhi u)) := (mU_n (g_nef hOs.2.2.1 fha)).trans m_123
          have m_140 : (mU (mU (mU (mU (mU (mU (mU (mU M1 la (aI G 3 (upd (vlo w) 0 (mxI ((vlo w) 0) ((vlo u) 0))))) ha (aI G 3 (upd (vhi w) 0 (mnI ((vhi w) 0) ((vhi u) 0))))) la (aI G 3 (upd (upd (vlo w) 0 (mxI ((vlo w) 0) ((vlo u) 0))) 1 (mxI ((vlo w) 1) ((vlo u) 1))))) ha (aI G 3 (upd (upd (vhi w) 0 (mnI ((vhi w) 0) ((vhi u) 0))) 1 (mnI ((vhi w) 1) ((vhi u) 1))))) la (aI G 3 (upd (upd (upd (vlo w) 0 (mxI ((vlo w) 0) ((vlo u) 0))) 1 (mxI ((vlo w) 1) ((vlo u) 1))) 2 (mxI ((vlo w) 2) ((vlo u) 2))))) ha (aI G 3 (upd (upd (upd (vhi w) 0 (mnI ((vhi w) 0) ((vhi u) 0))) 1 (mnI ((vhi w) 1) ((vhi u) 1))) 2 (mnI ((vhi w) 2) ((vhi u) 2))))) la (aI G 3 LO)) ha (aI G 3 HI)) sva = some (aJ G (wsz u) svf) := (mU_n (g_nef hOs.2.2.2.1 fha)).trans m_124
          have m_141 : (mU (mU (mU (mU (mU (mU (mU (mU M1 la (aI G 3 (upd (vlo w) 0 (mxI ((vlo w) 0) ((vlo u) 0))))) ha (aI G 3 (upd (vhi w) 0 (mnI ((vhi w) 0) ((vhi u) 0))))) la (aI G 3 (upd (upd (vlo w) 0 (mxI ((vlo w) 0) ((vlo u) 0))) 1 (mxI ((vlo w) 1) ((vlo u) 1))))) ha (aI G 3 (upd (upd (vhi w) 0 (mnI ((vhi w) 0) ((vhi u) 0))) 1 (mnI ((vhi w) 1) ((vhi u) 1))))) la (aI G 3 (upd (upd (upd (vlo w) 0 (mxI ((vlo w) 0) ((vlo u) 0))) 1 (mxI ((vlo w) 1) ((vlo u) 1))) 2 (mxI ((vlo w) 2) ((vlo u) 2))))) ha (aI G 3 (upd (upd (upd (vhi w) 0 (mnI ((vhi w) 0) ((vhi u) 0))) 1 (mnI ((vhi w) 1) ((vhi u) 1))) 2 (mnI ((vhi w) 2) ((vhi u) 2))))) la (aI G 3 LO)) ha (aI G 3 HI)) sza = some (aZ G (wsz u) szf) := (mU_n (g_nef hOs.2.2.2.2.1 fha)).trans m_125
          have m_142 : (mU (mU (mU (mU (mU (mU (mU (mU M1 la (aI G 3 (upd (vlo w) 0 (mxI ((vlo w) 0) ((vlo u) 0))))) ha (aI G 3 (upd (vhi w) 0 (mnI ((vhi w) 0) ((vhi u) 0))))) la (aI G 3 (upd (upd (vlo w) 0 (mxI ((vlo w) 0) ((vlo u) 0))) 1 (mxI ((vlo w) 1) ((vlo u) 1))))) ha (aI G 3 (upd (upd (vhi w) 0 (mnI ((vhi w) 0) ((vhi u) 0))) 1 (mnI ((vhi w) 1) ((vhi u) 1))))) la (aI G 3 (upd (upd (upd (vlo w) 0 (mxI ((vlo w) 0) ((vlo u) 0))) 1 (mxI ((vlo w) 1) ((vlo u) 1))) 2 (mxI ((vlo w) 2) ((vlo u) 2))))) ha (aI G 3 (upd (upd (upd (vhi w) 0 (mnI ((vhi w) 0) ((vhi u) 0))) 1 (mnI ((vhi w) 1) ((vhi u) 1))) 2 (mnI ((vhi w) 2) ((vhi u) 2))))) la (aI G 3 LO)) ha (aI G 3 HI)) plA = some (aI G 3 pl0) := (mU_n (g_nef hpl0 fha)).trans m_126
          have m_143 : (mU (mU (mU (mU (mU (mU (mU (mU M1 la (aI G 3 (upd (vlo w) 0 (mxI ((vlo w) 0) ((vlo u) 0))))) ha (aI G 3 (upd (vhi w) 0 (mnI ((vhi w) 0) ((vhi u) 0))))) la (aI G 3 (upd (upd (vlo w) 0 (mxI ((vlo w) 0) ((vlo u) 0))) 1 (mxI ((vlo w) 1) ((vlo u) 1))))) ha (aI G 3 (upd (upd (vhi w) 0 (mnI ((vhi w) 0) ((vhi u) 0))) 1 (mnI ((vhi w) 1) ((vhi u) 1))))) la (aI G 3 (upd (upd (upd (vlo w) 0 (mxI ((vlo w) 0) ((vlo u) 0))) 1 (mxI ((vlo w) 1) ((vlo u) 1))) 2 (mxI ((vlo w) 2) ((vlo u) 2))))) ha (aI G 3 (upd (upd (upd (vhi w) 0 (mnI ((vhi w) 0) ((vhi u) 0))) 1 (mnI ((vhi w) 1) ((vhi u) 1))) 2 (mnI ((vhi w) 2) ((vhi u) 2))))) la (aI G 3 LO)) ha (aI G 3 HI)) q = some (oB 12 [.int (nI (vm w)), .int (nI (max (vdp w) (vdp u) + 1)), .ref la, .ref ha, .null, .null]) := (mU_n (Ne.symm (lhq))).trans m_127
          have m_144 : (mU (mU (mU (mU (mU (mU (mU (mU M1 la (aI G 3 (upd (vlo w) 0 (mxI ((vlo w) 0) ((vlo u) 0))))) ha (aI G 3 (upd (vhi w) 0 (mnI ((vhi w) 0) ((vhi u) 0))))) la (aI G 3 (upd (upd (vlo w) 0 (mxI ((vlo w) 0) ((vlo u) 0))) 1 (mxI ((vlo w) 1) ((vlo u) 1))))) ha (aI G 3 (upd (upd (vhi w) 0 (mnI ((vhi w) 0) ((vhi u) 0))) 1 (mnI ((vhi w) 1) ((vhi u) 1))))) la (aI G 3 (upd (upd (upd (vlo w) 0 (mxI ((vlo w) 0) ((vlo u) 0))) 1 (mxI ((vlo w) 1) ((vlo u) 1))) 2 (mxI ((vlo w) 2) ((vlo u) 2))))) ha (aI G 3 (upd (upd (upd (vhi w) 0 (mnI ((vhi w) 0) ((vhi u) 0))) 1 (mnI ((vhi w) 1) ((vhi u) 1))) 2 (mnI ((vhi w) 2) ((vhi u) 2))))) la (aI G 3 LO)) ha (aI G 3 HI)) la = some (aI G 3 LO) := (mU_n (llh)).trans m_128
          have m_145 : (mU (mU (mU (mU (mU (mU (mU (mU M1 la (aI G 3 (upd (vlo w) 0 (mxI ((vlo w) 0) ((vlo u) 0))))) ha (aI G 3 (upd (vhi w) 0 (mnI ((vhi w) 0) ((vhi u) 0))))) la (aI G 3 (upd (upd (vlo w) 0 (mxI ((vlo w) 0) ((vlo u) 0))) 1 (mxI ((vlo w) 1) ((vlo u) 1))))) ha (aI G 3 (upd (upd (vhi w) 0 (mnI ((vhi w) 0) ((vhi u) 0))) 1 (mnI ((vhi w) 1) ((vhi u) 1))))) la (aI G 3 (upd (upd (upd (vlo w) 0 (mxI ((vlo w) 0) ((vlo u) 0))) 1 (mxI ((vlo w) 1) ((vlo u) 1))) 2 (mxI ((vlo w) 2) ((vlo u) 2))))) ha (aI G 3 (upd (upd (upd (vhi w) 0 (mnI ((vhi w) 0) ((vhi u) 0))) 1 (mnI ((vhi w) 1) ((vhi u) 1))) 2 (mnI ((vhi w) 2) ((vhi u) 2))))) la (aI G 3 LO)) ha (aI G 3 HI)) ha = some (aI G 3 HI) := mU_s
          have evM2 : mEv (fun x => x = r ∨ x = plA) M (mU (mU (mU (mU (mU (mU (mU (mU M1 la (aI G 3 (upd (vlo w) 0 (mxI ((vlo w) 0) ((vlo u) 0))))) ha (aI G 3 (upd (vhi w) 0 (mnI ((vhi w) 0) ((vhi u) 0))))) la (aI G 3 (upd (upd (vlo w) 0 (mxI ((vlo w) 0) ((vlo u) 0))) 1 (mxI ((vlo w) 1) ((vlo u) 1))))) ha (aI G 3 (upd (upd (vhi w) 0 (mnI ((vhi w) 0) ((vhi u) 0))) 1 (mnI ((vhi w) 1) ((vhi u) 1))))) la (aI G 3 (upd (upd (upd (vlo w) 0 (mxI ((vlo w) 0) ((vlo u) 0))) 1 (mxI ((vlo w) 1) ((vlo u) 1))) 2 (mxI ((vlo w) 2) ((vlo u) 2))))) ha (aI G 3 (upd (upd (upd (vhi w) 0 (mnI ((vhi w) 0) ((vhi u) 0))) 1 (mnI ((vhi w) 1) ((vhi u) 1))) 2 (mnI ((vhi w) 2) ((vhi u) 2))))) la (aI G 3 LO)) ha (aI G 3 HI)) := fun x hx => by
            have wla : x ≠ la := fun z => hx (z ▸ fla)
            have wha : x ≠ ha := fun z => hx (z ▸ fha)
            have e1 := evK1 x hx
            have e : (mU (mU (mU (mU (mU (mU (mU (mU M1 la (aI G 3 (upd (vlo w) 0 (mxI ((vlo w) 0) ((vlo u) 0))))) ha (aI G 3 (upd (vhi w) 0 (mnI ((vhi w) 0) ((vhi u) 0))))) la (aI G 3 (upd (upd (vlo w) 0 (mxI ((vlo w) 0) ((vlo u) 0))) 1 (mxI ((vlo w) 1) ((vlo u) 1))))) ha (aI G 3 (upd (upd (vhi w) 0 (mnI ((vhi w) 0) ((vhi u) 0))) 1 (mnI ((vhi w) 1) ((vhi u) 1))))) la (aI G 3 (upd (upd (upd (vlo w) 0 (mxI ((vlo w) 0) ((vlo u) 0))) 1 (mxI ((vlo w) 1) ((vlo u) 1))) 2 (mxI ((vlo w) 2) ((vlo u) 2))))) ha (aI G 3 (upd (upd (upd (vhi w) 0 (mnI ((vhi w) 0) ((vhi u) 0))) 1 (mnI ((vhi w) 1) ((vhi u) 1))) 2 (mnI ((vhi w) 2) ((vhi u) 2))))) la (aI G 3 LO)) ha (aI G 3 HI)) x = M1 x := by simp only [mU, wla, wha, if_false]
            exact ⟨by rw [e]; exact e1.1, fun k => e.trans (e1.2 k)⟩
          generalize mU (mU (mU (mU (mU (mU (mU (mU M1 la (aI G 3 (upd (vlo w) 0 (mxI ((vlo w) 0) ((vlo u) 0))))) ha (aI G 3 (upd (vhi w) 0 (mnI ((vhi w) 0) ((vhi u) 0))))) la (aI G 3 (upd (upd (vlo w) 0 (mxI ((vlo w) 0) ((vlo u) 0))) 1 (mxI ((vlo w) 1) ((vlo u) 1))))) ha (aI G 3 (upd (upd (vhi w) 0 (mnI ((vhi w) 0) ((vhi u) 0))) 1 (mnI ((vhi w) 1) ((vhi u) 1))))) la (aI G 3 (upd (upd (upd (vlo w) 0 (mxI ((vlo w) 0) ((vlo u) 0))) 1 (mxI ((vlo w) 1) ((vlo u) 1))) 2 (mxI ((vlo w) 2) ((vlo u) 2))))) ha (aI G 3 (upd (upd (upd (vhi w) 0 (mnI ((vhi w) 0) ((vhi u) 0))) 1 (mnI ((vhi w) 1) ((vhi u) 1))) 2 (mnI ((vhi w) 2) ((vhi u) 2))))) la (aI G 3 LO)) ha (aI G 3 HI) = M2 at *
          have hBJ : rfB G M2 r 0 σ vA nA pA plA dg dla dha dva dza dvf dzf vf nf pf tk su le gr := hB.ev2 evM2 m_130 ⟨_, m_142⟩
          refine q_aload_n X dX13_join_202 5 rfl ?_
          refine q_iload X dX13_join_203 1 rfl ?_
          refine q_if_ne X 212 dX13_join_205 (by decide) (fun c_146 => ?_) (fun c_146 => absurd c_146 (by decide))
          refine q_iconst (v := 0) X dX13_join_212 (by decide) ?_
          refine q_iconst (v := 1) X dX13_join_213 (by decide) ?_
          refine q_callV X (c_fails0 (why := 1) hBJ.1) Y_X13_fails tw_1246 tw_1248 sel_23 m_130 rfl (by omega) rfl rfl (Nat.le_of_ble_eq_true rfl) (rc' := 2) (rs' := 4096) (by omega) (by omega) dX13_join_214 (fun v M' hp _ => ?_)
          have evKj : mEv (fun x => x = r ∨ x = plA) M M' := by rw [hp.2]; exact evM2.trans (mEv_upd (K := (fun x => x = r ∨ x = plA)) (Or.inl rfl))
          have m_147 : M' o = some (oB 12 [.int (nI (vm w)), .int (nI (vdp w)), .ref ola, .ref oha, .ref ova, .ref oza]) := by rw [hp.2]; exact (mU_n (g_neoo m_132 m_130 (by decide))).trans m_132
          have m_148 : M' ola = some (aI G 3 (vlo w)) := by rw [hp.2]; exact (mU_n (Ne.symm (g_neoa m_130 m_133))).trans m_133
          have m_149 : M' oha = some (aI G 3 (vhi w)) := by rw [hp.2]; exact (mU_n (Ne.symm (g_neoa m_130 m_134))).trans m_134
          have m_150 : M' ova = some (aJ G (wsz w) ovf) := by rw [hp.2]; exact (mU_n (Ne.symm (g_neoa m_130 m_135))).trans m_135
          have m_151 : M' oza = some (aZ G (wsz w) ozf) := by rw [hp.2]; exact (mU_n (Ne.symm (g_neoa m_130 m_136))).trans m_136
          have m_152 : M' s = some (oB 12 [.int (nI (vm u)), .int (nI (vdp u)), .ref sla, .ref sha, .ref sva, .ref sza]) := by rw [hp.2]; exact (mU_n (g_neoo m_137 m_130 (by decide))).trans m_137
          have m_153 : M' sla = some (aI G 3 (vlo u)) := by rw [hp.2]; exact (mU_n (Ne.symm (g_neoa m_130 m_138))).trans m_138
          have m_154 : M' sha = some (aI G 3 (vhi u)) := by rw [hp.2]; exact (mU_n (Ne.symm (g_neoa m_130 m_139))).trans m_139
          have m_155 : M' sva = some (aJ G (wsz u) svf) := by rw [hp.2]; exact (mU_n (Ne.symm (g_neoa m_130 m_140))).trans m_140
          have m_156 : M' sza = some (aZ G (wsz u) szf) := by rw [hp.2]; exact (mU_n (Ne.symm (g_neoa m_130 m_141))).trans m_141
          have m_157 : M' q = some (oB 12 [.int (nI (vm w)), .int (nI (max (vdp w) (vdp u) + 1)), .ref la, .ref ha, .null, .null]) := by rw [hp.2]; exact (mU_n (Ne.symm (g_nef hB.1 fq))).trans m_143
          have m_158 : M' la = some (aI G 3 LO) := by rw [hp.2]; exact (mU_n (Ne.symm (g_nef hB.1 fla))).trans m_144
          have m_159 : M' ha = some (aI G 3 HI) := by rw [hp.2]; exact (mU_n (Ne.symm (g_nef hB.1 fha))).trans m_145
          obtain ⟨rfl, eM⟩ := hp
          have hB260 : rfB G M' r 0 σ vA nA pA plA dg dla dha dva dza dvf dzf vf nf pf tk su le gr := by rw [eM]; exact hBJ.ro
          clear eM
          generalize M' = M260 at *
          show qJ G F _ 18 M260 2 4096 217 [(8, .int 3), (7, .int 1), (6, .ref q), (5, .ref s), (4, .ref o), (0, .ref r), (1, .int (nI i)), (2, .int (nI i2)), (3, .int op)] [.int 0]
          obtain ⟨z_161r, z_1611, z_1612, z_1613, ⟨z_161x, z_1614⟩, z_1615, z_1616, z_1617, z_1618, z_1619, z_16110⟩ := id hB260
          refine q_if_eq X 222 dX13_join_217 (by decide) (fun c_162 => ?_) (fun c_162 => absurd (by decide) c_162)
          refine q_aload_n X dX13_join_222 5 rfl ?_
          refine q_aload X dX13_join_223 2 rfl ?_
          have hB2 : rfB G M260 r 0 σ vA nA pA plA dg dla dha dva dza dvf dzf vf nf pf tk su le gr := hB.ev2 evKj z_161r ⟨_, z_1614⟩
          by_cases hlim : ¬ sWithin (LO) (HI) = 0 ∧ nI (max (vdp w) (vdp u)) < 40
          · refine q_callV X (c_large_y hB2 hok hmx m_157 m_158 m_159 hlim) Y_X13_large tw_1359 tw_1361 sel_32 z_161r rfl (by omega) rfl rfl (Nat.le_of_ble_eq_true rfl) (rc' := 2) (rs' := 4096) (by omega) (by omega) dX13_join_225 (fun v M' hp _ => ?_)
            obtain ⟨rfl, eM⟩ := hp
            have m_163 : M' r = some (oB 13 [.int 0, .ref vA, .ref nA, .ref pA, .ref plA, .ref dg, .int (nI (aV σ).length), .int (nI (aN σ).length), .int (nI (aOf σ)), .int (nI (aBg σ)), .int tk, .long su, .long le, .long gr]) := by rw [eM]; exact mU_s
            have m_164 : M' vA = some (aG G 41 vf) := by rw [eM]; exact (mU_n (Ne.symm (g_neoa z_161r z_1611))).trans z_1611
            have m_165 : M' nA = some (aG G 150 nf) := by rw [eM]; exact (mU_n (Ne.symm (g_neoa z_161r z_1612))).trans z_1612
            have m_166 : M' pA = some (aI G 41 pf) := by rw [eM]; exact (mU_n (Ne.symm (g_neoa z_161r z_1613))).trans z_1613
            have m_167 : M' plA = some (aI G 3 z_161x) := by rw [eM]; exact (mU_n (Ne.symm (g_neoa z_161r z_1614))).trans z_1614
            have m_168 : M' o = some (oB 12 [.int (nI (vm w)), .int (nI (vdp w)), .ref ola, .ref oha, .ref ova, .ref oza]) := by rw [eM]; exact (mU_n (g_neoo m_147 z_161r (by decide))).trans m_147
            have m_169 : M' ola = some (aI G 3 (vlo w)) := by rw [eM]; exact (mU_n (Ne.symm (g_neoa z_161r m_148))).trans m_148
            have m_170 : M' oha = some (aI G 3 (vhi w)) := by rw [eM]; exact (mU_n (Ne.symm (g_neoa z_161r m_149))).trans m_149
            have m_171 : M' ova = some (aJ G (wsz w) ovf) := by rw [eM]; exact (mU_n (Ne.symm (g_neoa z_161r m_150))).trans m_150
            have m_172 : M' oza = some (aZ G (wsz w) ozf) := by rw [eM]; exact (mU_n (Ne.symm (g_neoa z_161r m_151))).trans m_151
            have m_173 : M' s = some (oB 12 [.int (nI (vm u)), .int (nI (vdp u)), .ref sla, .ref sha, .ref sva, .ref sza]) := by rw [eM]; exact (mU_n (g_neoo m_152 z_161r (by decide))).trans m_152
            have m_174 : M' sla = some (aI G 3 (vlo u)) := by rw [eM]; exact (mU_n (Ne.symm (g_neoa z_161r m_153))).trans m_153
            have m_175 : M' sha = some (aI G 3 (vhi u)) := by rw [eM]; exact (mU_n (Ne.symm (g_neoa z_161r m_154))).trans m_154
            have m_176 : M' sva = some (aJ G (wsz u) svf) := by rw [eM]; exact (mU_n (Ne.symm (g_neoa z_161r m_155))).trans m_155
            have m_177 : M' sza = some (aZ G (wsz u) szf) := by rw [eM]; exact (mU_n (Ne.symm (g_neoa z_161r m_156))).trans m_156
            have m_178 : M' q = some (oB 12 [.int (nI (vm w)), .int (nI (max (vdp w) (vdp u) + 1)), .ref la, .ref ha, .null, .null]) := by rw [eM]; exact (mU_n (Ne.symm (g_nef hB.1 fq))).trans m_157
            have m_179 : M' la = some (aI G 3 LO) := by rw [eM]; exact (mU_n (Ne.symm (g_nef hB.1 fla))).trans m_158
            have m_180 : M' ha = some (aI G 3 HI) := by rw [eM]; exact (mU_n (Ne.symm (g_nef hB.1 fha))).trans m_159
            have evK3 : mEv (fun x => x = r ∨ x = plA) M M' := by rw [eM]; exact evKj.trans (mEv_upd (K := (fun x => x = r ∨ x = plA)) (Or.inl rfl))
            have hB3 : rfB G M' r 0 σ vA nA pA plA dg dla dha dva dza dvf dzf vf nf pf tk su le gr := by rw [eM]; exact hB2.ro
            clear eM
            generalize M' = M3 at *
            show qJ G F _ 18 M3 2 4096 228 [(8, .int 3), (7, .int 1), (6, .ref q), (5, .ref s), (4, .ref o), (0, .ref r), (1, .int (nI i)), (2, .int (nI i2)), (3, .int op)] [.int 0]
            refine q_if_eq X 233 dX13_join_228 (by decide) (fun c_181 => ?_) (fun c_181 => absurd (by decide) c_181)
            have hw2 := (within_ok hok hlim.1).2
            have hzw := hw.2.1
            have hzu := hwu.2.1
            refine q_aload X dX13_join_233 2 rfl ?_
            refine q_callV X (c_X12_make (n := sz3 LO HI) m_178 m_179 m_180 hok.size (by omega)) Y_X12_make tw_1179 tw_1180 tw_1181 m_178 rfl (by omega) rfl rfl (Nat.le_of_ble_eq_true rfl) (rc' := 0) (rs' := 0) (by omega) (by omega) dX13_join_235 (fun v M' hp _ => ?_)
            obtain ⟨rfl, va, za, fva3, fza3, lvz, hq4, hva4, hza4, ev4⟩ := hp
            generalize M' = M4 at *
            have fva : M va = none := evK3.none fva3
            have fza : M za = none := evK3.none fza3
            have m_182 : M4 r = some (oB 13 [.int 0, .ref vA, .ref nA, .ref pA, .ref plA, .ref dg, .int (nI (aV σ).length), .int (nI (aN σ).length), .int (nI (aOf σ)), .int (nI (aBg σ)), .int tk, .long su, .long le, .long gr]) := ev4.keep m_163 (g_nef hB.1 fq)
            have m_183 : M4 vA = some (aG G 41 vf) := ev4.keep m_164 (Ne.symm (g_neoa m_178 m_164))
            have m_184 : M4 nA = some (aG G 150 nf) := ev4.keep m_165 (g_nef hB.2.2.1 fq)
            have m_185 : M4 pA = some (aI G 41 pf) := ev4.keep m_166 (Ne.symm (g_neoa m_178 m_166))
            have m_186 : M4 plA = some (aI G 3 z_161x) := ev4.keep m_167 (g_nef hpl0 fq)
            have m_187 : M4 o = some (oB 12 [.int (nI (vm w)), .int (nI (vdp w)), .ref ola, .ref oha, .ref ova, .ref oza]) := ev4.keep m_168 (g_nef hO.1 fq)
            have m_188 : M4 ola = some (aI G 3 (vlo w)) := ev4.keep m_169 (g_nef hO.2.1 fq)
            have m_189 : M4 oha = some (aI G 3 (vhi w)) := ev4.keep m_170 (g_nef hO.2.2.1 fq)
            have m_190 : M4 ova = some (aJ G (wsz w) ovf) := ev4.keep m_171 (g_nef hO.2.2.2.1 fq)
            have m_191 : M4 oza = some (aZ G (wsz w) ozf) := ev4.keep m_172 (g_nef hO.2.2.2.2.1 fq)
            have m_192 : M4 s = some (oB 12 [.int (nI (vm u)), .int (nI (vdp u)), .ref sla, .ref sha, .ref sva, .ref sza]) := ev4.keep m_173 (g_nef hOs.1 fq)
            have m_193 : M4 sla = some (aI G 3 (vlo u)) := ev4.keep m_174 (g_nef hOs.2.1 fq)
            have m_194 : M4 sha = some (aI G 3 (vhi u)) := ev4.keep m_175 (g_nef hOs.2.2.1 fq)
            have m_195 : M4 sva = some (aJ G (wsz u) svf) := ev4.keep m_176 (g_nef hOs.2.2.2.1 fq)
            have m_196 : M4 sza = some (aZ G (wsz u) szf) := ev4.keep m_177 (g_nef hOs.2.2.2.2.1 fq)
            have m_197 : M4 la = some (aI G 3 LO) := ev4.keep m_179 (llq)
            have m_198 : M4 ha = some (aI G 3 HI) := ev4.keep m_180 (lhq)
            have evK4 : mEv (fun x => x = r ∨ x = plA) M M4 := fun x hx => by
              have wq : x ≠ q := fun z => hx (z ▸ fq)
              have e1 := evK3 x hx
              have e2 := ev4 x e1.1
              exact ⟨e2.1, fun k => (e2.2 wq).trans (e1.2 k)⟩
            have hB4 : rfB G M4 r 0 σ vA nA pA plA dg dla dha dva dza dvf dzf vf nf pf tk su le gr := hB.ev2 evK4 m_182 ⟨_, m_186⟩
            show qJ G F _ 18 M4 0 0 238 [(8, .int 3), (7, .int 1), (6, .ref q), (5, .ref s), (4, .ref o), (0, .ref r), (1, .int (nI i)), (2, .int (nI i2)), (3, .int op)] []
            have kv : ∀ {x : Nat} {e : va_E}, M4 x = some e → x ≠ va → x ≠ za → ∀ c, (mU (mU M4 va (aJ G (sz3 LO HI) (vF (joD w u LO HI op) (c)))) za (aZ G (sz3 LO HI) (zF (joD w u LO HI op) (c)))) x = some e := fun h h1 h2 c => (mU_n h2).trans ((mU_n h1).trans h)
            have kr : ∀ c, (mU (mU M4 va (aJ G (sz3 LO HI) (vF (joD w u LO HI op) (c)))) za (aZ G (sz3 LO HI) (zF (joD w u LO HI op) (c)))) r = some (oB 13 [.int 0, .ref vA, .ref nA, .ref pA, .ref plA, .ref dg, .int (nI (aV σ).length), .int (nI (aN σ).length), .int (nI (aOf σ)), .int (nI (aBg σ)), .int tk, .long su, .long le, .long gr]) := kv m_182 (g_nef m_163 fva3) (g_nef m_163 fza3)
            have kplA : ∀ c, (mU (mU M4 va (aJ G (sz3 LO HI) (vF (joD w u LO HI op) (c)))) za (aZ G (sz3 LO HI) (zF (joD w u LO HI op) (c)))) plA = some (aI G 3 z_161x) := kv m_186 (g_nef m_167 fva3) (g_nef m_167 fza3)
            have kq : ∀ c, (mU (mU M4 va (aJ G (sz3 LO HI) (vF (joD w u LO HI op) (c)))) za (aZ G (sz3 LO HI) (zF (joD w u LO HI op) (c)))) q = some (oB 12 [.int (nI (vm w)), .int (nI (max (vdp w) (vdp u) + 1)), .ref la, .ref ha, .ref va, .ref za]) := kv hq4 (g_nef m_178 fva3) (g_nef m_178 fza3)
            have kla : ∀ c, (mU (mU M4 va (aJ G (sz3 LO HI) (vF (joD w u LO HI op) (c)))) za (aZ G (sz3 LO HI) (zF (joD w u LO HI op) (c)))) la = some (aI G 3 LO) := kv m_197 (g_nef m_179 fva3) (g_nef m_179 fza3)
            have kha : ∀ c, (mU (mU M4 va (aJ G (sz3 LO HI) (vF (joD w u LO HI op) (c)))) za (aZ G (sz3 LO HI) (zF (joD w u LO HI op) (c)))) ha = some (aI G 3 HI) := kv m_198 (g_nef m_180 fva3) (g_nef m_180 fza3)
            have ko : ∀ c, (mU (mU M4 va (aJ G (sz3 LO HI) (vF (joD w u LO HI op) (c)))) za (aZ G (sz3 LO HI) (zF (joD w u LO HI op) (c)))) o = some (oB 12 [.int (nI (vm w)), .int (nI (vdp w)), .ref ola, .ref oha, .ref ova, .ref oza]) := kv m_187 (g_nef m_168 fva3) (g_nef m_168 fza3)
            have kola : ∀ c, (mU (mU M4 va (aJ G (sz3 LO HI) (vF (joD w u LO HI op) (c)))) za (aZ G (sz3 LO HI) (zF (joD w u LO HI op) (c)))) ola = some (aI G 3 (vlo w)) := kv m_188 (g_nef m_169 fva3) (g_nef m_169 fza3)
            have koha : ∀ c, (mU (mU M4 va (aJ G (sz3 LO HI) (vF (joD w u LO HI op) (c)))) za (aZ G (sz3 LO HI) (zF (joD w u LO HI op) (c)))) oha = some (aI G 3 (vhi w)) := kv m_189 (g_nef m_170 fva3) (g_nef m_170 fza3)
            have kova : ∀ c, (mU (mU M4 va (aJ G (sz3 LO HI) (vF (joD w u LO HI op) (c)))) za (aZ G (sz3 LO HI) (zF (joD w u LO HI op) (c)))) ova = some (aJ G (wsz w) ovf) := kv m_190 (g_nef m_171 fva3) (g_nef m_171 fza3)
            have koza : ∀ c, (mU (mU M4 va (aJ G (sz3 LO HI) (vF (joD w u LO HI op) (c)))) za (aZ G (sz3 LO HI) (zF (joD w u LO HI op) (c)))) oza = some (aZ G (wsz w) ozf) := kv m_191 (g_nef m_172 fva3) (g_nef m_172 fza3)
            have ks : ∀ c, (mU (mU M4 va (aJ G (sz3 LO HI) (vF (joD w u LO HI op) (c)))) za (aZ G (sz3 LO HI) (zF (joD w u LO HI op) (c)))) s = some (oB 12 [.int (nI (vm u)), .int (nI (vdp u)), .ref sla, .ref sha, .ref sva, .ref sza]) := kv m_192 (g_nef m_173 fva3) (g_nef m_173 fza3)
            have ksla : ∀ c, (mU (mU M4 va (aJ G (sz3 LO HI) (vF (joD w u LO HI op) (c)))) za (aZ G (sz3 LO HI) (zF (joD w u LO HI op) (c)))) sla = some (aI G 3 (vlo u)) := kv m_193 (g_nef m_174 fva3) (g_nef m_174 fza3)
            have ksha : ∀ c, (mU (mU M4 va (aJ G (sz3 LO HI) (vF (joD w u LO HI op) (c)))) za (aZ G (sz3 LO HI) (zF (joD w u LO HI op) (c)))) sha = some (aI G 3 (vhi u)) := kv m_194 (g_nef m_175 fva3) (g_nef m_175 fza3)
            have ksva : ∀ c, (mU (mU M4 va (aJ G (sz3 LO HI) (vF (joD w u LO HI op) (c)))) za (aZ G (sz3 LO HI) (zF (joD w u LO HI op) (c)))) sva = some (aJ G (wsz u) svf) := kv m_195 (g_nef m_176 fva3) (g_nef m_176 fza3)
            have ksza : ∀ c, (mU (mU M4 va (aJ G (sz3 LO HI) (vF (joD w u LO HI op) (c)))) za (aZ G (sz3 LO HI) (zF (joD w u LO HI op) (c)))) sza = some (aZ G (wsz u) szf) := kv m_196 (g_nef m_177 fva3) (g_nef m_177 fza3)
            have kva : ∀ c, (mU (mU M4 va (aJ G (sz3 LO HI) (vF (joD w u LO HI op) (c)))) za (aZ G (sz3 LO HI) (zF (joD w u LO HI op) (c)))) va = some (aJ G (sz3 LO HI) (vF (joD w u LO HI op) (c))) := fun c => (mU_n lvz).trans mU_s
            have kza : ∀ c, (mU (mU M4 va (aJ G (sz3 LO HI) (vF (joD w u LO HI op) (c)))) za (aZ G (sz3 LO HI) (zF (joD w u LO HI op) (c)))) za = some (aZ G (sz3 LO HI) (zF (joD w u LO HI op) c)) := fun c => mU_s
            have koX : ∀ c, isGrX G (mU (mU M4 va (aJ G (sz3 LO HI) (vF (joD w u LO HI op) (c)))) za (aZ G (sz3 LO HI) (zF (joD w u LO HI op) (c)))) o ola oha ova oza ovf ozf w := fun c => ⟨ko c, kola c, koha c, kova c, koza c, hO.2.2.2.2.2⟩
            have ksX : ∀ c, isGrX G (mU (mU M4 va (aJ G (sz3 LO HI) (vF (joD w u LO HI op) (c)))) za (aZ G (sz3 LO HI) (zF (joD w u LO HI op) (c)))) s sla sha sva sza svf szf u := fun c => ⟨ks c, ksla c, ksha c, ksva c, ksza c, hOs.2.2.2.2.2⟩
            have l0 := hok.lo (d := 0) (by decide)
            have N0 := hok.N (d := 0) (by decide)
            have y0 := hok.hi (d := 0) (by decide)
            have l1 := hok.lo (d := 1) (by decide)
            have N1 := hok.N (d := 1) (by decide)
            have y1 := hok.hi (d := 1) (by decide)
            have l2 := hok.lo (d := 2) (by decide)
            have N2 := hok.N (d := 2) (by decide)
            have y2 := hok.hi (d := 2) (by decide)
            have hfin : qJ G F (qQ G F (rfP G r cOp (some (.int 0)) (sp_join σ (nI i) (nI i2) op))) 18 (mU (mU M4 va (aJ G (sz3 LO HI) (vF (joD w u LO HI op) (c3 (sN LO HI 1) (sN LO HI 2) (sN LO HI 0) 0 0)))) za (aZ G (sz3 LO HI) (zF (joD w u LO HI op) (c3 (sN LO HI 1) (sN LO HI 2) (sN LO HI 0) 0 0)))) 0 0 490 [(0, .ref r), (1, .int (nI i)), (2, .int (nI i2)), (3, .int op), (4, .ref o), (5, .ref s), (6, .ref q)] [] := by
              rw [c3_A, show sN LO HI 0 * sN LO HI 1 * sN LO HI 2 = sz3 LO HI from rfl]
              have evz : mEv (fun x => x = r ∨ x = plA) M (mU (mU M4 va (aJ G (sz3 LO HI) (vF (joD w u LO HI op) (sz3 LO HI)))) za (aZ G (sz3 LO HI) (zF (joD w u LO HI op) (sz3 LO HI)))) := fun x hx => by
                have w1 : x ≠ va := fun z => hx (z ▸ fva)
                have w2 : x ≠ za := fun z => hx (z ▸ fza)
                have e1 := evK4 x hx
                have e : (mU (mU M4 va (aJ G (sz3 LO HI) (vF (joD w u LO HI op) (sz3 LO HI)))) za (aZ G (sz3 LO HI) (zF (joD w u LO HI op) (sz3 LO HI)))) x = M4 x := (mU_n w2).trans (mU_n w1)
                exact ⟨by rw [e]; exact e1.1, fun k => e.trans (e1.2 k)⟩
              have hBz : rfB G (mU (mU M4 va (aJ G (sz3 LO HI) (vF (joD w u LO HI op) (sz3 LO HI)))) za (aZ G (sz3 LO HI) (zF (joD w u LO HI op) (sz3 LO HI)))) r 0 σ vA nA pA plA dg dla dha dva dza dvf dzf vf nf pf tk su le gr := hB.ev2 evz (kr (sz3 LO HI)) ⟨_, kplA (sz3 LO HI)⟩
              have nb : ∀ {x : Nat}, M x = none → ¬ rBad plA pA dva dza x := fun h z => by
                rcases z with z | z | z | z
                · rw [z, hpl0] at h; cases h
                · rw [z, hB.2.2.2.1] at h; cases h
                · rw [z, hB.2.2.2.2.2.1.2.2.2.1] at h; cases h
                · rw [z, hB.2.2.2.2.2.1.2.2.2.2.1] at h; cases h
              have hg : isGrd G (mU (mU M4 va (aJ G (sz3 LO HI) (vF (joD w u LO HI op) (sz3 LO HI)))) za (aZ G (sz3 LO HI) (zF (joD w u LO HI op) (sz3 LO HI)))) (rBad plA pA dva dza) q (vm w, LO, HI, max (vdp w) (vdp u) + 1, (joD w u LO HI op)) := grd_mk (kq (sz3 LO HI)) (kla (sz3 LO HI)) (kha (sz3 LO HI)) (kva (sz3 LO HI)) (kza (sz3 LO HI)) (gCt_F (joD w u LO HI op) (sz3 LO HI)) (nb fla) (nb fha) (nb fva) (nb fza)
              refine q_aload_n X dX13_join_490 0 rfl ?_
              refine q_aload X dX13_join_491 6 rfl ?_
              refine q_callV X (c_made hBz hg h150) Y_X13_made tw_1339 tw_1341 sel_28 (kr (sz3 LO HI)) rfl (by omega) rfl rfl (Nat.le_of_ble_eq_true rfl) (rc' := 0) (rs' := 0) (Nat.le_refl _) (Nat.le_refl _) dX13_join_493 (fun v M' hp _ => ?_)
              obtain ⟨rfl, hz9⟩ := hp
              generalize M' = M9 at *
              show qJ G F _ 18 M9 0 0 496 [(0, .ref r), (1, .int (nI i)), (2, .int (nI i2)), (3, .int op), (4, .ref o), (5, .ref s), (6, .ref q)] [.int (nI (aN σ).length)]
              exact q_iret X hr dX13_join_496 (rfP_K (by rw [specE]; exact (gNeed_y hmt).trans (gLim_y hlim)) hz9)
            have L2 : ∀ (e j : Nat) (he : e < sN LO HI 0) (hj : j < sN LO HI 1) (kk : qJ G F (qQ G F (rfP G r cOp (some (.int 0)) (sp_join σ (nI i) (nI i2) op))) 18 (mU (mU M4 va (aJ G (sz3 LO HI) (vF (joD w u LO HI op) (c3 (sN LO HI 1) (sN LO HI 2) e j (sN LO HI 2))))) za (aZ G (sz3 LO HI) (zF (joD w u LO HI op) (c3 (sN LO HI 1) (sN LO HI 2) e j (sN LO HI 2))))) 0 0 478 [(0, .ref r), (1, .int (nI i)), (2, .int (nI i2)), (3, .int op), (4, .ref o), (5, .ref s), (6, .ref q), (8, .int (LO 0 + nI (e))), (9, .int (LO 1 + nI (j)))] []) (t k : Nat), k + t = sN LO HI 2 → qJ G F (qQ G F (rfP G r cOp (some (.int 0)) (sp_join σ (nI i) (nI i2) op))) 18 (mU (mU M4 va (aJ G (sz3 LO HI) (vF (joD w u LO HI op) (c3 (sN LO HI 1) (sN LO HI 2) e j k)))) za (aZ G (sz3 LO HI) (zF (joD w u LO HI op) (c3 (sN LO HI 1) (sN LO HI 2) e j k)))) 0 0 289 [(0, .ref r), (1, .int (nI i)), (2, .int (nI i2)), (3, .int op), (4, .ref o), (5, .ref s), (6, .ref q), (8, .int (LO 0 + nI (e))), (9, .int (LO 1 + nI (j))), (10, .int (LO 2 + nI (k)))] [] := by
              intro e j he hj kk t
              induction t with
              | zero =>
                intro k hk0
                obtain rfl : k = sN LO HI 2 := by omega
                refine q_iload X dX13_join_289 9 rfl ?_
                refine q_aload X dX13_join_291 6 rfl ?_
                refine q_get X (kq (c3 (sN LO HI 1) (sN LO HI 2) e j (sN LO HI 2))) rfl in_RX12 3 (by decide) tw_1161 rfl rfl dX13_join_293 ?_
                refine q_iconst (v := 2) X dX13_join_296 (by decide) ?_
                refine q_ialdN X 2 (kha (c3 (sN LO HI 1) (sN LO HI 2) e j (sN LO HI 2))) (rfl) (by decide) (by decide) dX13_join_297 ?_
                refine q_icmp_gt X 478 dX13_join_298 (by decide) (fun c_199 => ?_) (fun c_199 => absurd (by rw [y2]; exact (lo_lt l2.1 l2.2 (by omega) (by omega)).mpr (by omega)) c_199)
                refine q_sub [0, 1, 2, 3, 4, 5, 6, 7, 8] rfl ?_
                exact kk
              | succ t ih =>
                intro k hk0
                have hk : k < sN LO HI 2 := by omega
                have hc9 : c3 (sN LO HI 1) (sN LO HI 2) e j k < sz3 LO HI := c3_lt he hj hk
                have i9 := jn_in hw.1 hLw hok he hj hk
                obtain ⟨jo, hjo, ejo⟩ := gAt_lt hw i9
                have fo9 := frV_in i9 ejo (by omega)
                have i8 := jn_in (em ▸ hwu.1) hLu hok he hj hk
                obtain ⟨js, hjs, ejs⟩ := gAt_lt hwu i8
                have fs9 := frV_in i8 ejs (by omega)
                have jd9 := joD_st hw hwu em hok (by omega) (op := op) he hj hk
                rw [fo9, fs9] at jd9
                refine q_iload X dX13_join_289 9 rfl ?_
                refine q_aload X dX13_join_291 6 rfl ?_
                refine q_get X (kq (c3 (sN LO HI 1) (sN LO HI 2) e j k)) rfl in_RX12 3 (by decide) tw_1161 rfl rfl dX13_join_293 ?_
                refine q_iconst (v := 2) X dX13_join_296 (by decide) ?_
                refine q_ialdN X 2 (kha (c3 (sN LO HI 1) (sN LO HI 2) e j k)) (rfl) (by decide) (by decide) dX13_join_297 ?_
                refine q_icmp_gt X 478 dX13_join_298 (by decide) (fun c_200 => absurd ((lo_lt l2.1 l2.2 (by omega) (by omega)).mp (y2 ▸ c_200)) (by omega)) (fun c_200 => ?_)
                refine q_aload X dX13_join_301 4 rfl ?_
                refine q_iload X dX13_join_303 7 rfl ?_
                refine q_iload X dX13_join_305 8 rfl ?_
                refine q_iload X dX13_join_307 9 rfl ?_
                refine q_callVp X (c_X12_at (ko _) (kola _) (koha _)) Y_X12_at tw_1269 tw_1270 tw_1271 (ko (c3 (sN LO HI 1) (sN LO HI 2) e j k)) rfl (by omega) rfl rfl (Nat.le_of_ble_eq_true rfl) dX13_join_309 ?_
                rw [ejo]
                refine q_istore (lv' := [(11, .int (nI jo)), (0, .ref r), (1, .int (nI i)), (2, .int (nI i2)), (3, .int op), (4, .ref o), (5, .ref s), (6, .ref q), (8, .int (LO 0 + nI (e))), (9, .int (LO 1 + nI (j))), (10, .int (LO 2 + nI (k)))]) X dX13_join_312 (by decide) rfl ?_
                refine q_aload X dX13_join_314 6 rfl ?_
                refine q_iload X dX13_join_316 8 rfl ?_
                refine q_iload X dX13_join_318 9 rfl ?_
                refine q_iload X dX13_join_320 10 rfl ?_
                refine q_callVp X (c_X12_at (ks _) (ksla _) (ksha _)) Y_X12_at tw_1269 tw_1270 tw_1271 (ks (c3 (sN LO HI 1) (sN LO HI 2) e j k)) rfl (by omega) rfl rfl (Nat.le_of_ble_eq_true rfl) dX13_join_322 ?_
                rw [ejs]
                refine q_istore (lv' := [(12, .int (nI js)), (11, .int (nI jo)), (0, .ref r), (1, .int (nI i)), (2, .int (nI i2)), (3, .int op), (4, .ref o), (5, .ref s), (6, .ref q), (8, .int (LO 0 + nI (e))), (9, .int (LO 1 + nI (j))), (10, .int (LO 2 + nI (k)))]) X dX13_join_325 (by decide) rfl ?_
                refine q_aload X dX13_join_327 8 rfl ?_
                refine q_iload X dX13_join_329 9 rfl ?_
                refine q_iload X dX13_join_331 10 rfl ?_
                refine q_iload X dX13_join_333 11 rfl ?_
                refine q_callVp X (c_X12_at (kq _) (kla _) (kha _)) Y_X12_at tw_1269 tw_1270 tw_1271 (kq (c3 (sN LO HI 1) (sN LO HI 2) e j k)) rfl (by omega) rfl rfl (Nat.le_of_ble_eq_true rfl) dX13_join_335 ?_
                rw [gAt_lo hok]
                refine q_istore (lv' := [(13, .int (nI (c3 (sN LO HI 1) (sN LO HI 2) e j k))), (12, .int (nI js)), (11, .int (nI jo)), (0, .ref r), (1, .int (nI i)), (2, .int (nI i2)), (3, .int op), (4, .ref o), (5, .ref s), (6, .ref q), (8, .int (LO 0 + nI (e))), (9, .int (LO 1 + nI (j))), (10, .int (LO 2 + nI (k)))]) X dX13_join_338 (by decide) rfl ?_
                refine q_aload X dX13_join_340 7 rfl ?_
                refine q_get X (ko (c3 (sN LO HI 1) (sN LO HI 2) e j k)) rfl in_RX12 5 (by decide) tw_1165 rfl rfl dX13_join_342 ?_
                refine q_iload X dX13_join_345 2 rfl ?_
                refine q_zaldN X jo (koza (c3 (sN LO HI 1) (sN LO HI 2) e j k)) (rfl) (hjo) (by omega) dX13_join_347 ?_
                refine q_if_eq X 472 dX13_join_348 (by decide) (fun k1 => ?_) (fun k1 => ?_)
                · refine q_iinc (v := (LO 2 + nI (k + 1))) (lv' := [(10, .int (LO 2 + nI (k + 1))), (13, .int (nI (c3 (sN LO HI 1) (sN LO HI 2) e j k))), (12, .int (nI js)), (11, .int (nI jo)), (0, .ref r), (1, .int (nI i)), (2, .int (nI i2)), (3, .int op), (4, .ref o), (5, .ref s), (6, .ref q), (8, .int (LO 0 + nI (e))), (9, .int (LO 1 + nI (j)))]) X dX13_join_472 12 rfl (lo_s) (by decide) rfl ?_
                  refine q_goto X 289 dX13_join_475 (by decide) ?_
                  refine q_sub [4, 5, 6, 7, 8, 9, 10, 11, 12, 0] rfl ?_
                  have hdk := jd9.trans (by rw [ct_none hO.2.2.2.2.2 hjo k1])
                  refine q_memE (M' := mU (mU M4 va (aJ G (sz3 LO HI) (vF (joD w u LO HI op) (c3 (sN LO HI 1) (sN LO HI 2) e j (k + 1))))) za (aZ G (sz3 LO HI) (zF (joD w u LO HI op) (c3 (sN LO HI 1) (sN LO HI 2) e j (k + 1))))) (by rw [show c3 (sN LO HI 1) (sN LO HI 2) e j (k + 1) = c3 (sN LO HI 1) (sN LO HI 2) e j k + 1 from rfl, vF_no hdk, zF_no hdk]) ?_
                  exact ih (k + 1) (by omega)
                · refine q_aload X dX13_join_351 8 rfl ?_
                  refine q_get X (ks (c3 (sN LO HI 1) (sN LO HI 2) e j k)) rfl in_RX12 5 (by decide) tw_1165 rfl rfl dX13_join_353 ?_
                  refine q_iload X dX13_join_356 1 rfl ?_
                  refine q_zaldN X js (ksza (c3 (sN LO HI 1) (sN LO HI 2) e j k)) (rfl) (hjs) (by omega) dX13_join_358 ?_
                  refine q_if_ne X 365 dX13_join_359 (by decide) (fun k2 => ?_) (fun k2 => ?_)
                  · refine q_aload X dX13_join_365 7 rfl ?_
                    refine q_get X (ko (c3 (sN LO HI 1) (sN LO HI 2) e j k)) rfl in_RX12 4 (by decide) tw_1163 rfl rfl dX13_join_367 ?_
                    refine q_iload X dX13_join_370 2 rfl ?_
                    refine q_laldN X jo (kova (c3 (sN LO HI 1) (sN LO HI 2) e j k)) (rfl) (hjo) (by omega) dX13_join_372 ?_
                    refine q_lstore (lv' := [(14, .long (ovf jo)), (13, .int (nI (c3 (sN LO HI 1) (sN LO HI 2) e j k))), (12, .int (nI js)), (11, .int (nI jo)), (0, .ref r), (1, .int (nI i)), (2, .int (nI i2)), (3, .int op), (4, .ref o), (5, .ref s), (6, .ref q), (8, .int (LO 0 + nI (e))), (9, .int (LO 1 + nI (j))), (10, .int (LO 2 + nI (k)))]) X dX13_join_373 (by decide) rfl ?_
                    refine q_aload X dX13_join_375 9 rfl ?_
                    refine q_get X (ks (c3 (sN LO HI 1) (sN LO HI 2) e j k)) rfl in_RX12 4 (by decide) tw_1163 rfl rfl dX13_join_377 ?_
                    refine q_iload X dX13_join_380 2 rfl ?_
                    refine q_laldN X js (ksva (c3 (sN LO HI 1) (sN LO HI 2) e j k)) (rfl) (hjs) (by omega) dX13_join_382 ?_
                    refine q_lstore (lv' := [(16, .long (svf js)), (14, .long (ovf jo)), (13, .int (nI (c3 (sN LO HI 1) (sN LO HI 2) e j k))), (12, .int (nI js)), (11, .int (nI jo)), (0, .ref r), (1, .int (nI i)), (2, .int (nI i2)), (3, .int op), (4, .ref o), (5, .ref s), (6, .ref q), (8, .int (LO 0 + nI (e))), (9, .int (LO 1 + nI (j))), (10, .int (LO 2 + nI (k)))]) X dX13_join_383 (by decide) rfl ?_
                    refine q_aload X dX13_join_385 11 rfl ?_
                    refine q_get X (kq (c3 (sN LO HI 1) (sN LO HI 2) e j k)) rfl in_RX12 5 (by decide) tw_1165 rfl rfl dX13_join_387 ?_
                    refine q_iload X dX13_join_390 2 rfl ?_
                    refine q_iconst (v := 1) X dX13_join_392 (by decide) ?_
                    refine q_zastN X (c3 (sN LO HI 1) (sN LO HI 2) e j k) (kza (c3 (sN LO HI 1) (sN LO HI 2) e j k)) (rfl) (hc9) (by omega) (Or.inr rfl) dX13_join_393 ?_
                    have m_201 : (mU (mU (mU M4 va (aJ G (sz3 LO HI) (vF (joD w u LO HI op) (c3 (sN LO HI 1) (sN LO HI 2) e j k)))) za (aZ G (sz3 LO HI) (zF (joD w u LO HI op) (c3 (sN LO HI 1) (sN LO HI 2) e j k)))) za (aZ G (sz3 LO HI) (upd (zF (joD w u LO HI op) (c3 (sN LO HI 1) (sN LO HI 2) e j k)) (c3 (sN LO HI 1) (sN LO HI 2) e j k) 1))) q = some (oB 12 [.int (nI (vm w)), .int (nI (max (vdp w) (vdp u) + 1)), .ref la, .ref ha, .ref va, .ref za]) := (mU_n (g_neoa (kq (c3 (sN LO HI 1) (sN LO HI 2) e j k)) (kza (c3 (sN LO HI 1) (sN LO HI 2) e j k)))).trans (kq (c3 (sN LO HI 1) (sN LO HI 2) e j k))
                    have m_202 : (mU (mU (mU M4 va (aJ G (sz3 LO HI) (vF (joD w u LO HI op) (c3 (sN LO HI 1) (sN LO HI 2) e j k)))) za (aZ G (sz3 LO HI) (zF (joD w u LO HI op) (c3 (sN LO HI 1) (sN LO HI 2) e j k)))) za (aZ G (sz3 LO HI) (upd (zF (joD w u LO HI op) (c3 (sN LO HI 1) (sN LO HI 2) e j k)) (c3 (sN LO HI 1) (sN LO HI 2) e j k) 1))) va = some (aJ G (sz3 LO HI) (vF (joD w u LO HI op) (c3 (sN LO HI 1) (sN LO HI 2) e j k))) := (mU_n (lvz)).trans (kva (c3 (sN LO HI 1) (sN LO HI 2) e j k))
                    have m_203 : (mU (mU (mU M4 va (aJ G (sz3 LO HI) (vF (joD w u LO HI op) (c3 (sN LO HI 1) (sN LO HI 2) e j k)))) za (aZ G (sz3 LO HI) (zF (joD w u LO HI op) (c3 (sN LO HI 1) (sN LO HI 2) e j k)))) za (aZ G (sz3 LO HI) (upd (zF (joD w u LO HI op) (c3 (sN LO HI 1) (sN LO HI 2) e j k)) (c3 (sN LO HI 1) (sN LO HI 2) e j k) 1))) za = some (aZ G (sz3 LO HI) (upd (zF (joD w u LO HI op) (c3 (sN LO HI 1) (sN LO HI 2) e j k)) (c3 (sN LO HI 1) (sN LO HI 2) e j k) 1)) := mU_s
                    refine q_aload X dX13_join_394 11 rfl ?_
                    refine q_get X m_201 rfl in_RX12 4 (by decide) tw_1163 rfl rfl dX13_join_396 ?_
                    refine q_iload X dX13_join_399 2 rfl ?_
                    refine q_iload_n X dX13_join_401 8 rfl ?_
                    refine q_if_ne X 413 dX13_join_402 (by decide) (fun o0 => ?_) (fun o0 => ?_)
                    · refine q_iload_n X dX13_join_413 8 rfl ?_
                      refine q_iconst (v := 1) X dX13_join_414 (by decide) ?_
                      refine q_icmp_ne X 426 dX13_join_415 (by decide) (fun o1 => ?_) (fun o1 => ?_)
                      · refine q_iload_n X dX13_join_426 8 rfl ?_
                        refine q_iconst (v := 2) X dX13_join_427 (by decide) ?_
                        refine q_icmp_ne X 439 dX13_join_428 (by decide) (fun o2 => ?_) (fun o2 => ?_)
                        · refine q_iload_n X dX13_join_439 8 rfl ?_
                          refine q_iconst (v := 3) X dX13_join_440 (by decide) ?_
                          refine q_icmp_ne X 454 dX13_join_441 (by decide) (fun o3 => ?_) (fun o3 => ?_)
                          · refine q_iload_n X dX13_join_454 8 rfl ?_
                            refine q_iconst (v := 4) X dX13_join_455 (by decide) ?_
                            refine q_icmp_ne X 469 dX13_join_456 (by decide) (fun o4 => ?_) (fun o4 => ?_)
                            · refine q_lload X dX13_join_469 1 rfl ?_
                              refine q_lastN X (c3 (sN LO HI 1) (sN LO HI 2) e j k) m_202 (rfl) (hc9) (by omega) dX13_join_471 ?_
                              have m_204 : (mU (mU (mU (mU M4 va (aJ G (sz3 LO HI) (vF (joD w u LO HI op) (c3 (sN LO HI 1) (sN LO HI 2) e j k)))) za (aZ G (sz3 LO HI) (zF (joD w u LO HI op) (c3 (sN LO HI 1) (sN LO HI 2) e j k)))) za (aZ G (sz3 LO HI) (upd (zF (joD w u LO HI op) (c3 (sN LO HI 1) (sN LO HI 2) e j k)) (c3 (sN LO HI 1) (sN LO HI 2) e j k) 1))) va (aJ G (sz3 LO HI) (vp_updL (vF (joD w u LO HI op) (c3 (sN LO HI 1) (sN LO HI 2) e j k)) (c3 (sN LO HI 1) (sN LO HI 2) e j k) (ovf jo)))) q = some (oB 12 [.int (nI (vm w)), .int (nI (max (vdp w) (vdp u) + 1)), .ref la, .ref ha, .ref va, .ref za]) := (mU_n (g_neoa m_201 m_202)).trans m_201
                              have m_205 : (mU (mU (mU (mU M4 va (aJ G (sz3 LO HI) (vF (joD w u LO HI op) (c3 (sN LO HI 1) (sN LO HI 2) e j k)))) za (aZ G (sz3 LO HI) (zF (joD w u LO HI op) (c3 (sN LO HI 1) (sN LO HI 2) e j k)))) za (aZ G (sz3 LO HI) (upd (zF (joD w u LO HI op) (c3 (sN LO HI 1) (sN LO HI 2) e j k)) (c3 (sN LO HI 1) (sN LO HI 2) e j k) 1))) va (aJ G (sz3 LO HI) (vp_updL (vF (joD w u LO HI op) (c3 (sN LO HI 1) (sN LO HI 2) e j k)) (c3 (sN LO HI 1) (sN LO HI 2) e j k) (ovf jo)))) va = some (aJ G (sz3 LO HI) (vp_updL (vF (joD w u LO HI op) (c3 (sN LO HI 1) (sN LO HI 2) e j k)) (c3 (sN LO HI 1) (sN LO HI 2) e j k) (ovf jo))) := mU_s
                              have m_206 : (mU (mU (mU (mU M4 va (aJ G (sz3 LO HI) (vF (joD w u LO HI op) (c3 (sN LO HI 1) (sN LO HI 2) e j k)))) za (aZ G (sz3 LO HI) (zF (joD w u LO HI op) (c3 (sN LO HI 1) (sN LO HI 2) e j k)))) za (aZ G (sz3 LO HI) (upd (zF (joD w u LO HI op) (c3 (sN LO HI 1) (sN LO HI 2) e j k)) (c3 (sN LO HI 1) (sN LO HI 2) e j k) 1))) va (aJ G (sz3 LO HI) (vp_updL (vF (joD w u LO HI op) (c3 (sN LO HI 1) (sN LO HI 2) e j k)) (c3 (sN LO HI 1) (sN LO HI 2) e j k) (ovf jo)))) za = some (aZ G (sz3 LO HI) (upd (zF (joD w u LO HI op) (c3 (sN LO HI 1) (sN LO HI 2) e j k)) (c3 (sN LO HI 1) (sN LO HI 2) e j k) 1)) := (mU_n (Ne.symm (lvz))).trans m_203
                              refine q_iinc (v := (LO 2 + nI (k + 1))) (lv' := [(10, .int (LO 2 + nI (k + 1))), (16, .long (svf js)), (14, .long (ovf jo)), (13, .int (nI (c3 (sN LO HI 1) (sN LO HI 2) e j k))), (12, .int (nI js)), (11, .int (nI jo)), (0, .ref r), (1, .int (nI i)), (2, .int (nI i2)), (3, .int op), (4, .ref o), (5, .ref s), (6, .ref q), (8, .int (LO 0 + nI (e))), (9, .int (LO 1 + nI (j)))]) X dX13_join_472 14 rfl (lo_s) (by decide) rfl ?_
                              refine q_goto X 289 dX13_join_475 (by decide) ?_
                              refine q_sub [6, 7, 8, 9, 10, 11, 12, 13, 14, 0] rfl ?_
                              have hdk : joD w u LO HI op (c3 (sN LO HI 1) (sN LO HI 2) e j k) = some (ovf jo) := jd9.trans (by rw [ct_some hO.2.2.2.2.2 hjo k1, ct_some hOs.2.2.2.2.2 hjs k2]; exact congrArg some (by unfold joinD; rw [if_neg o0, if_neg o1, if_neg o2, if_neg o3, if_neg o4]))
                              refine q_memE (M' := mU (mU M4 va (aJ G (sz3 LO HI) (vF (joD w u LO HI op) (c3 (sN LO HI 1) (sN LO HI 2) e j (k + 1))))) za (aZ G (sz3 LO HI) (zF (joD w u LO HI op) (c3 (sN LO HI 1) (sN LO HI 2) e j (k + 1))))) (by rw [show c3 (sN LO HI 1) (sN LO HI 2) e j (k + 1) = c3 (sN LO HI 1) (sN LO HI 2) e j k + 1 from rfl, ← vF_y hdk, ← zF_y hdk]; exact mU_5 lvz) ?_
                              exact ih (k + 1) (by omega)
                            · refine q_lload X dX13_join_459 1 rfl ?_
                              refine q_lload X dX13_join_461 0 rfl ?_
                              refine q_callSp X (c_J9_max_f86c9) Y_J9_max_f86c9 tw_1396 tw_1038 (by omega) rfl rfl (Nat.le_of_ble_eq_true rfl) dX13_join_463 ?_
                              refine q_goto X 471 dX13_join_466 (by decide) ?_
                              refine q_lastN X (c3 (sN LO HI 1) (sN LO HI 2) e j k) m_202 (rfl) (hc9) (by omega) dX13_join_471 ?_
                              have m_207 : (mU (mU (mU (mU M4 va (aJ G (sz3 LO HI) (vF (joD w u LO HI op) (c3 (sN LO HI 1) (sN LO HI 2) e j k)))) za (aZ G (sz3 LO HI) (zF (joD w u LO HI op) (c3 (sN LO HI 1) (sN LO HI 2) e j k)))) za (aZ G (sz3 LO HI) (upd (zF (joD w u LO HI op) (c3 (sN LO HI 1) (sN LO HI 2) e j k)) (c3 (sN LO HI 1) (sN LO HI 2) e j k) 1))) va (aJ G (sz3 LO HI) (vp_updL (vF (joD w u LO HI op) (c3 (sN LO HI 1) (sN LO HI 2) e j k)) (c3 (sN LO HI 1) (sN LO HI 2) e j k) (mxJ (ovf jo) (svf js))))) q = some (oB 12 [.int (nI (vm w)), .int (nI (max (vdp w) (vdp u) + 1)), .ref la, .ref ha, .ref va, .ref za]) := (mU_n (g_neoa m_201 m_202)).trans m_201
                              have m_208 : (mU (mU (mU (mU M4 va (aJ G (sz3 LO HI) (vF (joD w u LO HI op) (c3 (sN LO HI 1) (sN LO HI 2) e j k)))) za (aZ G (sz3 LO HI) (zF (joD w u LO HI op) (c3 (sN LO HI 1) (sN LO HI 2) e j k)))) za (aZ G (sz3 LO HI) (upd (zF (joD w u LO HI op) (c3 (sN LO HI 1) (sN LO HI 2) e j k)) (c3 (sN LO HI 1) (sN LO HI 2) e j k) 1))) va (aJ G (sz3 LO HI) (vp_updL (vF (joD w u LO HI op) (c3 (sN LO HI 1) (sN LO HI 2) e j k)) (c3 (sN LO HI 1) (sN LO HI 2) e j k) (mxJ (ovf jo) (svf js))))) va = some (aJ G (sz3 LO HI) (vp_updL (vF (joD w u LO HI op) (c3 (sN LO HI 1) (sN LO HI 2) e j k)) (c3 (sN LO HI 1) (sN LO HI 2) e j k) (mxJ (ovf jo) (svf js)))) := mU_s
                              have m_209 : (mU (mU (mU (mU M4 va (aJ G (sz3 LO HI) (vF (joD w u LO HI op) (c3 (sN LO HI 1) (sN LO HI 2) e j k)))) za (aZ G (sz3 LO HI) (zF (joD w u LO HI op) (c3 (sN LO HI 1) (sN LO HI 2) e j k)))) za (aZ G (sz3 LO HI) (upd (zF (joD w u LO HI op) (c3 (sN LO HI 1) (sN LO HI 2) e j k)) (c3 (sN LO HI 1) (sN LO HI 2) e j k) 1))) va (aJ G (sz3 LO HI) (vp_updL (vF (joD w u LO HI op) (c3 (sN LO HI 1) (sN LO HI 2) e j k)) (c3 (sN LO HI 1) (sN LO HI 2) e j k) (mxJ (ovf jo) (svf js))))) za = some (aZ G (sz3 LO HI) (upd (zF (joD w u LO HI op) (c3 (sN LO HI 1) (sN LO HI 2) e j k)) (c3 (sN LO HI 1) (sN LO HI 2) e j k) 1)) := (mU_n (Ne.symm (lvz))).trans m_203
                              refine q_iinc (v := (LO 2 + nI (k + 1))) (lv' := [(10, .int (LO 2 + nI (k + 1))), (16, .long (svf js)), (14, .long (ovf jo)), (13, .int (nI (c3 (sN LO HI 1) (sN LO HI 2) e j k))), (12, .int (nI js)), (11, .int (nI jo)), (0, .ref r), (1, .int (nI i)), (2, .int (nI i2)), (3, .int op), (4, .ref o), (5, .ref s), (6, .ref q), (8, .int (LO 0 + nI (e))), (9, .int (LO 1 + nI (j)))]) X dX13_join_472 14 rfl (lo_s) (by decide) rfl ?_
                              refine q_goto X 289 dX13_join_475 (by decide) ?_
                              refine q_sub [6, 7, 8, 9, 10, 11, 12, 13, 14, 0] rfl ?_
                              have hdk : joD w u LO HI op (c3 (sN LO HI 1) (sN LO HI 2) e j k) = some (mxJ (ovf jo) (svf js)) := jd9.trans (by rw [ct_some hO.2.2.2.2.2 hjo k1, ct_some hOs.2.2.2.2.2 hjs k2]; exact congrArg some (by unfold joinD; rw [if_neg o0, if_neg o1, if_neg o2, if_neg o3, if_pos o4]))
                              refine q_memE (M' := mU (mU M4 va (aJ G (sz3 LO HI) (vF (joD w u LO HI op) (c3 (sN LO HI 1) (sN LO HI 2) e j (k + 1))))) za (aZ G (sz3 LO HI) (zF (joD w u LO HI op) (c3 (sN LO HI 1) (sN LO HI 2) e j (k + 1))))) (by rw [show c3 (sN LO HI 1) (sN LO HI 2) e j (k + 1) = c3 (sN LO HI 1) (sN LO HI 2) e j k + 1 from rfl, ← vF_y hdk, ← zF_y hdk]; exact mU_5 lvz) ?_
                              exact ih (k + 1) (by omega)
                          · refine q_lload X dX13_join_444 1 rfl ?_
                            refine q_lload X dX13_join_446 0 rfl ?_
                            refine q_callSp X (c_J9_min_f86c9) Y_J9_min_f86c9 tw_1395 tw_1035 (by omega) rfl rfl (Nat.le_of_ble_eq_true rfl) dX13_join_448 ?_
                            refine q_goto X 471 dX13_join_451 (by decide) ?_
                            refine q_lastN X (c3 (sN LO HI 1) (sN LO HI 2) e j k) m_202 (rfl) (hc9) (by omega) dX13_join_471 ?_
                            have m_210 : (mU (mU (mU (mU M4 va (aJ G (sz3 LO HI) (vF (joD w u LO HI op) (c3 (sN LO HI 1) (sN LO HI 2) e j k)))) za (aZ G (sz3 LO HI) (zF (joD w u LO HI op) (c3 (sN LO HI 1) (sN LO HI 2) e j k)))) za (aZ G (sz3 LO HI) (upd (zF (joD w u LO HI op) (c3 (sN LO HI 1) (sN LO HI 2) e j k)) (c3 (sN LO HI 1) (sN LO HI 2) e j k) 1))) va (aJ G (sz3 LO HI) (vp_updL (vF (joD w u LO HI op) (c3 (sN LO HI 1) (sN LO HI 2) e j k)) (c3 (sN LO HI 1) (sN LO HI 2) e j k) (mnJ (ovf jo) (svf js))))) q = some (oB 12 [.int (nI (vm w)), .int (nI (max (vdp w) (vdp u) + 1)), .ref la, .ref ha, .ref va, .ref za]) := (mU_n (g_neoa m_201 m_202)).trans m_201
                            have m_211 : (mU (mU (mU (mU M4 va (aJ G (sz3 LO HI) (vF (joD w u LO HI op) (c3 (sN LO HI 1) (sN LO HI 2) e j k)))) za (aZ G (sz3 LO HI) (zF (joD w u LO HI op) (c3 (sN LO HI 1) (sN LO HI 2) e j k)))) za (aZ G (sz3 LO HI) (upd (zF (joD w u LO HI op) (c3 (sN LO HI 1) (sN LO HI 2) e j k)) (c3 (sN LO HI 1) (sN LO HI 2) e j k) 1))) va (aJ G (sz3 LO HI) (vp_updL (vF (joD w u LO HI op) (c3 (sN LO HI 1) (sN LO HI 2) e j k)) (c3 (sN LO HI 1) (sN LO HI 2) e j k) (mnJ (ovf jo) (svf js))))) va = some (aJ G (sz3 LO HI) (vp_updL (vF (joD w u LO HI op) (c3 (sN LO HI 1) (sN LO HI 2) e j k)) (c3 (sN LO HI 1) (sN LO HI 2) e j k) (mnJ (ovf jo) (svf js)))) := mU_s
                            have m_212 : (mU (mU (mU (mU M4 va (aJ G (sz3 LO HI) (vF (joD w u LO HI op) (c3 (sN LO HI 1) (sN LO HI 2) e j k)))) za (aZ G (sz3 LO HI) (zF (joD w u LO HI op) (c3 (sN LO HI 1) (sN LO HI 2) e j k)))) za (aZ G (sz3 LO HI) (upd (zF (joD w u LO HI op) (c3 (sN LO HI 1) (sN LO HI 2) e j k)) (c3 (sN LO HI 1) (sN LO HI 2) e j k) 1))) va (aJ G (sz3 LO HI) (vp_updL (vF (joD w u LO HI op) (c3 (sN LO HI 1) (sN LO HI 2) e j k)) (c3 (sN LO HI 1) (sN LO HI 2) e j k) (mnJ (ovf jo) (svf js))))) za = some (aZ G (sz3 LO HI) (upd (zF (joD w u LO HI op) (c3 (sN LO HI 1) (sN LO HI 2) e j k)) (c3 (sN LO HI 1) (sN LO HI 2) e j k) 1)) := (mU_n (Ne.symm (lvz))).trans m_203
                            refine q_iinc (v := (LO 2 + nI (k + 1))) (lv' := [(10, .int (LO 2 + nI (k + 1))), (16, .long (svf js)), (14, .long (ovf jo)), (13, .int (nI (c3 (sN LO HI 1) (sN LO HI 2) e j k))), (12, .int (nI js)), (11, .int (nI jo)), (0, .ref r), (1, .int (nI i)), (2, .int (nI i2)), (3, .int op), (4, .ref o), (5, .ref s), (6, .ref q), (8, .int (LO 0 + nI (e))), (9, .int (LO 1 + nI (j)))]) X dX13_join_472 14 rfl (lo_s) (by decide) rfl ?_
                            refine q_goto X 289 dX13_join_475 (by decide) ?_
                            refine q_sub [6, 7, 8, 9, 10, 11, 12, 13, 14, 0] rfl ?_
                            have hdk : joD w u LO HI op (c3 (sN LO HI 1) (sN LO HI 2) e j k) = some (mnJ (ovf jo) (svf js)) := jd9.trans (by rw [ct_some hO.2.2.2.2.2 hjo k1, ct_some hOs.2.2.2.2.2 hjs k2]; exact congrArg some (by unfold joinD; rw [if_neg o0, if_neg o1, if_neg o2, if_pos o3]))
                            refine q_memE (M' := mU (mU M4 va (aJ G (sz3 LO HI) (vF (joD w u LO HI op) (c3 (sN LO HI 1) (sN LO HI 2) e j (k + 1))))) za (aZ G (sz3 LO HI) (zF (joD w u LO HI op) (c3 (sN LO HI 1) (sN LO HI 2) e j (k + 1))))) (by rw [show c3 (sN LO HI 1) (sN LO HI 2) e j (k + 1) = c3 (sN LO HI 1) (sN LO HI 2) e j k + 1 from rfl, ← vF_y hdk, ← zF_y hdk]; exact mU_5 lvz) ?_
                            exact ih (k + 1) (by omega)
                        · refine q_lload X dX13_join_431 1 rfl ?_
                          refine q_lload X dX13_join_433 0 rfl ?_
                          refine q_lmul X dX13_join_435 ?_
                          refine q_goto X 471 dX13_join_436 (by decide) ?_
                          refine q_lastN X (c3 (sN LO HI 1) (sN LO HI 2) e j k) m_202 (rfl) (hc9) (by omega) dX13_join_471 ?_
                          have m_213 : (mU (mU (mU (mU M4 va (aJ G (sz3 LO HI) (vF (joD w u LO HI op) (c3 (sN LO HI 1) (sN LO HI 2) e j k)))) za (aZ G (sz3 LO HI) (zF (joD w u LO HI op) (c3 (sN LO HI 1) (sN LO HI 2) e j k)))) za (aZ G (sz3 LO HI) (upd (zF (joD w u LO HI op) (c3 (sN LO HI 1) (sN LO HI 2) e j k)) (c3 (sN LO HI 1) (sN LO HI 2) e j k) 1))) va (aJ G (sz3 LO HI) (vp_updL (vF (joD w u LO HI op) (c3 (sN LO HI 1) (sN LO HI 2) e j k)) (c3 (sN LO HI 1) (sN LO HI 2) e j k) ((ovf jo) * (svf js))))) q = some (oB 12 [.int (nI (vm w)), .int (nI (max (vdp w) (vdp u) + 1)), .ref la, .ref ha, .ref va, .ref za]) := (mU_n (g_neoa m_201 m_202)).trans m_201
                          have m_214 : (mU (mU (mU (mU M4 va (aJ G (sz3 LO HI) (vF (joD w u LO HI op) (c3 (sN LO HI 1) (sN LO HI 2) e j k)))) za (aZ G (sz3 LO HI) (zF (joD w u LO HI op) (c3 (sN LO HI 1) (sN LO HI 2) e j k)))) za (aZ G (sz3 LO HI) (upd (zF (joD w u LO HI op) (c3 (sN LO HI 1) (sN LO HI 2) e j k)) (c3 (sN LO HI 1) (sN LO HI 2) e j k) 1))) va (aJ G (sz3 LO HI) (vp_updL (vF (joD w u LO HI op) (c3 (sN LO HI 1) (sN LO HI 2) e j k)) (c3 (sN LO HI 1) (sN LO HI 2) e j k) ((ovf jo) * (svf js))))) va = some (aJ G (sz3 LO HI) (vp_updL (vF (joD w u LO HI op) (c3 (sN LO HI 1) (sN LO HI 2) e j k)) (c3 (sN LO HI 1) (sN LO HI 2) e j k) ((ovf jo) * (svf js)))) := mU_s
                          have m_215 : (mU (mU (mU (mU M4 va (aJ G (sz3 LO HI) (vF (joD w u LO HI op) (c3 (sN LO HI 1) (sN LO HI 2) e j k)))) za (aZ G (sz3 LO HI) (zF (joD w u LO HI op) (c3 (sN LO HI 1) (sN LO HI 2) e j k)))) za (aZ G (sz3 LO HI) (upd (zF (joD w u LO HI op) (c3 (sN LO HI 1) (sN LO HI 2) e j k)) (c3 (sN LO HI 1) (sN LO HI 2) e j k) 1))) va (aJ G (sz3 LO HI) (vp_updL (vF (joD w u LO HI op) (c3 (sN LO HI 1) (sN LO HI 2) e j k)) (c3 (sN LO HI 1) (sN LO HI 2) e j k) ((ovf jo) * (svf js))))) za = some (aZ G (sz3 LO HI) (upd (zF (joD w u LO HI op) (c3 (sN LO HI 1) (sN LO HI 2) e j k)) (c3 (sN LO HI 1) (sN LO HI 2) e j k) 1)) := (mU_n (Ne.symm (lvz))).trans m_203
                          refine q_iinc (v := (LO 2 + nI (k + 1))) (lv' := [(10, .int (LO 2 + nI (k + 1))), (16, .long (svf js)), (14, .long (ovf jo)), (13, .int (nI (c3 (sN LO HI 1) (sN LO HI 2) e j k))), (12, .int (nI js)), (11, .int (nI jo)), (0, .ref r), (1, .int (nI i)), (2, .int (nI i2)), (3, .int op), (4, .ref o), (5, .ref s), (6, .ref q), (8, .int (LO 0 + nI (e))), (9, .int (LO 1 + nI (j)))]) X dX13_join_472 14 rfl (lo_s) (by decide) rfl ?_
                          refine q_goto X 289 dX13_join_475 (by decide) ?_
                          refine q_sub [6, 7, 8, 9, 10, 11, 12, 13, 14, 0] rfl ?_
                          have hdk : joD w u LO HI op (c3 (sN LO HI 1) (sN LO HI 2) e j k) = some (ovf jo * svf js) := jd9.trans (by rw [ct_some hO.2.2.2.2.2 hjo k1, ct_some hOs.2.2.2.2.2 hjs k2]; exact congrArg some (by unfold joinD; rw [if_neg o0, if_neg o1, if_pos o2]))
                          refine q_memE (M' := mU (mU M4 va (aJ G (sz3 LO HI) (vF (joD w u LO HI op) (c3 (sN LO HI 1) (sN LO HI 2) e j (k + 1))))) za (aZ G (sz3 LO HI) (zF (joD w u LO HI op) (c3 (sN LO HI 1) (sN LO HI 2) e j (k + 1))))) (by rw [show c3 (sN LO HI 1) (sN LO HI 2) e j (k + 1) = c3 (sN LO HI 1) (sN LO HI 2) e j k + 1 from rfl, ← vF_y hdk, ← zF_y hdk]; exact mU_5 lvz) ?_
                          exact ih (k + 1) (by omega)
                      · refine q_lload X dX13_join_418 1 rfl ?_
                        refine q_lload X dX13_join_420 0 rfl ?_
                        refine q_lsub X dX13_join_422 ?_
                        refine q_goto X 471 dX13_join_423 (by decide) ?_
                        refine q_lastN X (c3 (sN LO HI 1) (sN LO HI 2) e j k) m_202 (rfl) (hc9) (by omega) dX13_join_471 ?_
                        have m_216 : (mU (mU (mU (mU M4 va (aJ G (sz3 LO HI) (vF (joD w u LO HI op) (c3 (sN LO HI 1) (sN LO HI 2) e j k)))) za (aZ G (sz3 LO HI) (zF (joD w u LO HI op) (c3 (sN LO HI 1) (sN LO HI 2) e j k)))) za (aZ G (sz3 LO HI) (upd (zF (joD w u LO HI op) (c3 (sN LO HI 1) (sN LO HI 2) e j k)) (c3 (sN LO HI 1) (sN LO HI 2) e j k) 1))) va (aJ G (sz3 LO HI) (vp_updL (vF (joD w u LO HI op) (c3 (sN LO HI 1) (sN LO HI 2) e j k)) (c3 (sN LO HI 1) (sN LO HI 2) e j k) ((ovf jo) - (svf js))))) q = some (oB 12 [.int (nI (vm w)), .int (nI (max (vdp w) (vdp u) + 1)), .ref la, .ref ha, .ref va, .ref za]) := (mU_n (g_neoa m_201 m_202)).trans m_201
                        have m_217 : (mU (mU (mU (mU M4 va (aJ G (sz3 LO HI) (vF (joD w u LO HI op) (c3 (sN LO HI 1) (sN LO HI 2) e j k)))) za (aZ G (sz3 LO HI) (zF (joD w u LO HI op) (c3 (sN LO HI 1) (sN LO HI 2) e j k)))) za (aZ G (sz3 LO HI) (upd (zF (joD w u LO HI op) (c3 (sN LO HI 1) (sN LO HI 2) e j k)) (c3 (sN LO HI 1) (sN LO HI 2) e j k) 1))) va (aJ G (sz3 LO HI) (vp_updL (vF (joD w u LO HI op) (c3 (sN LO HI 1) (sN LO HI 2) e j k)) (c3 (sN LO HI 1) (sN LO HI 2) e j k) ((ovf jo) - (svf js))))) va = some (aJ G (sz3 LO HI) (vp_updL (vF (joD w u LO HI op) (c3 (sN LO HI 1) (sN LO HI 2) e j k)) (c3 (sN LO HI 1) (sN LO HI 2) e j k) ((ovf jo) - (svf js)))) := mU_s
                        have m_218 : (mU (mU (mU (mU M4 va (aJ G (sz3 LO HI) (vF (joD w u LO HI op) (c3 (sN LO HI 1) (sN LO HI 2) e j k)))) za (aZ G (sz3 LO HI) (zF (joD w u LO HI op) (c3 (sN LO HI 1) (sN LO HI 2) e j k)))) za (aZ G (sz3 LO HI) (upd (zF (joD w u LO HI op) (c3 (sN LO HI 1) (sN LO HI 2) e j k)) (c3 (sN LO HI 1) (sN LO HI 2) e j k) 1))) va (aJ G (sz3 LO HI) (vp_updL (vF (joD w u LO HI op) (c3 (sN LO HI 1) (sN LO HI 2) e j k)) (c3 (sN LO HI 1) (sN LO HI 2) e j k) ((ovf jo) - (svf js))))) za = some (aZ G (sz3 LO HI) (upd (zF (joD w u LO HI op) (c3 (sN LO HI 1) (sN LO HI 2) e j k)) (c3 (sN LO HI 1) (sN LO HI 2) e j k) 1)) := (mU_n (Ne.symm (lvz))).trans m_203
                        refine q_iinc (v := (LO 2 + nI (k + 1))) (lv' := [(10, .int (LO 2 + nI (k + 1))), (16, .long (svf js)), (14, .long (ovf jo)), (13, .int (nI (c3 (sN LO HI 1) (sN LO HI 2) e j k))), (12, .int (nI js)), (11, .int (nI jo)), (0, .ref r), (1, .int (nI i)), (2, .int (nI i2)), (3, .int op), (4, .ref o), (5, .ref s), (6, .ref q), (8, .int (LO 0 + nI (e))), (9, .int (LO 1 + nI (j)))]) X dX13_join_472 14 rfl (lo_s) (by decide) rfl ?_
                        refine q_goto X 289 dX13_join_475 (by decide) ?_
                        refine q_sub [6, 7, 8, 9, 10, 11, 12, 13, 14, 0] rfl ?_
                        have hdk : joD w u LO HI op (c3 (sN LO HI 1) (sN LO HI 2) e j k) = some (ovf jo - svf js) := jd9.trans (by rw [ct_some hO.2.2.2.2.2 hjo k1, ct_some hOs.2.2.2.2.2 hjs k2]; exact congrArg some (by unfold joinD; rw [if_neg o0, if_pos o1]))
                        refine q_memE (M' := mU (mU M4 va (aJ G (sz3 LO HI) (vF (joD w u LO HI op) (c3 (sN LO HI 1) (sN LO HI 2) e j (k + 1))))) za (aZ G (sz3 LO HI) (zF (joD w u LO HI op) (c3 (sN LO HI 1) (sN LO HI 2) e j (k + 1))))) (by rw [show c3 (sN LO HI 1) (sN LO HI 2) e j (k + 1) = c3 (sN LO HI 1) (sN LO HI 2) e j k + 1 from rfl, ← vF_y hdk, ← zF_y hdk]; exact mU_5 lvz) ?_
                        exact ih (k + 1) (by omega)
                    · refine q_lload X dX13_join_405 1 rfl ?_
                      refine q_lload X dX13_join_407 0 rfl ?_
                      refine q_ladd X dX13_join_409 ?_
                      refine q_goto X 471 dX13_join_410 (by decide) ?_
                      refine q_lastN X (c3 (sN LO HI 1) (sN LO HI 2) e j k) m_202 (rfl) (hc9) (by omega) dX13_join_471 ?_
                      have m_219 : (mU (mU (mU (mU M4 va (aJ G (sz3 LO HI) (vF (joD w u LO HI op) (c3 (sN LO HI 1) (sN LO HI 2) e j k)))) za (aZ G (sz3 LO HI) (zF (joD w u LO HI op) (c3 (sN LO HI 1) (sN LO HI 2) e j k)))) za (aZ G (sz3 LO HI) (upd (zF (joD w u LO HI op) (c3 (sN LO HI 1) (sN LO HI 2) e j k)) (c3 (sN LO HI 1) (sN LO HI 2) e j k) 1))) va (aJ G (sz3 LO HI) (vp_updL (vF (joD w u LO HI op) (c3 (sN LO HI 1) (sN LO HI 2) e j k)) (c3 (sN LO HI 1) (sN LO HI 2) e j k) ((ovf jo) + (svf js))))) q = some (oB 12 [.int (nI (vm w)), .int (nI (max (vdp w) (vdp u) + 1)), .ref la, .ref ha, .ref va, .ref za]) := (mU_n (g_neoa m_201 m_202)).trans m_201
                      have m_220 : (mU (mU (mU (mU M4 va (aJ G (sz3 LO HI) (vF (joD w u LO HI op) (c3 (sN LO HI 1) (sN LO HI 2) e j k)))) za (aZ G (sz3 LO HI) (zF (joD w u LO HI op) (c3 (sN LO HI 1) (sN LO HI 2) e j k)))) za (aZ G (sz3 LO HI) (upd (zF (joD w u LO HI op) (c3 (sN LO HI 1) (sN LO HI 2) e j k)) (c3 (sN LO HI 1) (sN LO HI 2) e j k) 1))) va (aJ G (sz3 LO HI) (vp_updL (vF (joD w u LO HI op) (c3 (sN LO HI 1) (sN LO HI 2) e j k)) (c3 (sN LO HI 1) (sN LO HI 2) e j k) ((ovf jo) + (svf js))))) va = some (aJ G (sz3 LO HI) (vp_updL (vF (joD w u LO HI op) (c3 (sN LO HI 1) (sN LO HI 2) e j k)) (c3 (sN LO HI 1) (sN LO HI 2) e j k) ((ovf jo) + (svf js)))) := mU_s
                      have m_221 : (mU (mU (mU (mU M4 va (aJ G (sz3 LO HI) (vF (joD w u LO HI op) (c3 (sN LO HI 1) (sN LO HI 2) e j k)))) za (aZ G (sz3 LO HI) (zF (joD w u LO HI op) (c3 (sN LO HI 1) (sN LO HI 2) e j k)))) za (aZ G (sz3 LO HI) (upd (zF (joD w u LO HI op) (c3 (sN LO HI 1) (sN LO HI 2) e j k)) (c3 (sN LO HI 1) (sN LO HI 2) e j k) 1))) va (aJ G (sz3 LO HI) (vp_updL (vF (joD w u LO HI op) (c3 (sN LO HI 1) (sN LO HI 2) e j k)) (c3 (sN LO HI 1) (sN LO HI 2) e j k) ((ovf jo) + (svf js))))) za = some (aZ G (sz3 LO HI) (upd (zF (joD w u LO HI op) (c3 (sN LO HI 1) (sN LO HI 2) e j k)) (c3 (sN LO HI 1) (sN LO HI 2) e j k) 1)) := (mU_n (Ne.symm (lvz))).trans m_203
                      refine q_iinc (v := (LO 2 + nI (k + 1))) (lv' := [(10, .int (LO 2 + nI (k + 1))), (16, .long (svf js)), (14, .long (ovf jo)), (13, .int (nI (c3 (sN LO HI 1) (sN LO HI 2) e j k))), (12, .int (nI js)), (11, .int (nI jo)), (0, .ref r), (1, .int (nI i)), (2, .int (nI i2)), (3, .int op), (4, .ref o), (5, .ref s), (6, .ref q), (8, .int (LO 0 + nI (e))), (9, .int (LO 1 + nI (j)))]) X dX13_join_472 14 rfl (lo_s) (by decide) rfl ?_
                      refine q_goto X 289 dX13_join_475 (by decide) ?_
                      refine q_sub [6, 7, 8, 9, 10, 11, 12, 13, 14, 0] rfl ?_
                      have hdk : joD w u LO HI op (c3 (sN LO HI 1) (sN LO HI 2) e j k) = some (ovf jo + svf js) := jd9.trans (by rw [ct_some hO.2.2.2.2.2 hjo k1, ct_some hOs.2.2.2.2.2 hjs k2]; exact congrArg some (by unfold joinD; rw [if_pos o0]))
                      refine q_memE (M' := mU (mU M4 va (aJ G (sz3 LO HI) (vF (joD w u LO HI op) (c3 (sN LO HI 1) (sN LO HI 2) e j (k + 1))))) za (aZ G (sz3 LO HI) (zF (joD w u LO HI op) (c3 (sN LO HI 1) (sN LO HI 2) e j (k + 1))))) (by rw [show c3 (sN LO HI 1) (sN LO HI 2) e j (k + 1) = c3 (sN LO HI 1) (sN LO HI 2) e j k + 1 from rfl, ← vF_y hdk, ← zF_y hdk]; exact mU_5 lvz) ?_
                      exact ih (k + 1) (by omega)
                  · refine q_goto X 472 dX13_join_362 (by decide) ?_
                    refine q_iinc (v := (LO 2 + nI (k + 1))) (lv' := [(10, .int (LO 2 + nI (k + 1))), (13, .int (nI (c3 (sN LO HI 1) (sN LO HI 2) e j k))), (12, .int (nI js)), (11, .int (nI jo)), (0, .ref r), (1, .int (nI i)), (2, .int (nI i2)), (3, .int op), (4, .ref o), (5, .ref s), (6, .ref q), (8, .int (LO 0 + nI (e))), (9, .int (LO 1 + nI (j)))]) X dX13_join_472 12 rfl (lo_s) (by decide) rfl ?_
                    refine q_goto X 289 dX13_join_475 (by decide) ?_
                    refine q_sub [4, 5, 6, 7, 8, 9, 10, 11, 12, 0] rfl ?_
                    have hdk := jd9.trans (by rw [ct_some hO.2.2.2.2.2 hjo k1, ct_none hOs.2.2.2.2.2 hjs k2])
                    refine q_memE (M' := mU (mU M4 va (aJ G (sz3 LO HI) (vF (joD w u LO HI op) (c3 (sN LO HI 1) (sN LO HI 2) e j (k + 1))))) za (aZ G (sz3 LO HI) (zF (joD w u LO HI op) (c3 (sN LO HI 1) (sN LO HI 2) e j (k + 1))))) (by rw [show c3 (sN LO HI 1) (sN LO HI 2) e j (k + 1) = c3 (sN LO HI 1) (sN LO HI 2) e j k + 1 from rfl, vF_no hdk, zF_no hdk]) ?_
                    exact ih (k + 1) (by omega)
            have L1 : ∀ (e : Nat) (he : e < sN LO HI 0) (kk : qJ G F (qQ G F (rfP G r cOp (some (.int 0)) (sp_join σ (nI i) (nI i2) op))) 18 (mU (mU M4 va (aJ G (sz3 LO HI) (vF (joD w u LO HI op) (c3 (sN LO HI 1) (sN LO HI 2) e (sN LO HI 1) 0)))) za (aZ G (sz3 LO HI) (zF (joD w u LO HI op) (c3 (sN LO HI 1) (sN LO HI 2) e (sN LO HI 1) 0)))) 0 0 484 [(0, .ref r), (1, .int (nI i)), (2, .int (nI i2)), (3, .int op), (4, .ref o), (5, .ref s), (6, .ref q), (8, .int (LO 0 + nI (e)))] []) (t j : Nat), j + t = sN LO HI 1 → qJ G F (qQ G F (rfP G r cOp (some (.int 0)) (sp_join σ (nI i) (nI i2) op))) 18 (mU (mU M4 va (aJ G (sz3 LO HI) (vF (joD w u LO HI op) (c3 (sN LO HI 1) (sN LO HI 2) e j 0)))) za (aZ G (sz3 LO HI) (zF (joD w u LO HI op) (c3 (sN LO HI 1) (sN LO HI 2) e j 0)))) 0 0 268 [(0, .ref r), (1, .int (nI i)), (2, .int (nI i2)), (3, .int op), (4, .ref o), (5, .ref s), (6, .ref q), (8, .int (LO 0 + nI (e))), (9, .int (LO 1 + nI (j)))] [] := by
              intro e he kk t
              induction t with
              | zero =>
                intro j hj0
                obtain rfl : j = sN LO HI 1 := by omega
                refine q_iload X dX13_join_268 8 rfl ?_
                refine q_aload X dX13_join_270 6 rfl ?_
                refine q_get X (kq (c3 (sN LO HI 1) (sN LO HI 2) e (sN LO HI 1) 0)) rfl in_RX12 3 (by decide) tw_1161 rfl rfl dX13_join_272 ?_
                refine q_iconst (v := 1) X dX13_join_275 (by decide) ?_
                refine q_ialdN X 1 (kha (c3 (sN LO HI 1) (sN LO HI 2) e (sN LO HI 1) 0)) (rfl) (by decide) (by decide) dX13_join_276 ?_
                refine q_icmp_gt X 484 dX13_join_277 (by decide) (fun c_222 => ?_) (fun c_222 => absurd (by rw [y1]; exact (lo_lt l1.1 l1.2 (by omega) (by omega)).mpr (by omega)) c_222)
                refine q_sub [0, 1, 2, 3, 4, 5, 6, 7] rfl ?_
                exact kk
              | succ t ih =>
                intro j hj0
                have hj : j < sN LO HI 1 := by omega
                refine q_iload X dX13_join_268 8 rfl ?_
                refine q_aload X dX13_join_270 6 rfl ?_
                refine q_get X (kq (c3 (sN LO HI 1) (sN LO HI 2) e j 0)) rfl in_RX12 3 (by decide) tw_1161 rfl rfl dX13_join_272 ?_
                refine q_iconst (v := 1) X dX13_join_275 (by decide) ?_
                refine q_ialdN X 1 (kha (c3 (sN LO HI 1) (sN LO HI 2) e j 0)) (rfl) (by decide) (by decide) dX13_join_276 ?_
                refine q_icmp_gt X 484 dX13_join_277 (by decide) (fun c_223 => absurd ((lo_lt l1.1 l1.2 (by omega) (by omega)).mp (y1 ▸ c_223)) (by omega)) (fun c_223 => ?_)
                refine q_aload X dX13_join_280 6 rfl ?_
                refine q_get X (kq (c3 (sN LO HI 1) (sN LO HI 2) e j 0)) rfl in_RX12 2 (by decide) tw_1159 rfl rfl dX13_join_282 ?_
                refine q_iconst (v := 2) X dX13_join_285 (by decide) ?_
                refine q_ialdN X 2 (kla (c3 (sN LO HI 1) (sN LO HI 2) e j 0)) (rfl) (by decide) (by decide) dX13_join_286 ?_
                rw [show LO 2 = LO 2 + nI 0 from lo_0.symm]
                refine q_istore (lv' := [(10, .int (LO 2 + nI (0))), (0, .ref r), (1, .int (nI i)), (2, .int (nI i2)), (3, .int op), (4, .ref o), (5, .ref s), (6, .ref q), (8, .int (LO 0 + nI (e))), (9, .int (LO 1 + nI (j)))]) X dX13_join_287 (by decide) rfl ?_
                refine q_sub [1, 2, 3, 4, 5, 6, 7, 8, 9, 0] rfl ?_
                refine L2 e j he hj ?_ (sN LO HI 2) 0 (by omega)
                rw [c3_k]
                refine q_iinc (v := (LO 1 + nI (j + 1))) (lv' := [(9, .int (LO 1 + nI (j + 1))), (0, .ref r), (1, .int (nI i)), (2, .int (nI i2)), (3, .int op), (4, .ref o), (5, .ref s), (6, .ref q), (8, .int (LO 0 + nI (e)))]) X dX13_join_478 8 rfl (lo_s) (by decide) rfl ?_
                refine q_goto X 268 dX13_join_481 (by decide) ?_
                refine q_sub [1, 2, 3, 4, 5, 6, 7, 8, 0] rfl ?_
                exact ih (j + 1) (by omega)
            have L0 : ∀ (kk : qJ G F (qQ G F (rfP G r cOp (some (.int 0)) (sp_join σ (nI i) (nI i2) op))) 18 (mU (mU M4 va (aJ G (sz3 LO HI) (vF (joD w u LO HI op) (c3 (sN LO HI 1) (sN LO HI 2) (sN LO HI 0) 0 0)))) za (aZ G (sz3 LO HI) (zF (joD w u LO HI op) (c3 (sN LO HI 1) (sN LO HI 2) (sN LO HI 0) 0 0)))) 0 0 490 [(0, .ref r), (1, .int (nI i)), (2, .int (nI i2)), (3, .int op), (4, .ref o), (5, .ref s), (6, .ref q)] []) (t e : Nat), e + t = sN LO HI 0 → qJ G F (qQ G F (rfP G r cOp (some (.int 0)) (sp_join σ (nI i) (nI i2) op))) 18 (mU (mU M4 va (aJ G (sz3 LO HI) (vF (joD w u LO HI op) (c3 (sN LO HI 1) (sN LO HI 2) e 0 0)))) za (aZ G (sz3 LO HI) (zF (joD w u LO HI op) (c3 (sN LO HI 1) (sN LO HI 2) e 0 0)))) 0 0 247 [(0, .ref r), (1, .int (nI i)), (2, .int (nI i2)), (3, .int op), (4, .ref o), (5, .ref s), (6, .ref q), (8, .int (LO 0 + nI (e)))] [] := by
              intro  kk t
              induction t with
              | zero =>
                intro e he0
                obtain rfl : e = sN LO HI 0 := by omega
                refine q_iload X dX13_join_247 7 rfl ?_
                refine q_aload X dX13_join_249 6 rfl ?_
                refine q_get X (kq (c3 (sN LO HI 1) (sN LO HI 2) (sN LO HI 0) 0 0)) rfl in_RX12 3 (by decide) tw_1161 rfl rfl dX13_join_251 ?_
                refine q_iconst (v := 0) X dX13_join_254 (by decide) ?_
                refine q_ialdN X 0 (kha (c3 (sN LO HI 1) (sN LO HI 2) (sN LO HI 0) 0 0)) (rfl) (by decide) (by decide) dX13_join_255 ?_
                refine q_icmp_gt X 490 dX13_join_256 (by decide) (fun c_224 => ?_) (fun c_224 => absurd (by rw [y0]; exact (lo_lt l0.1 l0.2 (by omega) (by omega)).mpr (by omega)) c_224)
                refine q_sub [0, 1, 2, 3, 4, 5, 6] rfl ?_
                exact kk
              | succ t ih =>
                intro e he0
                have he : e < sN LO HI 0 := by omega
                refine q_iload X dX13_join_247 7 rfl ?_
                refine q_aload X dX13_join_249 6 rfl ?_
                refine q_get X (kq (c3 (sN LO HI 1) (sN LO HI 2) e 0 0)) rfl in_RX12 3 (by decide) tw_1161 rfl rfl dX13_join_251 ?_
                refine q_iconst (v := 0) X dX13_join_254 (by decide) ?_
                refine q_ialdN X 0 (kha (c3 (sN LO HI 1) (sN LO HI 2) e 0 0)) (rfl) (by decide) (by decide) dX13_join_255 ?_
                refine q_icmp_gt X 490 dX13_join_256 (by decide) (fun c_225 => absurd ((lo_lt l0.1 l0.2 (by omega) (by omega)).mp (y0 ▸ c_225)) (by omega)) (fun c_225 => ?_)
                refine q_aload X dX13_join_259 6 rfl ?_
                refine q_get X (kq (c3 (sN LO HI 1) (sN LO HI 2) e 0 0)) rfl in_RX12 2 (by decide) tw_1159 rfl rfl dX13_join_261 ?_
                refine q_iconst (v := 1) X dX13_join_264 (by decide) ?_
                refine q_ialdN X 1 (kla (c3 (sN LO HI 1) (sN LO HI 2) e 0 0)) (rfl) (by decide) (by decide) dX13_join_265 ?_
                rw [show LO 1 = LO 1 + nI 0 from lo_0.symm]
                refine q_istore (lv' := [(9, .int (LO 1 + nI (0))), (0, .ref r), (1, .int (nI i)), (2, .int (nI i2)), (3, .int op), (4, .ref o), (5, .ref s), (6, .ref q), (8, .int (LO 0 + nI (e)))]) X dX13_join_266 (by decide) rfl ?_
                refine q_sub [1, 2, 3, 4, 5, 6, 7, 8, 0] rfl ?_
                refine L1 e he ?_ (sN LO HI 1) 0 (by omega)
                rw [c3_j]
                refine q_iinc (v := (LO 0 + nI (e + 1))) (lv' := [(8, .int (LO 0 + nI (e + 1))), (0, .ref r), (1, .int (nI i)), (2, .int (nI i2)), (3, .int op), (4, .ref o), (5, .ref s), (6, .ref q)]) X dX13_join_484 7 rfl (lo_s) (by decide) rfl ?_
                refine q_goto X 247 dX13_join_487 (by decide) ?_
                refine q_sub [1, 2, 3, 4, 5, 6, 7, 0] rfl ?_
                exact ih (e + 1) (by omega)
            refine q_aload X dX13_join_238 2 rfl ?_
            refine q_get X hq4 rfl in_RX12 2 (by decide) tw_1159 rfl rfl dX13_join_240 ?_
            refine q_iconst (v := 0) X dX13_join_243 (by decide) ?_
            refine q_ialdN X 0 m_197 (rfl) (by decide) (by decide) dX13_join_244 ?_
            rw [show LO 0 = LO 0 + nI 0 from lo_0.symm]
            refine q_istore (lv' := [(8, .int (LO 0 + nI (0))), (7, .int 1), (6, .ref q), (5, .ref s), (4, .ref o), (0, .ref r), (1, .int (nI i)), (2, .int (nI i2)), (3, .int op)]) X dX13_join_245 (by decide) rfl ?_
            refine q_sub [5, 6, 7, 8, 4, 3, 2, 0] rfl ?_
            refine q_memE (M' := mU (mU M4 va (aJ G (sz3 LO HI) (vF (joD w u LO HI op) (c3 (sN LO HI 1) (sN LO HI 2) 0 0 0)))) za (aZ G (sz3 LO HI) (zF (joD w u LO HI op) (c3 (sN LO HI 1) (sN LO HI 2) 0 0 0)))) (by rw [c3_0, vF_0, zF_0, mU_id hva4, mU_id hza4]) ?_
            exact L0 hfin (sN LO HI 0) 0 (by omega)
          · refine q_callV X (c_large_n hB2 hok hmx m_157 m_158 m_159 hlim) Y_X13_large tw_1359 tw_1361 sel_32 z_161r rfl (by omega) rfl rfl (Nat.le_of_ble_eq_true rfl) (rc' := 2) (rs' := 4096) (by omega) (by omega) dX13_join_225 (fun v M' hp _ => ?_)
            obtain ⟨rfl, eM⟩ := hp
            have m_226 : M' r = some (oB 13 [.int 3, .ref vA, .ref nA, .ref pA, .ref plA, .ref dg, .int (nI (aV σ).length), .int (nI (aN σ).length), .int (nI (aOf σ)), .int (nI (aBg σ)), .int tk, .long su, .long le, .long gr]) := by rw [eM]; exact mU_s
            have m_227 : M' vA = some (aG G 41 vf) := by rw [eM]; exact (mU_n (Ne.symm (g_neoa z_161r z_1611))).trans z_1611
            have m_228 : M' nA = some (aG G 150 nf) := by rw [eM]; exact (mU_n (Ne.symm (g_neoa z_161r z_1612))).trans z_1612
            have m_229 : M' pA = some (aI G 41 pf) := by rw [eM]; exact (mU_n (Ne.symm (g_neoa z_161r z_1613))).trans z_1613
            have m_230 : M' plA = some (aI G 3 z_161x) := by rw [eM]; exact (mU_n (Ne.symm (g_neoa z_161r z_1614))).trans z_1614
            have m_231 : M' o = some (oB 12 [.int (nI (vm w)), .int (nI (vdp w)), .ref ola, .ref oha, .ref ova, .ref oza]) := by rw [eM]; exact (mU_n (g_neoo m_147 z_161r (by decide))).trans m_147
            have m_232 : M' ola = some (aI G 3 (vlo w)) := by rw [eM]; exact (mU_n (Ne.symm (g_neoa z_161r m_148))).trans m_148
            have m_233 : M' oha = some (aI G 3 (vhi w)) := by rw [eM]; exact (mU_n (Ne.symm (g_neoa z_161r m_149))).trans m_149
            have m_234 : M' ova = some (aJ G (wsz w) ovf) := by rw [eM]; exact (mU_n (Ne.symm (g_neoa z_161r m_150))).trans m_150
            have m_235 : M' oza = some (aZ G (wsz w) ozf) := by rw [eM]; exact (mU_n (Ne.symm (g_neoa z_161r m_151))).trans m_151
            have m_236 : M' s = some (oB 12 [.int (nI (vm u)), .int (nI (vdp u)), .ref sla, .ref sha, .ref sva, .ref sza]) := by rw [eM]; exact (mU_n (g_neoo m_152 z_161r (by decide))).trans m_152
            have m_237 : M' sla = some (aI G 3 (vlo u)) := by rw [eM]; exact (mU_n (Ne.symm (g_neoa z_161r m_153))).trans m_153
            have m_238 : M' sha = some (aI G 3 (vhi u)) := by rw [eM]; exact (mU_n (Ne.symm (g_neoa z_161r m_154))).trans m_154
            have m_239 : M' sva = some (aJ G (wsz u) svf) := by rw [eM]; exact (mU_n (Ne.symm (g_neoa z_161r m_155))).trans m_155
            have m_240 : M' sza = some (aZ G (wsz u) szf) := by rw [eM]; exact (mU_n (Ne.symm (g_neoa z_161r m_156))).trans m_156
            have m_241 : M' q = some (oB 12 [.int (nI (vm w)), .int (nI (max (vdp w) (vdp u) + 1)), .ref la, .ref ha, .null, .null]) := by rw [eM]; exact (mU_n (Ne.symm (g_nef hB.1 fq))).trans m_157
            have m_242 : M' la = some (aI G 3 LO) := by rw [eM]; exact (mU_n (Ne.symm (g_nef hB.1 fla))).trans m_158
            have m_243 : M' ha = some (aI G 3 HI) := by rw [eM]; exact (mU_n (Ne.symm (g_nef hB.1 fha))).trans m_159
            have evK3 : mEv (fun x => x = r ∨ x = plA) M M' := by rw [eM]; exact evKj.trans (mEv_upd (K := (fun x => x = r ∨ x = plA)) (Or.inl rfl))
            have hB3 : rfB G M' r 3 σ vA nA pA plA dg dla dha dva dza dvf dzf vf nf pf tk su le gr := by rw [eM]; exact hB2.ro
            clear eM
            generalize M' = M3 at *
            show qJ G F _ 18 M3 2 4096 228 [(8, .int 3), (7, .int 1), (6, .ref q), (5, .ref s), (4, .ref o), (0, .ref r), (1, .int (nI i)), (2, .int (nI i2)), (3, .int op)] [.int 1]
            refine q_if_eq X 233 dX13_join_228 (by decide) (fun c_244 => absurd c_244 (by decide)) (fun c_244 => ?_)
            refine q_iconst (v := 0) X dX13_join_231 (by decide) ?_
            exact q_iret X hr dX13_join_232 (rfP_T (by rw [specE]; exact (gNeed_y hmt).trans (gLim_n hlim)) cOp_UO ⟨vA, nA, pA, plA, dg, dla, dha, dva, dza, dvf, dzf, vf, nf, pf, tk, su, le, gr, hB3⟩)
        · refine q_iconst (v := 0) X dX13_join_193 (by decide) ?_
          refine q_istore (lv' := [(7, .int 0), (8, .int 2), (6, .ref q), (5, .ref s), (4, .ref o), (0, .ref r), (1, .int (nI i)), (2, .int (nI i2)), (3, .int op)]) X dX13_join_194 (by decide) rfl ?_
          refine q_iinc (v := 3) (lv' := [(8, .int 3), (7, .int 0), (6, .ref q), (5, .ref s), (4, .ref o), (0, .ref r), (1, .int (nI i)), (2, .int (nI i2)), (3, .int op)]) X dX13_join_196 1 rfl (by decide) (by decide) rfl ?_
          refine q_goto X 114 dX13_join_199 (by decide) ?_
          refine q_iload X dX13_join_114 0 rfl ?_
          refine q_iconst (v := 3) X dX13_join_116 (by decide) ?_
          refine q_icmp_ge X 202 dX13_join_117 (by decide) (fun c_245 => ?_) (fun c_245 => absurd (by decide) c_245)
          have evM2 : mEv (fun x => x = r ∨ x = plA) M (mU (mU (mU (mU (mU (mU M1 la (aI G 3 (upd (vlo w) 0 (mxI ((vlo w) 0) ((vlo u) 0))))) ha (aI G 3 (upd (vhi w) 0 (mnI ((vhi w) 0) ((vhi u) 0))))) la (aI G 3 (upd (upd (vlo w) 0 (mxI ((vlo w) 0) ((vlo u) 0))) 1 (mxI ((vlo w) 1) ((vlo u) 1))))) ha (aI G 3 (upd (upd (vhi w) 0 (mnI ((vhi w) 0) ((vhi u) 0))) 1 (mnI ((vhi w) 1) ((vhi u) 1))))) la (aI G 3 (upd (upd (upd (vlo w) 0 (mxI ((vlo w) 0) ((vlo u) 0))) 1 (mxI ((vlo w) 1) ((vlo u) 1))) 2 (mxI ((vlo w) 2) ((vlo u) 2))))) ha (aI G 3 (upd (upd (upd (vhi w) 0 (mnI ((vhi w) 0) ((vhi u) 0))) 1 (mnI ((vhi w) 1) ((vhi u) 1))) 2 (mnI ((vhi w) 2) ((vhi u) 2))))) := fun x hx => by
            have wla : x ≠ la := fun z => hx (z ▸ fla)
            have wha : x ≠ ha := fun z => hx (z ▸ fha)
            have e1 := evK1 x hx
            have e : (mU (mU (mU (mU (mU (mU M1 la (aI G 3 (upd (vlo w) 0 (mxI ((vlo w) 0) ((vlo u) 0))))) ha (aI G 3 (upd (vhi w) 0 (mnI ((vhi w) 0) ((vhi u) 0))))) la (aI G 3 (upd (upd (vlo w) 0 (mxI ((vlo w) 0) ((vlo u) 0))) 1 (mxI ((vlo w) 1) ((vlo u) 1))))) ha (aI G 3 (upd (upd (vhi w) 0 (mnI ((vhi w) 0) ((vhi u) 0))) 1 (mnI ((vhi w) 1) ((vhi u) 1))))) la (aI G 3 (upd (upd (upd (vlo w) 0 (mxI ((vlo w) 0) ((vlo u) 0))) 1 (mxI ((vlo w) 1) ((vlo u) 1))) 2 (mxI ((vlo w) 2) ((vlo u) 2))))) ha (aI G 3 (upd (upd (upd (vhi w) 0 (mnI ((vhi w) 0) ((vhi u) 0))) 1 (mnI ((vhi w) 1) ((vhi u) 1))) 2 (mnI ((vhi w) 2) ((vhi u) 2))))) x = M1 x := by simp only [mU, wla, wha, if_false]
            exact ⟨by rw [e]; exact e1.1, fun k => e.trans (e1.2 k)⟩
          generalize mU (mU (mU (mU (mU (mU M1 la (aI G 3 (upd (vlo w) 0 (mxI ((vlo w) 0) ((vlo u) 0))))) ha (aI G 3 (upd (vhi w) 0 (mnI ((vhi w) 0) ((vhi u) 0))))) la (aI G 3 (upd (upd (vlo w) 0 (mxI ((vlo w) 0) ((vlo u) 0))) 1 (mxI ((vlo w) 1) ((vlo u) 1))))) ha (aI G 3 (upd (upd (vhi w) 0 (mnI ((vhi w) 0) ((vhi u) 0))) 1 (mnI ((vhi w) 1) ((vhi u) 1))))) la (aI G 3 (upd (upd (upd (vlo w) 0 (mxI ((vlo w) 0) ((vlo u) 0))) 1 (mxI ((vlo w) 1) ((vlo u) 1))) 2 (mxI ((vlo w) 2) ((vlo u) 2))))) ha (aI G 3 (upd (upd (upd (vhi w) 0 (mnI ((vhi w) 0) ((vhi u) 0))) 1 (mnI ((vhi w) 1) ((vhi u) 1))) 2 (mnI ((vhi w) 2) ((vhi u) 2)))) = M2 at *
          have hBJ : rfB G M2 r 0 σ vA nA pA plA dg dla dha dva dza dvf dzf vf nf pf tk su le gr := hB.ev2 evM2 m_97 ⟨_, m_109⟩
          refine q_aload_n X dX13_join_202 5 rfl ?_
          refine q_iload X dX13_join_203 1 rfl ?_
          refine q_if_ne X 212 dX13_join_205 (by decide) (fun c_246 => absurd (by decide) c_246) (fun c_246 => ?_)
          refine q_iconst (v := 1) X dX13_join_208 (by decide) ?_
          refine q_goto X 213 dX13_join_209 (by decide) ?_
          refine q_iconst (v := 1) X dX13_join_213 (by decide) ?_
          refine q_callV X (c_fails1 (why := 1) hBJ.1) Y_X13_fails tw_1246 tw_1248 sel_23 m_97 rfl (by omega) rfl rfl (Nat.le_of_ble_eq_true rfl) (rc' := 2) (rs' := 4096) (by omega) (by omega) dX13_join_214 (fun v M' hp _ => ?_)
          obtain ⟨rfl, eM⟩ := hp
          have hB347 : rfB G M' r 1 σ vA nA pA plA dg dla dha dva dza dvf dzf vf nf pf tk su le gr := by rw [eM]; exact hBJ.ro
          clear eM
          generalize M' = M347 at *
          show qJ G F _ 18 M347 2 4096 217 [(8, .int 3), (7, .int 0), (6, .ref q), (5, .ref s), (4, .ref o), (0, .ref r), (1, .int (nI i)), (2, .int (nI i2)), (3, .int op)] [.int 1]
          obtain ⟨z_248r, z_2481, z_2482, z_2483, ⟨z_248x, z_2484⟩, z_2485, z_2486, z_2487, z_2488, z_2489, z_24810⟩ := id hB347
          refine q_if_eq X 222 dX13_join_217 (by decide) (fun c_249 => absurd c_249 (by decide)) (fun c_249 => ?_)
          refine q_iconst (v := 0) X dX13_join_220 (by decide) ?_
          exact q_iret X hr dX13_join_221 (rfP_T (by rw [specE]; exact gNeed_n (jn_no hw.1 hwu.1 (d := 2) (by decide) mm2)) cOp_IA ⟨vA, nA, pA, plA, dg, dla, dha, dva, dza, dvf, dzf, vf, nf, pf, tk, su, le, gr, hB347⟩)
      · refine q_iconst (v := 0) X dX13_join_193 (by decide) ?_
        refine q_istore (lv' := [(7, .int 0), (8, .int 1), (6, .ref q), (5, .ref s), (4, .ref o), (0, .ref r), (1, .int (nI i)), (2, .int (nI i2)), (3, .int op)]) X dX13_join_194 (by decide) rfl ?_
        refine q_iinc (v := 2) (lv' := [(8, .int 2), (7, .int 0), (6, .ref q), (5, .ref s), (4, .ref o), (0, .ref r), (1, .int (nI i)), (2, .int (nI i2)), (3, .int op)]) X dX13_join_196 1 rfl (by decide) (by decide) rfl ?_
        refine q_goto X 114 dX13_join_199 (by decide) ?_
        refine q_iload X dX13_join_114 0 rfl ?_
        refine q_iconst (v := 3) X dX13_join_116 (by decide) ?_
        refine q_icmp_ge X 202 dX13_join_117 (by decide) (fun c_250 => absurd c_250 (by decide)) (fun c_250 => ?_)
        refine q_aload X dX13_join_120 2 rfl ?_
        refine q_get X m_77 rfl in_RX12 2 (by decide) tw_1159 rfl rfl dX13_join_122 ?_
        refine q_iload X dX13_join_125 0 rfl ?_
        refine q_aload X dX13_join_127 4 rfl ?_
        refine q_get X m_66 rfl in_RX12 2 (by decide) tw_1159 rfl rfl dX13_join_129 ?_
        refine q_iload X dX13_join_132 0 rfl ?_
        refine q_ialdN X 2 m_67 (rfl) (by decide) (by decide) dX13_join_134 ?_
        refine q_aload X dX13_join_135 3 rfl ?_
        refine q_get X m_71 rfl in_RX12 2 (by decide) tw_1159 rfl rfl dX13_join_137 ?_
        refine q_iload X dX13_join_140 0 rfl ?_
        refine q_ialdN X 2 m_72 (rfl) (by decide) (by decide) dX13_join_142 ?_
        refine q_callSp X (c_J9_max_7cf53) Y_J9_max_7cf53 tw_1394 tw_123 (by omega) rfl rfl (Nat.le_of_ble_eq_true rfl) dX13_join_143 ?_
        refine q_iastN X 2 m_78 (rfl) (by decide) (by decide) dX13_join_146 ?_
        have m_251 : (mU (mU (mU (mU (mU M1 la (aI G 3 (upd (vlo w) 0 (mxI ((vlo w) 0) ((vlo u) 0))))) ha (aI G 3 (upd (vhi w) 0 (mnI ((vhi w) 0) ((vhi u) 0))))) la (aI G 3 (upd (upd (vlo w) 0 (mxI ((vlo w) 0) ((vlo u) 0))) 1 (mxI ((vlo w) 1) ((vlo u) 1))))) ha (aI G 3 (upd (upd (vhi w) 0 (mnI ((vhi w) 0) ((vhi u) 0))) 1 (mnI ((vhi w) 1) ((vhi u) 1))))) la (aI G 3 (upd (upd (upd (vlo w) 0 (mxI ((vlo w) 0) ((vlo u) 0))) 1 (mxI ((vlo w) 1) ((vlo u) 1))) 2 (mxI ((vlo w) 2) ((vlo u) 2))))) r = some (oB 13 [.int 0, .ref vA, .ref nA, .ref pA, .ref plA, .ref dg, .int (nI (aV σ).length), .int (nI (aN σ).length), .int (nI (aOf σ)), .int (nI (aBg σ)), .int tk, .long su, .long le, .long gr]) := (mU_n (g_nef hB.1 fla)).trans m_64
        have m_252 : (mU (mU (mU (mU (mU M1 la (aI G 3 (upd (vlo w) 0 (mxI ((vlo w) 0) ((vlo u) 0))))) ha (aI G 3 (upd (vhi w) 0 (mnI ((vhi w) 0) ((vhi u) 0))))) la (aI G 3 (upd (upd (vlo w) 0 (mxI ((vlo w) 0) ((vlo u) 0))) 1 (mxI ((vlo w) 1) ((vlo u) 1))))) ha (aI G 3 (upd (upd (vhi w) 0 (mnI ((vhi w) 0) ((vhi u) 0))) 1 (mnI ((vhi w) 1) ((vhi u) 1))))) la (aI G 3 (upd (upd (upd (vlo w) 0 (mxI ((vlo w) 0) ((vlo u) 0))) 1 (mxI ((vlo w) 1) ((vlo u) 1))) 2 (mxI ((vlo w) 2) ((vlo u) 2))))) nA = some (aG G 150 nf) := (mU_n (g_nef hB.2.2.1 fla)).trans m_65
        have m_253 : (mU (mU (mU (mU (mU M1 la (aI G 3 (upd (vlo w) 0 (mxI ((vlo w) 0) ((vlo u) 0))))) ha (aI G 3 (upd (vhi w) 0 (mnI ((vhi w) 0) ((vhi u) 0))))) la (aI G 3 (upd (upd (vlo w) 0 (mxI ((vlo w) 0) ((vlo u) 0))) 1 (mxI ((vlo w) 1) ((vlo u) 1))))) ha (aI G 3 (upd (upd (vhi w) 0 (mnI ((vhi w) 0) ((vhi u) 0))) 1 (mnI ((vhi w) 1) ((vhi u) 1))))) la (aI G 3 (upd (upd (upd (vlo w) 0 (mxI ((vlo w) 0) ((vlo u) 0))) 1 (mxI ((vlo w) 1) ((vlo u) 1))) 2 (mxI ((vlo w) 2) ((vlo u) 2))))) o = some (oB 12 [.int (nI (vm w)), .int (nI (vdp w)), .ref ola, .ref oha, .ref ova, .ref oza]) := (mU_n (g_nef hO.1 fla)).trans m_66
        have m_254 : (mU (mU (mU (mU (mU M1 la (aI G 3 (upd (vlo w) 0 (mxI ((vlo w) 0) ((vlo u) 0))))) ha (aI G 3 (upd (vhi w) 0 (mnI ((vhi w) 0) ((vhi u) 0))))) la (aI G 3 (upd (upd (vlo w) 0 (mxI ((vlo w) 0) ((vlo u) 0))) 1 (mxI ((vlo w) 1) ((vlo u) 1))))) ha (aI G 3 (upd (upd (vhi w) 0 (mnI ((vhi w) 0) ((vhi u) 0))) 1 (mnI ((vhi w) 1) ((vhi u) 1))))) la (aI G 3 (upd (upd (upd (vlo w) 0 (mxI ((vlo w) 0) ((vlo u) 0))) 1 (mxI ((vlo w) 1) ((vlo u) 1))) 2 (mxI ((vlo w) 2) ((vlo u) 2))))) ola = some (aI G 3 (vlo w)) := (mU_n (g_nef hO.2.1 fla)).trans m_67
        have m_255 : (mU (mU (mU (mU (mU M1 la (aI G 3 (upd (vlo w) 0 (mxI ((vlo w) 0) ((vlo u) 0))))) ha (aI G 3 (upd (vhi w) 0 (mnI ((vhi w) 0) ((vhi u) 0))))) la (aI G 3 (upd (upd (vlo w) 0 (mxI ((vlo w) 0) ((vlo u) 0))) 1 (mxI ((vlo w) 1) ((vlo u) 1))))) ha (aI G 3 (upd (upd (vhi w) 0 (mnI ((vhi w) 0) ((vhi u) 0))) 1 (mnI ((vhi w) 1) ((vhi u) 1))))) la (aI G 3 (upd (upd (upd (vlo w) 0 (mxI ((vlo w) 0) ((vlo u) 0))) 1 (mxI ((vlo w) 1) ((vlo u) 1))) 2 (mxI ((vlo w) 2) ((vlo u) 2))))) oha = some (aI G 3 (vhi w)) := (mU_n (g_nef hO.2.2.1 fla)).trans m_68
        have m_256 : (mU (mU (mU (mU (mU M1 la (aI G 3 (upd (vlo w) 0 (mxI ((vlo w) 0) ((vlo u) 0))))) ha (aI G 3 (upd (vhi w) 0 (mnI ((vhi w) 0) ((vhi u) 0))))) la (aI G 3 (upd (upd (vlo w) 0 (mxI ((vlo w) 0) ((vlo u) 0))) 1 (mxI ((vlo w) 1) ((vlo u) 1))))) ha (aI G 3 (upd (upd (vhi w) 0 (mnI ((vhi w) 0) ((vhi u) 0))) 1 (mnI ((vhi w) 1) ((vhi u) 1))))) la (aI G 3 (upd (upd (upd (vlo w) 0 (mxI ((vlo w) 0) ((vlo u) 0))) 1 (mxI ((vlo w) 1) ((vlo u) 1))) 2 (mxI ((vlo w) 2) ((vlo u) 2))))) ova = some (aJ G (wsz w) ovf) := (mU_n (g_nef hO.2.2.2.1 fla)).trans m_69
        have m_257 : (mU (mU (mU (mU (mU M1 la (aI G 3 (upd (vlo w) 0 (mxI ((vlo w) 0) ((vlo u) 0))))) ha (aI G 3 (upd (vhi w) 0 (mnI ((vhi w) 0) ((vhi u) 0))))) la (aI G 3 (upd (upd (vlo w) 0 (mxI ((vlo w) 0) ((vlo u) 0))) 1 (mxI ((vlo w) 1) ((vlo u) 1))))) ha (aI G 3 (upd (upd (vhi w) 0 (mnI ((vhi w) 0) ((vhi u) 0))) 1 (mnI ((vhi w) 1) ((vhi u) 1))))) la (aI G 3 (upd (upd (upd (vlo w) 0 (mxI ((vlo w) 0) ((vlo u) 0))) 1 (mxI ((vlo w) 1) ((vlo u) 1))) 2 (mxI ((vlo w) 2) ((vlo u) 2))))) oza = some (aZ G (wsz w) ozf) := (mU_n (g_nef hO.2.2.2.2.1 fla)).trans m_70
        have m_258 : (mU (mU (mU (mU (mU M1 la (aI G 3 (upd (vlo w) 0 (mxI ((vlo w) 0) ((vlo u) 0))))) ha (aI G 3 (upd (vhi w) 0 (mnI ((vhi w) 0) ((vhi u) 0))))) la (aI G 3 (upd (upd (vlo w) 0 (mxI ((vlo w) 0) ((vlo u) 0))) 1 (mxI ((vlo w) 1) ((vlo u) 1))))) ha (aI G 3 (upd (upd (vhi w) 0 (mnI ((vhi w) 0) ((vhi u) 0))) 1 (mnI ((vhi w) 1) ((vhi u) 1))))) la (aI G 3 (upd (upd (upd (vlo w) 0 (mxI ((vlo w) 0) ((vlo u) 0))) 1 (mxI ((vlo w) 1) ((vlo u) 1))) 2 (mxI ((vlo w) 2) ((vlo u) 2))))) s = some (oB 12 [.int (nI (vm u)), .int (nI (vdp u)), .ref sla, .ref sha, .ref sva, .ref sza]) := (mU_n (g_nef hOs.1 fla)).trans m_71
        have m_259 : (mU (mU (mU (mU (mU M1 la (aI G 3 (upd (vlo w) 0 (mxI ((vlo w) 0) ((vlo u) 0))))) ha (aI G 3 (upd (vhi w) 0 (mnI ((vhi w) 0) ((vhi u) 0))))) la (aI G 3 (upd (upd (vlo w) 0 (mxI ((vlo w) 0) ((vlo u) 0))) 1 (mxI ((vlo w) 1) ((vlo u) 1))))) ha (aI G 3 (upd (upd (vhi w) 0 (mnI ((vhi w) 0) ((vhi u) 0))) 1 (mnI ((vhi w) 1) ((vhi u) 1))))) la (aI G 3 (upd (upd (upd (vlo w) 0 (mxI ((vlo w) 0) ((vlo u) 0))) 1 (mxI ((vlo w) 1) ((vlo u) 1))) 2 (mxI ((vlo w) 2) ((vlo u) 2))))) sla = some (aI G 3 (vlo u)) := (mU_n (g_nef hOs.2.1 fla)).trans m_72
        have m_260 : (mU (mU (mU (mU (mU M1 la (aI G 3 (upd (vlo w) 0 (mxI ((vlo w) 0) ((vlo u) 0))))) ha (aI G 3 (upd (vhi w) 0 (mnI ((vhi w) 0) ((vhi u) 0))))) la (aI G 3 (upd (upd (vlo w) 0 (mxI ((vlo w) 0) ((vlo u) 0))) 1 (mxI ((vlo w) 1) ((vlo u) 1))))) ha (aI G 3 (upd (upd (vhi w) 0 (mnI ((vhi w) 0) ((vhi u) 0))) 1 (mnI ((vhi w) 1) ((vhi u) 1))))) la (aI G 3 (upd (upd (upd (vlo w) 0 (mxI ((vlo w) 0) ((vlo u) 0))) 1 (mxI ((vlo w) 1) ((vlo u) 1))) 2 (mxI ((vlo w) 2) ((vlo u) 2))))) sha = some (aI G 3 (vhi u)) := (mU_n (g_nef hOs.2.2.1 fla)).trans m_73
        have m_261 : (mU (mU (mU (mU (mU M1 la (aI G 3 (upd (vlo w) 0 (mxI ((vlo w) 0) ((vlo u) 0))))) ha (aI G 3 (upd (vhi w) 0 (mnI ((vhi w) 0) ((vhi u) 0))))) la (aI G 3 (upd (upd (vlo w) 0 (mxI ((vlo w) 0) ((vlo u) 0))) 1 (mxI ((vlo w) 1) ((vlo u) 1))))) ha (aI G 3 (upd (upd (vhi w) 0 (mnI ((vhi w) 0) ((vhi u) 0))) 1 (mnI ((vhi w) 1) ((vhi u) 1))))) la (aI G 3 (upd (upd (upd (vlo w) 0 (mxI ((vlo w) 0) ((vlo u) 0))) 1 (mxI ((vlo w) 1) ((vlo u) 1))) 2 (mxI ((vlo w) 2) ((vlo u) 2))))) sva = some (aJ G (wsz u) svf) := (mU_n (g_nef hOs.2.2.2.1 fla)).trans m_74
        have m_262 : (mU (mU (mU (mU (mU M1 la (aI G 3 (upd (vlo w) 0 (mxI ((vlo w) 0) ((vlo u) 0))))) ha (aI G 3 (upd (vhi w) 0 (mnI ((vhi w) 0) ((vhi u) 0))))) la (aI G 3 (upd (upd (vlo w) 0 (mxI ((vlo w) 0) ((vlo u) 0))) 1 (mxI ((vlo w) 1) ((vlo u) 1))))) ha (aI G 3 (upd (upd (vhi w) 0 (mnI ((vhi w) 0) ((vhi u) 0))) 1 (mnI ((vhi w) 1) ((vhi u) 1))))) la (aI G 3 (upd (upd (upd (vlo w) 0 (mxI ((vlo w) 0) ((vlo u) 0))) 1 (mxI ((vlo w) 1) ((vlo u) 1))) 2 (mxI ((vlo w) 2) ((vlo u) 2))))) sza = some (aZ G (wsz u) szf) := (mU_n (g_nef hOs.2.2.2.2.1 fla)).trans m_75
        have m_263 : (mU (mU (mU (mU (mU M1 la (aI G 3 (upd (vlo w) 0 (mxI ((vlo w) 0) ((vlo u) 0))))) ha (aI G 3 (upd (vhi w) 0 (mnI ((vhi w) 0) ((vhi u) 0))))) la (aI G 3 (upd (upd (vlo w) 0 (mxI ((vlo w) 0) ((vlo u) 0))) 1 (mxI ((vlo w) 1) ((vlo u) 1))))) ha (aI G 3 (upd (upd (vhi w) 0 (mnI ((vhi w) 0) ((vhi u) 0))) 1 (mnI ((vhi w) 1) ((vhi u) 1))))) la (aI G 3 (upd (upd (upd (vlo w) 0 (mxI ((vlo w) 0) ((vlo u) 0))) 1 (mxI ((vlo w) 1) ((vlo u) 1))) 2 (mxI ((vlo w) 2) ((vlo u) 2))))) plA = some (aI G 3 pl0) := (mU_n (g_nef hpl0 fla)).trans m_76
        have m_264 : (mU (mU (mU (mU (mU M1 la (aI G 3 (upd (vlo w) 0 (mxI ((vlo w) 0) ((vlo u) 0))))) ha (aI G 3 (upd (vhi w) 0 (mnI ((vhi w) 0) ((vhi u) 0))))) la (aI G 3 (upd (upd (vlo w) 0 (mxI ((vlo w) 0) ((vlo u) 0))) 1 (mxI ((vlo w) 1) ((vlo u) 1))))) ha (aI G 3 (upd (upd (vhi w) 0 (mnI ((vhi w) 0) ((vhi u) 0))) 1 (mnI ((vhi w) 1) ((vhi u) 1))))) la (aI G 3 (upd (upd (upd (vlo w) 0 (mxI ((vlo w) 0) ((vlo u) 0))) 1 (mxI ((vlo w) 1) ((vlo u) 1))) 2 (mxI ((vlo w) 2) ((vlo u) 2))))) q = some (oB 12 [.int (nI (vm w)), .int (nI (max (vdp w) (vdp u) + 1)), .ref la, .ref ha, .null, .null]) := (mU_n (Ne.symm (llq))).trans m_77
        have m_265 : (mU (mU (mU (mU (mU M1 la (aI G 3 (upd (vlo w) 0 (mxI ((vlo w) 0) ((vlo u) 0))))) ha (aI G 3 (upd (vhi w) 0 (mnI ((vhi w) 0) ((vhi u) 0))))) la (aI G 3 (upd (upd (vlo w) 0 (mxI ((vlo w) 0) ((vlo u) 0))) 1 (mxI ((vlo w) 1) ((vlo u) 1))))) ha (aI G 3 (upd (upd (vhi w) 0 (mnI ((vhi w) 0) ((vhi u) 0))) 1 (mnI ((vhi w) 1) ((vhi u) 1))))) la (aI G 3 (upd (upd (upd (vlo w) 0 (mxI ((vlo w) 0) ((vlo u) 0))) 1 (mxI ((vlo w) 1) ((vlo u) 1))) 2 (mxI ((vlo w) 2) ((vlo u) 2))))) la = some (aI G 3 (upd (upd (upd (vlo w) 0 (mxI ((vlo w) 0) ((vlo u) 0))) 1 (mxI ((vlo w) 1) ((vlo u) 1))) 2 (mxI ((vlo w) 2) ((vlo u) 2)))) := mU_s
        have m_266 : (mU (mU (mU (mU (mU M1 la (aI G 3 (upd (vlo w) 0 (mxI ((vlo w) 0) ((vlo u) 0))))) ha (aI G 3 (upd (vhi w) 0 (mnI ((vhi w) 0) ((vhi u) 0))))) la (aI G 3 (upd (upd (vlo w) 0 (mxI ((vlo w) 0) ((vlo u) 0))) 1 (mxI ((vlo w) 1) ((vlo u) 1))))) ha (aI G 3 (upd (upd (vhi w) 0 (mnI ((vhi w) 0) ((vhi u) 0))) 1 (mnI ((vhi w) 1) ((vhi u) 1))))) la (aI G 3 (upd (upd (upd (vlo w) 0 (mxI ((vlo w) 0) ((vlo u) 0))) 1 (mxI ((vlo w) 1) ((vlo u) 1))) 2 (mxI ((vlo w) 2) ((vlo u) 2))))) ha = some (aI G 3 (upd (upd (vhi w) 0 (mnI ((vhi w) 0) ((vhi u) 0))) 1 (mnI ((vhi w) 1) ((vhi u) 1)))) := (mU_n (Ne.symm (llh))).trans m_79
        refine q_aload X dX13_join_147 2 rfl ?_
        refine q_get X m_264 rfl in_RX12 3 (by decide) tw_1161 rfl rfl dX13_join_149 ?_
        refine q_iload X dX13_join_152 0 rfl ?_
        refine q_aload X dX13_join_154 4 rfl ?_
        refine q_get X m_253 rfl in_RX12 3 (by decide) tw_1161 rfl rfl dX13_join_156 ?_
        refine q_iload X dX13_join_159 0 rfl ?_
        refine q_ialdN X 2 m_255 (rfl) (by decide) (by decide) dX13_join_161 ?_
        refine q_aload X dX13_join_162 3 rfl ?_
        refine q_get X m_258 rfl in_RX12 3 (by decide) tw_1161 rfl rfl dX13_join_164 ?_
        refine q_iload X dX13_join_167 0 rfl ?_
        refine q_ialdN X 2 m_260 (rfl) (by decide) (by decide) dX13_join_169 ?_
        refine q_callSp X (c_J9_min_7cf53) Y_J9_min_7cf53 tw_1321 tw_239 (by omega) rfl rfl (Nat.le_of_ble_eq_true rfl) dX13_join_170 ?_
        refine q_iastN X 2 m_266 (rfl) (by decide) (by decide) dX13_join_173 ?_
        have m_267 : (mU (mU (mU (mU (mU (mU M1 la (aI G 3 (upd (vlo w) 0 (mxI ((vlo w) 0) ((vlo u) 0))))) ha (aI G 3 (upd (vhi w) 0 (mnI ((vhi w) 0) ((vhi u) 0))))) la (aI G 3 (upd (upd (vlo w) 0 (mxI ((vlo w) 0) ((vlo u) 0))) 1 (mxI ((vlo w) 1) ((vlo u) 1))))) ha (aI G 3 (upd (upd (vhi w) 0 (mnI ((vhi w) 0) ((vhi u) 0))) 1 (mnI ((vhi w) 1) ((vhi u) 1))))) la (aI G 3 (upd (upd (upd (vlo w) 0 (mxI ((vlo w) 0) ((vlo u) 0))) 1 (mxI ((vlo w) 1) ((vlo u) 1))) 2 (mxI ((vlo w) 2) ((vlo u) 2))))) ha (aI G 3 (upd (upd (upd (vhi w) 0 (mnI ((vhi w) 0) ((vhi u) 0))) 1 (mnI ((vhi w) 1) ((vhi u) 1))) 2 (mnI ((vhi w) 2) ((vhi u) 2))))) r = some (oB 13 [.int 0, .ref vA, .ref nA, .ref pA, .ref plA, .ref dg, .int (nI (aV σ).length), .int (nI (aN σ).length), .int (nI (aOf σ)), .int (nI (aBg σ)), .int tk, .long su, .long le, .long gr]) := (mU_n (g_nef hB.1 fha)).trans m_251
        have m_268 : (mU (mU (mU (mU (mU (mU M1 la (aI G 3 (upd (vlo w) 0 (mxI ((vlo w) 0) ((vlo u) 0))))) ha (aI G 3 (upd (vhi w) 0 (mnI ((vhi w) 0) ((vhi u) 0))))) la (aI G 3 (upd (upd (vlo w) 0 (mxI ((vlo w) 0) ((vlo u) 0))) 1 (mxI ((vlo w) 1) ((vlo u) 1))))) ha (aI G 3 (upd (upd (vhi w) 0 (mnI ((vhi w) 0) ((vhi u) 0))) 1 (mnI ((vhi w) 1) ((vhi u) 1))))) la (aI G 3 (upd (upd (upd (vlo w) 0 (mxI ((vlo w) 0) ((vlo u) 0))) 1 (mxI ((vlo w) 1) ((vlo u) 1))) 2 (mxI ((vlo w) 2) ((vlo u) 2))))) ha (aI G 3 (upd (upd (upd (vhi w) 0 (mnI ((vhi w) 0) ((vhi u) 0))) 1 (mnI ((vhi w) 1) ((vhi u) 1))) 2 (mnI ((vhi w) 2) ((vhi u) 2))))) nA = some (aG G 150 nf) := (mU_n (g_nef hB.2.2.1 fha)).trans m_252
        have m_269 : (mU (mU (mU (mU (mU (mU M1 la (aI G 3 (upd (vlo w) 0 (mxI ((vlo w) 0) ((vlo u) 0))))) ha (aI G 3 (upd (vhi w) 0 (mnI ((vhi w) 0) ((vhi u) 0))))) la (aI G 3 (upd (upd (vlo w) 0 (mxI ((vlo w) 0) ((vlo u) 0))) 1 (mxI ((vlo w) 1) ((vlo u) 1))))) ha (aI G 3 (upd (upd (vhi w) 0 (mnI ((vhi w) 0) ((vhi u) 0))) 1 (mnI ((vhi w) 1) ((vhi u) 1))))) la (aI G 3 (upd (upd (upd (vlo w) 0 (mxI ((vlo w) 0) ((vlo u) 0))) 1 (mxI ((vlo w) 1) ((vlo u) 1))) 2 (mxI ((vlo w) 2) ((vlo u) 2))))) ha (aI G 3 (upd (upd (upd (vhi w) 0 (mnI ((vhi w) 0) ((vhi u) 0))) 1 (mnI ((vhi w) 1) ((vhi u) 1))) 2 (mnI ((vhi w) 2) ((vhi u) 2))))) o = some (oB 12 [.int (nI (vm w)), .int (nI (vdp w)), .ref ola, .ref oha, .ref ova, .ref oza]) := (mU_n (g_nef hO.1 fha)).trans m_253
        have m_270 : (mU (mU (mU (mU (mU (mU M1 la (aI G 3 (upd (vlo w) 0 (mxI ((vlo w) 0) ((vlo u) 0))))) ha (aI G 3 (upd (vhi w) 0 (mnI ((vhi w) 0) ((vhi u) 0))))) la (aI G 3 (upd (upd (vlo w) 0 (mxI ((vlo w) 0) ((vlo u) 0))) 1 (mxI ((vlo w) 1) ((vlo u) 1))))) ha (aI G 3 (upd (upd (vhi w) 0 (mnI ((vhi w) 0) ((vhi u) 0))) 1 (mnI ((vhi w) 1) ((vhi u) 1))))) la (aI G 3 (upd (upd (upd (vlo w) 0 (mxI ((vlo w) 0) ((vlo u) 0))) 1 (mxI ((vlo w) 1) ((vlo u) 1))) 2 (mxI ((vlo w) 2) ((vlo u) 2))))) ha (aI G 3 (upd (upd (upd (vhi w) 0 (mnI ((vhi w) 0) ((vhi u) 0))) 1 (mnI ((vhi w) 1) ((vhi u) 1))) 2 (mnI ((vhi w) 2) ((vhi u) 2))))) ola = some (aI G 3 (vlo w)) := (mU_n (g_nef hO.2.1 fha)).trans m_254
        have m_271 : (mU (mU (mU (mU (mU (mU M1 la (aI G 3 (upd (vlo w) 0 (mxI ((vlo w) 0) ((vlo u) 0))))) ha (aI G 3 (upd (vhi w) 0 (mnI ((vhi w) 0) ((vhi u) 0))))) la (aI G 3 (upd (upd (vlo w) 0 (mxI ((vlo w) 0) ((vlo u) 0))) 1 (mxI ((vlo w) 1) ((vlo u) 1))))) ha (aI G 3 (upd (upd (vhi w) 0 (mnI ((vhi w) 0) ((vhi u) 0))) 1 (mnI ((vhi w) 1) ((vhi u) 1))))) la (aI G 3 (upd (upd (upd (vlo w) 0 (mxI ((vlo w) 0) ((vlo u) 0))) 1 (mxI ((vlo w) 1) ((vlo u) 1))) 2 (mxI ((vlo w) 2) ((vlo u) 2))))) ha (aI G 3 (upd (upd (upd (vhi w) 0 (mnI ((vhi w) 0) ((vhi u) 0))) 1 (mnI ((vhi w) 1) ((vhi u) 1))) 2 (mnI ((vhi w) 2) ((vhi u) 2))))) oha = some (aI G 3 (vhi w)) := (mU_n (g_nef hO.2.2.1 fha)).trans m_255
        have m_272 : (mU (mU (mU (mU (mU (mU M1 la (aI G 3 (upd (vlo w) 0 (mxI ((vlo w) 0) ((vlo u) 0))))) ha (aI G 3 (upd (vhi w) 0 (mnI ((vhi w) 0) ((vhi u) 0))))) la (aI G 3 (upd (upd (vlo w) 0 (mxI ((vlo w) 0) ((vlo u) 0))) 1 (mxI ((vlo w) 1) ((vlo u) 1))))) ha (aI G 3 (upd (upd (vhi w) 0 (mnI ((vhi w) 0) ((vhi u) 0))) 1 (mnI ((vhi w) 1) ((vhi u) 1))))) la (aI G 3 (upd (upd (upd (vlo w) 0 (mxI ((vlo w) 0) ((vlo u) 0))) 1 (mxI ((vlo w) 1) ((vlo u) 1))) 2 (mxI ((vlo w) 2) ((vlo u) 2))))) ha (aI G 3 (upd (upd (upd (vhi w) 0 (mnI ((vhi w) 0) ((vhi u) 0))) 1 (mnI ((vhi w) 1) ((vhi u) 1))) 2 (mnI ((vhi w) 2) ((vhi u) 2))))) ova = some (aJ G (wsz w) ovf) := (mU_n (g_nef hO.2.2.2.1 fha)).trans m_256
        have m_273 : (mU (mU (mU (mU (mU (mU M1 la (aI G 3 (upd (vlo w) 0 (mxI ((vlo w) 0) ((vlo u) 0))))) ha (aI G 3 (upd (vhi w) 0 (mnI ((vhi w) 0) ((vhi u) 0))))) la (aI G 3 (upd (upd (vlo w) 0 (mxI ((vlo w) 0) ((vlo u) 0))) 1 (mxI ((vlo w) 1) ((vlo u) 1))))) ha (aI G 3 (upd (upd (vhi w) 0 (mnI ((vhi w) 0) ((vhi u) 0))) 1 (mnI ((vhi w) 1) ((vhi u) 1))))) la (aI G 3 (upd (upd (upd (vlo w) 0 (mxI ((vlo w) 0) ((vlo u) 0))) 1 (mxI ((vlo w) 1) ((vlo u) 1))) 2 (mxI ((vlo w) 2) ((vlo u) 2))))) ha (aI G 3 (upd (upd (upd (vhi w) 0 (mnI ((vhi w) 0) ((vhi u) 0))) 1 (mnI ((vhi w) 1) ((vhi u) 1))) 2 (mnI ((vhi w) 2) ((vhi u) 2))))) oza = some (aZ G (wsz w) ozf) := (mU_n (g_nef hO.2.2.2.2.1 fha)).trans m_257
        have m_274 : (mU (mU (mU (mU (mU (mU M1 la (aI G 3 (upd (vlo w) 0 (mxI ((vlo w) 0) ((vlo u) 0))))) ha (aI G 3 (upd (vhi w) 0 (mnI ((vhi w) 0) ((vhi u) 0))))) la (aI G 3 (upd (upd (vlo w) 0 (mxI ((vlo w) 0) ((vlo u) 0))) 1 (mxI ((vlo w) 1) ((vlo u) 1))))) ha (aI G 3 (upd (upd (vhi w) 0 (mnI ((vhi w) 0) ((vhi u) 0))) 1 (mnI ((vhi w) 1) ((vhi u) 1))))) la (aI G 3 (upd (upd (upd (vlo w) 0 (mxI ((vlo w) 0) ((vlo u) 0))) 1 (mxI ((vlo w) 1) ((vlo u) 1))) 2 (mxI ((vlo w) 2) ((vlo u) 2))))) ha (aI G 3 (upd (upd (upd (vhi w) 0 (mnI ((vhi w) 0) ((vhi u) 0))) 1 (mnI ((vhi w) 1) ((vhi u) 1))) 2 (mnI ((vhi w) 2) ((vhi u) 2))))) s = some (oB 12 [.int (nI (vm u)), .int (nI (vdp u)), .ref sla, .ref sha, .ref sva, .ref sza]) := (mU_n (g_nef hOs.1 fha)).trans m_258
        have m_275 : (mU (mU (mU (mU (mU (mU M1 la (aI G 3 (upd (vlo w) 0 (mxI ((vlo w) 0) ((vlo u) 0))))) ha (aI G 3 (upd (vhi w) 0 (mnI ((vhi w) 0) ((vhi u) 0))))) la (aI G 3 (upd (upd (vlo w) 0 (mxI ((vlo w) 0) ((vlo u) 0))) 1 (mxI ((vlo w) 1) ((vlo u) 1))))) ha (aI G 3 (upd (upd (vhi w) 0 (mnI ((vhi w) 0) ((vhi u) 0))) 1 (mnI ((vhi w) 1) ((vhi u) 1))))) la (aI G 3 (upd (upd (upd (vlo w) 0 (mxI ((vlo w) 0) ((vlo u) 0))) 1 (mxI ((vlo w) 1) ((vlo u) 1))) 2 (mxI ((vlo w) 2) ((vlo u) 2))))) ha (aI G 3 (upd (upd (upd (vhi w) 0 (mnI ((vhi w) 0) ((vhi u) 0))) 1 (mnI ((vhi w) 1) ((vhi u) 1))) 2 (mnI ((vhi w) 2) ((vhi u) 2))))) sla = some (aI G 3 (vlo u)) := (mU_n (g_nef hOs.2.1 fha)).trans m_259
        have m_276 : (mU (mU (mU (mU (mU (mU M1 la (aI G 3 (upd (vlo w) 0 (mxI ((vlo w) 0) ((vlo u) 0))))) ha (aI G 3 (upd (vhi w) 0 (mnI ((vhi w) 0) ((vhi u) 0))))) la (aI G 3 (upd (upd (vlo w) 0 (mxI ((vlo w) 0) ((vlo u) 0))) 1 (mxI ((vlo w) 1) ((vlo u) 1))))) ha (aI G 3 (upd (upd (vhi w) 0 (mnI ((vhi w) 0) ((vhi u) 0))) 1 (mnI ((vhi w) 1) ((vhi u) 1))))) la (aI G 3 (upd (upd (upd (vlo w) 0 (mxI ((vlo w) 0) ((vlo u) 0))) 1 (mxI ((vlo w) 1) ((vlo u) 1))) 2 (mxI ((vlo w) 2) ((vlo u) 2))))) ha (aI G 3 (upd (upd (upd (vhi w) 0 (mnI ((vhi w) 0) ((vhi u) 0))) 1 (mnI ((vhi w) 1) ((vhi u) 1))) 2 (mnI ((vhi w) 2) ((vhi u) 2))))) sha = some (aI G 3 (vhi u)) := (mU_n (g_nef hOs.2.2.1 fha)).trans m_260
        have m_277 : (mU (mU (mU (mU (mU (mU M1 la (aI G 3 (upd (vlo w) 0 (mxI ((vlo w) 0) ((vlo u) 0))))) ha (aI G 3 (upd (vhi w) 0 (mnI ((vhi w) 0) ((vhi u) 0))))) la (aI G 3 (upd (upd (vlo w) 0 (mxI ((vlo w) 0) ((vlo u) 0))) 1 (mxI ((vlo w) 1) ((vlo u) 1))))) ha (aI G 3 (upd (upd (vhi w) 0 (mnI ((vhi w) 0) ((vhi u) 0))) 1 (mnI ((vhi w) 1) ((vhi u) 1))))) la (aI G 3 (upd (upd (upd (vlo w) 0 (mxI ((vlo w) 0) ((vlo u) 0))) 1 (mxI ((vlo w) 1) ((vlo u) 1))) 2 (mxI ((vlo w) 2) ((vlo u) 2))))) ha (aI G 3 (upd (upd (upd (vhi w) 0 (mnI ((vhi w) 0) ((vhi u) 0))) 1 (mnI ((vhi w) 1) ((vhi u) 1))) 2 (mnI ((vhi w) 2) ((vhi u) 2))))) sva = some (aJ G (wsz u) svf) := (mU_n (g_nef hOs.2.2.2.1 fha)).trans m_261
        have m_278 : (mU (mU (mU (mU (mU (mU M1 la (aI G 3 (upd (vlo w) 0 (mxI ((vlo w) 0) ((vlo u) 0))))) ha (aI G 3 (upd (vhi w) 0 (mnI ((vhi w) 0) ((vhi u) 0))))) la (aI G 3 (upd (upd (vlo w) 0 (mxI ((vlo w) 0) ((vlo u) 0))) 1 (mxI ((vlo w) 1) ((vlo u) 1))))) ha (aI G 3 (upd (upd (vhi w) 0 (mnI ((vhi w) 0) ((vhi u) 0))) 1 (mnI ((vhi w) 1) ((vhi u) 1))))) la (aI G 3 (upd (upd (upd (vlo w) 0 (mxI ((vlo w) 0) ((vlo u) 0))) 1 (mxI ((vlo w) 1) ((vlo u) 1))) 2 (mxI ((vlo w) 2) ((vlo u) 2))))) ha (aI G 3 (upd (upd (upd (vhi w) 0 (mnI ((vhi w) 0) ((vhi u) 0))) 1 (mnI ((vhi w) 1) ((vhi u) 1))) 2 (mnI ((vhi w) 2) ((vhi u) 2))))) sza = some (aZ G (wsz u) szf) := (mU_n (g_nef hOs.2.2.2.2.1 fha)).trans m_262
        have m_279 : (mU (mU (mU (mU (mU (mU M1 la (aI G 3 (upd (vlo w) 0 (mxI ((vlo w) 0) ((vlo u) 0))))) ha (aI G 3 (upd (vhi w) 0 (mnI ((vhi w) 0) ((vhi u) 0))))) la (aI G 3 (upd (upd (vlo w) 0 (mxI ((vlo w) 0) ((vlo u) 0))) 1 (mxI ((vlo w) 1) ((vlo u) 1))))) ha (aI G 3 (upd (upd (vhi w) 0 (mnI ((vhi w) 0) ((vhi u) 0))) 1 (mnI ((vhi w) 1) ((vhi u) 1))))) la (aI G 3 (upd (upd (upd (vlo w) 0 (mxI ((vlo w) 0) ((vlo u) 0))) 1 (mxI ((vlo w) 1) ((vlo u) 1))) 2 (mxI ((vlo w) 2) ((vlo u) 2))))) ha (aI G 3 (upd (upd (upd (vhi w) 0 (mnI ((vhi w) 0) ((vhi u) 0))) 1 (mnI ((vhi w) 1) ((vhi u) 1))) 2 (mnI ((vhi w) 2) ((vhi u) 2))))) plA = some (aI G 3 pl0) := (mU_n (g_nef hpl0 fha)).trans m_263
        have m_280 : (mU (mU (mU (mU (mU (mU M1 la (aI G 3 (upd (vlo w) 0 (mxI ((vlo w) 0) ((vlo u) 0))))) ha (aI G 3 (upd (vhi w) 0 (mnI ((vhi w) 0) ((vhi u) 0))))) la (aI G 3 (upd (upd (vlo w) 0 (mxI ((vlo w) 0) ((vlo u) 0))) 1 (mxI ((vlo w) 1) ((vlo u) 1))))) ha (aI G 3 (upd (upd (vhi w) 0 (mnI ((vhi w) 0) ((vhi u) 0))) 1 (mnI ((vhi w) 1) ((vhi u) 1))))) la (aI G 3 (upd (upd (upd (vlo w) 0 (mxI ((vlo w) 0) ((vlo u) 0))) 1 (mxI ((vlo w) 1) ((vlo u) 1))) 2 (mxI ((vlo w) 2) ((vlo u) 2))))) ha (aI G 3 (upd (upd (upd (vhi w) 0 (mnI ((vhi w) 0) ((vhi u) 0))) 1 (mnI ((vhi w) 1) ((vhi u) 1))) 2 (mnI ((vhi w) 2) ((vhi u) 2))))) q = some (oB 12 [.int (nI (vm w)), .int (nI (max (vdp w) (vdp u) + 1)), .ref la, .ref ha, .null, .null]) := (mU_n (Ne.symm (lhq))).trans m_264
        have m_281 : (mU (mU (mU (mU (mU (mU M1 la (aI G 3 (upd (vlo w) 0 (mxI ((vlo w) 0) ((vlo u) 0))))) ha (aI G 3 (upd (vhi w) 0 (mnI ((vhi w) 0) ((vhi u) 0))))) la (aI G 3 (upd (upd (vlo w) 0 (mxI ((vlo w) 0) ((vlo u) 0))) 1 (mxI ((vlo w) 1) ((vlo u) 1))))) ha (aI G 3 (upd (upd (vhi w) 0 (mnI ((vhi w) 0) ((vhi u) 0))) 1 (mnI ((vhi w) 1) ((vhi u) 1))))) la (aI G 3 (upd (upd (upd (vlo w) 0 (mxI ((vlo w) 0) ((vlo u) 0))) 1 (mxI ((vlo w) 1) ((vlo u) 1))) 2 (mxI ((vlo w) 2) ((vlo u) 2))))) ha (aI G 3 (upd (upd (upd (vhi w) 0 (mnI ((vhi w) 0) ((vhi u) 0))) 1 (mnI ((vhi w) 1) ((vhi u) 1))) 2 (mnI ((vhi w) 2) ((vhi u) 2))))) la = some (aI G 3 (upd (upd (upd (vlo w) 0 (mxI ((vlo w) 0) ((vlo u) 0))) 1 (mxI ((vlo w) 1) ((vlo u) 1))) 2 (mxI ((vlo w) 2) ((vlo u) 2)))) := (mU_n (llh)).trans m_265
        have m_282 : (mU (mU (mU (mU (mU (mU M1 la (aI G 3 (upd (vlo w) 0 (mxI ((vlo w) 0) ((vlo u) 0))))) ha (aI G 3 (upd (vhi w) 0 (mnI ((vhi w) 0) ((vhi u) 0))))) la (aI G 3 (upd (upd (vlo w) 0 (mxI ((vlo w) 0) ((vlo u) 0))) 1 (mxI ((vlo w) 1) ((vlo u) 1))))) ha (aI G 3 (upd (upd (vhi w) 0 (mnI ((vhi w) 0) ((vhi u) 0))) 1 (mnI ((vhi w) 1) ((vhi u) 1))))) la (aI G 3 (upd (upd (upd (vlo w) 0 (mxI ((vlo w) 0) ((vlo u) 0))) 1 (mxI ((vlo w) 1) ((vlo u) 1))) 2 (mxI ((vlo w) 2) ((vlo u) 2))))) ha (aI G 3 (upd (upd (upd (vhi w) 0 (mnI ((vhi w) 0) ((vhi u) 0))) 1 (mnI ((vhi w) 1) ((vhi u) 1))) 2 (mnI ((vhi w) 2) ((vhi u) 2))))) ha = some (aI G 3 (upd (upd (upd (vhi w) 0 (mnI ((vhi w) 0) ((vhi u) 0))) 1 (mnI ((vhi w) 1) ((vhi u) 1))) 2 (mnI ((vhi w) 2) ((vhi u) 2)))) := mU_s
        refine q_aload X dX13_join_174 2 rfl ?_
        refine q_get X m_280 rfl in_RX12 2 (by decide) tw_1159 rfl rfl dX13_join_176 ?_
        refine q_iload X dX13_join_179 0 rfl ?_
        refine q_ialdN X 2 m_281 (rfl) (by decide) (by decide) dX13_join_181 ?_
        refine q_aload X dX13_join_182 2 rfl ?_
        refine q_get X m_280 rfl in_RX12 3 (by decide) tw_1161 rfl rfl dX13_join_184 ?_
        refine q_iload X dX13_join_187 0 rfl ?_
        refine q_ialdN X 2 m_282 (rfl) (by decide) (by decide) dX13_join_189 ?_
        show qJ G F _ 18 (mU (mU (mU (mU (mU (mU M1 la (aI G 3 (upd (vlo w) 0 (mxI ((vlo w) 0) ((vlo u) 0))))) ha (aI G 3 (upd (vhi w) 0 (mnI ((vhi w) 0) ((vhi u) 0))))) la (aI G 3 (upd (upd (vlo w) 0 (mxI ((vlo w) 0) ((vlo u) 0))) 1 (mxI ((vlo w) 1) ((vlo u) 1))))) ha (aI G 3 (upd (upd (vhi w) 0 (mnI ((vhi w) 0) ((vhi u) 0))) 1 (mnI ((vhi w) 1) ((vhi u) 1))))) la (aI G 3 (upd (upd (upd (vlo w) 0 (mxI ((vlo w) 0) ((vlo u) 0))) 1 (mxI ((vlo w) 1) ((vlo u) 1))) 2 (mxI ((vlo w) 2) ((vlo u) 2))))) ha (aI G 3 (upd (upd (upd (vhi w) 0 (mnI ((vhi w) 0) ((vhi u) 0))) 1 (mnI ((vhi w) 1) ((vhi u) 1))) 2 (mnI ((vhi w) 2) ((vhi u) 2))))) 2 4096 190 [(8, .int 2), (7, .int 0), (6, .ref q), (5, .ref s), (4, .ref o), (0, .ref r), (1, .int (nI i)), (2, .int (nI i2)), (3, .int op)] [.int (mnI (vhi w 2) (vhi u 2)), .int (mxI (vlo w 2) (vlo u 2))]
        refine q_icmp_le X 196 dX13_join_190 (by decide) (fun mm2 => ?_) (fun mm2 => ?_)
        · refine q_iinc (v := 3) (lv' := [(8, .int 3), (7, .int 0), (6, .ref q), (5, .ref s), (4, .ref o), (0, .ref r), (1, .int (nI i)), (2, .int (nI i2)), (3, .int op)]) X dX13_join_196 0 rfl (by decide) (by decide) rfl ?_
          refine q_goto X 114 dX13_join_199 (by decide) ?_
          refine q_iload X dX13_join_114 0 rfl ?_
          refine q_iconst (v := 3) X dX13_join_116 (by decide) ?_
          refine q_icmp_ge X 202 dX13_join_117 (by decide) (fun c_283 => ?_) (fun c_283 => absurd (by decide) c_283)
          have evM2 : mEv (fun x => x = r ∨ x = plA) M (mU (mU (mU (mU (mU (mU M1 la (aI G 3 (upd (vlo w) 0 (mxI ((vlo w) 0) ((vlo u) 0))))) ha (aI G 3 (upd (vhi w) 0 (mnI ((vhi w) 0) ((vhi u) 0))))) la (aI G 3 (upd (upd (vlo w) 0 (mxI ((vlo w) 0) ((vlo u) 0))) 1 (mxI ((vlo w) 1) ((vlo u) 1))))) ha (aI G 3 (upd (upd (vhi w) 0 (mnI ((vhi w) 0) ((vhi u) 0))) 1 (mnI ((vhi w) 1) ((vhi u) 1))))) la (aI G 3 (upd (upd (upd (vlo w) 0 (mxI ((vlo w) 0) ((vlo u) 0))) 1 (mxI ((vlo w) 1) ((vlo u) 1))) 2 (mxI ((vlo w) 2) ((vlo u) 2))))) ha (aI G 3 (upd (upd (upd (vhi w) 0 (mnI ((vhi w) 0) ((vhi u) 0))) 1 (mnI ((vhi w) 1) ((vhi u) 1))) 2 (mnI ((vhi w) 2) ((vhi u) 2))))) := fun x hx => by
            have wla : x ≠ la := fun z => hx (z ▸ fla)
            have wha : x ≠ ha := fun z => hx (z ▸ fha)
            have e1 := evK1 x hx
            have e : (mU (mU (mU (mU (mU (mU M1 la (aI G 3 (upd (vlo w) 0 (mxI ((vlo w) 0) ((vlo u) 0))))) ha (aI G 3 (upd (vhi w) 0 (mnI ((vhi w) 0) ((vhi u) 0))))) la (aI G 3 (upd (upd (vlo w) 0 (mxI ((vlo w) 0) ((vlo u) 0))) 1 (mxI ((vlo w) 1) ((vlo u) 1))))) ha (aI G 3 (upd (upd (vhi w) 0 (mnI ((vhi w) 0) ((vhi u) 0))) 1 (mnI ((vhi w) 1) ((vhi u) 1))))) la (aI G 3 (upd (upd (upd (vlo w) 0 (mxI ((vlo w) 0) ((vlo u) 0))) 1 (mxI ((vlo w) 1) ((vlo u) 1))) 2 (mxI ((vlo w) 2) ((vlo u) 2))))) ha (aI G 3 (upd (upd (upd (vhi w) 0 (mnI ((vhi w) 0) ((vhi u) 0))) 1 (mnI ((vhi w) 1) ((vhi u) 1))) 2 (mnI ((vhi w) 2) ((vhi u) 2))))) x = M1 x := by simp only [mU, wla, wha, if_false]
            exact ⟨by rw [e]; exact e1.1, fun k => e.trans (e1.2 k)⟩
          generalize mU (mU (mU (mU (mU (mU M1 la (aI G 3 (upd (vlo w) 0 (mxI ((vlo w) 0) ((vlo u) 0))))) ha (aI G 3 (upd (vhi w) 0 (mnI ((vhi w) 0) ((vhi u) 0))))) la (aI G 3 (upd (upd (vlo w) 0 (mxI ((vlo w) 0) ((vlo u) 0))) 1 (mxI ((vlo w) 1) ((vlo u) 1))))) ha (aI G 3 (upd (upd (vhi w) 0 (mnI ((vhi w) 0) ((vhi u) 0))) 1 (mnI ((vhi w) 1) ((vhi u) 1))))) la (aI G 3 (upd (upd (upd (vlo w) 0 (mxI ((vlo w) 0) ((vlo u) 0))) 1 (mxI ((vlo w) 1) ((vlo u) 1))) 2 (mxI ((vlo w) 2) ((vlo u) 2))))) ha (aI G 3 (upd (upd (upd (vhi w) 0 (mnI ((vhi w) 0) ((vhi u) 0))) 1 (mnI ((vhi w) 1) ((vhi u) 1))) 2 (mnI ((vhi w) 2) ((vhi u) 2)))) = M2 at *
          have hBJ : rfB G M2 r 0 σ vA nA pA plA dg dla dha dva dza dvf dzf vf nf pf tk su le gr := hB.ev2 evM2 m_267 ⟨_, m_279⟩
          refine q_aload_n X dX13_join_202 5 rfl ?_
          refine q_iload X dX13_join_203 1 rfl ?_
          refine q_if_ne X 212 dX13_join_205 (by decide) (fun c_284 => absurd (by decide) c_284) (fun c_284 => ?_)
          refine q_iconst (v := 1) X dX13_join_208 (by decide) ?_
          refine q_goto X 213 dX13_join_209 (by decide) ?_
          refine q_iconst (v := 1) X dX13_join_213 (by decide) ?_
          refine q_callV X (c_fails1 (why := 1) hBJ.1) Y_X13_fails tw_1246 tw_1248 sel_23 m_267 rfl (by omega) rfl rfl (Nat.le_of_ble_eq_true rfl) (rc' := 2) (rs' := 4096) (by omega) (by omega) dX13_join_214 (fun v M' hp _ => ?_)
          obtain ⟨rfl, eM⟩ := hp
          have hB385 : rfB G M' r 1 σ vA nA pA plA dg dla dha dva dza dvf dzf vf nf pf tk su le gr := by rw [eM]; exact hBJ.ro
          clear eM
          generalize M' = M385 at *
          show qJ G F _ 18 M385 2 4096 217 [(8, .int 3), (7, .int 0), (6, .ref q), (5, .ref s), (4, .ref o), (0, .ref r), (1, .int (nI i)), (2, .int (nI i2)), (3, .int op)] [.int 1]
          obtain ⟨z_286r, z_2861, z_2862, z_2863, ⟨z_286x, z_2864⟩, z_2865, z_2866, z_2867, z_2868, z_2869, z_28610⟩ := id hB385
          refine q_if_eq X 222 dX13_join_217 (by decide) (fun c_287 => absurd c_287 (by decide)) (fun c_287 => ?_)
          refine q_iconst (v := 0) X dX13_join_220 (by decide) ?_
          exact q_iret X hr dX13_join_221 (rfP_T (by rw [specE]; exact gNeed_n (jn_no hw.1 hwu.1 (d := 1) (by decide) mm1)) cOp_IA ⟨vA, nA, pA, plA, dg, dla, dha, dva, dza, dvf, dzf, vf, nf, pf, tk, su, le, gr, hB385⟩)
        · refine q_iconst (v := 0) X dX13_join_193 (by decide) ?_
          refine q_istore (lv' := [(7, .int 0), (8, .int 2), (6, .ref q), (5, .ref s), (4, .ref o), (0, .ref r), (1, .int (nI i)), (2, .int (nI i2)), (3, .int op)]) X dX13_join_194 (by decide) rfl ?_
          refine q_iinc (v := 3) (lv' := [(8, .int 3), (7, .int 0), (6, .ref q), (5, .ref s), (4, .ref o), (0, .ref r), (1, .int (nI i)), (2, .int (nI i2)), (3, .int op)]) X dX13_join_196 1 rfl (by decide) (by decide) rfl ?_
          refine q_goto X 114 dX13_join_199 (by decide) ?_
          refine q_iload X dX13_join_114 0 rfl ?_
          refine q_iconst (v := 3) X dX13_join_116 (by decide) ?_
          refine q_icmp_ge X 202 dX13_join_117 (by decide) (fun c_288 => ?_) (fun c_288 => absurd (by decide) c_288)
          have evM2 : mEv (fun x => x = r ∨ x = plA) M (mU (mU (mU (mU (mU (mU M1 la (aI G 3 (upd (vlo w) 0 (mxI ((vlo w) 0) ((vlo u) 0))))) ha (aI G 3 (upd (vhi w) 0 (mnI ((vhi w) 0) ((vhi u) 0))))) la (aI G 3 (upd (upd (vlo w) 0 (mxI ((vlo w) 0) ((vlo u) 0))) 1 (mxI ((vlo w) 1) ((vlo u) 1))))) ha (aI G 3 (upd (upd (vhi w) 0 (mnI ((vhi w) 0) ((vhi u) 0))) 1 (mnI ((vhi w) 1) ((vhi u) 1))))) la (aI G 3 (upd (upd (upd (vlo w) 0 (mxI ((vlo w) 0) ((vlo u) 0))) 1 (mxI ((vlo w) 1) ((vlo u) 1))) 2 (mxI ((vlo w) 2) ((vlo u) 2))))) ha (aI G 3 (upd (upd (upd (vhi w) 0 (mnI ((vhi w) 0) ((vhi u) 0))) 1 (mnI ((vhi w) 1) ((vhi u) 1))) 2 (mnI ((vhi w) 2) ((vhi u) 2))))) := fun x hx => by
            have wla : x ≠ la := fun z => hx (z ▸ fla)
            have wha : x ≠ ha := fun z => hx (z ▸ fha)
            have e1 := evK1 x hx
            have e : (mU (mU (mU (mU (mU (mU M1 la (aI G 3 (upd (vlo w) 0 (mxI ((vlo w) 0) ((vlo u) 0))))) ha (aI G 3 (upd (vhi w) 0 (mnI ((vhi w) 0) ((vhi u) 0))))) la (aI G 3 (upd (upd (vlo w) 0 (mxI ((vlo w) 0) ((vlo u) 0))) 1 (mxI ((vlo w) 1) ((vlo u) 1))))) ha (aI G 3 (upd (upd (vhi w) 0 (mnI ((vhi w) 0) ((vhi u) 0))) 1 (mnI ((vhi w) 1) ((vhi u) 1))))) la (aI G 3 (upd (upd (upd (vlo w) 0 (mxI ((vlo w) 0) ((vlo u) 0))) 1 (mxI ((vlo w) 1) ((vlo u) 1))) 2 (mxI ((vlo w) 2) ((vlo u) 2))))) ha (aI G 3 (upd (upd (upd (vhi w) 0 (mnI ((vhi w) 0) ((vhi u) 0))) 1 (mnI ((vhi w) 1) ((vhi u) 1))) 2 (mnI ((vhi w) 2) ((vhi u) 2))))) x = M1 x := by simp only [mU, wla, wha, if_false]
            exact ⟨by rw [e]; exact e1.1, fun k => e.trans (e1.2 k)⟩
          generalize mU (mU (mU (mU (mU (mU M1 la (aI G 3 (upd (vlo w) 0 (mxI ((vlo w) 0) ((vlo u) 0))))) ha (aI G 3 (upd (vhi w) 0 (mnI ((vhi w) 0) ((vhi u) 0))))) la (aI G 3 (upd (upd (vlo w) 0 (mxI ((vlo w) 0) ((vlo u) 0))) 1 (mxI ((vlo w) 1) ((vlo u) 1))))) ha (aI G 3 (upd (upd (vhi w) 0 (mnI ((vhi w) 0) ((vhi u) 0))) 1 (mnI ((vhi w) 1) ((vhi u) 1))))) la (aI G 3 (upd (upd (upd (vlo w) 0 (mxI ((vlo w) 0) ((vlo u) 0))) 1 (mxI ((vlo w) 1) ((vlo u) 1))) 2 (mxI ((vlo w) 2) ((vlo u) 2))))) ha (aI G 3 (upd (upd (upd (vhi w) 0 (mnI ((vhi w) 0) ((vhi u) 0))) 1 (mnI ((vhi w) 1) ((vhi u) 1))) 2 (mnI ((vhi w) 2) ((vhi u) 2)))) = M2 at *
          have hBJ : rfB G M2 r 0 σ vA nA pA plA dg dla dha dva dza dvf dzf vf nf pf tk su le gr := hB.ev2 evM2 m_267 ⟨_, m_279⟩
          refine q_aload_n X dX13_join_202 5 rfl ?_
          refine q_iload X dX13_join_203 1 rfl ?_
          refine q_if_ne X 212 dX13_join_205 (by decide) (fun c_289 => absurd (by decide) c_289) (fun c_289 => ?_)
          refine q_iconst (v := 1) X dX13_join_208 (by decide) ?_
          refine q_goto X 213 dX13_join_209 (by decide) ?_
          refine q_iconst (v := 1) X dX13_join_213 (by decide) ?_
          refine q_callV X (c_fails1 (why := 1) hBJ.1) Y_X13_fails tw_1246 tw_1248 sel_23 m_267 rfl (by omega) rfl rfl (Nat.le_of_ble_eq_true rfl) (rc' := 2) (rs' := 4096) (by omega) (by omega) dX13_join_214 (fun v M' hp _ => ?_)
          obtain ⟨rfl, eM⟩ := hp
          have hB390 : rfB G M' r 1 σ vA nA pA plA dg dla dha dva dza dvf dzf vf nf pf tk su le gr := by rw [eM]; exact hBJ.ro
          clear eM
          generalize M' = M390 at *
          show qJ G F _ 18 M390 2 4096 217 [(8, .int 3), (7, .int 0), (6, .ref q), (5, .ref s), (4, .ref o), (0, .ref r), (1, .int (nI i)), (2, .int (nI i2)), (3, .int op)] [.int 1]
          obtain ⟨z_291r, z_2911, z_2912, z_2913, ⟨z_291x, z_2914⟩, z_2915, z_2916, z_2917, z_2918, z_2919, z_29110⟩ := id hB390
          refine q_if_eq X 222 dX13_join_217 (by decide) (fun c_292 => absurd c_292 (by decide)) (fun c_292 => ?_)
          refine q_iconst (v := 0) X dX13_join_220 (by decide) ?_
          exact q_iret X hr dX13_join_221 (rfP_T (by rw [specE]; exact gNeed_n (jn_no hw.1 hwu.1 (d := 1) (by decide) mm1)) cOp_IA ⟨vA, nA, pA, plA, dg, dla, dha, dva, dza, dvf, dzf, vf, nf, pf, tk, su, le, gr, hB390⟩)
    · refine q_iconst (v := 0) X dX13_join_193 (by decide) ?_
      refine q_istore (lv' := [(7, .int 0), (8, .int 0), (6, .ref q), (5, .ref s), (4, .ref o), (0, .ref r), (1, .int (nI i)), (2, .int (nI i2)), (3, .int op)]) X dX13_join_194 (by decide) rfl ?_
      refine q_iinc (v := 1) (lv' := [(8, .int 1), (7, .int 0), (6, .ref q), (5, .ref s), (4, .ref o), (0, .ref r), (1, .int (nI i)), (2, .int (nI i2)), (3, .int op)]) X dX13_join_196 1 rfl (by decide) (by decide) rfl ?_
      refine q_goto X 114 dX13_join_199 (by decide) ?_
      refine q_iload X dX13_join_114 0 rfl ?_
      refine q_iconst (v := 3) X dX13_join_116 (by decide) ?_
      refine q_icmp_ge X 202 dX13_join_117 (by decide) (fun c_293 => absurd c_293 (by decide)) (fun c_293 => ?_)
      refine q_aload X dX13_join_120 2 rfl ?_
      refine q_get X m_44 rfl in_RX12 2 (by decide) tw_1159 rfl rfl dX13_join_122 ?_
      refine q_iload X dX13_join_125 0 rfl ?_
      refine q_aload X dX13_join_127 4 rfl ?_
      refine q_get X m_33 rfl in_RX12 2 (by decide) tw_1159 rfl rfl dX13_join_129 ?_
      refine q_iload X dX13_join_132 0 rfl ?_
      refine q_ialdN X 1 m_34 (rfl) (by decide) (by decide) dX13_join_134 ?_
      refine q_aload X dX13_join_135 3 rfl ?_
      refine q_get X m_38 rfl in_RX12 2 (by decide) tw_1159 rfl rfl dX13_join_137 ?_
      refine q_iload X dX13_join_140 0 rfl ?_
      refine q_ialdN X 1 m_39 (rfl) (by decide) (by decide) dX13_join_142 ?_
      refine q_callSp X (c_J9_max_7cf53) Y_J9_max_7cf53 tw_1394 tw_123 (by omega) rfl rfl (Nat.le_of_ble_eq_true rfl) dX13_join_143 ?_
      refine q_iastN X 1 m_45 (rfl) (by decide) (by decide) dX13_join_146 ?_
      have m_294 : (mU (mU (mU M1 la (aI G 3 (upd (vlo w) 0 (mxI ((vlo w) 0) ((vlo u) 0))))) ha (aI G 3 (upd (vhi w) 0 (mnI ((vhi w) 0) ((vhi u) 0))))) la (aI G 3 (upd (upd (vlo w) 0 (mxI ((vlo w) 0) ((vlo u) 0))) 1 (mxI ((vlo w) 1) ((vlo u) 1))))) r = some (oB 13 [.int 0, .ref vA, .ref nA, .ref pA, .ref plA, .ref dg, .int (nI (aV σ).length), .int (nI (aN σ).length), .int (nI (aOf σ)), .int (nI (aBg σ)), .int tk, .long su, .long le, .long gr]) := (mU_n (g_nef hB.1 fla)).trans m_31
      have m_295 : (mU (mU (mU M1 la (aI G 3 (upd (vlo w) 0 (mxI ((vlo w) 0) ((vlo u) 0))))) ha (aI G 3 (upd (vhi w) 0 (mnI ((vhi w) 0) ((vhi u) 0))))) la (aI G 3 (upd (upd (vlo w) 0 (mxI ((vlo w) 0) ((vlo u) 0))) 1 (mxI ((vlo w) 1) ((vlo u) 1))))) nA = some (aG G 150 nf) := (mU_n (g_nef hB.2.2.1 fla)).trans m_32
      have m_296 : (mU (mU (mU M1 la (aI G 3 (upd (vlo w) 0 (mxI ((vlo w) 0) ((vlo u) 0))))) ha (aI G 3 (upd (vhi w) 0 (mnI ((vhi w) 0) ((vhi u) 0))))) la (aI G 3 (upd (upd (vlo w) 0 (mxI ((vlo w) 0) ((vlo u) 0))) 1 (mxI ((vlo w) 1) ((vlo u) 1))))) o = some (oB 12 [.int (nI (vm w)), .int (nI (vdp w)), .ref ola, .ref oha, .ref ova, .ref oza]) := (mU_n (g_nef hO.1 fla)).trans m_33
      have m_297 : (mU (mU (mU M1 la (aI G 3 (upd (vlo w) 0 (mxI ((vlo w) 0) ((vlo u) 0))))) ha (aI G 3 (upd (vhi w) 0 (mnI ((vhi w) 0) ((vhi u) 0))))) la (aI G 3 (upd (upd (vlo w) 0 (mxI ((vlo w) 0) ((vlo u) 0))) 1 (mxI ((vlo w) 1) ((vlo u) 1))))) ola = some (aI G 3 (vlo w)) := (mU_n (g_nef hO.2.1 fla)).trans m_34
      have m_298 : (mU (mU (mU M1 la (aI G 3 (upd (vlo w) 0 (mxI ((vlo w) 0) ((vlo u) 0))))) ha (aI G 3 (upd (vhi w) 0 (mnI ((vhi w) 0) ((vhi u) 0))))) la (aI G 3 (upd (upd (vlo w) 0 (mxI ((vlo w) 0) ((vlo u) 0))) 1 (mxI ((vlo w) 1) ((vlo u) 1))))) oha = some (aI G 3 (vhi w)) := (mU_n (g_nef hO.2.2.1 fla)).trans m_35
      have m_299 : (mU (mU (mU M1 la (aI G 3 (upd (vlo w) 0 (mxI ((vlo w) 0) ((vlo u) 0))))) ha (aI G 3 (upd (vhi w) 0 (mnI ((vhi w) 0) ((vhi u) 0))))) la (aI G 3 (upd (upd (vlo w) 0 (mxI ((vlo w) 0) ((vlo u) 0))) 1 (mxI ((vlo w) 1) ((vlo u) 1))))) ova = some (aJ G (wsz w) ovf) := (mU_n (g_nef hO.2.2.2.1 fla)).trans m_36
      have m_300 : (mU (mU (mU M1 la (aI G 3 (upd (vlo w) 0 (mxI ((vlo w) 0) ((vlo u) 0))))) ha (aI G 3 (upd (vhi w) 0 (mnI ((vhi w) 0) ((vhi u) 0))))) la (aI G 3 (upd (upd (vlo w) 0 (mxI ((vlo w) 0) ((vlo u) 0))) 1 (mxI ((vlo w) 1) ((vlo u) 1))))) oza = some (aZ G (wsz w) ozf) := (mU_n (g_nef hO.2.2.2.2.1 fla)).trans m_37
      have m_301 : (mU (mU (mU M1 la (aI G 3 (upd (vlo w) 0 (mxI ((vlo w) 0) ((vlo u) 0))))) ha (aI G 3 (upd (vhi w) 0 (mnI ((vhi w) 0) ((vhi u) 0))))) la (aI G 3 (upd (upd (vlo w) 0 (mxI ((vlo w) 0) ((vlo u) 0))) 1 (mxI ((vlo w) 1) ((vlo u) 1))))) s = some (oB 12 [.int (nI (vm u)), .int (nI (vdp u)), .ref sla, .ref sha, .ref sva, .ref sza]) := (mU_n (g_nef hOs.1 fla)).trans m_38
      have m_302 : (mU (mU (mU M1 la (aI G 3 (upd (vlo w) 0 (mxI ((vlo w) 0) ((vlo u) 0))))) ha (aI G 3 (upd (vhi w) 0 (mnI ((vhi w) 0) ((vhi u) 0))))) la (aI G 3 (upd (upd (vlo w) 0 (mxI ((vlo w) 0) ((vlo u) 0))) 1 (mxI ((vlo w) 1) ((vlo u) 1))))) sla = some (aI G 3 (vlo u)) := (mU_n (g_nef hOs.2.1 fla)).trans m_39
      have m_303 : (mU (mU (mU M1 la (aI G 3 (upd (vlo w) 0 (mxI ((vlo w) 0) ((vlo u) 0))))) ha (aI G 3 (upd (vhi w) 0 (mnI ((vhi w) 0) ((vhi u) 0))))) la (aI G 3 (upd (upd (vlo w) 0 (mxI ((vlo w) 0) ((vlo u) 0))) 1 (mxI ((vlo w) 1) ((vlo u) 1))))) sha = some (aI G 3 (vhi u)) := (mU_n (g_nef hOs.2.2.1 fla)).trans m_40
      have m_304 : (mU (mU (mU M1 la (aI G 3 (upd (vlo w) 0 (mxI ((vlo w) 0) ((vlo u) 0))))) ha (aI G 3 (upd (vhi w) 0 (mnI ((vhi w) 0) ((vhi u) 0))))) la (aI G 3 (upd (upd (vlo w) 0 (mxI ((vlo w) 0) ((vlo u) 0))) 1 (mxI ((vlo w) 1) ((vlo u) 1))))) sva = some (aJ G (wsz u) svf) := (mU_n (g_nef hOs.2.2.2.1 fla)).trans m_41
      have m_305 : (mU (mU (mU M1 la (aI G 3 (upd (vlo w) 0 (mxI ((vlo w) 0) ((vlo u) 0))))) ha (aI G 3 (upd (vhi w) 0 (mnI ((vhi w) 0) ((vhi u) 0))))) la (aI G 3 (upd (upd (vlo w) 0 (mxI ((vlo w) 0) ((vlo u) 0))) 1 (mxI ((vlo w) 1) ((vlo u) 1))))) sza = some (aZ G (wsz u) szf) := (mU_n (g_nef hOs.2.2.2.2.1 fla)).trans m_42
      have m_306 : (mU (mU (mU M1 la (aI G 3 (upd (vlo w) 0 (mxI ((vlo w) 0) ((vlo u) 0))))) ha (aI G 3 (upd (vhi w) 0 (mnI ((vhi w) 0) ((vhi u) 0))))) la (aI G 3 (upd (upd (vlo w) 0 (mxI ((vlo w) 0) ((vlo u) 0))) 1 (mxI ((vlo w) 1) ((vlo u) 1))))) plA = some (aI G 3 pl0) := (mU_n (g_nef hpl0 fla)).trans m_43
      have m_307 : (mU (mU (mU M1 la (aI G 3 (upd (vlo w) 0 (mxI ((vlo w) 0) ((vlo u) 0))))) ha (aI G 3 (upd (vhi w) 0 (mnI ((vhi w) 0) ((vhi u) 0))))) la (aI G 3 (upd (upd (vlo w) 0 (mxI ((vlo w) 0) ((vlo u) 0))) 1 (mxI ((vlo w) 1) ((vlo u) 1))))) q = some (oB 12 [.int (nI (vm w)), .int (nI (max (vdp w) (vdp u) + 1)), .ref la, .ref ha, .null, .null]) := (mU_n (Ne.symm (llq))).trans m_44
      have m_308 : (mU (mU (mU M1 la (aI G 3 (upd (vlo w) 0 (mxI ((vlo w) 0) ((vlo u) 0))))) ha (aI G 3 (upd (vhi w) 0 (mnI ((vhi w) 0) ((vhi u) 0))))) la (aI G 3 (upd (upd (vlo w) 0 (mxI ((vlo w) 0) ((vlo u) 0))) 1 (mxI ((vlo w) 1) ((vlo u) 1))))) la = some (aI G 3 (upd (upd (vlo w) 0 (mxI ((vlo w) 0) ((vlo u) 0))) 1 (mxI ((vlo w) 1) ((vlo u) 1)))) := mU_s
      have m_309 : (mU (mU (mU M1 la (aI G 3 (upd (vlo w) 0 (mxI ((vlo w) 0) ((vlo u) 0))))) ha (aI G 3 (upd (vhi w) 0 (mnI ((vhi w) 0) ((vhi u) 0))))) la (aI G 3 (upd (upd (vlo w) 0 (mxI ((vlo w) 0) ((vlo u) 0))) 1 (mxI ((vlo w) 1) ((vlo u) 1))))) ha = some (aI G 3 (upd (vhi w) 0 (mnI ((vhi w) 0) ((vhi u) 0)))) := (mU_n (Ne.symm (llh))).trans m_46
      refine q_aload X dX13_join_147 2 rfl ?_
      refine q_get X m_307 rfl in_RX12 3 (by decide) tw_1161 rfl rfl dX13_join_149 ?_
      refine q_iload X dX13_join_152 0 rfl ?_
      refine q_aload X dX13_join_154 4 rfl ?_
      refine q_get X m_296 rfl in_RX12 3 (by decide) tw_1161 rfl rfl dX13_join_156 ?_
      refine q_iload X dX13_join_159 0 rfl ?_
      refine q_ialdN X 1 m_298 (rfl) (by decide) (by decide) dX13_join_161 ?_
      refine q_aload X dX13_join_162 3 rfl ?_
      refine q_get X m_301 rfl in_RX12 3 (by decide) tw_1161 rfl rfl dX13_join_164 ?_
      refine q_iload X dX13_join_167 0 rfl ?_
      refine q_ialdN X 1 m_303 (rfl) (by decide) (by decide) dX13_join_169 ?_
      refine q_callSp X (c_J9_min_7cf53) Y_J9_min_7cf53 tw_1321 tw_239 (by omega) rfl rfl (Nat.le_of_ble_eq_true rfl) dX13_join_170 ?_
      refine q_iastN X 1 m_309 (rfl) (by decide) (by decide) dX13_join_173 ?_
      have m_310 : (mU (mU (mU (mU M1 la (aI G 3 (upd (vlo w) 0 (mxI ((vlo w) 0) ((vlo u) 0))))) ha (aI G 3 (upd (vhi w) 0 (mnI ((vhi w) 0) ((vhi u) 0))))) la (aI G 3 (upd (upd (vlo w) 0 (mxI ((vlo w) 0) ((vlo u) 0))) 1 (mxI ((vlo w) 1) ((vlo u) 1))))) ha (aI G 3 (upd (upd (vhi w) 0 (mnI ((vhi w) 0) ((vhi u) 0))) 1 (mnI ((vhi w) 1) ((vhi u) 1))))) r = some (oB 13 [.int 0, .ref vA, .ref nA, .ref pA, .ref plA, .ref dg, .int (nI (aV σ).length), .int (nI (aN σ).length), .int (nI (aOf σ)), .int (nI (aBg σ)), .int tk, .long su, .long le, .long gr]) := (mU_n (g_nef hB.1 fha)).trans m_294
      have m_311 : (mU (mU (mU (mU M1 la (aI G 3 (upd (vlo w) 0 (mxI ((vlo w) 0) ((vlo u) 0))))) ha (aI G 3 (upd (vhi w) 0 (mnI ((vhi w) 0) ((vhi u) 0))))) la (aI G 3 (upd (upd (vlo w) 0 (mxI ((vlo w) 0) ((vlo u) 0))) 1 (mxI ((vlo w) 1) ((vlo u) 1))))) ha (aI G 3 (upd (upd (vhi w) 0 (mnI ((vhi w) 0) ((vhi u) 0))) 1 (mnI ((vhi w) 1) ((vhi u) 1))))) nA = some (aG G 150 nf) := (mU_n (g_nef hB.2.2.1 fha)).trans m_295
      have m_312 : (mU (mU (mU (mU M1 la (aI G 3 (upd (vlo w) 0 (mxI ((vlo w) 0) ((vlo u) 0))))) ha (aI G 3 (upd (vhi w) 0 (mnI ((vhi w) 0) ((vhi u) 0))))) la (aI G 3 (upd (upd (vlo w) 0 (mxI ((vlo w) 0) ((vlo u) 0))) 1 (mxI ((vlo w) 1) ((vlo u) 1))))) ha (aI G 3 (upd (upd (vhi w) 0 (mnI ((vhi w) 0) ((vhi u) 0))) 1 (mnI ((vhi w) 1) ((vhi u) 1))))) o = some (oB 12 [.int (nI (vm w)), .int (nI (vdp w)), .ref ola, .ref oha, .ref ova, .ref oza]) := (mU_n (g_nef hO.1 fha)).trans m_296
      have m_313 : (mU (mU (mU (mU M1 la (aI G 3 (upd (vlo w) 0 (mxI ((vlo w) 0) ((vlo u) 0))))) ha (aI G 3 (upd (vhi w) 0 (mnI ((vhi w) 0) ((vhi u) 0))))) la (aI G 3 (upd (upd (vlo w) 0 (mxI ((vlo w) 0) ((vlo u) 0))) 1 (mxI ((vlo w) 1) ((vlo u) 1))))) ha (aI G 3 (upd (upd (vhi w) 0 (mnI ((vhi w) 0) ((vhi u) 0))) 1 (mnI ((vhi w) 1) ((vhi u) 1))))) ola = some (aI G 3 (vlo w)) := (mU_n (g_nef hO.2.1 fha)).trans m_297
      have m_314 : (mU (mU (mU (mU M1 la (aI G 3 (upd (vlo w) 0 (mxI ((vlo w) 0) ((vlo u) 0))))) ha (aI G 3 (upd (vhi w) 0 (mnI ((vhi w) 0) ((vhi u) 0))))) la (aI G 3 (upd (upd (vlo w) 0 (mxI ((vlo w) 0) ((vlo u) 0))) 1 (mxI ((vlo w) 1) ((vlo u) 1))))) ha (aI G 3 (upd (upd (vhi w) 0 (mnI ((vhi w) 0) ((vhi u) 0))) 1 (mnI ((vhi w) 1) ((vhi u) 1))))) oha = some (aI G 3 (vhi w)) := (mU_n (g_nef hO.2.2.1 fha)).trans m_298
      have m_315 : (mU (mU (mU (mU M1 la (aI G 3 (upd (vlo w) 0 (mxI ((vlo w) 0) ((vlo u) 0))))) ha (aI G 3 (upd (vhi w) 0 (mnI ((vhi w) 0) ((vhi u) 0))))) la (aI G 3 (upd (upd (vlo w) 0 (mxI ((vlo w) 0) ((vlo u) 0))) 1 (mxI ((vlo w) 1) ((vlo u) 1))))) ha (aI G 3 (upd (upd (vhi w) 0 (mnI ((vhi w) 0) ((vhi u) 0))) 1 (mnI ((vhi w) 1) ((vhi u) 1))))) ova = some (aJ G (wsz w) ovf) := (mU_n (g_nef hO.2.2.2.1 fha)).trans m_299
      have m_316 : (mU (mU (mU (mU M1 la (aI G 3 (upd (vlo w) 0 (mxI ((vlo w) 0) ((vlo u) 0))))) ha (aI G 3 (upd (vhi w) 0 (mnI ((vhi w) 0) ((vhi u) 0))))) la (aI G 3 (upd (upd (vlo w) 0 (mxI ((vlo w) 0) ((vlo u) 0))) 1 (mxI ((vlo w) 1) ((vlo u) 1))))) ha (aI G 3 (upd (upd (vhi w) 0 (mnI ((vhi w) 0) ((vhi u) 0))) 1 (mnI ((vhi w) 1) ((vhi u) 1))))) oza = some (aZ G (wsz w) ozf) := (mU_n (g_nef hO.2.2.2.2.1 fha)).trans m_300
      have m_317 : (mU (mU (mU (mU M1 la (aI G 3 (upd (vlo w) 0 (mxI ((vlo w) 0) ((vlo u) 0))))) ha (aI G 3 (upd (vhi w) 0 (mnI ((vhi w) 0) ((vhi u) 0))))) la (aI G 3 (upd (upd (vlo w) 0 (mxI ((vlo w) 0) ((vlo u) 0))) 1 (mxI ((vlo w) 1) ((vlo u) 1))))) ha (aI G 3 (upd (upd (vhi w) 0 (mnI ((vhi w) 0) ((vhi u) 0))) 1 (mnI ((vhi w) 1) ((vhi u) 1))))) s = some (oB 12 [.int (nI (vm u)), .int (nI (vdp u)), .ref sla, .ref sha, .ref sva, .ref sza]) := (mU_n (g_nef hOs.1 fha)).trans m_301
      have m_318 : (mU (mU (mU (mU M1 la (aI G 3 (upd (vlo w) 0 (mxI ((vlo w) 0) ((vlo u) 0))))) ha (aI G 3 (upd (vhi w) 0 (mnI ((vhi w) 0) ((vhi u) 0))))) la (aI G 3 (upd (upd (vlo w) 0 (mxI ((vlo w) 0) ((vlo u) 0))) 1 (mxI ((vlo w) 1) ((vlo u) 1))))) ha (aI G 3 (upd (upd (vhi w) 0 (mnI ((vhi w) 0) ((vhi u) 0))) 1 (mnI ((vhi w) 1) ((vhi u) 1))))) sla = some (aI G 3 (vlo u)) := (mU_n (g_nef hOs.2.1 fha)).trans m_302
      have m_319 : (mU (mU (mU (mU M1 la (aI G 3 (upd (vlo w) 0 (mxI ((vlo w) 0) ((vlo u) 0))))) ha (aI G 3 (upd (vhi w) 0 (mnI ((vhi w) 0) ((vhi u) 0))))) la (aI G 3 (upd (upd (vlo w) 0 (mxI ((vlo w) 0) ((vlo u) 0))) 1 (mxI ((vlo w) 1) ((vlo u) 1))))) ha (aI G 3 (upd (upd (vhi w) 0 (mnI ((vhi w) 0) ((vhi u) 0))) 1 (mnI ((vhi w) 1) ((vhi u) 1))))) sha = some (aI G 3 (vhi u)) := (mU_n (g_nef hOs.2.2.1 fha)).trans m_303
      have m_320 : (mU (mU (mU (mU M1 la (aI G 3 (upd (vlo w) 0 (mxI ((vlo w) 0) ((vlo u) 0))))) ha (aI G 3 (upd (vhi w) 0 (mnI ((vhi w) 0) ((vhi u) 0))))) la (aI G 3 (upd (upd (vlo w) 0 (mxI ((vlo w) 0) ((vlo u) 0))) 1 (mxI ((vlo w) 1) ((vlo u) 1))))) ha (aI G 3 (upd (upd (vhi w) 0 (mnI ((vhi w) 0) ((vhi u) 0))) 1 (mnI ((vhi w) 1) ((vhi u) 1))))) sva = some (aJ G (wsz u) svf) := (mU_n (g_nef hOs.2.2.2.1 fha)).trans m_304
      have m_321 : (mU (mU (mU (mU M1 la (aI G 3 (upd (vlo w) 0 (mxI ((vlo w) 0) ((vlo u) 0))))) ha (aI G 3 (upd (vhi w) 0 (mnI ((vhi w) 0) ((vhi u) 0))))) la (aI G 3 (upd (upd (vlo w) 0 (mxI ((vlo w) 0) ((vlo u) 0))) 1 (mxI ((vlo w) 1) ((vlo u) 1))))) ha (aI G 3 (upd (upd (vhi w) 0 (mnI ((vhi w) 0) ((vhi u) 0))) 1 (mnI ((vhi w) 1) ((vhi u) 1))))) sza = some (aZ G (wsz u) szf) := (mU_n (g_nef hOs.2.2.2.2.1 fha)).trans m_305
      have m_322 : (mU (mU (mU (mU M1 la (aI G 3 (upd (vlo w) 0 (mxI ((vlo w) 0) ((vlo u) 0))))) ha (aI G 3 (upd (vhi w) 0 (mnI ((vhi w) 0) ((vhi u) 0))))) la (aI G 3 (upd (upd (vlo w) 0 (mxI ((vlo w) 0) ((vlo u) 0))) 1 (mxI ((vlo w) 1) ((vlo u) 1))))) ha (aI G 3 (upd (upd (vhi w) 0 (mnI ((vhi w) 0) ((vhi u) 0))) 1 (mnI ((vhi w) 1) ((vhi u) 1))))) plA = some (aI G 3 pl0) := (mU_n (g_nef hpl0 fha)).trans m_306
      have m_323 : (mU (mU (mU (mU M1 la (aI G 3 (upd (vlo w) 0 (mxI ((vlo w) 0) ((vlo u) 0))))) ha (aI G 3 (upd (vhi w) 0 (mnI ((vhi w) 0) ((vhi u) 0))))) la (aI G 3 (upd (upd (vlo w) 0 (mxI ((vlo w) 0) ((vlo u) 0))) 1 (mxI ((vlo w) 1) ((vlo u) 1))))) ha (aI G 3 (upd (upd (vhi w) 0 (mnI ((vhi w) 0) ((vhi u) 0))) 1 (mnI ((vhi w) 1) ((vhi u) 1))))) q = some (oB 12 [.int (nI (vm w)), .int (nI (max (vdp w) (vdp u) + 1)), .ref la, .ref ha, .null, .null]) := (mU_n (Ne.symm (lhq))).trans m_307
      have m_324 : (mU (mU (mU (mU M1 la (aI G 3 (upd (vlo w) 0 (mxI ((vlo w) 0) ((vlo u) 0))))) ha (aI G 3 (upd (vhi w) 0 (mnI ((vhi w) 0) ((vhi u) 0))))) la (aI G 3 (upd (upd (vlo w) 0 (mxI ((vlo w) 0) ((vlo u) 0))) 1 (mxI ((vlo w) 1) ((vlo u) 1))))) ha (aI G 3 (upd (upd (vhi w) 0 (mnI ((vhi w) 0) ((vhi u) 0))) 1 (mnI ((vhi w) 1) ((vhi u) 1))))) la = some (aI G 3 (upd (upd (vlo w) 0 (mxI ((vlo w) 0) ((vlo u) 0))) 1 (mxI ((vlo w) 1) ((vlo u) 1)))) := (mU_n (llh)).trans m_308
      have m_325 : (mU (mU (mU (mU M1 la (aI G 3 (upd (vlo w) 0 (mxI ((vlo w) 0) ((vlo u) 0))))) ha (aI G 3 (upd (vhi w) 0 (mnI ((vhi w) 0) ((vhi u) 0))))) la (aI G 3 (upd (upd (vlo w) 0 (mxI ((vlo w) 0) ((vlo u) 0))) 1 (mxI ((vlo w) 1) ((vlo u) 1))))) ha (aI G 3 (upd (upd (vhi w) 0 (mnI ((vhi w) 0) ((vhi u) 0))) 1 (mnI ((vhi w) 1) ((vhi u) 1))))) ha = some (aI G 3 (upd (upd (vhi w) 0 (mnI ((vhi w) 0) ((vhi u) 0))) 1 (mnI ((vhi w) 1) ((vhi u) 1)))) := mU_s
      refine q_aload X dX13_join_174 2 rfl ?_
      refine q_get X m_323 rfl in_RX12 2 (by decide) tw_1159 rfl rfl dX13_join_176 ?_
      refine q_iload X dX13_join_179 0 rfl ?_
      refine q_ialdN X 1 m_324 (rfl) (by decide) (by decide) dX13_join_181 ?_
      refine q_aload X dX13_join_182 2 rfl ?_
      refine q_get X m_323 rfl in_RX12 3 (by decide) tw_1161 rfl rfl dX13_join_184 ?_
      refine q_iload X dX13_join_187 0 rfl ?_
      refine q_ialdN X 1 m_325 (rfl) (by decide) (by decide) dX13_join_189 ?_
      show qJ G F _ 18 (mU (mU (mU (mU M1 la (aI G 3 (upd (vlo w) 0 (mxI ((vlo w) 0) ((vlo u) 0))))) ha (aI G 3 (upd (vhi w) 0 (mnI ((vhi w) 0) ((vhi u) 0))))) la (aI G 3 (upd (upd (vlo w) 0 (mxI ((vlo w) 0) ((vlo u) 0))) 1 (mxI ((vlo w) 1) ((vlo u) 1))))) ha (aI G 3 (upd (upd (vhi w) 0 (mnI ((vhi w) 0) ((vhi u) 0))) 1 (mnI ((vhi w) 1) ((vhi u) 1))))) 2 4096 190 [(8, .int 1), (7, .int 0), (6, .ref q), (5, .ref s), (4, .ref o), (0, .ref r), (1, .int (nI i)), (2, .int (nI i2)), (3, .int op)] [.int (mnI (vhi w 1) (vhi u 1)), .int (mxI (vlo w 1) (vlo u 1))]
      refine q_icmp_le X 196 dX13_join_190 (by decide) (fun mm1 => ?_) (fun mm1 => ?_)
      · refine q_iinc (v := 2) (lv' := [(8, .int 2), (7, .int 0), (6, .ref q), (5, .ref s), (4, .ref o), (0, .ref r), (1, .int (nI i)), (2, .int (nI i2)), (3, .int op)]) X dX13_join_196 0 rfl (by decide) (by decide) rfl ?_
        refine q_goto X 114 dX13_join_199 (by decide) ?_
        refine q_iload X dX13_join_114 0 rfl ?_
        refine q_iconst (v := 3) X dX13_join_116 (by decide) ?_
        refine q_icmp_ge X 202 dX13_join_117 (by decide) (fun c_326 => absurd c_326 (by decide)) (fun c_326 => ?_)
        refine q_aload X dX13_join_120 2 rfl ?_
        refine q_get X m_323 rfl in_RX12 2 (by decide) tw_1159 rfl rfl dX13_join_122 ?_
        refine q_iload X dX13_join_125 0 rfl ?_
        refine q_aload X dX13_join_127 4 rfl ?_
        refine q_get X m_312 rfl in_RX12 2 (by decide) tw_1159 rfl rfl dX13_join_129 ?_
        refine q_iload X dX13_join_132 0 rfl ?_
        refine q_ialdN X 2 m_313 (rfl) (by decide) (by decide) dX13_join_134 ?_
        refine q_aload X dX13_join_135 3 rfl ?_
        refine q_get X m_317 rfl in_RX12 2 (by decide) tw_1159 rfl rfl dX13_join_137 ?_
        refine q_iload X dX13_join_140 0 rfl ?_
        refine q_ialdN X 2 m_318 (rfl) (by decide) (by decide) dX13_join_142 ?_
        refine q_callSp X (c_J9_max_7cf53) Y_J9_max_7cf53 tw_1394 tw_123 (by omega) rfl rfl (Nat.le_of_ble_eq_true rfl) dX13_join_143 ?_
        refine q_iastN X 2 m_324 (rfl) (by decide) (by decide) dX13_join_146 ?_
        have m_327 : (mU (mU (mU (mU (mU M1 la (aI G 3 (upd (vlo w) 0 (mxI ((vlo w) 0) ((vlo u) 0))))) ha (aI G 3 (upd (vhi w) 0 (mnI ((vhi w) 0) ((vhi u) 0))))) la (aI G 3 (upd (upd (vlo w) 0 (mxI ((vlo w) 0) ((vlo u) 0))) 1 (mxI ((vlo w) 1) ((vlo u) 1))))) ha (aI G 3 (upd (upd (vhi w) 0 (mnI ((vhi w) 0) ((vhi u) 0))) 1 (mnI ((vhi w) 1) ((vhi u) 1))))) la (aI G 3 (upd (upd (upd (vlo w) 0 (mxI ((vlo w) 0) ((vlo u) 0))) 1 (mxI ((vlo w) 1) ((vlo u) 1))) 2 (mxI ((vlo w) 2) ((vlo u) 2))))) r = some (oB 13 [.int 0, .ref vA, .ref nA, .ref pA, .ref plA, .ref dg, .int (nI (aV σ).length), .int (nI (aN σ).length), .int (nI (aOf σ)), .int (nI (aBg σ)), .int tk, .long su, .long le, .long gr]) := (mU_n (g_nef hB.1 fla)).trans m_310
        have m_328 : (mU (mU (mU (mU (mU M1 la (aI G 3 (upd (vlo w) 0 (mxI ((vlo w) 0) ((vlo u) 0))))) ha (aI G 3 (upd (vhi w) 0 (mnI ((vhi w) 0) ((vhi u) 0))))) la (aI G 3 (upd (upd (vlo w) 0 (mxI ((vlo w) 0) ((vlo u) 0))) 1 (mxI ((vlo w) 1) ((vlo u) 1))))) ha (aI G 3 (upd (upd (vhi w) 0 (mnI ((vhi w) 0) ((vhi u) 0))) 1 (mnI ((vhi w) 1) ((vhi u) 1))))) la (aI G 3 (upd (upd (upd (vlo w) 0 (mxI ((vlo w) 0) ((vlo u) 0))) 1 (mxI ((vlo w) 1) ((vlo u) 1))) 2 (mxI ((vlo w) 2) ((vlo u) 2))))) nA = some (aG G 150 nf) := (mU_n (g_nef hB.2.2.1 fla)).trans m_311
        have m_329 : (mU (mU (mU (mU (mU M1 la (aI G 3 (upd (vlo w) 0 (mxI ((vlo w) 0) ((vlo u) 0))))) ha (aI G 3 (upd (vhi w) 0 (mnI ((vhi w) 0) ((vhi u) 0))))) la (aI G 3 (upd (upd (vlo w) 0 (mxI ((vlo w) 0) ((vlo u) 0))) 1 (mxI ((vlo w) 1) ((vlo u) 1))))) ha (aI G 3 (upd (upd (vhi w) 0 (mnI ((vhi w) 0) ((vhi u) 0))) 1 (mnI ((vhi w) 1) ((vhi u) 1))))) la (aI G 3 (upd (upd (upd (vlo w) 0 (mxI ((vlo w) 0) ((vlo u) 0))) 1 (mxI ((vlo w) 1) ((vlo u) 1))) 2 (mxI ((vlo w) 2) ((vlo u) 2))))) o = some (oB 12 [.int (nI (vm w)), .int (nI (vdp w)), .ref ola, .ref oha, .ref ova, .ref oza]) := (mU_n (g_nef hO.1 fla)).trans m_312
        have m_330 : (mU (mU (mU (mU (mU M1 la (aI G 3 (upd (vlo w) 0 (mxI ((vlo w) 0) ((vlo u) 0))))) ha (aI G 3 (upd (vhi w) 0 (mnI ((vhi w) 0) ((vhi u) 0))))) la (aI G 3 (upd (upd (vlo w) 0 (mxI ((vlo w) 0) ((vlo u) 0))) 1 (mxI ((vlo w) 1) ((vlo u) 1))))) ha (aI G 3 (upd (upd (vhi w) 0 (mnI ((vhi w) 0) ((vhi u) 0))) 1 (mnI ((vhi w) 1) ((vhi u) 1))))) la (aI G 3 (upd (upd (upd (vlo w) 0 (mxI ((vlo w) 0) ((vlo u) 0))) 1 (mxI ((vlo w) 1) ((vlo u) 1))) 2 (mxI ((vlo w) 2) ((vlo u) 2))))) ola = some (aI G 3 (vlo w)) := (mU_n (g_nef hO.2.1 fla)).trans m_313
        have m_331 : (mU (mU (mU (mU (mU M1 la (aI G 3 (upd (vlo w) 0 (mxI ((vlo w) 0) ((vlo u) 0))))) ha (aI G 3 (upd (vhi w) 0 (mnI ((vhi w) 0) ((vhi u) 0))))) la (aI G 3 (upd (upd (vlo w) 0 (mxI ((vlo w) 0) ((vlo u) 0))) 1 (mxI ((vlo w) 1) ((vlo u) 1))))) ha (aI G 3 (upd (upd (vhi w) 0 (mnI ((vhi w) 0) ((vhi u) 0))) 1 (mnI ((vhi w) 1) ((vhi u) 1))))) la (aI G 3 (upd (upd (upd (vlo w) 0 (mxI ((vlo w) 0) ((vlo u) 0))) 1 (mxI ((vlo w) 1) ((vlo u) 1))) 2 (mxI ((vlo w) 2) ((vlo u) 2))))) oha = some (aI G 3 (vhi w)) := (mU_n (g_nef hO.2.2.1 fla)).trans m_314
        have m_332 : (mU (mU (mU (mU (mU M1 la (aI G 3 (upd (vlo w) 0 (mxI ((vlo w) 0) ((vlo u) 0))))) ha (aI G 3 (upd (vhi w) 0 (mnI ((vhi w) 0) ((vhi u) 0))))) la (aI G 3 (upd (upd (vlo w) 0 (mxI ((vlo w) 0) ((vlo u) 0))) 1 (mxI ((vlo w) 1) ((vlo u) 1))))) ha (aI G 3 (upd (upd (vhi w) 0 (mnI ((vhi w) 0) ((vhi u) 0))) 1 (mnI ((vhi w) 1) ((vhi u) 1))))) la (aI G 3 (upd (upd (upd (vlo w) 0 (mxI ((vlo w) 0) ((vlo u) 0))) 1 (mxI ((vlo w) 1) ((vlo u) 1))) 2 (mxI ((vlo w) 2) ((vlo u) 2))))) ova = some (aJ G (wsz w) ovf) := (mU_n (g_nef hO.2.2.2.1 fla)).trans m_315
        have m_333 : (mU (mU (mU (mU (mU M1 la (aI G 3 (upd (vlo w) 0 (mxI ((vlo w) 0) ((vlo u) 0))))) ha (aI G 3 (upd (vhi w) 0 (mnI ((vhi w) 0) ((vhi u) 0))))) la (aI G 3 (upd (upd (vlo w) 0 (mxI ((vlo w) 0) ((vlo u) 0))) 1 (mxI ((vlo w) 1) ((vlo u) 1))))) ha (aI G 3 (upd (upd (vhi w) 0 (mnI ((vhi w) 0) ((vhi u) 0))) 1 (mnI ((vhi w) 1) ((vhi u) 1))))) la (aI G 3 (upd (upd (upd (vlo w) 0 (mxI ((vlo w) 0) ((vlo u) 0))) 1 (mxI ((vlo w) 1) ((vlo u) 1))) 2 (mxI ((vlo w) 2) ((vlo u) 2))))) oza = some (aZ G (wsz w) ozf) := (mU_n (g_nef hO.2.2.2.2.1 fla)).trans m_316
        have m_334 : (mU (mU (mU (mU (mU M1 la (aI G 3 (upd (vlo w) 0 (mxI ((vlo w) 0) ((vlo u) 0))))) ha (aI G 3 (upd (vhi w) 0 (mnI ((vhi w) 0) ((vhi u) 0))))) la (aI G 3 (upd (upd (vlo w) 0 (mxI ((vlo w) 0) ((vlo u) 0))) 1 (mxI ((vlo w) 1) ((vlo u) 1))))) ha (aI G 3 (upd (upd (vhi w) 0 (mnI ((vhi w) 0) ((vhi u) 0))) 1 (mnI ((vhi w) 1) ((vhi u) 1))))) la (aI G 3 (upd (upd (upd (vlo w) 0 (mxI ((vlo w) 0) ((vlo u) 0))) 1 (mxI ((vlo w) 1) ((vlo u) 1))) 2 (mxI ((vlo w) 2) ((vlo u) 2))))) s = some (oB 12 [.int (nI (vm u)), .int (nI (vdp u)), .ref sla, .ref sha, .ref sva, .ref sza]) := (mU_n (g_nef hOs.1 fla)).trans m_317
        have m_335 : (mU (mU (mU (mU (mU M1 la (aI G 3 (upd (vlo w) 0 (mxI ((vlo w) 0) ((vlo u) 0))))) ha (aI G 3 (upd (vhi w) 0 (mnI ((vhi w) 0) ((vhi u) 0))))) la (aI G 3 (upd (upd (vlo w) 0 (mxI ((vlo w) 0) ((vlo u) 0))) 1 (mxI ((vlo w) 1) ((vlo u) 1))))) ha (aI G 3 (upd (upd (vhi w) 0 (mnI ((vhi w) 0) ((vhi u) 0))) 1 (mnI ((vhi w) 1) ((vhi u) 1))))) la (aI G 3 (upd (upd (upd (vlo w) 0 (mxI ((vlo w) 0) ((vlo u) 0))) 1 (mxI ((vlo w) 1) ((vlo u) 1))) 2 (mxI ((vlo w) 2) ((vlo u) 2))))) sla = some (aI G 3 (vlo u)) := (mU_n (g_nef hOs.2.1 fla)).trans m_318
        have m_336 : (mU (mU (mU (mU (mU M1 la (aI G 3 (upd (vlo w) 0 (mxI ((vlo w) 0) ((vlo u) 0))))) ha (aI G 3 (upd (vhi w) 0 (mnI ((vhi w) 0) ((vhi u) 0))))) la (aI G 3 (upd (upd (vlo w) 0 (mxI ((vlo w) 0) ((vlo u) 0))) 1 (mxI ((vlo w) 1) ((vlo u) 1))))) ha (aI G 3 (upd (upd (vhi w) 0 (mnI ((vhi w) 0) ((vhi u) 0))) 1 (mnI ((vhi w) 1) ((vhi u) 1))))) la (aI G 3 (upd (upd (upd (vlo w) 0 (mxI ((vlo w) 0) ((vlo u) 0))) 1 (mxI ((vlo w) 1) ((vlo u) 1))) 2 (mxI ((vlo w) 2) ((vlo u) 2))))) sha = some (aI G 3 (vhi u)) := (mU_n (g_nef hOs.2.2.1 fla)).trans m_319
        have m_337 : (mU (mU (mU (mU (mU M1 la (aI G 3 (upd (vlo w) 0 (mxI ((vlo w) 0) ((vlo u) 0))))) ha (aI G 3 (upd (vhi w) 0 (mnI ((vhi w) 0) ((vhi u) 0))))) la (aI G 3 (upd (upd (vlo w) 0 (mxI ((vlo w) 0) ((vlo u) 0))) 1 (mxI ((vlo w) 1) ((vlo u) 1))))) ha (aI G 3 (upd (upd (vhi w) 0 (mnI ((vhi w) 0) ((vhi u) 0))) 1 (mnI ((vhi w) 1) ((vhi u) 1))))) la (aI G 3 (upd (upd (upd (vlo w) 0 (mxI ((vlo w) 0) ((vlo u) 0))) 1 (mxI ((vlo w) 1) ((vlo u) 1))) 2 (mxI ((vlo w) 2) ((vlo u) 2))))) sva = some (aJ G (wsz u) svf) := (mU_n (g_nef hOs.2.2.2.1 fla)).trans m_320
        have m_338 : (mU (mU (mU (mU (mU M1 la (aI G 3 (upd (vlo w) 0 (mxI ((vlo w) 0) ((vlo u) 0))))) ha (aI G 3 (upd (vhi w) 0 (mnI ((vhi w) 0) ((vhi u) 0))))) la (aI G 3 (upd (upd (vlo w) 0 (mxI ((vlo w) 0) ((vlo u) 0))) 1 (mxI ((vlo w) 1) ((vlo u) 1))))) ha (aI G 3 (upd (upd (vhi w) 0 (mnI ((vhi w) 0) ((vhi u) 0))) 1 (mnI ((vhi w) 1) ((vhi u) 1))))) la (aI G 3 (upd (upd (upd (vlo w) 0 (mxI ((vlo w) 0) ((vlo u) 0))) 1 (mxI ((vlo w) 1) ((vlo u) 1))) 2 (mxI ((vlo w) 2) ((vlo u) 2))))) sza = some (aZ G (wsz u) szf) := (mU_n (g_nef hOs.2.2.2.2.1 fla)).trans m_321
        have m_339 : (mU (mU (mU (mU (mU M1 la (aI G 3 (upd (vlo w) 0 (mxI ((vlo w) 0) ((vlo u) 0))))) ha (aI G 3 (upd (vhi w) 0 (mnI ((vhi w) 0) ((vhi u) 0))))) la (aI G 3 (upd (upd (vlo w) 0 (mxI ((vlo w) 0) ((vlo u) 0))) 1 (mxI ((vlo w) 1) ((vlo u) 1))))) ha (aI G 3 (upd (upd (vhi w) 0 (mnI ((vhi w) 0) ((vhi u) 0))) 1 (mnI ((vhi w) 1) ((vhi u) 1))))) la (aI G 3 (upd (upd (upd (vlo w) 0 (mxI ((vlo w) 0) ((vlo u) 0))) 1 (mxI ((vlo w) 1) ((vlo u) 1))) 2 (mxI ((vlo w) 2) ((vlo u) 2))))) plA = some (aI G 3 pl0) := (mU_n (g_nef hpl0 fla)).trans m_322
        have m_340 : (mU (mU (mU (mU (mU M1 la (aI G 3 (upd (vlo w) 0 (mxI ((vlo w) 0) ((vlo u) 0))))) ha (aI G 3 (upd (vhi w) 0 (mnI ((vhi w) 0) ((vhi u) 0))))) la (aI G 3 (upd (upd (vlo w) 0 (mxI ((vlo w) 0) ((vlo u) 0))) 1 (mxI ((vlo w) 1) ((vlo u) 1))))) ha (aI G 3 (upd (upd (vhi w) 0 (mnI ((vhi w) 0) ((vhi u) 0))) 1 (mnI ((vhi w) 1) ((vhi u) 1))))) la (aI G 3 (upd (upd (upd (vlo w) 0 (mxI ((vlo w) 0) ((vlo u) 0))) 1 (mxI ((vlo w) 1) ((vlo u) 1))) 2 (mxI ((vlo w) 2) ((vlo u) 2))))) q = some (oB 12 [.int (nI (vm w)), .int (nI (max (vdp w) (vdp u) + 1)), .ref la, .ref ha, .null, .null]) := (mU_n (Ne.symm (llq))).trans m_323
        have m_341 : (mU (mU (mU (mU (mU M1 la (aI G 3 (upd (vlo w) 0 (mxI ((vlo w) 0) ((vlo u) 0))))) ha (aI G 3 (upd (vhi w) 0 (mnI ((vhi w) 0) ((vhi u) 0))))) la (aI G 3 (upd (upd (vlo w) 0 (mxI ((vlo w) 0) ((vlo u) 0))) 1 (mxI ((vlo w) 1) ((vlo u) 1))))) ha (aI G 3 (upd (upd (vhi w) 0 (mnI ((vhi w) 0) ((vhi u) 0))) 1 (mnI ((vhi w) 1) ((vhi u) 1))))) la (aI G 3 (upd (upd (upd (vlo w) 0 (mxI ((vlo w) 0) ((vlo u) 0))) 1 (mxI ((vlo w) 1) ((vlo u) 1))) 2 (mxI ((vlo w) 2) ((vlo u) 2))))) la = some (aI G 3 (upd (upd (upd (vlo w) 0 (mxI ((vlo w) 0) ((vlo u) 0))) 1 (mxI ((vlo w) 1) ((vlo u) 1))) 2 (mxI ((vlo w) 2) ((vlo u) 2)))) := mU_s
        have m_342 : (mU (mU (mU (mU (mU M1 la (aI G 3 (upd (vlo w) 0 (mxI ((vlo w) 0) ((vlo u) 0))))) ha (aI G 3 (upd (vhi w) 0 (mnI ((vhi w) 0) ((vhi u) 0))))) la (aI G 3 (upd (upd (vlo w) 0 (mxI ((vlo w) 0) ((vlo u) 0))) 1 (mxI ((vlo w) 1) ((vlo u) 1))))) ha (aI G 3 (upd (upd (vhi w) 0 (mnI ((vhi w) 0) ((vhi u) 0))) 1 (mnI ((vhi w) 1) ((vhi u) 1))))) la (aI G 3 (upd (upd (upd (vlo w) 0 (mxI ((vlo w) 0) ((vlo u) 0))) 1 (mxI ((vlo w) 1) ((vlo u) 1))) 2 (mxI ((vlo w) 2) ((vlo u) 2))))) ha = some (aI G 3 (upd (upd (vhi w) 0 (mnI ((vhi w) 0) ((vhi u) 0))) 1 (mnI ((vhi w) 1) ((vhi u) 1)))) := (mU_n (Ne.symm (llh))).trans m_325
        refine q_aload X dX13_join_147 2 rfl ?_
        refine q_get X m_340 rfl in_RX12 3 (by decide) tw_1161 rfl rfl dX13_join_149 ?_
        refine q_iload X dX13_join_152 0 rfl ?_
        refine q_aload X dX13_join_154 4 rfl ?_
        refine q_get X m_329 rfl in_RX12 3 (by decide) tw_1161 rfl rfl dX13_join_156 ?_
        refine q_iload X dX13_join_159 0 rfl ?_
        refine q_ialdN X 2 m_331 (rfl) (by decide) (by decide) dX13_join_161 ?_
        refine q_aload X dX13_join_162 3 rfl ?_
        refine q_get X m_334 rfl in_RX12 3 (by decide) tw_1161 rfl rfl dX13_join_164 ?_
        refine q_iload X dX13_join_167 0 rfl ?_
        refine q_ialdN X 2 m_336 (rfl) (by decide) (by decide) dX13_join_169 ?_
        refine q_callSp X (c_J9_min_7cf53) Y_J9_min_7cf53 tw_1321 tw_239 (by omega) rfl rfl (Nat.le_of_ble_eq_true rfl) dX13_join_170 ?_
        refine q_iastN X 2 m_342 (rfl) (by decide) (by decide) dX13_join_173 ?_
        have m_343 : (mU (mU (mU (mU (mU (mU M1 la (aI G 3 (upd (vlo w) 0 (mxI ((vlo w) 0) ((vlo u) 0))))) ha (aI G 3 (upd (vhi w) 0 (mnI ((vhi w) 0) ((vhi u) 0))))) la (aI G 3 (upd (upd (vlo w) 0 (mxI ((vlo w) 0) ((vlo u) 0))) 1 (mxI ((vlo w) 1) ((vlo u) 1))))) ha (aI G 3 (upd (upd (vhi w) 0 (mnI ((vhi w) 0) ((vhi u) 0))) 1 (mnI ((vhi w) 1) ((vhi u) 1))))) la (aI G 3 (upd (upd (upd (vlo w) 0 (mxI ((vlo w) 0) ((vlo u) 0))) 1 (mxI ((vlo w) 1) ((vlo u) 1))) 2 (mxI ((vlo w) 2) ((vlo u) 2))))) ha (aI G 3 (upd (upd (upd (vhi w) 0 (mnI ((vhi w) 0) ((vhi u) 0))) 1 (mnI ((vhi w) 1) ((vhi u) 1))) 2 (mnI ((vhi w) 2) ((vhi u) 2))))) r = some (oB 13 [.int 0, .ref vA, .ref nA, .ref pA, .ref plA, .ref dg, .int (nI (aV σ).length), .int (nI (aN σ).length), .int (nI (aOf σ)), .int (nI (aBg σ)), .int tk, .long su, .long le, .long gr]) := (mU_n (g_nef hB.1 fha)).trans m_327
        have m_344 : (mU (mU (mU (mU (mU (mU M1 la (aI G 3 (upd (vlo w) 0 (mxI ((vlo w) 0) ((vlo u) 0))))) ha (aI G 3 (upd (vhi w) 0 (mnI ((vhi w) 0) ((vhi u) 0))))) la (aI G 3 (upd (upd (vlo w) 0 (mxI ((vlo w) 0) ((vlo u) 0))) 1 (mxI ((vlo w) 1) ((vlo u) 1))))) ha (aI G 3 (upd (upd (vhi w) 0 (mnI ((vhi w) 0) ((vhi u) 0))) 1 (mnI ((vhi w) 1) ((vhi u) 1))))) la (aI G 3 (upd (upd (upd (vlo w) 0 (mxI ((vlo w) 0) ((vlo u) 0))) 1 (mxI ((vlo w) 1) ((vlo u) 1))) 2 (mxI ((vlo w) 2) ((vlo u) 2))))) ha (aI G 3 (upd (upd (upd (vhi w) 0 (mnI ((vhi w) 0) ((vhi u) 0))) 1 (mnI ((vhi w) 1) ((vhi u) 1))) 2 (mnI ((vhi w) 2) ((vhi u) 2))))) nA = some (aG G 150 nf) := (mU_n (g_nef hB.2.2.1 fha)).trans m_328
        have m_345 : (mU (mU (mU (mU (mU (mU M1 la (aI G 3 (upd (vlo w) 0 (mxI ((vlo w) 0) ((vlo u) 0))))) ha (aI G 3 (upd (vhi w) 0 (mnI ((vhi w) 0) ((vhi u) 0))))) la (aI G 3 (upd (upd (vlo w) 0 (mxI ((vlo w) 0) ((vlo u) 0))) 1 (mxI ((vlo w) 1) ((vlo u) 1))))) ha (aI G 3 (upd (upd (vhi w) 0 (mnI ((vhi w) 0) ((vhi u) 0))) 1 (mnI ((vhi w) 1) ((vhi u) 1))))) la (aI G 3 (upd (upd (upd (vlo w) 0 (mxI ((vlo w) 0) ((vlo u) 0))) 1 (mxI ((vlo w) 1) ((vlo u) 1))) 2 (mxI ((vlo w) 2) ((vlo u) 2))))) ha (aI G 3 (upd (upd (upd (vhi w) 0 (mnI ((vhi w) 0) ((vhi u) 0))) 1 (mnI ((vhi w) 1) ((vhi u) 1))) 2 (mnI ((vhi w) 2) ((vhi u) 2))))) o = some (oB 12 [.int (nI (vm w)), .int (nI (vdp w)), .ref ola, .ref oha, .ref ova, .ref oza]) := (mU_n (g_nef hO.1 fha)).trans m_329
        have m_346 : (mU (mU (mU (mU (mU (mU M1 la (aI G 3 (upd (vlo w) 0 (mxI ((vlo w) 0) ((vlo u) 0))))) ha (aI G 3 (upd (vhi w) 0 (mnI ((vhi w) 0) ((vhi u) 0))))) la (aI G 3 (upd (upd (vlo w) 0 (mxI ((vlo w) 0) ((vlo u) 0))) 1 (mxI ((vlo w) 1) ((vlo u) 1))))) ha (aI G 3 (upd (upd (vhi w) 0 (mnI ((vhi w) 0) ((vhi u) 0))) 1 (mnI ((vhi w) 1) ((vhi u) 1))))) la (aI G 3 (upd (upd (upd (vlo w) 0 (mxI ((vlo w) 0) ((vlo u) 0))) 1 (mxI ((vlo w) 1) ((vlo u) 1))) 2 (mxI ((vlo w) 2) ((vlo u) 2))))) ha (aI G 3 (upd (upd (upd (vhi w) 0 (mnI ((vhi w) 0) ((vhi u) 0))) 1 (mnI ((vhi w) 1) ((vhi u) 1))) 2 (mnI ((vhi w) 2) ((vhi u) 2))))) ola = some (aI G 3 (vlo w)) := (mU_n (g_nef hO.2.1 fha)).trans m_330
        have m_347 : (mU (mU (mU (mU (mU (mU M1 la (aI G 3 (upd (vlo w) 0 (mxI ((vlo w) 0) ((vlo u) 0))))) ha (aI G 3 (upd (vhi w) 0 (mnI ((vhi w) 0) ((vhi u) 0))))) la (aI G 3 (upd (upd (vlo w) 0 (mxI ((vlo w) 0) ((vlo u) 0))) 1 (mxI ((vlo w) 1) ((vlo u) 1))))) ha (aI G 3 (upd (upd (vhi w) 0 (mnI ((vhi w) 0) ((vhi u) 0))) 1 (mnI ((vhi w) 1) ((vhi u) 1))))) la (aI G 3 (upd (upd (upd (vlo w) 0 (mxI ((vlo w) 0) ((vlo u) 0))) 1 (mxI ((vlo w) 1) ((vlo u) 1))) 2 (mxI ((vlo w) 2) ((vlo u) 2))))) ha (aI G 3 (upd (upd (upd (vhi w) 0 (mnI ((vhi w) 0) ((vhi u) 0))) 1 (mnI ((vhi w) 1) ((vhi u) 1))) 2 (mnI ((vhi w) 2) ((vhi u) 2))))) oha = some (aI G 3 (vhi w)) := (mU_n (g_nef hO.2.2.1 fha)).trans m_331
        have m_348 : (mU (mU (mU (mU (mU (mU M1 la (aI G 3 (upd (vlo w) 0 (mxI ((vlo w) 0) ((vlo u) 0))))) ha (aI G 3 (upd (vhi w) 0 (mnI ((vhi w) 0) ((vhi u) 0))))) la (aI G 3 (upd (upd (vlo w) 0 (mxI ((vlo w) 0) ((vlo u) 0))) 1 (mxI ((vlo w) 1) ((vlo u) 1))))) ha (aI G 3 (upd (upd (vhi w) 0 (mnI ((vhi w) 0) ((vhi u) 0))) 1 (mnI ((vhi w) 1) ((vhi u) 1))))) la (aI G 3 (upd (upd (upd (vlo w) 0 (mxI ((vlo w) 0) ((vlo u) 0))) 1 (mxI ((vlo w) 1) ((vlo u) 1))) 2 (mxI ((vlo w) 2) ((vlo u) 2))))) ha (aI G 3 (upd (upd (upd (vhi w) 0 (mnI ((vhi w) 0) ((vhi u) 0))) 1 (mnI ((vhi w) 1) ((vhi u) 1))) 2 (mnI ((vhi w) 2) ((vhi u) 2))))) ova = some (aJ G (wsz w) ovf) := (mU_n (g_nef hO.2.2.2.1 fha)).trans m_332
        have m_349 : (mU (mU (mU (mU (mU (mU M1 la (aI G 3 (upd (vlo w) 0 (mxI ((vlo w) 0) ((vlo u) 0))))) ha (aI G 3 (upd (vhi w) 0 (mnI ((vhi w) 0) ((vhi u) 0))))) la (aI G 3 (upd (upd (vlo w) 0 (mxI ((vlo w) 0) ((vlo u) 0))) 1 (mxI ((vlo w) 1) ((vlo u) 1))))) ha (aI G 3 (upd (upd (vhi w) 0 (mnI ((vhi w) 0) ((vhi u) 0))) 1 (mnI ((vhi w) 1) ((vhi u) 1))))) la (aI G 3 (upd (upd (upd (vlo w) 0 (mxI ((vlo w) 0) ((vlo u) 0))) 1 (mxI ((vlo w) 1) ((vlo u) 1))) 2 (mxI ((vlo w) 2) ((vlo u) 2))))) ha (aI G 3 (upd (upd (upd (vhi w) 0 (mnI ((vhi w) 0) ((vhi u) 0))) 1 (mnI ((vhi w) 1) ((vhi u) 1))) 2 (mnI ((vhi w) 2) ((vhi u) 2))))) oza = some (aZ G (wsz w) ozf) := (mU_n (g_nef hO.2.2.2.2.1 fha)).trans m_333
        have m_350 : (mU (mU (mU (mU (mU (mU M1 la (aI G 3 (upd (vlo w) 0 (mxI ((vlo w) 0) ((vlo u) 0))))) ha (aI G 3 (upd (vhi w) 0 (mnI ((vhi w) 0) ((vhi u) 0))))) la (aI G 3 (upd (upd (vlo w) 0 (mxI ((vlo w) 0) ((vlo u) 0))) 1 (mxI ((vlo w) 1) ((vlo u) 1))))) ha (aI G 3 (upd (upd (vhi w) 0 (mnI ((vhi w) 0) ((vhi u) 0))) 1 (mnI ((vhi w) 1) ((vhi u) 1))))) la (aI G 3 (upd (upd (upd (vlo w) 0 (mxI ((vlo w) 0) ((vlo u) 0))) 1 (mxI ((vlo w) 1) ((vlo u) 1))) 2 (mxI ((vlo w) 2) ((vlo u) 2))))) ha (aI G 3 (upd (upd (upd (vhi w) 0 (mnI ((vhi w) 0) ((vhi u) 0))) 1 (mnI ((vhi w) 1) ((vhi u) 1))) 2 (mnI ((vhi w) 2) ((vhi u) 2))))) s = some (oB 12 [.int (nI (vm u)), .int (nI (vdp u)), .ref sla, .ref sha, .ref sva, .ref sza]) := (mU_n (g_nef hOs.1 fha)).trans m_334
        have m_351 : (mU (mU (mU (mU (mU (mU M1 la (aI G 3 (upd (vlo w) 0 (mxI ((vlo w) 0) ((vlo u) 0))))) ha (aI G 3 (upd (vhi w) 0 (mnI ((vhi w) 0) ((vhi u) 0))))) la (aI G 3 (upd (upd (vlo w) 0 (mxI ((vlo w) 0) ((vlo u) 0))) 1 (mxI ((vlo w) 1) ((vlo u) 1))))) ha (aI G 3 (upd (upd (vhi w) 0 (mnI ((vhi w) 0) ((vhi u) 0))) 1 (mnI ((vhi w) 1) ((vhi u) 1))))) la (aI G 3 (upd (upd (upd (vlo w) 0 (mxI ((vlo w) 0) ((vlo u) 0))) 1 (mxI ((vlo w) 1) ((vlo u) 1))) 2 (mxI ((vlo w) 2) ((vlo u) 2))))) ha (aI G 3 (upd (upd (upd (vhi w) 0 (mnI ((vhi w) 0) ((vhi u) 0))) 1 (mnI ((vhi w) 1) ((vhi u) 1))) 2 (mnI ((vhi w) 2) ((vhi u) 2))))) sla = some (aI G 3 (vlo u)) := (mU_n (g_nef hOs.2.1 fha)).trans m_335
        have m_352 : (mU (mU (mU (mU (mU (mU M1 la (aI G 3 (upd (vlo w) 0 (mxI ((vlo w) 0) ((vlo u) 0))))) ha (aI G 3 (upd (vhi w) 0 (mnI ((vhi w) 0) ((vhi u) 0))))) la (aI G 3 (upd (upd (vlo w) 0 (mxI ((vlo w) 0) ((vlo u) 0))) 1 (mxI ((vlo w) 1) ((vlo u) 1))))) ha (aI G 3 (upd (upd (vhi w) 0 (mnI ((vhi w) 0) ((vhi u) 0))) 1 (mnI ((vhi w) 1) ((vhi u) 1))))) la (aI G 3 (upd (upd (upd (vlo w) 0 (mxI ((vlo w) 0) ((vlo u) 0))) 1 (mxI ((vlo w) 1) ((vlo u) 1))) 2 (mxI ((vlo w) 2) ((vlo u) 2))))) ha (aI G 3 (upd (upd (upd (vhi w) 0 (mnI ((vhi w) 0) ((vhi u) 0))) 1 (mnI ((vhi w) 1) ((vhi u) 1))) 2 (mnI ((vhi w) 2) ((vhi u) 2))))) sha = some (aI G 3 (vhi u)) := (mU_n (g_nef hOs.2.2.1 fha)).trans m_336
        have m_353 : (mU (mU (mU (mU (mU (mU M1 la (aI G 3 (upd (vlo w) 0 (mxI ((vlo w) 0) ((vlo u) 0))))) ha (aI G 3 (upd (vhi w) 0 (mnI ((vhi w) 0) ((vhi u) 0))))) la (aI G 3 (upd (upd (vlo w) 0 (mxI ((vlo w) 0) ((vlo u) 0))) 1 (mxI ((vlo w) 1) ((vlo u) 1))))) ha (aI G 3 (upd (upd (vhi w) 0 (mnI ((vhi w) 0) ((vhi u) 0))) 1 (mnI ((vhi w) 1) ((vhi u) 1))))) la (aI G 3 (upd (upd (upd (vlo w) 0 (mxI ((vlo w) 0) ((vlo u) 0))) 1 (mxI ((vlo w) 1) ((vlo u) 1))) 2 (mxI ((vlo w) 2) ((vlo u) 2))))) ha (aI G 3 (upd (upd (upd (vhi w) 0 (mnI ((vhi w) 0) ((vhi u) 0))) 1 (mnI ((vhi w) 1) ((vhi u) 1))) 2 (mnI ((vhi w) 2) ((vhi u) 2))))) sva = some (aJ G (wsz u) svf) := (mU_n (g_nef hOs.2.2.2.1 fha)).trans m_337
        have m_354 : (mU (mU (mU (mU (mU (mU M1 la (aI G 3 (upd (vlo w) 0 (mxI ((vlo w) 0) ((vlo u) 0))))) ha (aI G 3 (upd (vhi w) 0 (mnI ((vhi w) 0) ((vhi u) 0))))) la (aI G 3 (upd (upd (vlo w) 0 (mxI ((vlo w) 0) ((vlo u) 0))) 1 (mxI ((vlo w) 1) ((vlo u) 1))))) ha (aI G 3 (upd (upd (vhi w) 0 (mnI ((vhi w) 0) ((vhi u) 0))) 1 (mnI ((vhi w) 1) ((vhi u) 1))))) la (aI G 3 (upd (upd (upd (vlo w) 0 (mxI ((vlo w) 0) ((vlo u) 0))) 1 (mxI ((vlo w) 1) ((vlo u) 1))) 2 (mxI ((vlo w) 2) ((vlo u) 2))))) ha (aI G 3 (upd (upd (upd (vhi w) 0 (mnI ((vhi w) 0) ((vhi u) 0))) 1 (mnI ((vhi w) 1) ((vhi u) 1))) 2 (mnI ((vhi w) 2) ((vhi u) 2))))) sza = some (aZ G (wsz u) szf) := (mU_n (g_nef hOs.2.2.2.2.1 fha)).trans m_338
        have m_355 : (mU (mU (mU (mU (mU (mU M1 la (aI G 3 (upd (vlo w) 0 (mxI ((vlo w) 0) ((vlo u) 0))))) ha (aI G 3 (upd (vhi w) 0 (mnI ((vhi w) 0) ((vhi u) 0))))) la (aI G 3 (upd (upd (vlo w) 0 (mxI ((vlo w) 0) ((vlo u) 0))) 1 (mxI ((vlo w) 1) ((vlo u) 1))))) ha (aI G 3 (upd (upd (vhi w) 0 (mnI ((vhi w) 0) ((vhi u) 0))) 1 (mnI ((vhi w) 1) ((vhi u) 1))))) la (aI G 3 (upd (upd (upd (vlo w) 0 (mxI ((vlo w) 0) ((vlo u) 0))) 1 (mxI ((vlo w) 1) ((vlo u) 1))) 2 (mxI ((vlo w) 2) ((vlo u) 2))))) ha (aI G 3 (upd (upd (upd (vhi w) 0 (mnI ((vhi w) 0) ((vhi u) 0))) 1 (mnI ((vhi w) 1) ((vhi u) 1))) 2 (mnI ((vhi w) 2) ((vhi u) 2))))) plA = some (aI G 3 pl0) := (mU_n (g_nef hpl0 fha)).trans m_339
        have m_356 : (mU (mU (mU (mU (mU (mU M1 la (aI G 3 (upd (vlo w) 0 (mxI ((vlo w) 0) ((vlo u) 0))))) ha (aI G 3 (upd (vhi w) 0 (mnI ((vhi w) 0) ((vhi u) 0))))) la (aI G 3 (upd (upd (vlo w) 0 (mxI ((vlo w) 0) ((vlo u) 0))) 1 (mxI ((vlo w) 1) ((vlo u) 1))))) ha (aI G 3 (upd (upd (vhi w) 0 (mnI ((vhi w) 0) ((vhi u) 0))) 1 (mnI ((vhi w) 1) ((vhi u) 1))))) la (aI G 3 (upd (upd (upd (vlo w) 0 (mxI ((vlo w) 0) ((vlo u) 0))) 1 (mxI ((vlo w) 1) ((vlo u) 1))) 2 (mxI ((vlo w) 2) ((vlo u) 2))))) ha (aI G 3 (upd (upd (upd (vhi w) 0 (mnI ((vhi w) 0) ((vhi u) 0))) 1 (mnI ((vhi w) 1) ((vhi u) 1))) 2 (mnI ((vhi w) 2) ((vhi u) 2))))) q = some (oB 12 [.int (nI (vm w)), .int (nI (max (vdp w) (vdp u) + 1)), .ref la, .ref ha, .null, .null]) := (mU_n (Ne.symm (lhq))).trans m_340
        have m_357 : (mU (mU (mU (mU (mU (mU M1 la (aI G 3 (upd (vlo w) 0 (mxI ((vlo w) 0) ((vlo u) 0))))) ha (aI G 3 (upd (vhi w) 0 (mnI ((vhi w) 0) ((vhi u) 0))))) la (aI G 3 (upd (upd (vlo w) 0 (mxI ((vlo w) 0) ((vlo u) 0))) 1 (mxI ((vlo w) 1) ((vlo u) 1))))) ha (aI G 3 (upd (upd (vhi w) 0 (mnI ((vhi w) 0) ((vhi u) 0))) 1 (mnI ((vhi w) 1) ((vhi u) 1))))) la (aI G 3 (upd (upd (upd (vlo w) 0 (mxI ((vlo w) 0) ((vlo u) 0))) 1 (mxI ((vlo w) 1) ((vlo u) 1))) 2 (mxI ((vlo w) 2) ((vlo u) 2))))) ha (aI G 3 (upd (upd (upd (vhi w) 0 (mnI ((vhi w) 0) ((vhi u) 0))) 1 (mnI ((vhi w) 1) ((vhi u) 1))) 2 (mnI ((vhi w) 2) ((vhi u) 2))))) la = some (aI G 3 (upd (upd (upd (vlo w) 0 (mxI ((vlo w) 0) ((vlo u) 0))) 1 (mxI ((vlo w) 1) ((vlo u) 1))) 2 (mxI ((vlo w) 2) ((vlo u) 2)))) := (mU_n (llh)).trans m_341
        have m_358 : (mU (mU (mU (mU (mU (mU M1 la (aI G 3 (upd (vlo w) 0 (mxI ((vlo w) 0) ((vlo u) 0))))) ha (aI G 3 (upd (vhi w) 0 (mnI ((vhi w) 0) ((vhi u) 0))))) la (aI G 3 (upd (upd (vlo w) 0 (mxI ((vlo w) 0) ((vlo u) 0))) 1 (mxI ((vlo w) 1) ((vlo u) 1))))) ha (aI G 3 (upd (upd (vhi w) 0 (mnI ((vhi w) 0) ((vhi u) 0))) 1 (mnI ((vhi w) 1) ((vhi u) 1))))) la (aI G 3 (upd (upd (upd (vlo w) 0 (mxI ((vlo w) 0) ((vlo u) 0))) 1 (mxI ((vlo w) 1) ((vlo u) 1))) 2 (mxI ((vlo w) 2) ((vlo u) 2))))) ha (aI G 3 (upd (upd (upd (vhi w) 0 (mnI ((vhi w) 0) ((vhi u) 0))) 1 (mnI ((vhi w) 1) ((vhi u) 1))) 2 (mnI ((vhi w) 2) ((vhi u) 2))))) ha = some (aI G 3 (upd (upd (upd (vhi w) 0 (mnI ((vhi w) 0) ((vhi u) 0))) 1 (mnI ((vhi w) 1) ((vhi u) 1))) 2 (mnI ((vhi w) 2) ((vhi u) 2)))) := mU_s
        refine q_aload X dX13_join_174 2 rfl ?_
        refine q_get X m_356 rfl in_RX12 2 (by decide) tw_1159 rfl rfl dX13_join_176 ?_
        refine q_iload X dX13_join_179 0 rfl ?_
        refine q_ialdN X 2 m_357 (rfl) (by decide) (by decide) dX13_join_181 ?_
        refine q_aload X dX13_join_182 2 rfl ?_
        refine q_get X m_356 rfl in_RX12 3 (by decide) tw_1161 rfl rfl dX13_join_184 ?_
        refine q_iload X dX13_join_187 0 rfl ?_
        refine q_ialdN X 2 m_358 (rfl) (by decide) (by decide) dX13_join_189 ?_
        show qJ G F _ 18 (mU (mU (mU (mU (mU (mU M1 la (aI G 3 (upd (vlo w) 0 (mxI ((vlo w) 0) ((vlo u) 0))))) ha (aI G 3 (upd (vhi w) 0 (mnI ((vhi w) 0) ((vhi u) 0))))) la (aI G 3 (upd (upd (vlo w) 0 (mxI ((vlo w) 0) ((vlo u) 0))) 1 (mxI ((vlo w) 1) ((vlo u) 1))))) ha (aI G 3 (upd (upd (vhi w) 0 (mnI ((vhi w) 0) ((vhi u) 0))) 1 (mnI ((vhi w) 1) ((vhi u) 1))))) la (aI G 3 (upd (upd (upd (vlo w) 0 (mxI ((vlo w) 0) ((vlo u) 0))) 1 (mxI ((vlo w) 1) ((vlo u) 1))) 2 (mxI ((vlo w) 2) ((vlo u) 2))))) ha (aI G 3 (upd (upd (upd (vhi w) 0 (mnI ((vhi w) 0) ((vhi u) 0))) 1 (mnI ((vhi w) 1) ((vhi u) 1))) 2 (mnI ((vhi w) 2) ((vhi u) 2))))) 2 4096 190 [(8, .int 2), (7, .int 0), (6, .ref q), (5, .ref s), (4, .ref o), (0, .ref r), (1, .int (nI i)), (2, .int (nI i2)), (3, .int op)] [.int (mnI (vhi w 2) (vhi u 2)), .int (mxI (vlo w 2) (vlo u 2))]
        refine q_icmp_le X 196 dX13_join_190 (by decide) (fun mm2 => ?_) (fun mm2 => ?_)
        · refine q_iinc (v := 3) (lv' := [(8, .int 3), (7, .int 0), (6, .ref q), (5, .ref s), (4, .ref o), (0, .ref r), (1, .int (nI i)), (2, .int (nI i2)), (3, .int op)]) X dX13_join_196 0 rfl (by decide) (by decide) rfl ?_
          refine q_goto X 114 dX13_join_199 (by decide) ?_
          refine q_iload X dX13_join_114 0 rfl ?_
          refine q_iconst (v := 3) X dX13_join_116 (by decide) ?_
          refine q_icmp_ge X 202 dX13_join_117 (by decide) (fun c_359 => ?_) (fun c_359 => absurd (by decide) c_359)
          have evM2 : mEv (fun x => x = r ∨ x = plA) M (mU (mU (mU (mU (mU (mU M1 la (aI G 3 (upd (vlo w) 0 (mxI ((vlo w) 0) ((vlo u) 0))))) ha (aI G 3 (upd (vhi w) 0 (mnI ((vhi w) 0) ((vhi u) 0))))) la (aI G 3 (upd (upd (vlo w) 0 (mxI ((vlo w) 0) ((vlo u) 0))) 1 (mxI ((vlo w) 1) ((vlo u) 1))))) ha (aI G 3 (upd (upd (vhi w) 0 (mnI ((vhi w) 0) ((vhi u) 0))) 1 (mnI ((vhi w) 1) ((vhi u) 1))))) la (aI G 3 (upd (upd (upd (vlo w) 0 (mxI ((vlo w) 0) ((vlo u) 0))) 1 (mxI ((vlo w) 1) ((vlo u) 1))) 2 (mxI ((vlo w) 2) ((vlo u) 2))))) ha (aI G 3 (upd (upd (upd (vhi w) 0 (mnI ((vhi w) 0) ((vhi u) 0))) 1 (mnI ((vhi w) 1) ((vhi u) 1))) 2 (mnI ((vhi w) 2) ((vhi u) 2))))) := fun x hx => by
            have wla : x ≠ la := fun z => hx (z ▸ fla)
            have wha : x ≠ ha := fun z => hx (z ▸ fha)
            have e1 := evK1 x hx
            have e : (mU (mU (mU (mU (mU (mU M1 la (aI G 3 (upd (vlo w) 0 (mxI ((vlo w) 0) ((vlo u) 0))))) ha (aI G 3 (upd (vhi w) 0 (mnI ((vhi w) 0) ((vhi u) 0))))) la (aI G 3 (upd (upd (vlo w) 0 (mxI ((vlo w) 0) ((vlo u) 0))) 1 (mxI ((vlo w) 1) ((vlo u) 1))))) ha (aI G 3 (upd (upd (vhi w) 0 (mnI ((vhi w) 0) ((vhi u) 0))) 1 (mnI ((vhi w) 1) ((vhi u) 1))))) la (aI G 3 (upd (upd (upd (vlo w) 0 (mxI ((vlo w) 0) ((vlo u) 0))) 1 (mxI ((vlo w) 1) ((vlo u) 1))) 2 (mxI ((vlo w) 2) ((vlo u) 2))))) ha (aI G 3 (upd (upd (upd (vhi w) 0 (mnI ((vhi w) 0) ((vhi u) 0))) 1 (mnI ((vhi w) 1) ((vhi u) 1))) 2 (mnI ((vhi w) 2) ((vhi u) 2))))) x = M1 x := by simp only [mU, wla, wha, if_false]
            exact ⟨by rw [e]; exact e1.1, fun k => e.trans (e1.2 k)⟩
          generalize mU (mU (mU (mU (mU (mU M1 la (aI G 3 (upd (vlo w) 0 (mxI ((vlo w) 0) ((vlo u) 0))))) ha (aI G 3 (upd (vhi w) 0 (mnI ((vhi w) 0) ((vhi u) 0))))) la (aI G 3 (upd (upd (vlo w) 0 (mxI ((vlo w) 0) ((vlo u) 0))) 1 (mxI ((vlo w) 1) ((vlo u) 1))))) ha (aI G 3 (upd (upd (vhi w) 0 (mnI ((vhi w) 0) ((vhi u) 0))) 1 (mnI ((vhi w) 1) ((vhi u) 1))))) la (aI G 3 (upd (upd (upd (vlo w) 0 (mxI ((vlo w) 0) ((vlo u) 0))) 1 (mxI ((vlo w) 1) ((vlo u) 1))) 2 (mxI ((vlo w) 2) ((vlo u) 2))))) ha (aI G 3 (upd (upd (upd (vhi w) 0 (mnI ((vhi w) 0) ((vhi u) 0))) 1 (mnI ((vhi w) 1) ((vhi u) 1))) 2 (mnI ((vhi w) 2) ((vhi u) 2)))) = M2 at *
          have hBJ : rfB G M2 r 0 σ vA nA pA plA dg dla dha dva dza dvf dzf vf nf pf tk su le gr := hB.ev2 evM2 m_343 ⟨_, m_355⟩
          refine q_aload_n X dX13_join_202 5 rfl ?_
          refine q_iload X dX13_join_203 1 rfl ?_
          refine q_if_ne X 212 dX13_join_205 (by decide) (fun c_360 => absurd (by decide) c_360) (fun c_360 => ?_)
          refine q_iconst (v := 1) X dX13_join_208 (by decide) ?_
          refine q_goto X 213 dX13_join_209 (by decide) ?_
          refine q_iconst (v := 1) X dX13_join_213 (by decide) ?_
          refine q_callV X (c_fails1 (why := 1) hBJ.1) Y_X13_fails tw_1246 tw_1248 sel_23 m_343 rfl (by omega) rfl rfl (Nat.le_of_ble_eq_true rfl) (rc' := 2) (rs' := 4096) (by omega) (by omega) dX13_join_214 (fun v M' hp _ => ?_)
          obtain ⟨rfl, eM⟩ := hp
          have hB461 : rfB G M' r 1 σ vA nA pA plA dg dla dha dva dza dvf dzf vf nf pf tk su le gr := by rw [eM]; exact hBJ.ro
          clear eM
          generalize M' = M461 at *
          show qJ G F _ 18 M461 2 4096 217 [(8, .int 3), (7, .int 0), (6, .ref q), (5, .ref s), (4, .ref o), (0, .ref r), (1, .int (nI i)), (2, .int (nI i2)), (3, .int op)] [.int 1]
          obtain ⟨z_362r, z_3621, z_3622, z_3623, ⟨z_362x, z_3624⟩, z_3625, z_3626, z_3627, z_3628, z_3629, z_36210⟩ := id hB461
          refine q_if_eq X 222 dX13_join_217 (by decide) (fun c_363 => absurd c_363 (by decide)) (fun c_363 => ?_)
          refine q_iconst (v := 0) X dX13_join_220 (by decide) ?_
          exact q_iret X hr dX13_join_221 (rfP_T (by rw [specE]; exact gNeed_n (jn_no hw.1 hwu.1 (d := 0) (by decide) mm0)) cOp_IA ⟨vA, nA, pA, plA, dg, dla, dha, dva, dza, dvf, dzf, vf, nf, pf, tk, su, le, gr, hB461⟩)
        · refine q_iconst (v := 0) X dX13_join_193 (by decide) ?_
          refine q_istore (lv' := [(7, .int 0), (8, .int 2), (6, .ref q), (5, .ref s), (4, .ref o), (0, .ref r), (1, .int (nI i)), (2, .int (nI i2)), (3, .int op)]) X dX13_join_194 (by decide) rfl ?_
          refine q_iinc (v := 3) (lv' := [(8, .int 3), (7, .int 0), (6, .ref q), (5, .ref s), (4, .ref o), (0, .ref r), (1, .int (nI i)), (2, .int (nI i2)), (3, .int op)]) X dX13_join_196 1 rfl (by decide) (by decide) rfl ?_
          refine q_goto X 114 dX13_join_199 (by decide) ?_
          refine q_iload X dX13_join_114 0 rfl ?_
          refine q_iconst (v := 3) X dX13_join_116 (by decide) ?_
          refine q_icmp_ge X 202 dX13_join_117 (by decide) (fun c_364 => ?_) (fun c_364 => absurd (by decide) c_364)
          have evM2 : mEv (fun x => x = r ∨ x = plA) M (mU (mU (mU (mU (mU (mU M1 la (aI G 3 (upd (vlo w) 0 (mxI ((vlo w) 0) ((vlo u) 0))))) ha (aI G 3 (upd (vhi w) 0 (mnI ((vhi w) 0) ((vhi u) 0))))) la (aI G 3 (upd (upd (vlo w) 0 (mxI ((vlo w) 0) ((vlo u) 0))) 1 (mxI ((vlo w) 1) ((vlo u) 1))))) ha (aI G 3 (upd (upd (vhi w) 0 (mnI ((vhi w) 0) ((vhi u) 0))) 1 (mnI ((vhi w) 1) ((vhi u) 1))))) la (aI G 3 (upd (upd (upd (vlo w) 0 (mxI ((vlo w) 0) ((vlo u) 0))) 1 (mxI ((vlo w) 1) ((vlo u) 1))) 2 (mxI ((vlo w) 2) ((vlo u) 2))))) ha (aI G 3 (upd (upd (upd (vhi w) 0 (mnI ((vhi w) 0) ((vhi u) 0))) 1 (mnI ((vhi w) 1) ((vhi u) 1))) 2 (mnI ((vhi w) 2) ((vhi u) 2))))) := fun x hx => by
            have wla : x ≠ la := fun z => hx (z ▸ fla)
            have wha : x ≠ ha := fun z => hx (z ▸ fha)
            have e1 := evK1 x hx
            have e : (mU (mU (mU (mU (mU (mU M1 la (aI G 3 (upd (vlo w) 0 (mxI ((vlo w) 0) ((vlo u) 0))))) ha (aI G 3 (upd (vhi w) 0 (mnI ((vhi w) 0) ((vhi u) 0))))) la (aI G 3 (upd (upd (vlo w) 0 (mxI ((vlo w) 0) ((vlo u) 0))) 1 (mxI ((vlo w) 1) ((vlo u) 1))))) ha (aI G 3 (upd (upd (vhi w) 0 (mnI ((vhi w) 0) ((vhi u) 0))) 1 (mnI ((vhi w) 1) ((vhi u) 1))))) la (aI G 3 (upd (upd (upd (vlo w) 0 (mxI ((vlo w) 0) ((vlo u) 0))) 1 (mxI ((vlo w) 1) ((vlo u) 1))) 2 (mxI ((vlo w) 2) ((vlo u) 2))))) ha (aI G 3 (upd (upd (upd (vhi w) 0 (mnI ((vhi w) 0) ((vhi u) 0))) 1 (mnI ((vhi w) 1) ((vhi u) 1))) 2 (mnI ((vhi w) 2) ((vhi u) 2))))) x = M1 x := by simp only [mU, wla, wha, if_false]
            exact ⟨by rw [e]; exact e1.1, fun k => e.trans (e1.2 k)⟩
          generalize mU (mU (mU (mU (mU (mU M1 la (aI G 3 (upd (vlo w) 0 (mxI ((vlo w) 0) ((vlo u) 0))))) ha (aI G 3 (upd (vhi w) 0 (mnI ((vhi w) 0) ((vhi u) 0))))) la (aI G 3 (upd (upd (vlo w) 0 (mxI ((vlo w) 0) ((vlo u) 0))) 1 (mxI ((vlo w) 1) ((vlo u) 1))))) ha (aI G 3 (upd (upd (vhi w) 0 (mnI ((vhi w) 0) ((vhi u) 0))) 1 (mnI ((vhi w) 1) ((vhi u) 1))))) la (aI G 3 (upd (upd (upd (vlo w) 0 (mxI ((vlo w) 0) ((vlo u) 0))) 1 (mxI ((vlo w) 1) ((vlo u) 1))) 2 (mxI ((vlo w) 2) ((vlo u) 2))))) ha (aI G 3 (upd (upd (upd (vhi w) 0 (mnI ((vhi w) 0) ((vhi u) 0))) 1 (mnI ((vhi w) 1) ((vhi u) 1))) 2 (mnI ((vhi w) 2) ((vhi u) 2)))) = M2 at *
          have hBJ : rfB G M2 r 0 σ vA nA pA plA dg dla dha dva dza dvf dzf vf nf pf tk su le gr := hB.ev2 evM2 m_343 ⟨_, m_355⟩
          refine q_aload_n X dX13_join_202 5 rfl ?_
          refine q_iload X dX13_join_203 1 rfl ?_
          refine q_if_ne X 212 dX13_join_205 (by decide) (fun c_365 => absurd (by decide) c_365) (fun c_365 => ?_)
          refine q_iconst (v := 1) X dX13_join_208 (by decide) ?_
          refine q_goto X 213 dX13_join_209 (by decide) ?_
          refine q_iconst (v := 1) X dX13_join_213 (by decide) ?_
          refine q_callV X (c_fails1 (why := 1) hBJ.1) Y_X13_fails tw_1246 tw_1248 sel_23 m_343 rfl (by omega) rfl rfl (Nat.le_of_ble_eq_true rfl) (rc' := 2) (rs' := 4096) (by omega) (by omega) dX13_join_214 (fun v M' hp _ => ?_)
          obtain ⟨rfl, eM⟩ := hp
          have hB466 : rfB G M' r 1 σ vA nA pA plA dg dla dha dva dza dvf dzf vf nf pf tk su le gr := by rw [eM]; exact hBJ.ro
          clear eM
          generalize M' = M466 at *
          show qJ G F _ 18 M466 2 4096 217 [(8, .int 3), (7, .int 0), (6, .ref q), (5, .ref s), (4, .ref o), (0, .ref r), (1, .int (nI i)), (2, .int (nI i2)), (3, .int op)] [.int 1]
          obtain ⟨z_367r, z_3671, z_3672, z_3673, ⟨z_367x, z_3674⟩, z_3675, z_3676, z_3677, z_3678, z_3679, z_36710⟩ := id hB466
          refine q_if_eq X 222 dX13_join_217 (by decide) (fun c_368 => absurd c_368 (by decide)) (fun c_368 => ?_)
          refine q_iconst (v := 0) X dX13_join_220 (by decide) ?_
          exact q_iret X hr dX13_join_221 (rfP_T (by rw [specE]; exact gNeed_n (jn_no hw.1 hwu.1 (d := 0) (by decide) mm0)) cOp_IA ⟨vA, nA, pA, plA, dg, dla, dha, dva, dza, dvf, dzf, vf, nf, pf, tk, su, le, gr, hB466⟩)
      · refine q_iconst (v := 0) X dX13_join_193 (by decide) ?_
        refine q_istore (lv' := [(7, .int 0), (8, .int 1), (6, .ref q), (5, .ref s), (4, .ref o), (0, .ref r), (1, .int (nI i)), (2, .int (nI i2)), (3, .int op)]) X dX13_join_194 (by decide) rfl ?_
        refine q_iinc (v := 2) (lv' := [(8, .int 2), (7, .int 0), (6, .ref q), (5, .ref s), (4, .ref o), (0, .ref r), (1, .int (nI i)), (2, .int (nI i2)), (3, .int op)]) X dX13_join_196 1 rfl (by decide) (by decide) rfl ?_
        refine q_goto X 114 dX13_join_199 (by decide) ?_
        refine q_iload X dX13_join_114 0 rfl ?_
        refine q_iconst (v := 3) X dX13_join_116 (by decide) ?_
        refine q_icmp_ge X 202 dX13_join_117 (by decide) (fun c_369 => absurd c_369 (by decide)) (fun c_369 => ?_)
        refine q_aload X dX13_join_120 2 rfl ?_
        refine q_get X m_323 rfl in_RX12 2 (by decide) tw_1159 rfl rfl dX13_join_122 ?_
        refine q_iload X dX13_join_125 0 rfl ?_
        refine q_aload X dX13_join_127 4 rfl ?_
        refine q_get X m_312 rfl in_RX12 2 (by decide) tw_1159 rfl rfl dX13_join_129 ?_
        refine q_iload X dX13_join_132 0 rfl ?_
        refine q_ialdN X 2 m_313 (rfl) (by decide) (by decide) dX13_join_134 ?_
        refine q_aload X dX13_join_135 3 rfl ?_
        refine q_get X m_317 rfl in_RX12 2 (by decide) tw_1159 rfl rfl dX13_join_137 ?_
        refine q_iload X dX13_join_140 0 rfl ?_
        refine q_ialdN X 2 m_318 (rfl) (by decide) (by decide) dX13_join_142 ?_
        refine q_callSp X (c_J9_max_7cf53) Y_J9_max_7cf53 tw_1394 tw_123 (by omega) rfl rfl (Nat.le_of_ble_eq_true rfl) dX13_join_143 ?_
        refine q_iastN X 2 m_324 (rfl) (by decide) (by decide) dX13_join_146 ?_
        have m_370 : (mU (mU (mU (mU (mU M1 la (aI G 3 (upd (vlo w) 0 (mxI ((vlo w) 0) ((vlo u) 0))))) ha (aI G 3 (upd (vhi w) 0 (mnI ((vhi w) 0) ((vhi u) 0))))) la (aI G 3 (upd (upd (vlo w) 0 (mxI ((vlo w) 0) ((vlo u) 0))) 1 (mxI ((vlo w) 1) ((vlo u) 1))))) ha (aI G 3 (upd (upd (vhi w) 0 (mnI ((vhi w) 0) ((vhi u) 0))) 1 (mnI ((vhi w) 1) ((vhi u) 1))))) la (aI G 3 (upd (upd (upd (vlo w) 0 (mxI ((vlo w) 0) ((vlo u) 0))) 1 (mxI ((vlo w) 1) ((vlo u) 1))) 2 (mxI ((vlo w) 2) ((vlo u) 2))))) r = some (oB 13 [.int 0, .ref vA, .ref nA, .ref pA, .ref plA, .ref dg, .int (nI (aV σ).length), .int (nI (aN σ).length), .int (nI (aOf σ)), .int (nI (aBg σ)), .int tk, .long su, .long le, .long gr]) := (mU_n (g_nef hB.1 fla)).trans m_310
        have m_371 : (mU (mU (mU (mU (mU M1 la (aI G 3 (upd (vlo w) 0 (mxI ((vlo w) 0) ((vlo u) 0))))) ha (aI G 3 (upd (vhi w) 0 (mnI ((vhi w) 0) ((vhi u) 0))))) la (aI G 3 (upd (upd (vlo w) 0 (mxI ((vlo w) 0) ((vlo u) 0))) 1 (mxI ((vlo w) 1) ((vlo u) 1))))) ha (aI G 3 (upd (upd (vhi w) 0 (mnI ((vhi w) 0) ((vhi u) 0))) 1 (mnI ((vhi w) 1) ((vhi u) 1))))) la (aI G 3 (upd (upd (upd (vlo w) 0 (mxI ((vlo w) 0) ((vlo u) 0))) 1 (mxI ((vlo w) 1) ((vlo u) 1))) 2 (mxI ((vlo w) 2) ((vlo u) 2))))) nA = some (aG G 150 nf) := (mU_n (g_nef hB.2.2.1 fla)).trans m_311
        have m_372 : (mU (mU (mU (mU (mU M1 la (aI G 3 (upd (vlo w) 0 (mxI ((vlo w) 0) ((vlo u) 0))))) ha (aI G 3 (upd (vhi w) 0 (mnI ((vhi w) 0) ((vhi u) 0))))) la (aI G 3 (upd (upd (vlo w) 0 (mxI ((vlo w) 0) ((vlo u) 0))) 1 (mxI ((vlo w) 1) ((vlo u) 1))))) ha (aI G 3 (upd (upd (vhi w) 0 (mnI ((vhi w) 0) ((vhi u) 0))) 1 (mnI ((vhi w) 1) ((vhi u) 1))))) la (aI G 3 (upd (upd (upd (vlo w) 0 (mxI ((vlo w) 0) ((vlo u) 0))) 1 (mxI ((vlo w) 1) ((vlo u) 1))) 2 (mxI ((vlo w) 2) ((vlo u) 2))))) o = some (oB 12 [.int (nI (vm w)), .int (nI (vdp w)), .ref ola, .ref oha, .ref ova, .ref oza]) := (mU_n (g_nef hO.1 fla)).trans m_312
        have m_373 : (mU (mU (mU (mU (mU M1 la (aI G 3 (upd (vlo w) 0 (mxI ((vlo w) 0) ((vlo u) 0))))) ha (aI G 3 (upd (vhi w) 0 (mnI ((vhi w) 0) ((vhi u) 0))))) la (aI G 3 (upd (upd (vlo w) 0 (mxI ((vlo w) 0) ((vlo u) 0))) 1 (mxI ((vlo w) 1) ((vlo u) 1))))) ha (aI G 3 (upd (upd (vhi w) 0 (mnI ((vhi w) 0) ((vhi u) 0))) 1 (mnI ((vhi w) 1) ((vhi u) 1))))) la (aI G 3 (upd (upd (upd (vlo w) 0 (mxI ((vlo w) 0) ((vlo u) 0))) 1 (mxI ((vlo w) 1) ((vlo u) 1))) 2 (mxI ((vlo w) 2) ((vlo u) 2))))) ola = some (aI G 3 (vlo w)) := (mU_n (g_nef hO.2.1 fla)).trans m_313
        have m_374 : (mU (mU (mU (mU (mU M1 la (aI G 3 (upd (vlo w) 0 (mxI ((vlo w) 0) ((vlo u) 0))))) ha (aI G 3 (upd (vhi w) 0 (mnI ((vhi w) 0) ((vhi u) 0))))) la (aI G 3 (upd (upd (vlo w) 0 (mxI ((vlo w) 0) ((vlo u) 0))) 1 (mxI ((vlo w) 1) ((vlo u) 1))))) ha (aI G 3 (upd (upd (vhi w) 0 (mnI ((vhi w) 0) ((vhi u) 0))) 1 (mnI ((vhi w) 1) ((vhi u) 1))))) la (aI G 3 (upd (upd (upd (vlo w) 0 (mxI ((vlo w) 0) ((vlo u) 0))) 1 (mxI ((vlo w) 1) ((vlo u) 1))) 2 (mxI ((vlo w) 2) ((vlo u) 2))))) oha = some (aI G 3 (vhi w)) := (mU_n (g_nef hO.2.2.1 fla)).trans m_314
        have m_375 : (mU (mU (mU (mU (mU M1 la (aI G 3 (upd (vlo w) 0 (mxI ((vlo w) 0) ((vlo u) 0))))) ha (aI G 3 (upd (vhi w) 0 (mnI ((vhi w) 0) ((vhi u) 0))))) la (aI G 3 (upd (upd (vlo w) 0 (mxI ((vlo w) 0) ((vlo u) 0))) 1 (mxI ((vlo w) 1) ((vlo u) 1))))) ha (aI G 3 (upd (upd (vhi w) 0 (mnI ((vhi w) 0) ((vhi u) 0))) 1 (mnI ((vhi w) 1) ((vhi u) 1))))) la (aI G 3 (upd (upd (upd (vlo w) 0 (mxI ((vlo w) 0) ((vlo u) 0))) 1 (mxI ((vlo w) 1) ((vlo u) 1))) 2 (mxI ((vlo w) 2) ((vlo u) 2))))) ova = some (aJ G (wsz w) ovf) := (mU_n (g_nef hO.2.2.2.1 fla)).trans m_315
        have m_376 : (mU (mU (mU (mU (mU M1 la (aI G 3 (upd (vlo w) 0 (mxI ((vlo w) 0) ((vlo u) 0))))) ha (aI G 3 (upd (vhi w) 0 (mnI ((vhi w) 0) ((vhi u) 0))))) la (aI G 3 (upd (upd (vlo w) 0 (mxI ((vlo w) 0) ((vlo u) 0))) 1 (mxI ((vlo w) 1) ((vlo u) 1))))) ha (aI G 3 (upd (upd (vhi w) 0 (mnI ((vhi w) 0) ((vhi u) 0))) 1 (mnI ((vhi w) 1) ((vhi u) 1))))) la (aI G 3 (upd (upd (upd (vlo w) 0 (mxI ((vlo w) 0) ((vlo u) 0))) 1 (mxI ((vlo w) 1) ((vlo u) 1))) 2 (mxI ((vlo w) 2) ((vlo u) 2))))) oza = some (aZ G (wsz w) ozf) := (mU_n (g_nef hO.2.2.2.2.1 fla)).trans m_316
        have m_377 : (mU (mU (mU (mU (mU M1 la (aI G 3 (upd (vlo w) 0 (mxI ((vlo w) 0) ((vlo u) 0))))) ha (aI G 3 (upd (vhi w) 0 (mnI ((vhi w) 0) ((vhi u) 0))))) la (aI G 3 (upd (upd (vlo w) 0 (mxI ((vlo w) 0) ((vlo u) 0))) 1 (mxI ((vlo w) 1) ((vlo u) 1))))) ha (aI G 3 (upd (upd (vhi w) 0 (mnI ((vhi w) 0) ((vhi u) 0))) 1 (mnI ((vhi w) 1) ((vhi u) 1))))) la (aI G 3 (upd (upd (upd (vlo w) 0 (mxI ((vlo w) 0) ((vlo u) 0))) 1 (mxI ((vlo w) 1) ((vlo u) 1))) 2 (mxI ((vlo w) 2) ((vlo u) 2))))) s = some (oB 12 [.int (nI (vm u)), .int (nI (vdp u)), .ref sla, .ref sha, .ref sva, .ref sza]) := (mU_n (g_nef hOs.1 fla)).trans m_317
        have m_378 : (mU (mU (mU (mU (mU M1 la (aI G 3 (upd (vlo w) 0 (mxI ((vlo w) 0) ((vlo u) 0))))) ha (aI G 3 (upd (vhi w) 0 (mnI ((vhi w) 0) ((vhi u) 0))))) la (aI G 3 (upd (upd (vlo w) 0 (mxI ((vlo w) 0) ((vlo u) 0))) 1 (mxI ((vlo w) 1) ((vlo u) 1))))) ha (aI G 3 (upd (upd (vhi w) 0 (mnI ((vhi w) 0) ((vhi u) 0))) 1 (mnI ((vhi w) 1) ((vhi u) 1))))) la (aI G 3 (upd (upd (upd (vlo w) 0 (mxI ((vlo w) 0) ((vlo u) 0))) 1 (mxI ((vlo w) 1) ((vlo u) 1))) 2 (mxI ((vlo w) 2) ((vlo u) 2))))) sla = some (aI G 3 (vlo u)) := (mU_n (g_nef hOs.2.1 fla)).trans m_318
        have m_379 : (mU (mU (mU (mU (mU M1 la (aI G 3 (upd (vlo w) 0 (mxI ((vlo w) 0) ((vlo u) 0))))) ha (aI G 3 (upd (vhi w) 0 (mnI ((vhi w) 0) ((vhi u) 0))))) la (aI G 3 (upd (upd (vlo w) 0 (mxI ((vlo w) 0) ((vlo u) 0))) 1 (mxI ((vlo w) 1) ((vlo u) 1))))) ha (aI G 3 (upd (upd (vhi w) 0 (mnI ((vhi w) 0) ((vhi u) 0))) 1 (mnI ((vhi w) 1) ((vhi u) 1))))) la (aI G 3 (upd (upd (upd (vlo w) 0 (mxI ((vlo w) 0) ((vlo u) 0))) 1 (mxI ((vlo w) 1) ((vlo u) 1))) 2 (mxI ((vlo w) 2) ((vlo u) 2))))) sha = some (aI G 3 (vhi u)) := (mU_n (g_nef hOs.2.2.1 fla)).trans m_319
        have m_380 : (mU (mU (mU (mU (mU M1 la (aI G 3 (upd (vlo w) 0 (mxI ((vlo w) 0) ((vlo u) 0))))) ha (aI G 3 (upd (vhi w) 0 (mnI ((vhi w) 0) ((vhi u) 0))))) la (aI G 3 (upd (upd (vlo w) 0 (mxI ((vlo w) 0) ((vlo u) 0))) 1 (mxI ((vlo w) 1) ((vlo u) 1))))) ha (aI G 3 (upd (upd (vhi w) 0 (mnI ((vhi w) 0) ((vhi u) 0))) 1 (mnI ((vhi w) 1) ((vhi u) 1))))) la (aI G 3 (upd (upd (upd (vlo w) 0 (mxI ((vlo w) 0) ((vlo u) 0))) 1 (mxI ((vlo w) 1) ((vlo u) 1))) 2 (mxI ((vlo w) 2) ((vlo u) 2))))) sva = some (aJ G (wsz u) svf) := (mU_n (g_nef hOs.2.2.2.1 fla)).trans m_320
        have m_381 : (mU (mU (mU (mU (mU M1 la (aI G 3 (upd (vlo w) 0 (mxI ((vlo w) 0) ((vlo u) 0))))) ha (aI G 3 (upd (vhi w) 0 (mnI ((vhi w) 0) ((vhi u) 0))))) la (aI G 3 (upd (upd (vlo w) 0 (mxI ((vlo w) 0) ((vlo u) 0))) 1 (mxI ((vlo w) 1) ((vlo u) 1))))) ha (aI G 3 (upd (upd (vhi w) 0 (mnI ((vhi w) 0) ((vhi u) 0))) 1 (mnI ((vhi w) 1) ((vhi u) 1))))) la (aI G 3 (upd (upd (upd (vlo w) 0 (mxI ((vlo w) 0) ((vlo u) 0))) 1 (mxI ((vlo w) 1) ((vlo u) 1))) 2 (mxI ((vlo w) 2) ((vlo u) 2))))) sza = some (aZ G (wsz u) szf) := (mU_n (g_nef hOs.2.2.2.2.1 fla)).trans m_321
        have m_382 : (mU (mU (mU (mU (mU M1 la (aI G 3 (upd (vlo w) 0 (mxI ((vlo w) 0) ((vlo u) 0))))) ha (aI G 3 (upd (vhi w) 0 (mnI ((vhi w) 0) ((vhi u) 0))))) la (aI G 3 (upd (upd (vlo w) 0 (mxI ((vlo w) 0) ((vlo u) 0))) 1 (mxI ((vlo w) 1) ((vlo u) 1))))) ha (aI G 3 (upd (upd (vhi w) 0 (mnI ((vhi w) 0) ((vhi u) 0))) 1 (mnI ((vhi w) 1) ((vhi u) 1))))) la (aI G 3 (upd (upd (upd (vlo w) 0 (mxI ((vlo w) 0) ((vlo u) 0))) 1 (mxI ((vlo w) 1) ((vlo u) 1))) 2 (mxI ((vlo w) 2) ((vlo u) 2))))) plA = some (aI G 3 pl0) := (mU_n (g_nef hpl0 fla)).trans m_322
        have m_383 : (mU (mU (mU (mU (mU M1 la (aI G 3 (upd (vlo w) 0 (mxI ((vlo w) 0) ((vlo u) 0))))) ha (aI G 3 (upd (vhi w) 0 (mnI ((vhi w) 0) ((vhi u) 0))))) la (aI G 3 (upd (upd (vlo w) 0 (mxI ((vlo w) 0) ((vlo u) 0))) 1 (mxI ((vlo w) 1) ((vlo u) 1))))) ha (aI G 3 (upd (upd (vhi w) 0 (mnI ((vhi w) 0) ((vhi u) 0))) 1 (mnI ((vhi w) 1) ((vhi u) 1))))) la (aI G 3 (upd (upd (upd (vlo w) 0 (mxI ((vlo w) 0) ((vlo u) 0))) 1 (mxI ((vlo w) 1) ((vlo u) 1))) 2 (mxI ((vlo w) 2) ((vlo u) 2))))) q = some (oB 12 [.int (nI (vm w)), .int (nI (max (vdp w) (vdp u) + 1)), .ref la, .ref ha, .null, .null]) := (mU_n (Ne.symm (llq))).trans m_323
        have m_384 : (mU (mU (mU (mU (mU M1 la (aI G 3 (upd (vlo w) 0 (mxI ((vlo w) 0) ((vlo u) 0))))) ha (aI G 3 (upd (vhi w) 0 (mnI ((vhi w) 0) ((vhi u) 0))))) la (aI G 3 (upd (upd (vlo w) 0 (mxI ((vlo w) 0) ((vlo u) 0))) 1 (mxI ((vlo w) 1) ((vlo u) 1))))) ha (aI G 3 (upd (upd (vhi w) 0 (mnI ((vhi w) 0) ((vhi u) 0))) 1 (mnI ((vhi w) 1) ((vhi u) 1))))) la (aI G 3 (upd (upd (upd (vlo w) 0 (mxI ((vlo w) 0) ((vlo u) 0))) 1 (mxI ((vlo w) 1) ((vlo u) 1))) 2 (mxI ((vlo w) 2) ((vlo u) 2))))) la = some (aI G 3 (upd (upd (upd (vlo w) 0 (mxI ((vlo w) 0) ((vlo u) 0))) 1 (mxI ((vlo w) 1) ((vlo u) 1))) 2 (mxI ((vlo w) 2) ((vlo u) 2)))) := mU_s
        have m_385 : (mU (mU (mU (mU (mU M1 la (aI G 3 (upd (vlo w) 0 (mxI ((vlo w) 0) ((vlo u) 0))))) ha (aI G 3 (upd (vhi w) 0 (mnI ((vhi w) 0) ((vhi u) 0))))) la (aI G 3 (upd (upd (vlo w) 0 (mxI ((vlo w) 0) ((vlo u) 0))) 1 (mxI ((vlo w) 1) ((vlo u) 1))))) ha (aI G 3 (upd (upd (vhi w) 0 (mnI ((vhi w) 0) ((vhi u) 0))) 1 (mnI ((vhi w) 1) ((vhi u) 1))))) la (aI G 3 (upd (upd (upd (vlo w) 0 (mxI ((vlo w) 0) ((vlo u) 0))) 1 (mxI ((vlo w) 1) ((vlo u) 1))) 2 (mxI ((vlo w) 2) ((vlo u) 2))))) ha = some (aI G 3 (upd (upd (vhi w) 0 (mnI ((vhi w) 0) ((vhi u) 0))) 1 (mnI ((vhi w) 1) ((vhi u) 1)))) := (mU_n (Ne.symm (llh))).trans m_325
        refine q_aload X dX13_join_147 2 rfl ?_
        refine q_get X m_383 rfl in_RX12 3 (by decide) tw_1161 rfl rfl dX13_join_149 ?_
        refine q_iload X dX13_join_152 0 rfl ?_
        refine q_aload X dX13_join_154 4 rfl ?_
        refine q_get X m_372 rfl in_RX12 3 (by decide) tw_1161 rfl rfl dX13_join_156 ?_
        refine q_iload X dX13_join_159 0 rfl ?_
        refine q_ialdN X 2 m_374 (rfl) (by decide) (by decide) dX13_join_161 ?_
        refine q_aload X dX13_join_162 3 rfl ?_
        refine q_get X m_377 rfl in_RX12 3 (by decide) tw_1161 rfl rfl dX13_join_164 ?_
        refine q_iload X dX13_join_167 0 rfl ?_
        refine q_ialdN X 2 m_379 (rfl) (by decide) (by decide) dX13_join_169 ?_
        refine q_callSp X (c_J9_min_7cf53) Y_J9_min_7cf53 tw_1321 tw_239 (by omega) rfl rfl (Nat.le_of_ble_eq_true rfl) dX13_join_170 ?_
        refine q_iastN X 2 m_385 (rfl) (by decide) (by decide) dX13_join_173 ?_
        have m_386 : (mU (mU (mU (mU (mU (mU M1 la (aI G 3 (upd (vlo w) 0 (mxI ((vlo w) 0) ((vlo u) 0))))) ha (aI G 3 (upd (vhi w) 0 (mnI ((vhi w) 0) ((vhi u) 0))))) la (aI G 3 (upd (upd (vlo w) 0 (mxI ((vlo w) 0) ((vlo u) 0))) 1 (mxI ((vlo w) 1) ((vlo u) 1))))) ha (aI G 3 (upd (upd (vhi w) 0 (mnI ((vhi w) 0) ((vhi u) 0))) 1 (mnI ((vhi w) 1) ((vhi u) 1))))) la (aI G 3 (upd (upd (upd (vlo w) 0 (mxI ((vlo w) 0) ((vlo u) 0))) 1 (mxI ((vlo w) 1) ((vlo u) 1))) 2 (mxI ((vlo w) 2) ((vlo u) 2))))) ha (aI G 3 (upd (upd (upd (vhi w) 0 (mnI ((vhi w) 0) ((vhi u) 0))) 1 (mnI ((vhi w) 1) ((vhi u) 1))) 2 (mnI ((vhi w) 2) ((vhi u) 2))))) r = some (oB 13 [.int 0, .ref vA, .ref nA, .ref pA, .ref plA, .ref dg, .int (nI (aV σ).length), .int (nI (aN σ).length), .int (nI (aOf σ)), .int (nI (aBg σ)), .int tk, .long su, .long le, .long gr]) := (mU_n (g_nef hB.1 fha)).trans m_370
        have m_387 : (mU (mU (mU (mU (mU (mU M1 la (aI G 3 (upd (vlo w) 0 (mxI ((vlo w) 0) ((vlo u) 0))))) ha (aI G 3 (upd (vhi w) 0 (mnI ((vhi w) 0) ((vhi u) 0))))) la (aI G 3 (upd (upd (vlo w) 0 (mxI ((vlo w) 0) ((vlo u) 0))) 1 (mxI ((vlo w) 1) ((vlo u) 1))))) ha (aI G 3 (upd (upd (vhi w) 0 (mnI ((vhi w) 0) ((vhi u) 0))) 1 (mnI ((vhi w) 1) ((vhi u) 1))))) la (aI G 3 (upd (upd (upd (vlo w) 0 (mxI ((vlo w) 0) ((vlo u) 0))) 1 (mxI ((vlo w) 1) ((vlo u) 1))) 2 (mxI ((vlo w) 2) ((vlo u) 2))))) ha (aI G 3 (upd (upd (upd (vhi w) 0 (mnI ((vhi w) 0) ((vhi u) 0))) 1 (mnI ((vhi w) 1) ((vhi u) 1))) 2 (mnI ((vhi w) 2) ((vhi u) 2))))) nA = some (aG G 150 nf) := (mU_n (g_nef hB.2.2.1 fha)).trans m_371
        have m_388 : (mU (mU (mU (mU (mU (mU M1 la (aI G 3 (upd (vlo w) 0 (mxI ((vlo w) 0) ((vlo u) 0))))) ha (aI G 3 (upd (vhi w) 0 (mnI ((vhi w) 0) ((vhi u) 0))))) la (aI G 3 (upd (upd (vlo w) 0 (mxI ((vlo w) 0) ((vlo u) 0))) 1 (mxI ((vlo w) 1) ((vlo u) 1))))) ha (aI G 3 (upd (upd (vhi w) 0 (mnI ((vhi w) 0) ((vhi u) 0))) 1 (mnI ((vhi w) 1) ((vhi u) 1))))) la (aI G 3 (upd (upd (upd (vlo w) 0 (mxI ((vlo w) 0) ((vlo u) 0))) 1 (mxI ((vlo w) 1) ((vlo u) 1))) 2 (mxI ((vlo w) 2) ((vlo u) 2))))) ha (aI G 3 (upd (upd (upd (vhi w) 0 (mnI ((vhi w) 0) ((vhi u) 0))) 1 (mnI ((vhi w) 1) ((vhi u) 1))) 2 (mnI ((vhi w) 2) ((vhi u) 2))))) o = some (oB 12 [.int (nI (vm w)), .int (nI (vdp w)), .ref ola, .ref oha, .ref ova, .ref oza]) := (mU_n (g_nef hO.1 fha)).trans m_372
        have m_389 : (mU (mU (mU (mU (mU (mU M1 la (aI G 3 (upd (vlo w) 0 (mxI ((vlo w) 0) ((vlo u) 0))))) ha (aI G 3 (upd (vhi w) 0 (mnI ((vhi w) 0) ((vhi u) 0))))) la (aI G 3 (upd (upd (vlo w) 0 (mxI ((vlo w) 0) ((vlo u) 0))) 1 (mxI ((vlo w) 1) ((vlo u) 1))))) ha (aI G 3 (upd (upd (vhi w) 0 (mnI ((vhi w) 0) ((vhi u) 0))) 1 (mnI ((vhi w) 1) ((vhi u) 1))))) la (aI G 3 (upd (upd (upd (vlo w) 0 (mxI ((vlo w) 0) ((vlo u) 0))) 1 (mxI ((vlo w) 1) ((vlo u) 1))) 2 (mxI ((vlo w) 2) ((vlo u) 2))))) ha (aI G 3 (upd (upd (upd (vhi w) 0 (mnI ((vhi w) 0) ((vhi u) 0))) 1 (mnI ((vhi w) 1) ((vhi u) 1))) 2 (mnI ((vhi w) 2) ((vhi u) 2))))) ola = some (aI G 3 (vlo w)) := (mU_n (g_nef hO.2.1 fha)).trans m_373
        have m_390 : (mU (mU (mU (mU (mU (mU M1 la (aI G 3 (upd (vlo w) 0 (mxI ((vlo w) 0) ((vlo u) 0))))) ha (aI G 3 (upd (vhi w) 0 (mnI ((vhi w) 0) ((vhi u) 0))))) la (aI G 3 (upd (upd (vlo w) 0 (mxI ((vlo w) 0) ((vlo u) 0))) 1 (mxI ((vlo w) 1) ((vlo u) 1))))) ha (aI G 3 (upd (upd (vhi w) 0 (mnI ((vhi w) 0) ((vhi u) 0))) 1 (mnI ((vhi w) 1) ((vhi u) 1))))) la (aI G 3 (upd (upd (upd (vlo w) 0 (mxI ((vlo w) 0) ((vlo u) 0))) 1 (mxI ((vlo w) 1) ((vlo u) 1))) 2 (mxI ((vlo w) 2) ((vlo u) 2))))) ha (aI G 3 (upd (upd (upd (vhi w) 0 (mnI ((vhi w) 0) ((vhi u) 0))) 1 (mnI ((vhi w) 1) ((vhi u) 1))) 2 (mnI ((vhi w) 2) ((vhi u) 2))))) oha = some (aI G 3 (vhi w)) := (mU_n (g_nef hO.2.2.1 fha)).trans m_374
        have m_391 : (mU (mU (mU (mU (mU (mU M1 la (aI G 3 (upd (vlo w) 0 (mxI ((vlo w) 0) ((vlo u) 0))))) ha (aI G 3 (upd (vhi w) 0 (mnI ((vhi w) 0) ((vhi u) 0))))) la (aI G 3 (upd (upd (vlo w) 0 (mxI ((vlo w) 0) ((vlo u) 0))) 1 (mxI ((vlo w) 1) ((vlo u) 1))))) ha (aI G 3 (upd (upd (vhi w) 0 (mnI ((vhi w) 0) ((vhi u) 0))) 1 (mnI ((vhi w) 1) ((vhi u) 1))))) la (aI G 3 (upd (upd (upd (vlo w) 0 (mxI ((vlo w) 0) ((vlo u) 0))) 1 (mxI ((vlo w) 1) ((vlo u) 1))) 2 (mxI ((vlo w) 2) ((vlo u) 2))))) ha (aI G 3 (upd (upd (upd (vhi w) 0 (mnI ((vhi w) 0) ((vhi u) 0))) 1 (mnI ((vhi w) 1) ((vhi u) 1))) 2 (mnI ((vhi w) 2) ((vhi u) 2))))) ova = some (aJ G (wsz w) ovf) := (mU_n (g_nef hO.2.2.2.1 fha)).trans m_375
        have m_392 : (mU (mU (mU (mU (mU (mU M1 la (aI G 3 (upd (vlo w) 0 (mxI ((vlo w) 0) ((vlo u) 0))))) ha (aI G 3 (upd (vhi w) 0 (mnI ((vhi w) 0) ((vhi u) 0))))) la (aI G 3 (upd (upd (vlo w) 0 (mxI ((vlo w) 0) ((vlo u) 0))) 1 (mxI ((vlo w) 1) ((vlo u) 1))))) ha (aI G 3 (upd (upd (vhi w) 0 (mnI ((vhi w) 0) ((vhi u) 0))) 1 (mnI ((vhi w) 1) ((vhi u) 1))))) la (aI G 3 (upd (upd (upd (vlo w) 0 (mxI ((vlo w) 0) ((vlo u) 0))) 1 (mxI ((vlo w) 1) ((vlo u) 1))) 2 (mxI ((vlo w) 2) ((vlo u) 2))))) ha (aI G 3 (upd (upd (upd (vhi w) 0 (mnI ((vhi w) 0) ((vhi u) 0))) 1 (mnI ((vhi w) 1) ((vhi u) 1))) 2 (mnI ((vhi w) 2) ((vhi u) 2))))) oza = some (aZ G (wsz w) ozf) := (mU_n (g_nef hO.2.2.2.2.1 fha)).trans m_376
        have m_393 : (mU (mU (mU (mU (mU (mU M1 la (aI G 3 (upd (vlo w) 0 (mxI ((vlo w) 0) ((vlo u) 0))))) ha (aI G 3 (upd (vhi w) 0 (mnI ((vhi w) 0) ((vhi u) 0))))) la (aI G 3 (upd (upd (vlo w) 0 (mxI ((vlo w) 0) ((vlo u) 0))) 1 (mxI ((vlo w) 1) ((vlo u) 1))))) ha (aI G 3 (upd (upd (vhi w) 0 (mnI ((vhi w) 0) ((vhi u) 0))) 1 (mnI ((vhi w) 1) ((vhi u) 1))))) la (aI G 3 (upd (upd (upd (vlo w) 0 (mxI ((vlo w) 0) ((vlo u) 0))) 1 (mxI ((vlo w) 1) ((vlo u) 1))) 2 (mxI ((vlo w) 2) ((vlo u) 2))))) ha (aI G 3 (upd (upd (upd (vhi w) 0 (mnI ((vhi w) 0) ((vhi u) 0))) 1 (mnI ((vhi w) 1) ((vhi u) 1))) 2 (mnI ((vhi w) 2) ((vhi u) 2))))) s = some (oB 12 [.int (nI (vm u)), .int (nI (vdp u)), .ref sla, .ref sha, .ref sva, .ref sza]) := (mU_n (g_nef hOs.1 fha)).trans m_377
        have m_394 : (mU (mU (mU (mU (mU (mU M1 la (aI G 3 (upd (vlo w) 0 (mxI ((vlo w) 0) ((vlo u) 0))))) ha (aI G 3 (upd (vhi w) 0 (mnI ((vhi w) 0) ((vhi u) 0))))) la (aI G 3 (upd (upd (vlo w) 0 (mxI ((vlo w) 0) ((vlo u) 0))) 1 (mxI ((vlo w) 1) ((vlo u) 1))))) ha (aI G 3 (upd (upd (vhi w) 0 (mnI ((vhi w) 0) ((vhi u) 0))) 1 (mnI ((vhi w) 1) ((vhi u) 1))))) la (aI G 3 (upd (upd (upd (vlo w) 0 (mxI ((vlo w) 0) ((vlo u) 0))) 1 (mxI ((vlo w) 1) ((vlo u) 1))) 2 (mxI ((vlo w) 2) ((vlo u) 2))))) ha (aI G 3 (upd (upd (upd (vhi w) 0 (mnI ((vhi w) 0) ((vhi u) 0))) 1 (mnI ((vhi w) 1) ((vhi u) 1))) 2 (mnI ((vhi w) 2) ((vhi u) 2))))) sla = some (aI G 3 (vlo u)) := (mU_n (g_nef hOs.2.1 fha)).trans m_378
        have m_395 : (mU (mU (mU (mU (mU (mU M1 la (aI G 3 (upd (vlo w) 0 (mxI ((vlo w) 0) ((vlo u) 0))))) ha (aI G 3 (upd (vhi w) 0 (mnI ((vhi w) 0) ((vhi u) 0))))) la (aI G 3 (upd (upd (vlo w) 0 (mxI ((vlo w) 0) ((vlo u) 0))) 1 (mxI ((vlo w) 1) ((vlo u) 1))))) ha (aI G 3 (upd (upd (vhi w) 0 (mnI ((vhi w) 0) ((vhi u) 0))) 1 (mnI ((vhi w) 1) ((vhi u) 1))))) la (aI G 3 (upd (upd (upd (vlo w) 0 (mxI ((vlo w) 0) ((vlo u) 0))) 1 (mxI ((vlo w) 1) ((vlo u) 1))) 2 (mxI ((vlo w) 2) ((vlo u) 2))))) ha (aI G 3 (upd (upd (upd (vhi w) 0 (mnI ((vhi w) 0) ((vhi u) 0))) 1 (mnI ((vhi w) 1) ((vhi u) 1))) 2 (mnI ((vhi w) 2) ((vhi u) 2))))) sha = some (aI G 3 (vhi u)) := (mU_n (g_nef hOs.2.2.1 fha)).trans m_379
        have m_396 : (mU (mU (mU (mU (mU (mU M1 la (aI G 3 (upd (vlo w) 0 (mxI ((vlo w) 0) ((vlo u) 0))))) ha (aI G 3 (upd (vhi w) 0 (mnI ((vhi w) 0) ((vhi u) 0))))) la (aI G 3 (upd (upd (vlo w) 0 (mxI ((vlo w) 0) ((vlo u) 0))) 1 (mxI ((vlo w) 1) ((vlo u) 1))))) ha (aI G 3 (upd (upd (vhi w) 0 (mnI ((vhi w) 0) ((vhi u) 0))) 1 (mnI ((vhi w) 1) ((vhi u) 1))))) la (aI G 3 (upd (upd (upd (vlo w) 0 (mxI ((vlo w) 0) ((vlo u) 0))) 1 (mxI ((vlo w) 1) ((vlo u) 1))) 2 (mxI ((vlo w) 2) ((vlo u) 2))))) ha (aI G 3 (upd (upd (upd (vhi w) 0 (mnI ((vhi w) 0) ((vhi u) 0))) 1 (mnI ((vhi w) 1) ((vhi u) 1))) 2 (mnI ((vhi w) 2) ((vhi u) 2))))) sva = some (aJ G (wsz u) svf) := (mU_n (g_nef hOs.2.2.2.1 fha)).trans m_380
        have m_397 : (mU (mU (mU (mU (mU (mU M1 la (aI G 3 (upd (vlo w) 0 (mxI ((vlo w) 0) ((vlo u) 0))))) ha (aI G 3 (upd (vhi w) 0 (mnI ((vhi w) 0) ((vhi u) 0))))) la (aI G 3 (upd (upd (vlo w) 0 (mxI ((vlo w) 0) ((vlo u) 0))) 1 (mxI ((vlo w) 1) ((vlo u) 1))))) ha (aI G 3 (upd (upd (vhi w) 0 (mnI ((vhi w) 0) ((vhi u) 0))) 1 (mnI ((vhi w) 1) ((vhi u) 1))))) la (aI G 3 (upd (upd (upd (vlo w) 0 (mxI ((vlo w) 0) ((vlo u) 0))) 1 (mxI ((vlo w) 1) ((vlo u) 1))) 2 (mxI ((vlo w) 2) ((vlo u) 2))))) ha (aI G 3 (upd (upd (upd (vhi w) 0 (mnI ((vhi w) 0) ((vhi u) 0))) 1 (mnI ((vhi w) 1) ((vhi u) 1))) 2 (mnI ((vhi w) 2) ((vhi u) 2))))) sza = some (aZ G (wsz u) szf) := (mU_n (g_nef hOs.2.2.2.2.1 fha)).trans m_381
        have m_398 : (mU (mU (mU (mU (mU (mU M1 la (aI G 3 (upd (vlo w) 0 (mxI ((vlo w) 0) ((vlo u) 0))))) ha (aI G 3 (upd (vhi w) 0 (mnI ((vhi w) 0) ((vhi u) 0))))) la (aI G 3 (upd (upd (vlo w) 0 (mxI ((vlo w) 0) ((vlo u) 0))) 1 (mxI ((vlo w) 1) ((vlo u) 1))))) ha (aI G 3 (upd (upd (vhi w) 0 (mnI ((vhi w) 0) ((vhi u) 0))) 1 (mnI ((vhi w) 1) ((vhi u) 1))))) la (aI G 3 (upd (upd (upd (vlo w) 0 (mxI ((vlo w) 0) ((vlo u) 0))) 1 (mxI ((vlo w) 1) ((vlo u) 1))) 2 (mxI ((vlo w) 2) ((vlo u) 2))))) ha (aI G 3 (upd (upd (upd (vhi w) 0 (mnI ((vhi w) 0) ((vhi u) 0))) 1 (mnI ((vhi w) 1) ((vhi u) 1))) 2 (mnI ((vhi w) 2) ((vhi u) 2))))) plA = some (aI G 3 pl0) := (mU_n (g_nef hpl0 fha)).trans m_382
        have m_399 : (mU (mU (mU (mU (mU (mU M1 la (aI G 3 (upd (vlo w) 0 (mxI ((vlo w) 0) ((vlo u) 0))))) ha (aI G 3 (upd (vhi w) 0 (mnI ((vhi w) 0) ((vhi u) 0))))) la (aI G 3 (upd (upd (vlo w) 0 (mxI ((vlo w) 0) ((vlo u) 0))) 1 (mxI ((vlo w) 1) ((vlo u) 1))))) ha (aI G 3 (upd (upd (vhi w) 0 (mnI ((vhi w) 0) ((vhi u) 0))) 1 (mnI ((vhi w) 1) ((vhi u) 1))))) la (aI G 3 (upd (upd (upd (vlo w) 0 (mxI ((vlo w) 0) ((vlo u) 0))) 1 (mxI ((vlo w) 1) ((vlo u) 1))) 2 (mxI ((vlo w) 2) ((vlo u) 2))))) ha (aI G 3 (upd (upd (upd (vhi w) 0 (mnI ((vhi w) 0) ((vhi u) 0))) 1 (mnI ((vhi w) 1) ((vhi u) 1))) 2 (mnI ((vhi w) 2) ((vhi u) 2))))) q = some (oB 12 [.int (nI (vm w)), .int (nI (max (vdp w) (vdp u) + 1)), .ref la, .ref ha, .null, .null]) := (mU_n (Ne.symm (lhq))).trans m_383
        have m_400 : (mU (mU (mU (mU (mU (mU M1 la (aI G 3 (upd (vlo w) 0 (mxI ((vlo w) 0) ((vlo u) 0))))) ha (aI G 3 (upd (vhi w) 0 (mnI ((vhi w) 0) ((vhi u) 0))))) la (aI G 3 (upd (upd (vlo w) 0 (mxI ((vlo w) 0) ((vlo u) 0))) 1 (mxI ((vlo w) 1) ((vlo u) 1))))) ha (aI G 3 (upd (upd (vhi w) 0 (mnI ((vhi w) 0) ((vhi u) 0))) 1 (mnI ((vhi w) 1) ((vhi u) 1))))) la (aI G 3 (upd (upd (upd (vlo w) 0 (mxI ((vlo w) 0) ((vlo u) 0))) 1 (mxI ((vlo w) 1) ((vlo u) 1))) 2 (mxI ((vlo w) 2) ((vlo u) 2))))) ha (aI G 3 (upd (upd (upd (vhi w) 0 (mnI ((vhi w) 0) ((vhi u) 0))) 1 (mnI ((vhi w) 1) ((vhi u) 1))) 2 (mnI ((vhi w) 2) ((vhi u) 2))))) la = some (aI G 3 (upd (upd (upd (vlo w) 0 (mxI ((vlo w) 0) ((vlo u) 0))) 1 (mxI ((vlo w) 1) ((vlo u) 1))) 2 (mxI ((vlo w) 2) ((vlo u) 2)))) := (mU_n (llh)).trans m_384
        have m_401 : (mU (mU (mU (mU (mU (mU M1 la (aI G 3 (upd (vlo w) 0 (mxI ((vlo w) 0) ((vlo u) 0))))) ha (aI G 3 (upd (vhi w) 0 (mnI ((vhi w) 0) ((vhi u) 0))))) la (aI G 3 (upd (upd (vlo w) 0 (mxI ((vlo w) 0) ((vlo u) 0))) 1 (mxI ((vlo w) 1) ((vlo u) 1))))) ha (aI G 3 (upd (upd (vhi w) 0 (mnI ((vhi w) 0) ((vhi u) 0))) 1 (mnI ((vhi w) 1) ((vhi u) 1))))) la (aI G 3 (upd (upd (upd (vlo w) 0 (mxI ((vlo w) 0) ((vlo u) 0))) 1 (mxI ((vlo w) 1) ((vlo u) 1))) 2 (mxI ((vlo w) 2) ((vlo u) 2))))) ha (aI G 3 (upd (upd (upd (vhi w) 0 (mnI ((vhi w) 0) ((vhi u) 0))) 1 (mnI ((vhi w) 1) ((vhi u) 1))) 2 (mnI ((vhi w) 2) ((vhi u) 2))))) ha = some (aI G 3 (upd (upd (upd (vhi w) 0 (mnI ((vhi w) 0) ((vhi u) 0))) 1 (mnI ((vhi w) 1) ((vhi u) 1))) 2 (mnI ((vhi w) 2) ((vhi u) 2)))) := mU_s
        refine q_aload X dX13_join_174 2 rfl ?_
        refine q_get X m_399 rfl in_RX12 2 (by decide) tw_1159 rfl rfl dX13_join_176 ?_
        refine q_iload X dX13_join_179 0 rfl ?_
        refine q_ialdN X 2 m_400 (rfl) (by decide) (by decide) dX13_join_181 ?_
        refine q_aload X dX13_join_182 2 rfl ?_
        refine q_get X m_399 rfl in_RX12 3 (by decide) tw_1161 rfl rfl dX13_join_184 ?_
        refine q_iload X dX13_join_187 0 rfl ?_
        refine q_ialdN X 2 m_401 (rfl) (by decide) (by decide) dX13_join_189 ?_
        show qJ G F _ 18 (mU (mU (mU (mU (mU (mU M1 la (aI G 3 (upd (vlo w) 0 (mxI ((vlo w) 0) ((vlo u) 0))))) ha (aI G 3 (upd (vhi w) 0 (mnI ((vhi w) 0) ((vhi u) 0))))) la (aI G 3 (upd (upd (vlo w) 0 (mxI ((vlo w) 0) ((vlo u) 0))) 1 (mxI ((vlo w) 1) ((vlo u) 1))))) ha (aI G 3 (upd (upd (vhi w) 0 (mnI ((vhi w) 0) ((vhi u) 0))) 1 (mnI ((vhi w) 1) ((vhi u) 1))))) la (aI G 3 (upd (upd (upd (vlo w) 0 (mxI ((vlo w) 0) ((vlo u) 0))) 1 (mxI ((vlo w) 1) ((vlo u) 1))) 2 (mxI ((vlo w) 2) ((vlo u) 2))))) ha (aI G 3 (upd (upd (upd (vhi w) 0 (mnI ((vhi w) 0) ((vhi u) 0))) 1 (mnI ((vhi w) 1) ((vhi u) 1))) 2 (mnI ((vhi w) 2) ((vhi u) 2))))) 2 4096 190 [(8, .int 2), (7, .int 0), (6, .ref q), (5, .ref s), (4, .ref o), (0, .ref r), (1, .int (nI i)), (2, .int (nI i2)), (3, .int op)] [.int (mnI (vhi w 2) (vhi u 2)), .int (mxI (vlo w 2) (vlo u 2))]
        refine q_icmp_le X 196 dX13_join_190 (by decide) (fun mm2 => ?_) (fun mm2 => ?_)
        · refine q_iinc (v := 3) (lv' := [(8, .int 3), (7, .int 0), (6, .ref q), (5, .ref s), (4, .ref o), (0, .ref r), (1, .int (nI i)), (2, .int (nI i2)), (3, .int op)]) X dX13_join_196 0 rfl (by decide) (by decide) rfl ?_
          refine q_goto X 114 dX13_join_199 (by decide) ?_
          refine q_iload X dX13_join_114 0 rfl ?_
          refine q_iconst (v := 3) X dX13_join_116 (by decide) ?_
          refine q_icmp_ge X 202 dX13_join_117 (by decide) (fun c_402 => ?_) (fun c_402 => absurd (by decide) c_402)
          have evM2 : mEv (fun x => x = r ∨ x = plA) M (mU (mU (mU (mU (mU (mU M1 la (aI G 3 (upd (vlo w) 0 (mxI ((vlo w) 0) ((vlo u) 0))))) ha (aI G 3 (upd (vhi w) 0 (mnI ((vhi w) 0) ((vhi u) 0))))) la (aI G 3 (upd (upd (vlo w) 0 (mxI ((vlo w) 0) ((vlo u) 0))) 1 (mxI ((vlo w) 1) ((vlo u) 1))))) ha (aI G 3 (upd (upd (vhi w) 0 (mnI ((vhi w) 0) ((vhi u) 0))) 1 (mnI ((vhi w) 1) ((vhi u) 1))))) la (aI G 3 (upd (upd (upd (vlo w) 0 (mxI ((vlo w) 0) ((vlo u) 0))) 1 (mxI ((vlo w) 1) ((vlo u) 1))) 2 (mxI ((vlo w) 2) ((vlo u) 2))))) ha (aI G 3 (upd (upd (upd (vhi w) 0 (mnI ((vhi w) 0) ((vhi u) 0))) 1 (mnI ((vhi w) 1) ((vhi u) 1))) 2 (mnI ((vhi w) 2) ((vhi u) 2))))) := fun x hx => by
            have wla : x ≠ la := fun z => hx (z ▸ fla)
            have wha : x ≠ ha := fun z => hx (z ▸ fha)
            have e1 := evK1 x hx
            have e : (mU (mU (mU (mU (mU (mU M1 la (aI G 3 (upd (vlo w) 0 (mxI ((vlo w) 0) ((vlo u) 0))))) ha (aI G 3 (upd (vhi w) 0 (mnI ((vhi w) 0) ((vhi u) 0))))) la (aI G 3 (upd (upd (vlo w) 0 (mxI ((vlo w) 0) ((vlo u) 0))) 1 (mxI ((vlo w) 1) ((vlo u) 1))))) ha (aI G 3 (upd (upd (vhi w) 0 (mnI ((vhi w) 0) ((vhi u) 0))) 1 (mnI ((vhi w) 1) ((vhi u) 1))))) la (aI G 3 (upd (upd (upd (vlo w) 0 (mxI ((vlo w) 0) ((vlo u) 0))) 1 (mxI ((vlo w) 1) ((vlo u) 1))) 2 (mxI ((vlo w) 2) ((vlo u) 2))))) ha (aI G 3 (upd (upd (upd (vhi w) 0 (mnI ((vhi w) 0) ((vhi u) 0))) 1 (mnI ((vhi w) 1) ((vhi u) 1))) 2 (mnI ((vhi w) 2) ((vhi u) 2))))) x = M1 x := by simp only [mU, wla, wha, if_false]
            exact ⟨by rw [e]; exact e1.1, fun k => e.trans (e1.2 k)⟩
          generalize mU (mU (mU (mU (mU (mU M1 la (aI G 3 (upd (vlo w) 0 (mxI ((vlo w) 0) ((vlo u) 0))))) ha (aI G 3 (upd (vhi w) 0 (mnI ((vhi w) 0) ((vhi u) 0))))) la (aI G 3 (upd (upd (vlo w) 0 (mxI ((vlo w) 0) ((vlo u) 0))) 1 (mxI ((vlo w) 1) ((vlo u) 1))))) ha (aI G 3 (upd (upd (vhi w) 0 (mnI ((vhi w) 0) ((vhi u) 0))) 1 (mnI ((vhi w) 1) ((vhi u) 1))))) la (aI G 3 (upd (upd (upd (vlo w) 0 (mxI ((vlo w) 0) ((vlo u) 0))) 1 (mxI ((vlo w) 1) ((vlo u) 1))) 2 (mxI ((vlo w) 2) ((vlo u) 2))))) ha (aI G 3 (upd (upd (upd (vhi w) 0 (mnI ((vhi w) 0) ((vhi u) 0))) 1 (mnI ((vhi w) 1) ((vhi u) 1))) 2 (mnI ((vhi w) 2) ((vhi u) 2)))) = M2 at *
          have hBJ : rfB G M2 r 0 σ vA nA pA plA dg dla dha dva dza dvf dzf vf nf pf tk su le gr := hB.ev2 evM2 m_386 ⟨_, m_398⟩
          refine q_aload_n X dX13_join_202 5 rfl ?_
          refine q_iload X dX13_join_203 1 rfl ?_
          refine q_if_ne X 212 dX13_join_205 (by decide) (fun c_403 => absurd (by decide) c_403) (fun c_403 => ?_)
          refine q_iconst (v := 1) X dX13_join_208 (by decide) ?_
          refine q_goto X 213 dX13_join_209 (by decide) ?_
          refine q_iconst (v := 1) X dX13_join_213 (by decide) ?_
          refine q_callV X (c_fails1 (why := 1) hBJ.1) Y_X13_fails tw_1246 tw_1248 sel_23 m_386 rfl (by omega) rfl rfl (Nat.le_of_ble_eq_true rfl) (rc' := 2) (rs' := 4096) (by omega) (by omega) dX13_join_214 (fun v M' hp _ => ?_)
          obtain ⟨rfl, eM⟩ := hp
          have hB504 : rfB G M' r 1 σ vA nA pA plA dg dla dha dva dza dvf dzf vf nf pf tk su le gr := by rw [eM]; exact hBJ.ro
          clear eM
          generalize M' = M504 at *
          show qJ G F _ 18 M504 2 4096 217 [(8, .int 3), (7, .int 0), (6, .ref q), (5, .ref s), (4, .ref o), (0, .ref r), (1, .int (nI i)), (2, .int (nI i2)), (3, .int op)] [.int 1]
          obtain ⟨z_405r, z_4051, z_4052, z_4053, ⟨z_405x, z_4054⟩, z_4055, z_4056, z_4057, z_4058, z_4059, z_40510⟩ := id hB504
          refine q_if_eq X 222 dX13_join_217 (by decide) (fun c_406 => absurd c_406 (by decide)) (fun c_406 => ?_)
          refine q_iconst (v := 0) X dX13_join_220 (by decide) ?_
          exact q_iret X hr dX13_join_221 (rfP_T (by rw [specE]; exact gNeed_n (jn_no hw.1 hwu.1 (d := 0) (by decide) mm0)) cOp_IA ⟨vA, nA, pA, plA, dg, dla, dha, dva, dza, dvf, dzf, vf, nf, pf, tk, su, le, gr, hB504⟩)
        · refine q_iconst (v := 0) X dX13_join_193 (by decide) ?_
          refine q_istore (lv' := [(7, .int 0), (8, .int 2), (6, .ref q), (5, .ref s), (4, .ref o), (0, .ref r), (1, .int (nI i)), (2, .int (nI i2)), (3, .int op)]) X dX13_join_194 (by decide) rfl ?_
          refine q_iinc (v := 3) (lv' := [(8, .int 3), (7, .int 0), (6, .ref q), (5, .ref s), (4, .ref o), (0, .ref r), (1, .int (nI i)), (2, .int (nI i2)), (3, .int op)]) X dX13_join_196 1 rfl (by decide) (by decide) rfl ?_
          refine q_goto X 114 dX13_join_199 (by decide) ?_
          refine q_iload X dX13_join_114 0 rfl ?_
          refine q_iconst (v := 3) X dX13_join_116 (by decide) ?_
          refine q_icmp_ge X 202 dX13_join_117 (by decide) (fun c_407 => ?_) (fun c_407 => absurd (by decide) c_407)
          have evM2 : mEv (fun x => x = r ∨ x = plA) M (mU (mU (mU (mU (mU (mU M1 la (aI G 3 (upd (vlo w) 0 (mxI ((vlo w) 0) ((vlo u) 0))))) ha (aI G 3 (upd (vhi w) 0 (mnI ((vhi w) 0) ((vhi u) 0))))) la (aI G 3 (upd (upd (vlo w) 0 (mxI ((vlo w) 0) ((vlo u) 0))) 1 (mxI ((vlo w) 1) ((vlo u) 1))))) ha (aI G 3 (upd (upd (vhi w) 0 (mnI ((vhi w) 0) ((vhi u) 0))) 1 (mnI ((vhi w) 1) ((vhi u) 1))))) la (aI G 3 (upd (upd (upd (vlo w) 0 (mxI ((vlo w) 0) ((vlo u) 0))) 1 (mxI ((vlo w) 1) ((vlo u) 1))) 2 (mxI ((vlo w) 2) ((vlo u) 2))))) ha (aI G 3 (upd (upd (upd (vhi w) 0 (mnI ((vhi w) 0) ((vhi u) 0))) 1 (mnI ((vhi w) 1) ((vhi u) 1))) 2 (mnI ((vhi w) 2) ((vhi u) 2))))) := fun x hx => by
            have wla : x ≠ la := fun z => hx (z ▸ fla)
            have wha : x ≠ ha := fun z => hx (z ▸ fha)
            have e1 := evK1 x hx
            have e : (mU (mU (mU (mU (mU (mU M1 la (aI G 3 (upd (vlo w) 0 (mxI ((vlo w) 0) ((vlo u) 0))))) ha (aI G 3 (upd (vhi w) 0 (mnI ((vhi w) 0) ((vhi u) 0))))) la (aI G 3 (upd (upd (vlo w) 0 (mxI ((vlo w) 0) ((vlo u) 0))) 1 (mxI ((vlo w) 1) ((vlo u) 1))))) ha (aI G 3 (upd (upd (vhi w) 0 (mnI ((vhi w) 0) ((vhi u) 0))) 1 (mnI ((vhi w) 1) ((vhi u) 1))))) la (aI G 3 (upd (upd (upd (vlo w) 0 (mxI ((vlo w) 0) ((vlo u) 0))) 1 (mxI ((vlo w) 1) ((vlo u) 1))) 2 (mxI ((vlo w) 2) ((vlo u) 2))))) ha (aI G 3 (upd (upd (upd (vhi w) 0 (mnI ((vhi w) 0) ((vhi u) 0))) 1 (mnI ((vhi w) 1) ((vhi u) 1))) 2 (mnI ((vhi w) 2) ((vhi u) 2))))) x = M1 x := by simp only [mU, wla, wha, if_false]
            exact ⟨by rw [e]; exact e1.1, fun k => e.trans (e1.2 k)⟩
          generalize mU (mU (mU (mU (mU (mU M1 la (aI G 3 (upd (vlo w) 0 (mxI ((vlo w) 0) ((vlo u) 0))))) ha (aI G 3 (upd (vhi w) 0 (mnI ((vhi w) 0) ((vhi u) 0))))) la (aI G 3 (upd (upd (vlo w) 0 (mxI ((vlo w) 0) ((vlo u) 0))) 1 (mxI ((vlo w) 1) ((vlo u) 1))))) ha (aI G 3 (upd (upd (vhi w) 0 (mnI ((vhi w) 0) ((vhi u) 0))) 1 (mnI ((vhi w) 1) ((vhi u) 1))))) la (aI G 3 (upd (upd (upd (vlo w) 0 (mxI ((vlo w) 0) ((vlo u) 0))) 1 (mxI ((vlo w) 1) ((vlo u) 1))) 2 (mxI ((vlo w) 2) ((vlo u) 2))))) ha (aI G 3 (upd (upd (upd (vhi w) 0 (mnI ((vhi w) 0) ((vhi u) 0))) 1 (mnI ((vhi w) 1) ((vhi u) 1))) 2 (mnI ((vhi w) 2) ((vhi u) 2)))) = M2 at *
          have hBJ : rfB G M2 r 0 σ vA nA pA plA dg dla dha dva dza dvf dzf vf nf pf tk su le gr := hB.ev2 evM2 m_386 ⟨_, m_398⟩
          refine q_aload_n X dX13_join_202 5 rfl ?_
          refine q_iload X dX13_join_203 1 rfl ?_
          refine q_if_ne X 212 dX13_join_205 (by decide) (fun c_408 => absurd (by decide) c_408) (fun c_408 => ?_)
          refine q_iconst (v := 1) X dX13_join_208 (by decide) ?_
          refine q_goto X 213 dX13_join_209 (by decide) ?_
          refine q_iconst (v := 1) X dX13_join_213 (by decide) ?_
          refine q_callV X (c_fails1 (why := 1) hBJ.1) Y_X13_fails tw_1246 tw_1248 sel_23 m_386 rfl (by omega) rfl rfl (Nat.le_of_ble_eq_true rfl) (rc' := 2) (rs' := 4096) (by omega) (by omega) dX13_join_214 (fun v M' hp _ => ?_)
          obtain ⟨rfl, eM⟩ := hp
          have hB509 : rfB G M' r 1 σ vA nA pA plA dg dla dha dva dza dvf dzf vf nf pf tk su le gr := by rw [eM]; exact hBJ.ro
          clear eM
          generalize M' = M509 at *
          show qJ G F _ 18 M509 2 4096 217 [(8, .int 3), (7, .int 0), (6, .ref q), (5, .ref s), (4, .ref o), (0, .ref r), (1, .int (nI i)), (2, .int (nI i2)), (3, .int op)] [.int 1]
          obtain ⟨z_410r, z_4101, z_4102, z_4103, ⟨z_410x, z_4104⟩, z_4105, z_4106, z_4107, z_4108, z_4109, z_41010⟩ := id hB509
          refine q_if_eq X 222 dX13_join_217 (by decide) (fun c_411 => absurd c_411 (by decide)) (fun c_411 => ?_)
          refine q_iconst (v := 0) X dX13_join_220 (by decide) ?_
          exact q_iret X hr dX13_join_221 (rfP_T (by rw [specE]; exact gNeed_n (jn_no hw.1 hwu.1 (d := 0) (by decide) mm0)) cOp_IA ⟨vA, nA, pA, plA, dg, dla, dha, dva, dza, dvf, dzf, vf, nf, pf, tk, su, le, gr, hB509⟩)
  show qJ G F _ 18 M 5 4108 0 [(0, .ref r), (1, .int a), (2, .int b), (3, .int op)] []
  refine q_aload_n X dX13_join_0 0 rfl ?_
  rcases Nat.lt_or_ge (aN σ).length 150 with q150 | q150
  · refine q_callV X (c_full_y hB q150) Y_X13_full tw_1332 tw_1334 sel_27 hB.1 rfl (by omega) rfl rfl (Nat.le_of_ble_eq_true rfl) (rc' := 5) (rs' := 4108) (by omega) (by omega) dX13_join_1 (fun v M' hp _ => ?_)
    obtain ⟨rfl, eM⟩ := hp
    have hB512 : rfB G M' r 0 σ vA nA pA plA dg dla dha dva dza dvf dzf vf nf pf tk su le gr := by rw [eM]; exact hB.ro
    clear eM
    generalize M' = M512 at *
    show qJ G F _ 18 M512 5 4108 4 [(0, .ref r), (1, .int a), (2, .int b), (3, .int op)] [.int 0]
    obtain ⟨z_413r, z_4131, z_4132, z_4133, ⟨z_413x, z_4134⟩, z_4135, z_4136, z_4137, z_4138, z_4139, z_41310⟩ := id hB512
    refine q_if_eq X 9 dX13_join_4 (by decide) (fun c_414 => ?_) (fun c_414 => absurd (by decide) c_414)
    refine q_aload_n X dX13_join_9 0 rfl ?_
    refine q_aload_n X dX13_join_10 0 rfl ?_
    refine q_iload_n X dX13_join_11 1 rfl ?_
    rcases hnd : ndAt σ a with _ | w
    · refine q_callVp X (c_none_n hB512 (by omega) hnd) Y_X13_none tw_1351 tw_1353 sel_30 z_413r rfl (by omega) rfl rfl (Nat.le_of_ble_eq_true rfl) dX13_join_12 ?_
      refine q_if_ne X 56 dX13_join_15 (by decide) (fun c_415 => ?_) (fun c_415 => absurd c_415 (by decide))
      refine q_iconst (v := 1) X dX13_join_56 (by decide) ?_
      refine q_goto X 61 dX13_join_57 (by decide) ?_
      refine q_iconst (v := 1) X dX13_join_61 (by decide) ?_
      refine q_callV X (c_fails1 (why := 1) hB512.1) Y_X13_fails tw_1246 tw_1248 sel_23 z_413r rfl (by omega) rfl rfl (Nat.le_of_ble_eq_true rfl) (rc' := 5) (rs' := 4108) (by omega) (by omega) dX13_join_62 (fun v M' hp _ => ?_)
      obtain ⟨rfl, eM⟩ := hp
      have hB516 : rfB G M' r 1 σ vA nA pA plA dg dla dha dva dza dvf dzf vf nf pf tk su le gr := by rw [eM]; exact hB512.ro
      clear eM
      generalize M' = M516 at *
      show qJ G F _ 18 M516 5 4108 65 [(0, .ref r), (1, .int a), (2, .int b), (3, .int op)] [.int 1]
      obtain ⟨z_417r, z_4171, z_4172, z_4173, ⟨z_417x, z_4174⟩, z_4175, z_4176, z_4177, z_4178, z_4179, z_41710⟩ := id hB516
      refine q_if_eq X 70 dX13_join_65 (by decide) (fun c_418 => absurd c_418 (by decide)) (fun c_418 => ?_)
      refine q_iconst (v := 0) X dX13_join_68 (by decide) ?_
      exact q_iret X hr dX13_join_69 (rfP_T ((gRoom_y q150).trans (gNode_n hnd)) cOp_IA ⟨vA, nA, pA, plA, dg, dla, dha, dva, dza, dvf, dzf, vf, nf, pf, tk, su, le, gr, hB516⟩)
    · refine q_callVp X (c_none_y hB512 (by omega) hnd) Y_X13_none tw_1351 tw_1353 sel_30 z_413r rfl (by omega) rfl rfl (Nat.le_of_ble_eq_true rfl) dX13_join_12 ?_
      obtain ⟨i, hi9, rfl, hi⟩ := ndAt_some hnd
      have hw := hW.2 i w hi
      have hi150 : i < 150 := by omega
      refine q_if_ne X 56 dX13_join_15 (by decide) (fun c_419 => absurd (by decide) c_419) (fun c_419 => ?_)
      refine q_aload_n X dX13_join_18 0 rfl ?_
      refine q_iload_n X dX13_join_19 2 rfl ?_
      rcases hnd2 : ndAt σ b with _ | u
      · refine q_callVp X (c_none_n hB512 (by omega) hnd2) Y_X13_none tw_1351 tw_1353 sel_30 z_413r rfl (by omega) rfl rfl (Nat.le_of_ble_eq_true rfl) dX13_join_20 ?_
        refine q_if_ne X 56 dX13_join_23 (by decide) (fun c_420 => ?_) (fun c_420 => absurd c_420 (by decide))
        refine q_iconst (v := 1) X dX13_join_56 (by decide) ?_
        refine q_goto X 61 dX13_join_57 (by decide) ?_
        refine q_iconst (v := 1) X dX13_join_61 (by decide) ?_
        refine q_callV X (c_fails1 (why := 1) hB512.1) Y_X13_fails tw_1246 tw_1248 sel_23 z_413r rfl (by omega) rfl rfl (Nat.le_of_ble_eq_true rfl) (rc' := 5) (rs' := 4108) (by omega) (by omega) dX13_join_62 (fun v M' hp _ => ?_)
        obtain ⟨rfl, eM⟩ := hp
        have hB521 : rfB G M' r 1 σ vA nA pA plA dg dla dha dva dza dvf dzf vf nf pf tk su le gr := by rw [eM]; exact hB512.ro
        clear eM
        generalize M' = M521 at *
        show qJ G F _ 18 M521 5 4108 65 [(0, .ref r), (1, .int (nI i)), (2, .int b), (3, .int op)] [.int 1]
        obtain ⟨z_422r, z_4221, z_4222, z_4223, ⟨z_422x, z_4224⟩, z_4225, z_4226, z_4227, z_4228, z_4229, z_42210⟩ := id hB521
        refine q_if_eq X 70 dX13_join_65 (by decide) (fun c_423 => absurd c_423 (by decide)) (fun c_423 => ?_)
        refine q_iconst (v := 0) X dX13_join_68 (by decide) ?_
        exact q_iret X hr dX13_join_69 (rfP_T ((gRoom_y q150).trans ((gNode_y hnd).trans (gNode_n hnd2))) cOp_IA ⟨vA, nA, pA, plA, dg, dla, dha, dva, dza, dvf, dzf, vf, nf, pf, tk, su, le, gr, hB521⟩)
      · refine q_callVp X (c_none_y hB512 (by omega) hnd2) Y_X13_none tw_1351 tw_1353 sel_30 z_413r rfl (by omega) rfl rfl (Nat.le_of_ble_eq_true rfl) dX13_join_20 ?_
        obtain ⟨i2, hi29, rfl, hi2⟩ := ndAt_some hnd2
        have hwu := hW.2 i2 u hi2
        have hi2150 : i2 < 150 := by omega
        refine q_if_ne X 56 dX13_join_23 (by decide) (fun c_424 => absurd (by decide) c_424) (fun c_424 => ?_)
        refine q_iload_n X dX13_join_26 3 rfl ?_
        refine q_if_lt X 56 dX13_join_27 (by decide) (fun c27 => ?_) (fun c27 => ?_)
        · refine q_iconst (v := 1) X dX13_join_56 (by decide) ?_
          refine q_goto X 61 dX13_join_57 (by decide) ?_
          refine q_iconst (v := 1) X dX13_join_61 (by decide) ?_
          refine q_callV X (c_fails1 (why := 1) hB512.1) Y_X13_fails tw_1246 tw_1248 sel_23 z_413r rfl (by omega) rfl rfl (Nat.le_of_ble_eq_true rfl) (rc' := 5) (rs' := 4108) (by omega) (by omega) dX13_join_62 (fun v M' hp _ => ?_)
          obtain ⟨rfl, eM⟩ := hp
          have hB525 : rfB G M' r 1 σ vA nA pA plA dg dla dha dva dza dvf dzf vf nf pf tk su le gr := by rw [eM]; exact hB512.ro
          clear eM
          generalize M' = M525 at *
          show qJ G F _ 18 M525 5 4108 65 [(0, .ref r), (1, .int (nI i)), (2, .int (nI i2)), (3, .int op)] [.int 1]
          obtain ⟨z_426r, z_4261, z_4262, z_4263, ⟨z_426x, z_4264⟩, z_4265, z_4266, z_4267, z_4268, z_4269, z_42610⟩ := id hB525
          refine q_if_eq X 70 dX13_join_65 (by decide) (fun c_427 => absurd c_427 (by decide)) (fun c_427 => ?_)
          refine q_iconst (v := 0) X dX13_join_68 (by decide) ?_
          exact q_iret X hr dX13_join_69 (rfP_T ((gRoom_y q150).trans ((gNode_y hnd).trans ((gNode_y hnd2).trans (gNeed_n (fun z => z.1 c27))))) cOp_IA ⟨vA, nA, pA, plA, dg, dla, dha, dva, dza, dvf, dzf, vf, nf, pf, tk, su, le, gr, hB525⟩)
        · refine q_iload_n X dX13_join_30 3 rfl ?_
          refine q_iconst (v := 5) X dX13_join_31 (by decide) ?_
          refine q_icmp_gt X 56 dX13_join_32 (by decide) (fun c32 => ?_) (fun c32 => ?_)
          · refine q_iconst (v := 1) X dX13_join_56 (by decide) ?_
            refine q_goto X 61 dX13_join_57 (by decide) ?_
            refine q_iconst (v := 1) X dX13_join_61 (by decide) ?_
            refine q_callV X (c_fails1 (why := 1) hB512.1) Y_X13_fails tw_1246 tw_1248 sel_23 z_413r rfl (by omega) rfl rfl (Nat.le_of_ble_eq_true rfl) (rc' := 5) (rs' := 4108) (by omega) (by omega) dX13_join_62 (fun v M' hp _ => ?_)
            obtain ⟨rfl, eM⟩ := hp
            have hB528 : rfB G M' r 1 σ vA nA pA plA dg dla dha dva dza dvf dzf vf nf pf tk su le gr := by rw [eM]; exact hB512.ro
            clear eM
            generalize M' = M528 at *
            show qJ G F _ 18 M528 5 4108 65 [(0, .ref r), (1, .int (nI i)), (2, .int (nI i2)), (3, .int op)] [.int 1]
            obtain ⟨z_429r, z_4291, z_4292, z_4293, ⟨z_429x, z_4294⟩, z_4295, z_4296, z_4297, z_4298, z_4299, z_42910⟩ := id hB528
            refine q_if_eq X 70 dX13_join_65 (by decide) (fun c_430 => absurd c_430 (by decide)) (fun c_430 => ?_)
            refine q_iconst (v := 0) X dX13_join_68 (by decide) ?_
            exact q_iret X hr dX13_join_69 (rfP_T ((gRoom_y q150).trans ((gNode_y hnd).trans ((gNode_y hnd2).trans (gNeed_n (fun z => z.2 (op_ge (Int32.not_le.mpr c32))))))) cOp_IA ⟨vA, nA, pA, plA, dg, dla, dha, dva, dza, dvf, dzf, vf, nf, pf, tk, su, le, gr, hB528⟩)
          · obtain ⟨o, hnfo, ola, oha, ova, oza, ovf, ozf, hO, bo1, bo2, bo3, bo4⟩ := hB512.2.2.2.2.2.2.2.2.1 i w hi
            obtain ⟨s, hnfs, sla, sha, sva, sza, svf, szf, hOs, bs1, bs2, bs3, bs4⟩ := hB512.2.2.2.2.2.2.2.2.1 i2 u hi2
            refine q_aload_n X dX13_join_35 0 rfl ?_
            refine q_get X z_413r rfl in_RX13 2 (by decide) tw_1196 rfl rfl dX13_join_36 ?_
            refine q_iload_n X dX13_join_39 1 rfl ?_
            refine q_gald X i z_4132 (rfl) (hi150) (by decide) hnfo dX13_join_40 ?_
            refine q_get X hO.1 rfl in_RX12 0 (by decide) tw_1156 rfl rfl dX13_join_41 ?_
            refine q_aload_n X dX13_join_44 0 rfl ?_
            refine q_get X z_413r rfl in_RX13 2 (by decide) tw_1196 rfl rfl dX13_join_45 ?_
            refine q_iload_n X dX13_join_48 2 rfl ?_
            refine q_gald X i2 z_4132 (rfl) (hi2150) (by decide) hnfs dX13_join_49 ?_
            refine q_get X hOs.1 rfl in_RX12 0 (by decide) tw_1156 rfl rfl dX13_join_50 ?_
            refine q_icmp_eq X 60 dX13_join_53 (by decide) (fun c53 => ?_) (fun c53 => ?_)
            · refine q_iconst (v := 0) X dX13_join_60 (by decide) ?_
              refine q_iconst (v := 1) X dX13_join_61 (by decide) ?_
              refine q_callV X (c_fails0 (why := 1) hB512.1) Y_X13_fails tw_1246 tw_1248 sel_23 z_413r rfl (by omega) rfl rfl (Nat.le_of_ble_eq_true rfl) (rc' := 5) (rs' := 4108) (by omega) (by omega) dX13_join_62 (fun v M' hp _ => ?_)
              obtain ⟨rfl, eM⟩ := hp
              have hB531 : rfB G M' r 0 σ vA nA pA plA dg dla dha dva dza dvf dzf vf nf pf tk su le gr := by rw [eM]; exact hB512.ro
              clear eM
              generalize M' = M531 at *
              show qJ G F _ 18 M531 5 4108 65 [(0, .ref r), (1, .int (nI i)), (2, .int (nI i2)), (3, .int op)] [.int 0]
              obtain ⟨z_432r, z_4321, z_4322, z_4323, ⟨z_432x, z_4324⟩, z_4325, z_4326, z_4327, z_4328, z_4329, z_43210⟩ := id hB531
              refine q_if_eq X 70 dX13_join_65 (by decide) (fun c_433 => ?_) (fun c_433 => absurd (by decide) c_433)
              refine q_sub [0, 1, 2, 3] rfl ?_
              exact tail _ i i2 w u hB531 hi hi2 hw hwu q150 c27 (op_lt (Int32.not_lt.mp c32)) (nI_inj (by have := hw.1.2.1; omega) (by have := hwu.1.2.1; omega) c53) ((gRoom_y q150).trans ((gNode_y hnd).trans ((gNode_y hnd2).trans (gNeed_y ⟨c27, op_lt (Int32.not_lt.mp c32)⟩))))
            · refine q_iconst (v := 1) X dX13_join_56 (by decide) ?_
              refine q_goto X 61 dX13_join_57 (by decide) ?_
              refine q_iconst (v := 1) X dX13_join_61 (by decide) ?_
              refine q_callV X (c_fails1 (why := 1) hB512.1) Y_X13_fails tw_1246 tw_1248 sel_23 z_413r rfl (by omega) rfl rfl (Nat.le_of_ble_eq_true rfl) (rc' := 5) (rs' := 4108) (by omega) (by omega) dX13_join_62 (fun v M' hp _ => ?_)
              obtain ⟨rfl, eM⟩ := hp
              have hB534 : rfB G M' r 1 σ vA nA pA plA dg dla dha dva dza dvf dzf vf nf pf tk su le gr := by rw [eM]; exact hB512.ro
              clear eM
              generalize M' = M534 at *
              show qJ G F _ 18 M534 5 4108 65 [(0, .ref r), (1, .int (nI i)), (2, .int (nI i2)), (3, .int op)] [.int 1]
              obtain ⟨z_435r, z_4351, z_4352, z_4353, ⟨z_435x, z_4354⟩, z_4355, z_4356, z_4357, z_4358, z_4359, z_43510⟩ := id hB534
              refine q_if_eq X 70 dX13_join_65 (by decide) (fun c_436 => absurd c_436 (by decide)) (fun c_436 => ?_)
              refine q_iconst (v := 0) X dX13_join_68 (by decide) ?_
              exact q_iret X hr dX13_join_69 (rfP_T ((gRoom_y q150).trans ((gNode_y hnd).trans ((gNode_y hnd2).trans ((gNeed_y ⟨c27, op_lt (Int32.not_lt.mp c32)⟩).trans (gNeed_n (fun z => z (by rw [decide_eq_false c53, meetB_f]; rfl))))))) cOp_IA ⟨vA, nA, pA, plA, dg, dla, dha, dva, dza, dvf, dzf, vf, nf, pf, tk, su, le, gr, hB534⟩)
  · refine q_callV X (c_full_n hB q150 hl150) Y_X13_full tw_1332 tw_1334 sel_27 hB.1 rfl (by omega) rfl rfl (Nat.le_of_ble_eq_true rfl) (rc' := 5) (rs' := 4108) (by omega) (by omega) dX13_join_1 (fun v M' hp _ => ?_)
    obtain ⟨rfl, eM⟩ := hp
    have hB537 : rfB G M' r 2 σ vA nA pA plA dg dla dha dva dza dvf dzf vf nf pf tk su le gr := by rw [eM]; exact hB.ro
    clear eM
    generalize M' = M537 at *
    show qJ G F _ 18 M537 5 4108 4 [(0, .ref r), (1, .int a), (2, .int b), (3, .int op)] [.int 1]
    obtain ⟨z_438r, z_4381, z_4382, z_4383, ⟨z_438x, z_4384⟩, z_4385, z_4386, z_4387, z_4388, z_4389, z_43810⟩ := id hB537
    refine q_if_eq X 9 dX13_join_4 (by decide) (fun c_439 => absurd c_439 (by decide)) (fun c_439 => ?_)
    refine q_iconst (v := 0) X dX13_join_7 (by decide) ?_
    exact q_iret X hr dX13_join_8 (rfP_T (gRoom_n (Nat.not_lt.mpr q150)) cOp_IO ⟨vA, nA, pA, plA, dg, dla, dha, dva, dza, dvf, dzf, vf, nf, pf, tk, su, le, gr, hB537⟩)
