/-! the reference: swap, slice -/
theorem c1n_0 {m : Nat} {y : Int32} (h : 1 < m ∨ y = 0) : c1n m y = y := by
  unfold c1n; by_cases c : 1 < m
  · rw [if_pos c]
  · rw [if_neg c]; exact (h.resolve_left c).symm
theorem c2n_0 {m : Nat} {y : Int32} (h : 2 < m ∨ y = 0) : c2n m y = y := by
  unfold c2n; by_cases c : 2 < m
  · rw [if_pos c]
  · rw [if_neg c]; exact (h.resolve_left c).symm
theorem lo_idle {m : Nat} {lo hi : Nat → Int32} (h : okS m lo hi) {d j : Nat} (hd : d < 3) (hm : m ≤ d) (hj : j < sN lo hi d) : lo d + nI j = 0 := by
  have := h.one hd hm
  rw [show j = 0 by omega, (h.2.2.2 d hm hd).1]; decide
def swP (p : Nat → Int32) (x y z : Int32) : Nat → Int32 := upd (upd (upd p 0 x) 1 y) 2 z
def swQ (p : Nat → Int32) (x y z : Int32) (a b : Nat) : Nat → Int32 := upd (upd (swP p x y z) a (swP p x y z b)) b (swP p x y z a)
theorem swP_at {p : Nat → Int32} {x y z : Int32} : swP p x y z 0 = x ∧ swP p x y z 1 = y ∧ swP p x y z 2 = z := ⟨by simp [swP, upd], by simp [swP, upd], by simp [swP, upd]⟩
theorem sw_fr {w : vN} (hw : vOk w) {a b : Nat} (ha : a < vm w) (hb : b < vm w) {lo hi : Nat → Int32} (h : okS (vm w) lo hi) (hz : sz3 lo hi ≤ 4096) {p : Nat → Int32} {e j k : Nat} (he : e < sN lo hi 0) (hj : j < sN lo hi 1) (hk : k < sN lo hi 2) : frV w (swQ p (lo 0 + nI e) (lo 1 + nI j) (lo 2 + nI k) a b 0) (swQ p (lo 0 + nI e) (lo 1 + nI j) (lo 2 + nI k) a b 1) (swQ p (lo 0 + nI e) (lo 1 + nI j) (lo 2 + nI k) a b 2) = vwD w lo hi (exT a b) 0 (c3 (sN lo hi 1) (sN lo hi 2) e j k) := by
  obtain ⟨p0, p1, p2⟩ := pl3_c3 h hz he hj hk
  have h3 := h.2.1
  obtain ⟨s0, s1, s2⟩ := swP_at (p := p) (x := lo 0 + nI e) (y := lo 1 + nI j) (z := lo 2 + nI k)
  have pl : ∀ t, t < 3 → pl3 lo hi (c3 (sN lo hi 1) (sN lo hi 2) e j k) (nI t) = swP p (lo 0 + nI e) (lo 1 + nI j) (lo 2 + nI k) t := fun t ht => by
    rcases (show t = 0 ∨ t = 1 ∨ t = 2 by omega) with rfl | rfl | rfl
    · rw [s0]; exact p0
    · rw [s1]; exact p1
    · rw [s2]; exact p2
  have vp : ∀ t, t < 3 → vP lo hi (exT a b) 0 (c3 (sN lo hi 1) (sN lo hi 2) e j k) t = swQ p (lo 0 + nI e) (lo 1 + nI j) (lo 2 + nI k) a b t := fun t ht => by
    have ne1 : ∀ u : Nat, u < 3 → ¬ nI u = -1 := fun u hu => by rcases (show u = 0 ∨ u = 1 ∨ u = 2 by omega) with rfl | rfl | rfl <;> decide
    unfold vP exT swQ upd
    by_cases c1 : t = b
    · rw [if_pos c1, if_pos c1, if_neg (ne1 a (by omega)), pl a (by omega)]
    · rw [if_neg c1, if_neg c1]
      by_cases c2 : t = a
      · rw [if_pos c2, if_pos c2, if_neg (ne1 b (by omega)), pl b (by omega)]
      · rw [if_neg c2, if_neg c2, if_neg (ne1 t ht), pl t ht]
  have id1 : 1 < vm w ∨ swQ p (lo 0 + nI e) (lo 1 + nI j) (lo 2 + nI k) a b 1 = 0 := by
    by_cases c : 1 < vm w
    · exact Or.inl c
    · right; unfold swQ upd; rw [if_neg (by omega), if_neg (by omega), s1]; exact lo_idle h (by decide) (by omega) hj
  have id2 : 2 < vm w ∨ swQ p (lo 0 + nI e) (lo 1 + nI j) (lo 2 + nI k) a b 2 = 0 := by
    by_cases c : 2 < vm w
    · exact Or.inl c
    · right; unfold swQ upd; rw [if_neg (by omega), if_neg (by omega), s2]; exact lo_idle h (by decide) (by omega) hk
  have q := frV_w hw (x := swQ p (lo 0 + nI e) (lo 1 + nI j) (lo 2 + nI k) a b 0) (y := swQ p (lo 0 + nI e) (lo 1 + nI j) (lo 2 + nI k) a b 1) (z := swQ p (lo 0 + nI e) (lo 1 + nI j) (lo 2 + nI k) a b 2)
  rw [c1n_0 id1, c2n_0 id2] at q
  rw [q]
  unfold vwD
  rw [vp 0 (by decide), vp 1 (by decide), vp 2 (by decide)]

theorem mU_z {M : gMem} {pl va za : Nat} {p0 p1 p2 p3 p4 p5 a z a' z' : va_E} : mU (mU (mU (mU (mU (mU (mU (mU (mU (mU M pl p0) va a) za z) pl p1) pl p2) pl p3) pl p4) pl p5) va a') za z' = mU (mU (mU M pl p5) va a') za z' := by
  funext q; unfold mU
  by_cases h1 : q = za <;> by_cases h2 : q = va <;> by_cases h3 : q = pl <;> simp [h1, h2, h3]

set_option maxRecDepth 20000 in
theorem r_swap {l : Launch} {G : gV} {M : gMem} {r : Nat} {e : Int32} {σ : sA} (hW : gvW σ) (hR : isRF G M r e σ) {a d e2 : Int32} : qC l G yX13_swap cX13_swap 10 (some .int) 6 5 4108 [.ref r, .int a, .int d, .int e2] M (rfP G r cOp (some (.int 0)) (sp_swap σ a d e2)) := by
  refine qC_of (by decide +kernel) (Nat.le_of_ble_eq_true rfl) (fun F hF X hr hn => ?_)
  subst hF
  have X : qX G F cX13_swap 10 RX13 6 := X
  obtain ⟨vA, nA, pA, plA, dg, dla, dha, dva, dza, dvf, dzf, vf, nf, pf, tk, su, le, gr, hB⟩ := hR
  have hl150 := hW.1.2.2.2.2.1
  have hl41 := hW.1.2.2.2.1
  have tail : ∀ (M : gMem) (i : Nat) (w : vN) (hB : rfB G M r 0 σ vA nA pA plA dg dla dha dva dza dvf dzf vf nf pf tk su le gr) (hi : (aN σ)[i]? = some w) (hw : vOk w) (h150 : (aN σ).length < 150) (ja jb : Nat) (hja : ja < vm w) (hjb : jb < vm w) (specE : sp_swap σ (nI i) (nI ja) (nI jb) = gLim σ (swF (vlo w) (nI ja) (nI jb)) (swF (vhi w) (nI ja) (nI jb)) (nI (vdp w)) (oN σ (vm w, swF (vlo w) (nI ja) (nI jb), swF (vhi w) (nI ja) (nI jb), vdp w + 1, vwD w (swF (vlo w) (nI ja) (nI jb)) (swF (vhi w) (nI ja) (nI jb)) (exT ja jb) 0))), qJ G F (qQ G F (rfP G r cOp (some (.int 0)) (sp_swap σ (nI i) (nI ja) (nI jb)))) 10 M 5 4108 42 [(0, .ref r), (1, .int (nI i)), (2, .int (nI ja)), (3, .int (nI jb))] [] := by
    intro M i w hB hi hw h150 ja jb hja hjb specE
    obtain ⟨o, hnfo, ola, oha, ova, oza, ovf, ozf, hO, bo1, bo2, bo3, bo4⟩ := hB.2.2.2.2.2.2.2.2.1 i w hi
    have hi150 : i < 150 := Nat.lt_of_lt_of_le (List.getElem?_eq_some_iff.mp hi).1 (by omega)
    obtain ⟨pl0, hpl0⟩ := hB.2.2.2.2.1
    have hd40 := hw.2.2
    have hm3 := hw.1.2.1
    have hja3 : ja < 3 := by omega
    have hjb3 : jb < 3 := by omega
    obtain ⟨LO, eLO⟩ : ∃ LO, LO = swF (vlo w) (nI ja) (nI jb) := ⟨_, rfl⟩
    obtain ⟨HI, eHI⟩ : ∃ HI, HI = swF (vhi w) (nI ja) (nI jb) := ⟨_, rfl⟩
    have hok := okS_sw hw.1 hja hjb
    rw [← eLO, ← eHI] at hok
    have uLO : upd (upd (vlo w) ja (vlo w jb)) jb (vlo w ja) = LO := by rw [eLO]; unfold swF; rw [rpl3_N jb hjb3 rfl, rpl3_N ja hja3 rfl, s3_N ja hja3 rfl, s3_N jb hjb3 rfl]
    have uHI : upd (upd (vhi w) ja (vhi w jb)) jb (vhi w ja) = HI := by rw [eHI]; unfold swF; rw [rpl3_N jb hjb3 rfl, rpl3_N ja hja3 rfl, s3_N ja hja3 rfl, s3_N jb hjb3 rfl]
    rw [← eLO, ← eHI] at specE
    refine q_aload_n X dX13_swap_42 0 rfl ?_
    refine q_get X hB.1 rfl in_RX13 2 (by decide) tw_1196 rfl rfl dX13_swap_43 ?_
    refine q_iload_n X dX13_swap_46 1 rfl ?_
    refine q_gald X i hB.2.2.1 (rfl) (hi150) (by decide) hnfo dX13_swap_47 ?_
    refine q_astore (lv' := [(4, .ref o), (0, .ref r), (1, .int (nI i)), (2, .int (nI ja)), (3, .int (nI jb))]) X dX13_swap_48 (by decide) rfl ?_
    refine q_aload X dX13_swap_50 0 rfl ?_
    refine q_aload X dX13_swap_52 0 rfl ?_
    refine q_get X hO.1 rfl in_RX12 1 (by decide) tw_1157 rfl rfl dX13_swap_54 ?_
    refine q_iconst (v := 1) X dX13_swap_57 (by decide) ?_
    refine q_iadd X dX13_swap_58 ?_
    rw [nI_1]
    refine q_callS X (c_like hO.1 hO.2.1 hO.2.2.1) Y_X13_like tw_1336 tw_1337 (by omega) rfl rfl (Nat.le_of_ble_eq_true rfl) (rc' := 2) (rs' := 4096) (by omega) (by omega) dX13_swap_59 (fun v M' hp _ => ?_)
    obtain ⟨q, la, ha, rfl, fq, fla, fha, llh, llq, lhq, hq1, hla1, hha1, ev1⟩ := hp
    generalize M' = M1 at *
    have m_1 : M1 r = some (oB 13 [.int 0, .ref vA, .ref nA, .ref pA, .ref plA, .ref dg, .int (nI (aV σ).length), .int (nI (aN σ).length), .int (nI (aOf σ)), .int (nI (aBg σ)), .int tk, .long su, .long le, .long gr]) := ev1.keep hB.1 id
    have m_2 : M1 nA = some (aG G 150 nf) := ev1.keep hB.2.2.1 id
    have m_3 : M1 o = some (oB 12 [.int (nI (vm w)), .int (nI (vdp w)), .ref ola, .ref oha, .ref ova, .ref oza]) := ev1.keep hO.1 id
    have m_4 : M1 ola = some (aI G 3 (vlo w)) := ev1.keep hO.2.1 id
    have m_5 : M1 oha = some (aI G 3 (vhi w)) := ev1.keep hO.2.2.1 id
    have m_6 : M1 ova = some (aJ G (wsz w) ovf) := ev1.keep hO.2.2.2.1 id
    have m_7 : M1 oza = some (aZ G (wsz w) ozf) := ev1.keep hO.2.2.2.2.1 id
    have m_8 : M1 plA = some (aI G 3 pl0) := ev1.keep hpl0 id
    have evK1 : mEv (fun x => x = r ∨ x = plA) M M1 := ev1.mono (fun _ _ z => z.elim)
    show qJ G F _ 10 M1 2 4096 62 [(4, .ref o), (0, .ref r), (1, .int (nI i)), (2, .int (nI ja)), (3, .int (nI jb))] [.ref q]
    refine q_astore (lv' := [(5, .ref q), (4, .ref o), (0, .ref r), (1, .int (nI i)), (2, .int (nI ja)), (3, .int (nI jb))]) X dX13_swap_62 (by decide) rfl ?_
    refine q_aload X dX13_swap_64 0 rfl ?_
    refine q_get X hq1 rfl in_RX12 2 (by decide) tw_1159 rfl rfl dX13_swap_66 ?_
    refine q_iload_n X dX13_swap_69 4 rfl ?_
    refine q_aload X dX13_swap_70 1 rfl ?_
    refine q_get X m_3 rfl in_RX12 2 (by decide) tw_1159 rfl rfl dX13_swap_72 ?_
    refine q_iload_n X dX13_swap_75 5 rfl ?_
    refine q_ialdN X jb m_4 (rfl) (hjb3) (by decide) dX13_swap_76 ?_
    refine q_iastN X ja hla1 (rfl) (hja3) (by decide) dX13_swap_77 ?_
    have m_9 : (mU M1 la (aI G 3 (upd (vlo w) ja ((vlo w) jb)))) r = some (oB 13 [.int 0, .ref vA, .ref nA, .ref pA, .ref plA, .ref dg, .int (nI (aV σ).length), .int (nI (aN σ).length), .int (nI (aOf σ)), .int (nI (aBg σ)), .int tk, .long su, .long le, .long gr]) := (mU_n (g_nef hB.1 fla)).trans m_1
    have m_10 : (mU M1 la (aI G 3 (upd (vlo w) ja ((vlo w) jb)))) nA = some (aG G 150 nf) := (mU_n (g_nef hB.2.2.1 fla)).trans m_2
    have m_11 : (mU M1 la (aI G 3 (upd (vlo w) ja ((vlo w) jb)))) o = some (oB 12 [.int (nI (vm w)), .int (nI (vdp w)), .ref ola, .ref oha, .ref ova, .ref oza]) := (mU_n (g_nef hO.1 fla)).trans m_3
    have m_12 : (mU M1 la (aI G 3 (upd (vlo w) ja ((vlo w) jb)))) ola = some (aI G 3 (vlo w)) := (mU_n (g_nef hO.2.1 fla)).trans m_4
    have m_13 : (mU M1 la (aI G 3 (upd (vlo w) ja ((vlo w) jb)))) oha = some (aI G 3 (vhi w)) := (mU_n (g_nef hO.2.2.1 fla)).trans m_5
    have m_14 : (mU M1 la (aI G 3 (upd (vlo w) ja ((vlo w) jb)))) ova = some (aJ G (wsz w) ovf) := (mU_n (g_nef hO.2.2.2.1 fla)).trans m_6
    have m_15 : (mU M1 la (aI G 3 (upd (vlo w) ja ((vlo w) jb)))) oza = some (aZ G (wsz w) ozf) := (mU_n (g_nef hO.2.2.2.2.1 fla)).trans m_7
    have m_16 : (mU M1 la (aI G 3 (upd (vlo w) ja ((vlo w) jb)))) plA = some (aI G 3 pl0) := (mU_n (g_nef hpl0 fla)).trans m_8
    have m_17 : (mU M1 la (aI G 3 (upd (vlo w) ja ((vlo w) jb)))) q = some (oB 12 [.int (nI (vm w)), .int (nI (vdp w + 1)), .ref la, .ref ha, .null, .null]) := (mU_n (Ne.symm (llq))).trans hq1
    have m_18 : (mU M1 la (aI G 3 (upd (vlo w) ja ((vlo w) jb)))) la = some (aI G 3 (upd (vlo w) ja ((vlo w) jb))) := mU_s
    have m_19 : (mU M1 la (aI G 3 (upd (vlo w) ja ((vlo w) jb)))) ha = some (aI G 3 (vhi w)) := (mU_n (Ne.symm (llh))).trans hha1
    refine q_aload X dX13_swap_78 0 rfl ?_
    refine q_get X m_17 rfl in_RX12 3 (by decide) tw_1161 rfl rfl dX13_swap_80 ?_
    refine q_iload_n X dX13_swap_83 4 rfl ?_
    refine q_aload X dX13_swap_84 1 rfl ?_
    refine q_get X m_11 rfl in_RX12 3 (by decide) tw_1161 rfl rfl dX13_swap_86 ?_
    refine q_iload_n X dX13_swap_89 5 rfl ?_
    refine q_ialdN X jb m_13 (rfl) (hjb3) (by decide) dX13_swap_90 ?_
    refine q_iastN X ja m_19 (rfl) (hja3) (by decide) dX13_swap_91 ?_
    have m_20 : (mU (mU M1 la (aI G 3 (upd (vlo w) ja ((vlo w) jb)))) ha (aI G 3 (upd (vhi w) ja ((vhi w) jb)))) r = some (oB 13 [.int 0, .ref vA, .ref nA, .ref pA, .ref plA, .ref dg, .int (nI (aV σ).length), .int (nI (aN σ).length), .int (nI (aOf σ)), .int (nI (aBg σ)), .int tk, .long su, .long le, .long gr]) := (mU_n (g_nef hB.1 fha)).trans m_9
    have m_21 : (mU (mU M1 la (aI G 3 (upd (vlo w) ja ((vlo w) jb)))) ha (aI G 3 (upd (vhi w) ja ((vhi w) jb)))) nA = some (aG G 150 nf) := (mU_n (g_nef hB.2.2.1 fha)).trans m_10
    have m_22 : (mU (mU M1 la (aI G 3 (upd (vlo w) ja ((vlo w) jb)))) ha (aI G 3 (upd (vhi w) ja ((vhi w) jb)))) o = some (oB 12 [.int (nI (vm w)), .int (nI (vdp w)), .ref ola, .ref oha, .ref ova, .ref oza]) := (mU_n (g_nef hO.1 fha)).trans m_11
    have m_23 : (mU (mU M1 la (aI G 3 (upd (vlo w) ja ((vlo w) jb)))) ha (aI G 3 (upd (vhi w) ja ((vhi w) jb)))) ola = some (aI G 3 (vlo w)) := (mU_n (g_nef hO.2.1 fha)).trans m_12
    have m_24 : (mU (mU M1 la (aI G 3 (upd (vlo w) ja ((vlo w) jb)))) ha (aI G 3 (upd (vhi w) ja ((vhi w) jb)))) oha = some (aI G 3 (vhi w)) := (mU_n (g_nef hO.2.2.1 fha)).trans m_13
    have m_25 : (mU (mU M1 la (aI G 3 (upd (vlo w) ja ((vlo w) jb)))) ha (aI G 3 (upd (vhi w) ja ((vhi w) jb)))) ova = some (aJ G (wsz w) ovf) := (mU_n (g_nef hO.2.2.2.1 fha)).trans m_14
    have m_26 : (mU (mU M1 la (aI G 3 (upd (vlo w) ja ((vlo w) jb)))) ha (aI G 3 (upd (vhi w) ja ((vhi w) jb)))) oza = some (aZ G (wsz w) ozf) := (mU_n (g_nef hO.2.2.2.2.1 fha)).trans m_15
    have m_27 : (mU (mU M1 la (aI G 3 (upd (vlo w) ja ((vlo w) jb)))) ha (aI G 3 (upd (vhi w) ja ((vhi w) jb)))) plA = some (aI G 3 pl0) := (mU_n (g_nef hpl0 fha)).trans m_16
    have m_28 : (mU (mU M1 la (aI G 3 (upd (vlo w) ja ((vlo w) jb)))) ha (aI G 3 (upd (vhi w) ja ((vhi w) jb)))) q = some (oB 12 [.int (nI (vm w)), .int (nI (vdp w + 1)), .ref la, .ref ha, .null, .null]) := (mU_n (Ne.symm (lhq))).trans m_17
    have m_29 : (mU (mU M1 la (aI G 3 (upd (vlo w) ja ((vlo w) jb)))) ha (aI G 3 (upd (vhi w) ja ((vhi w) jb)))) la = some (aI G 3 (upd (vlo w) ja ((vlo w) jb))) := (mU_n (llh)).trans m_18
    have m_30 : (mU (mU M1 la (aI G 3 (upd (vlo w) ja ((vlo w) jb)))) ha (aI G 3 (upd (vhi w) ja ((vhi w) jb)))) ha = some (aI G 3 (upd (vhi w) ja ((vhi w) jb))) := mU_s
    refine q_aload X dX13_swap_92 0 rfl ?_
    refine q_get X m_28 rfl in_RX12 2 (by decide) tw_1159 rfl rfl dX13_swap_94 ?_
    refine q_iload_n X dX13_swap_97 5 rfl ?_
    refine q_aload X dX13_swap_98 1 rfl ?_
    refine q_get X m_22 rfl in_RX12 2 (by decide) tw_1159 rfl rfl dX13_swap_100 ?_
    refine q_iload_n X dX13_swap_103 4 rfl ?_
    refine q_ialdN X ja m_23 (rfl) (hja3) (by decide) dX13_swap_104 ?_
    refine q_iastN X jb m_29 (rfl) (hjb3) (by decide) dX13_swap_105 ?_
    have m_31 : (mU (mU (mU M1 la (aI G 3 (upd (vlo w) ja ((vlo w) jb)))) ha (aI G 3 (upd (vhi w) ja ((vhi w) jb)))) la (aI G 3 (upd (upd (vlo w) ja ((vlo w) jb)) jb ((vlo w) ja)))) r = some (oB 13 [.int 0, .ref vA, .ref nA, .ref pA, .ref plA, .ref dg, .int (nI (aV σ).length), .int (nI (aN σ).length), .int (nI (aOf σ)), .int (nI (aBg σ)), .int tk, .long su, .long le, .long gr]) := (mU_n (g_nef hB.1 fla)).trans m_20
    have m_32 : (mU (mU (mU M1 la (aI G 3 (upd (vlo w) ja ((vlo w) jb)))) ha (aI G 3 (upd (vhi w) ja ((vhi w) jb)))) la (aI G 3 (upd (upd (vlo w) ja ((vlo w) jb)) jb ((vlo w) ja)))) nA = some (aG G 150 nf) := (mU_n (g_nef hB.2.2.1 fla)).trans m_21
    have m_33 : (mU (mU (mU M1 la (aI G 3 (upd (vlo w) ja ((vlo w) jb)))) ha (aI G 3 (upd (vhi w) ja ((vhi w) jb)))) la (aI G 3 (upd (upd (vlo w) ja ((vlo w) jb)) jb ((vlo w) ja)))) o = some (oB 12 [.int (nI (vm w)), .int (nI (vdp w)), .ref ola, .ref oha, .ref ova, .ref oza]) := (mU_n (g_nef hO.1 fla)).trans m_22
    have m_34 : (mU (mU (mU M1 la (aI G 3 (upd (vlo w) ja ((vlo w) jb)))) ha (aI G 3 (upd (vhi w) ja ((vhi w) jb)))) la (aI G 3 (upd (upd (vlo w) ja ((vlo w) jb)) jb ((vlo w) ja)))) ola = some (aI G 3 (vlo w)) := (mU_n (g_nef hO.2.1 fla)).trans m_23
    have m_35 : (mU (mU (mU M1 la (aI G 3 (upd (vlo w) ja ((vlo w) jb)))) ha (aI G 3 (upd (vhi w) ja ((vhi w) jb)))) la (aI G 3 (upd (upd (vlo w) ja ((vlo w) jb)) jb ((vlo w) ja)))) oha = some (aI G 3 (vhi w)) := (mU_n (g_nef hO.2.2.1 fla)).trans m_24
    have m_36 : (mU (mU (mU M1 la (aI G 3 (upd (vlo w) ja ((vlo w) jb)))) ha (aI G 3 (upd (vhi w) ja ((vhi w) jb)))) la (aI G 3 (upd (upd (vlo w) ja ((vlo w) jb)) jb ((vlo w) ja)))) ova = some (aJ G (wsz w) ovf) := (mU_n (g_nef hO.2.2.2.1 fla)).trans m_25
    have m_37 : (mU (mU (mU M1 la (aI G 3 (upd (vlo w) ja ((vlo w) jb)))) ha (aI G 3 (upd (vhi w) ja ((vhi w) jb)))) la (aI G 3 (upd (upd (vlo w) ja ((vlo w) jb)) jb ((vlo w) ja)))) oza = some (aZ G (wsz w) ozf) := (mU_n (g_nef hO.2.2.2.2.1 fla)).trans m_26
    have m_38 : (mU (mU (mU M1 la (aI G 3 (upd (vlo w) ja ((vlo w) jb)))) ha (aI G 3 (upd (vhi w) ja ((vhi w) jb)))) la (aI G 3 (upd (upd (vlo w) ja ((vlo w) jb)) jb ((vlo w) ja)))) plA = some (aI G 3 pl0) := (mU_n (g_nef hpl0 fla)).trans m_27
    have m_39 : (mU (mU (mU M1 la (aI G 3 (upd (vlo w) ja ((vlo w) jb)))) ha (aI G 3 (upd (vhi w) ja ((vhi w) jb)))) la (aI G 3 (upd (upd (vlo w) ja ((vlo w) jb)) jb ((vlo w) ja)))) q = some (oB 12 [.int (nI (vm w)), .int (nI (vdp w + 1)), .ref la, .ref ha, .null, .null]) := (mU_n (Ne.symm (llq))).trans m_28
    have m_40 : (mU (mU (mU M1 la (aI G 3 (upd (vlo w) ja ((vlo w) jb)))) ha (aI G 3 (upd (vhi w) ja ((vhi w) jb)))) la (aI G 3 (upd (upd (vlo w) ja ((vlo w) jb)) jb ((vlo w) ja)))) la = some (aI G 3 (upd (upd (vlo w) ja ((vlo w) jb)) jb ((vlo w) ja))) := mU_s
    have m_41 : (mU (mU (mU M1 la (aI G 3 (upd (vlo w) ja ((vlo w) jb)))) ha (aI G 3 (upd (vhi w) ja ((vhi w) jb)))) la (aI G 3 (upd (upd (vlo w) ja ((vlo w) jb)) jb ((vlo w) ja)))) ha = some (aI G 3 (upd (vhi w) ja ((vhi w) jb))) := (mU_n (Ne.symm (llh))).trans m_30
    refine q_aload X dX13_swap_106 0 rfl ?_
    refine q_get X m_39 rfl in_RX12 3 (by decide) tw_1161 rfl rfl dX13_swap_108 ?_
    refine q_iload_n X dX13_swap_111 5 rfl ?_
    refine q_aload X dX13_swap_112 1 rfl ?_
    refine q_get X m_33 rfl in_RX12 3 (by decide) tw_1161 rfl rfl dX13_swap_114 ?_
    refine q_iload_n X dX13_swap_117 4 rfl ?_
    refine q_ialdN X ja m_35 (rfl) (hja3) (by decide) dX13_swap_118 ?_
    refine q_iastN X jb m_41 (rfl) (hjb3) (by decide) dX13_swap_119 ?_
    have m_42 : (mU (mU (mU (mU M1 la (aI G 3 (upd (vlo w) ja ((vlo w) jb)))) ha (aI G 3 (upd (vhi w) ja ((vhi w) jb)))) la (aI G 3 (upd (upd (vlo w) ja ((vlo w) jb)) jb ((vlo w) ja)))) ha (aI G 3 (upd (upd (vhi w) ja ((vhi w) jb)) jb ((vhi w) ja)))) r = some (oB 13 [.int 0, .ref vA, .ref nA, .ref pA, .ref plA, .ref dg, .int (nI (aV σ).length), .int (nI (aN σ).length), .int (nI (aOf σ)), .int (nI (aBg σ)), .int tk, .long su, .long le, .long gr]) := (mU_n (g_nef hB.1 fha)).trans m_31
    have m_43 : (mU (mU (mU (mU M1 la (aI G 3 (upd (vlo w) ja ((vlo w) jb)))) ha (aI G 3 (upd (vhi w) ja ((vhi w) jb)))) la (aI G 3 (upd (upd (vlo w) ja ((vlo w) jb)) jb ((vlo w) ja)))) ha (aI G 3 (upd (upd (vhi w) ja ((vhi w) jb)) jb ((vhi w) ja)))) nA = some (aG G 150 nf) := (mU_n (g_nef hB.2.2.1 fha)).trans m_32
    have m_44 : (mU (mU (mU (mU M1 la (aI G 3 (upd (vlo w) ja ((vlo w) jb)))) ha (aI G 3 (upd (vhi w) ja ((vhi w) jb)))) la (aI G 3 (upd (upd (vlo w) ja ((vlo w) jb)) jb ((vlo w) ja)))) ha (aI G 3 (upd (upd (vhi w) ja ((vhi w) jb)) jb ((vhi w) ja)))) o = some (oB 12 [.int (nI (vm w)), .int (nI (vdp w)), .ref ola, .ref oha, .ref ova, .ref oza]) := (mU_n (g_nef hO.1 fha)).trans m_33
    have m_45 : (mU (mU (mU (mU M1 la (aI G 3 (upd (vlo w) ja ((vlo w) jb)))) ha (aI G 3 (upd (vhi w) ja ((vhi w) jb)))) la (aI G 3 (upd (upd (vlo w) ja ((vlo w) jb)) jb ((vlo w) ja)))) ha (aI G 3 (upd (upd (vhi w) ja ((vhi w) jb)) jb ((vhi w) ja)))) ola = some (aI G 3 (vlo w)) := (mU_n (g_nef hO.2.1 fha)).trans m_34
    have m_46 : (mU (mU (mU (mU M1 la (aI G 3 (upd (vlo w) ja ((vlo w) jb)))) ha (aI G 3 (upd (vhi w) ja ((vhi w) jb)))) la (aI G 3 (upd (upd (vlo w) ja ((vlo w) jb)) jb ((vlo w) ja)))) ha (aI G 3 (upd (upd (vhi w) ja ((vhi w) jb)) jb ((vhi w) ja)))) oha = some (aI G 3 (vhi w)) := (mU_n (g_nef hO.2.2.1 fha)).trans m_35
    have m_47 : (mU (mU (mU (mU M1 la (aI G 3 (upd (vlo w) ja ((vlo w) jb)))) ha (aI G 3 (upd (vhi w) ja ((vhi w) jb)))) la (aI G 3 (upd (upd (vlo w) ja ((vlo w) jb)) jb ((vlo w) ja)))) ha (aI G 3 (upd (upd (vhi w) ja ((vhi w) jb)) jb ((vhi w) ja)))) ova = some (aJ G (wsz w) ovf) := (mU_n (g_nef hO.2.2.2.1 fha)).trans m_36
    have m_48 : (mU (mU (mU (mU M1 la (aI G 3 (upd (vlo w) ja ((vlo w) jb)))) ha (aI G 3 (upd (vhi w) ja ((vhi w) jb)))) la (aI G 3 (upd (upd (vlo w) ja ((vlo w) jb)) jb ((vlo w) ja)))) ha (aI G 3 (upd (upd (vhi w) ja ((vhi w) jb)) jb ((vhi w) ja)))) oza = some (aZ G (wsz w) ozf) := (mU_n (g_nef hO.2.2.2.2.1 fha)).trans m_37
    have m_49 : (mU (mU (mU (mU M1 la (aI G 3 (upd (vlo w) ja ((vlo w) jb)))) ha (aI G 3 (upd (vhi w) ja ((vhi w) jb)))) la (aI G 3 (upd (upd (vlo w) ja ((vlo w) jb)) jb ((vlo w) ja)))) ha (aI G 3 (upd (upd (vhi w) ja ((vhi w) jb)) jb ((vhi w) ja)))) plA = some (aI G 3 pl0) := (mU_n (g_nef hpl0 fha)).trans m_38
    have m_50 : (mU (mU (mU (mU M1 la (aI G 3 (upd (vlo w) ja ((vlo w) jb)))) ha (aI G 3 (upd (vhi w) ja ((vhi w) jb)))) la (aI G 3 (upd (upd (vlo w) ja ((vlo w) jb)) jb ((vlo w) ja)))) ha (aI G 3 (upd (upd (vhi w) ja ((vhi w) jb)) jb ((vhi w) ja)))) q = some (oB 12 [.int (nI (vm w)), .int (nI (vdp w + 1)), .ref la, .ref ha, .null, .null]) := (mU_n (Ne.symm (lhq))).trans m_39
    have m_51 : (mU (mU (mU (mU M1 la (aI G 3 (upd (vlo w) ja ((vlo w) jb)))) ha (aI G 3 (upd (vhi w) ja ((vhi w) jb)))) la (aI G 3 (upd (upd (vlo w) ja ((vlo w) jb)) jb ((vlo w) ja)))) ha (aI G 3 (upd (upd (vhi w) ja ((vhi w) jb)) jb ((vhi w) ja)))) la = some (aI G 3 (upd (upd (vlo w) ja ((vlo w) jb)) jb ((vlo w) ja))) := (mU_n (llh)).trans m_40
    have m_52 : (mU (mU (mU (mU M1 la (aI G 3 (upd (vlo w) ja ((vlo w) jb)))) ha (aI G 3 (upd (vhi w) ja ((vhi w) jb)))) la (aI G 3 (upd (upd (vlo w) ja ((vlo w) jb)) jb ((vlo w) ja)))) ha (aI G 3 (upd (upd (vhi w) ja ((vhi w) jb)) jb ((vhi w) ja)))) ha = some (aI G 3 (upd (upd (vhi w) ja ((vhi w) jb)) jb ((vhi w) ja))) := mU_s
    rw [uLO, uHI] at *
    have evM2 : mEv (fun x => x = r ∨ x = plA) M (mU (mU (mU (mU M1 la (aI G 3 (upd (vlo w) ja (vlo w jb)))) ha (aI G 3 (upd (vhi w) ja (vhi w jb)))) la (aI G 3 LO)) ha (aI G 3 HI)) := fun x hx => by
      have wla : x ≠ la := fun z => hx (z ▸ fla)
      have wha : x ≠ ha := fun z => hx (z ▸ fha)
      have e1 := evK1 x hx
      have e : (mU (mU (mU (mU M1 la (aI G 3 (upd (vlo w) ja (vlo w jb)))) ha (aI G 3 (upd (vhi w) ja (vhi w jb)))) la (aI G 3 LO)) ha (aI G 3 HI)) x = M1 x := by simp only [mU, wla, wha, if_false]
      exact ⟨by rw [e]; exact e1.1, fun k => e.trans (e1.2 k)⟩
    generalize mU (mU (mU (mU M1 la (aI G 3 (upd (vlo w) ja (vlo w jb)))) ha (aI G 3 (upd (vhi w) ja (vhi w jb)))) la (aI G 3 LO)) ha (aI G 3 HI) = M2 at *
    refine q_aload_n X dX13_swap_120 2 rfl ?_
    refine q_aload X dX13_swap_121 0 rfl ?_
    have hB2 : rfB G M2 r 0 σ vA nA pA plA dg dla dha dva dza dvf dzf vf nf pf tk su le gr := hB.ev2 evM2 m_42 ⟨_, m_49⟩
    by_cases hlim : ¬ sWithin (LO) (HI) = 0 ∧ nI (vdp w) < 40
    · refine q_callV X (c_large_y hB2 hok hd40 m_50 m_51 m_52 hlim) Y_X13_large tw_1359 tw_1361 sel_32 m_42 rfl (by omega) rfl rfl (Nat.le_of_ble_eq_true rfl) (rc' := 2) (rs' := 4096) (by omega) (by omega) dX13_swap_123 (fun v M' hp _ => ?_)
      obtain ⟨rfl, eM⟩ := hp
      have m_53 : M' r = some (oB 13 [.int 0, .ref vA, .ref nA, .ref pA, .ref plA, .ref dg, .int (nI (aV σ).length), .int (nI (aN σ).length), .int (nI (aOf σ)), .int (nI (aBg σ)), .int tk, .long su, .long le, .long gr]) := by rw [eM]; exact mU_s
      have m_54 : M' nA = some (aG G 150 nf) := by rw [eM]; exact (mU_n (Ne.symm (g_neoa m_42 m_43))).trans m_43
      have m_55 : M' o = some (oB 12 [.int (nI (vm w)), .int (nI (vdp w)), .ref ola, .ref oha, .ref ova, .ref oza]) := by rw [eM]; exact (mU_n (g_neoo m_44 m_42 (by decide))).trans m_44
      have m_56 : M' ola = some (aI G 3 (vlo w)) := by rw [eM]; exact (mU_n (Ne.symm (g_neoa m_42 m_45))).trans m_45
      have m_57 : M' oha = some (aI G 3 (vhi w)) := by rw [eM]; exact (mU_n (Ne.symm (g_neoa m_42 m_46))).trans m_46
      have m_58 : M' ova = some (aJ G (wsz w) ovf) := by rw [eM]; exact (mU_n (Ne.symm (g_neoa m_42 m_47))).trans m_47
      have m_59 : M' oza = some (aZ G (wsz w) ozf) := by rw [eM]; exact (mU_n (Ne.symm (g_neoa m_42 m_48))).trans m_48
      have m_60 : M' plA = some (aI G 3 pl0) := by rw [eM]; exact (mU_n (Ne.symm (g_neoa m_42 m_49))).trans m_49
      have m_61 : M' q = some (oB 12 [.int (nI (vm w)), .int (nI (vdp w + 1)), .ref la, .ref ha, .null, .null]) := by rw [eM]; exact (mU_n (Ne.symm (g_nef hB.1 fq))).trans m_50
      have m_62 : M' la = some (aI G 3 LO) := by rw [eM]; exact (mU_n (Ne.symm (g_nef hB.1 fla))).trans m_51
      have m_63 : M' ha = some (aI G 3 HI) := by rw [eM]; exact (mU_n (Ne.symm (g_nef hB.1 fha))).trans m_52
      have evK3 : mEv (fun x => x = r ∨ x = plA) M M' := by rw [eM]; exact evM2.trans (mEv_upd (K := (fun x => x = r ∨ x = plA)) (Or.inl rfl))
      have hB3 : rfB G M' r 0 σ vA nA pA plA dg dla dha dva dza dvf dzf vf nf pf tk su le gr := by rw [eM]; exact hB2.ro
      clear eM
      generalize M' = M3 at *
      show qJ G F _ 10 M3 2 4096 126 [(5, .ref q), (4, .ref o), (0, .ref r), (1, .int (nI i)), (2, .int (nI ja)), (3, .int (nI jb))] [.int 0]
      refine q_if_eq X 131 dX13_swap_126 (by decide) (fun c_64 => ?_) (fun c_64 => absurd (by decide) c_64)
      have hw2 := (within_ok hok hlim.1).2
      refine q_aload X dX13_swap_131 0 rfl ?_
      refine q_callV X (c_X12_make (n := sz3 LO HI) m_61 m_62 m_63 hok.size (by omega)) Y_X12_make tw_1179 tw_1180 tw_1181 m_61 rfl (by omega) rfl rfl (Nat.le_of_ble_eq_true rfl) (rc' := 0) (rs' := 0) (by omega) (by omega) dX13_swap_133 (fun v M' hp _ => ?_)
      obtain ⟨rfl, va, za, fva3, fza3, lvz, hq4, hva4, hza4, ev4⟩ := hp
      generalize M' = M4 at *
      have fva : M va = none := evK3.none fva3
      have fza : M za = none := evK3.none fza3
      have m_65 : M4 r = some (oB 13 [.int 0, .ref vA, .ref nA, .ref pA, .ref plA, .ref dg, .int (nI (aV σ).length), .int (nI (aN σ).length), .int (nI (aOf σ)), .int (nI (aBg σ)), .int tk, .long su, .long le, .long gr]) := ev4.keep m_53 (g_nef hB.1 fq)
      have m_66 : M4 nA = some (aG G 150 nf) := ev4.keep m_54 (g_nef hB.2.2.1 fq)
      have m_67 : M4 o = some (oB 12 [.int (nI (vm w)), .int (nI (vdp w)), .ref ola, .ref oha, .ref ova, .ref oza]) := ev4.keep m_55 (g_nef hO.1 fq)
      have m_68 : M4 ola = some (aI G 3 (vlo w)) := ev4.keep m_56 (g_nef hO.2.1 fq)
      have m_69 : M4 oha = some (aI G 3 (vhi w)) := ev4.keep m_57 (g_nef hO.2.2.1 fq)
      have m_70 : M4 ova = some (aJ G (wsz w) ovf) := ev4.keep m_58 (g_nef hO.2.2.2.1 fq)
      have m_71 : M4 oza = some (aZ G (wsz w) ozf) := ev4.keep m_59 (g_nef hO.2.2.2.2.1 fq)
      have m_72 : M4 plA = some (aI G 3 pl0) := ev4.keep m_60 (g_nef hpl0 fq)
      have m_73 : M4 la = some (aI G 3 LO) := ev4.keep m_62 (llq)
      have m_74 : M4 ha = some (aI G 3 HI) := ev4.keep m_63 (lhq)
      have evK4 : mEv (fun x => x = r ∨ x = plA) M M4 := fun x hx => by
        have wq : x ≠ q := fun z => hx (z ▸ fq)
        have e1 := evK3 x hx
        have e2 := ev4 x e1.1
        exact ⟨e2.1, fun k => (e2.2 wq).trans (e1.2 k)⟩
      have hB4 : rfB G M4 r 0 σ vA nA pA plA dg dla dha dva dza dvf dzf vf nf pf tk su le gr := hB.ev2 evK4 m_65 ⟨_, m_72⟩
      show qJ G F _ 10 M4 0 0 136 [(5, .ref q), (4, .ref o), (0, .ref r), (1, .int (nI i)), (2, .int (nI ja)), (3, .int (nI jb))] []
      have nr : ∀ {x : Nat} {e : va_E}, M4 x = some e → (∀ fs, e ≠ oB 13 fs) → x ≠ r := fun h h1 z => by rw [z, m_65] at h; cases h; exact h1 _ rfl
      have kv : ∀ {x : Nat} {e : va_E}, M4 x = some e → x ≠ va → x ≠ za → x ≠ plA → ∀ (p9 : Nat → Int32) (c : Nat), (mU (mU (mU M4 plA (aI G 3 p9)) va (aJ G (sz3 LO HI) (vF (vwD w LO HI (exT ja jb) 0) (c)))) za (aZ G (sz3 LO HI) (zF (vwD w LO HI (exT ja jb) 0) (c)))) x = some e := fun h h1 h2 h3 p9 c => (mU_n h2).trans ((mU_n h1).trans ((mU_n h3).trans h))
      have kq : ∀ (p9 : Nat → Int32) (c : Nat), (mU (mU (mU M4 plA (aI G 3 p9)) va (aJ G (sz3 LO HI) (vF (vwD w LO HI (exT ja jb) 0) (c)))) za (aZ G (sz3 LO HI) (zF (vwD w LO HI (exT ja jb) 0) (c)))) q = some (oB 12 [.int (nI (vm w)), .int (nI (vdp w + 1)), .ref la, .ref ha, .ref va, .ref za]) := kv hq4 (g_nef m_61 fva3) (g_nef m_61 fza3) (g_neoa hq4 m_72)
      have kla : ∀ (p9 : Nat → Int32) (c : Nat), (mU (mU (mU M4 plA (aI G 3 p9)) va (aJ G (sz3 LO HI) (vF (vwD w LO HI (exT ja jb) 0) (c)))) za (aZ G (sz3 LO HI) (zF (vwD w LO HI (exT ja jb) 0) (c)))) la = some (aI G 3 LO) := kv m_73 (g_nef m_62 fva3) (g_nef m_62 fza3) (fun z => by rw [z, hpl0] at fla; cases fla)
      have kha : ∀ (p9 : Nat → Int32) (c : Nat), (mU (mU (mU M4 plA (aI G 3 p9)) va (aJ G (sz3 LO HI) (vF (vwD w LO HI (exT ja jb) 0) (c)))) za (aZ G (sz3 LO HI) (zF (vwD w LO HI (exT ja jb) 0) (c)))) ha = some (aI G 3 HI) := kv m_74 (g_nef m_63 fva3) (g_nef m_63 fza3) (fun z => by rw [z, hpl0] at fha; cases fha)
      have kr : ∀ (p9 : Nat → Int32) (c : Nat), (mU (mU (mU M4 plA (aI G 3 p9)) va (aJ G (sz3 LO HI) (vF (vwD w LO HI (exT ja jb) 0) (c)))) za (aZ G (sz3 LO HI) (zF (vwD w LO HI (exT ja jb) 0) (c)))) r = some (oB 13 [.int 0, .ref vA, .ref nA, .ref pA, .ref plA, .ref dg, .int (nI (aV σ).length), .int (nI (aN σ).length), .int (nI (aOf σ)), .int (nI (aBg σ)), .int tk, .long su, .long le, .long gr]) := kv m_65 (g_nef m_53 fva3) (g_nef m_53 fza3) (g_neoa m_65 m_72)
      have ko : ∀ (p9 : Nat → Int32) (c : Nat), (mU (mU (mU M4 plA (aI G 3 p9)) va (aJ G (sz3 LO HI) (vF (vwD w LO HI (exT ja jb) 0) (c)))) za (aZ G (sz3 LO HI) (zF (vwD w LO HI (exT ja jb) 0) (c)))) o = some (oB 12 [.int (nI (vm w)), .int (nI (vdp w)), .ref ola, .ref oha, .ref ova, .ref oza]) := kv m_67 (g_nef m_55 fva3) (g_nef m_55 fza3) (g_neoa m_67 m_72)
      have kola : ∀ (p9 : Nat → Int32) (c : Nat), (mU (mU (mU M4 plA (aI G 3 p9)) va (aJ G (sz3 LO HI) (vF (vwD w LO HI (exT ja jb) 0) (c)))) za (aZ G (sz3 LO HI) (zF (vwD w LO HI (exT ja jb) 0) (c)))) ola = some (aI G 3 (vlo w)) := kv m_68 (g_nef m_56 fva3) (g_nef m_56 fza3) (fun z => bo1 (Or.inl z))
      have koha : ∀ (p9 : Nat → Int32) (c : Nat), (mU (mU (mU M4 plA (aI G 3 p9)) va (aJ G (sz3 LO HI) (vF (vwD w LO HI (exT ja jb) 0) (c)))) za (aZ G (sz3 LO HI) (zF (vwD w LO HI (exT ja jb) 0) (c)))) oha = some (aI G 3 (vhi w)) := kv m_69 (g_nef m_57 fva3) (g_nef m_57 fza3) (fun z => bo2 (Or.inl z))
      have kova : ∀ (p9 : Nat → Int32) (c : Nat), (mU (mU (mU M4 plA (aI G 3 p9)) va (aJ G (sz3 LO HI) (vF (vwD w LO HI (exT ja jb) 0) (c)))) za (aZ G (sz3 LO HI) (zF (vwD w LO HI (exT ja jb) 0) (c)))) ova = some (aJ G (wsz w) ovf) := kv m_70 (g_nef m_58 fva3) (g_nef m_58 fza3) (fun z => bo3 (Or.inl z))
      have koza : ∀ (p9 : Nat → Int32) (c : Nat), (mU (mU (mU M4 plA (aI G 3 p9)) va (aJ G (sz3 LO HI) (vF (vwD w LO HI (exT ja jb) 0) (c)))) za (aZ G (sz3 LO HI) (zF (vwD w LO HI (exT ja jb) 0) (c)))) oza = some (aZ G (wsz w) ozf) := kv m_71 (g_nef m_59 fva3) (g_nef m_59 fza3) (fun z => bo4 (Or.inl z))
      have plva : plA ≠ va := fun z => by rw [← z, hpl0] at fva; cases fva
      have plza : plA ≠ za := fun z => by rw [← z, hpl0] at fza; cases fza
      have rva : r ≠ va := fun z => by rw [← z, hB.1] at fva; cases fva
      have rza : r ≠ za := fun z => by rw [← z, hB.1] at fza; cases fza
      have rpl : r ≠ plA := fun z => by have h9 := hB.1; rw [z, hpl0] at h9; cases h9
      have kplA : ∀ (p9 : Nat → Int32) (c : Nat), (mU (mU (mU M4 plA (aI G 3 p9)) va (aJ G (sz3 LO HI) (vF (vwD w LO HI (exT ja jb) 0) (c)))) za (aZ G (sz3 LO HI) (zF (vwD w LO HI (exT ja jb) 0) (c)))) plA = some (aI G 3 p9) := fun p9 c => (mU_n plza).trans ((mU_n plva).trans mU_s)
      have kva : ∀ (p9 : Nat → Int32) (c : Nat), (mU (mU (mU M4 plA (aI G 3 p9)) va (aJ G (sz3 LO HI) (vF (vwD w LO HI (exT ja jb) 0) (c)))) za (aZ G (sz3 LO HI) (zF (vwD w LO HI (exT ja jb) 0) (c)))) va = some (aJ G (sz3 LO HI) (vF (vwD w LO HI (exT ja jb) 0) (c))) := fun p9 c => (mU_n lvz).trans mU_s
      have kza : ∀ (p9 : Nat → Int32) (c : Nat), (mU (mU (mU M4 plA (aI G 3 p9)) va (aJ G (sz3 LO HI) (vF (vwD w LO HI (exT ja jb) 0) (c)))) za (aZ G (sz3 LO HI) (zF (vwD w LO HI (exT ja jb) 0) (c)))) za = some (aZ G (sz3 LO HI) (zF (vwD w LO HI (exT ja jb) 0) c)) := fun p9 c => mU_s
      have koX : ∀ (p9 : Nat → Int32) (c : Nat), isGrX G (mU (mU (mU M4 plA (aI G 3 p9)) va (aJ G (sz3 LO HI) (vF (vwD w LO HI (exT ja jb) 0) (c)))) za (aZ G (sz3 LO HI) (zF (vwD w LO HI (exT ja jb) 0) (c)))) o ola oha ova oza ovf ozf w := fun p9 c => ⟨ko p9 c, kola p9 c, koha p9 c, kova p9 c, koza p9 c, hO.2.2.2.2.2⟩
      have l0 := hok.lo (d := 0) (by decide)
      have N0 := hok.N (d := 0) (by decide)
      have y0 := hok.hi (d := 0) (by decide)
      have l1 := hok.lo (d := 1) (by decide)
      have N1 := hok.N (d := 1) (by decide)
      have y1 := hok.hi (d := 1) (by decide)
      have l2 := hok.lo (d := 2) (by decide)
      have N2 := hok.N (d := 2) (by decide)
      have y2 := hok.hi (d := 2) (by decide)
      have hfin : ∀ M2 : gMem, (∃ (p9 : Nat → Int32), M2 = mU (mU (mU M4 plA (aI G 3 p9)) va (aJ G (sz3 LO HI) (vF (vwD w LO HI (exT ja jb) 0) (c3 (sN LO HI 1) (sN LO HI 2) (sN LO HI 0) 0 0)))) za (aZ G (sz3 LO HI) (zF (vwD w LO HI (exT ja jb) 0) (c3 (sN LO HI 1) (sN LO HI 2) (sN LO HI 0) 0 0)))) → qJ G F (qQ G F (rfP G r cOp (some (.int 0)) (sp_swap σ (nI i) (nI ja) (nI jb)))) 10 M2 0 0 305 [(0, .ref r), (1, .int (nI i)), (2, .int (nI ja)), (3, .int (nI jb)), (4, .ref o), (5, .ref q)] [] := by
        intro M2 hI
        obtain ⟨p9, rfl⟩ := hI
        rw [c3_A, show sN LO HI 0 * sN LO HI 1 * sN LO HI 2 = sz3 LO HI from rfl]
        have evz : mEv (fun x => x = r ∨ x = plA) M (mU (mU (mU M4 plA (aI G 3 p9)) va (aJ G (sz3 LO HI) (vF (vwD w LO HI (exT ja jb) 0) (sz3 LO HI)))) za (aZ G (sz3 LO HI) (zF (vwD w LO HI (exT ja jb) 0) (sz3 LO HI)))) := fun x hx => by
          have w1 : x ≠ va := fun z => hx (z ▸ fva)
          have w2 : x ≠ za := fun z => hx (z ▸ fza)
          have e1 := evK4 x hx
          by_cases w3 : x = plA
          · rw [w3]; exact ⟨g_so (kplA p9 (sz3 LO HI)), fun k => absurd (Or.inr rfl) k⟩
          have e : (mU (mU (mU M4 plA (aI G 3 p9)) va (aJ G (sz3 LO HI) (vF (vwD w LO HI (exT ja jb) 0) (sz3 LO HI)))) za (aZ G (sz3 LO HI) (zF (vwD w LO HI (exT ja jb) 0) (sz3 LO HI)))) x = M4 x := (mU_n w2).trans ((mU_n w1).trans (mU_n w3))
          exact ⟨by rw [e]; exact e1.1, fun k => e.trans (e1.2 k)⟩
        have hBz : rfB G (mU (mU (mU M4 plA (aI G 3 p9)) va (aJ G (sz3 LO HI) (vF (vwD w LO HI (exT ja jb) 0) (sz3 LO HI)))) za (aZ G (sz3 LO HI) (zF (vwD w LO HI (exT ja jb) 0) (sz3 LO HI)))) r 0 σ vA nA pA plA dg dla dha dva dza dvf dzf vf nf pf tk su le gr := hB.ev2 evz (kr p9 (sz3 LO HI)) ⟨_, kplA p9 (sz3 LO HI)⟩
        have nb : ∀ {x : Nat}, M x = none → ¬ rBad plA pA dva dza x := fun h z => by
          rcases z with z | z | z | z
          · rw [z, hpl0] at h; cases h
          · rw [z, hB.2.2.2.1] at h; cases h
          · rw [z, hB.2.2.2.2.2.1.2.2.2.1] at h; cases h
          · rw [z, hB.2.2.2.2.2.1.2.2.2.2.1] at h; cases h
        have hg : isGrd G (mU (mU (mU M4 plA (aI G 3 p9)) va (aJ G (sz3 LO HI) (vF (vwD w LO HI (exT ja jb) 0) (sz3 LO HI)))) za (aZ G (sz3 LO HI) (zF (vwD w LO HI (exT ja jb) 0) (sz3 LO HI)))) (rBad plA pA dva dza) q (vm w, LO, HI, vdp w + 1, (vwD w LO HI (exT ja jb) 0)) := grd_mk (kq p9 (sz3 LO HI)) (kla p9 (sz3 LO HI)) (kha p9 (sz3 LO HI)) (kva p9 (sz3 LO HI)) (kza p9 (sz3 LO HI)) (gCt_F (vwD w LO HI (exT ja jb) 0) (sz3 LO HI)) (nb fla) (nb fha) (nb fva) (nb fza)
        refine q_aload_n X dX13_swap_305 0 rfl ?_
        refine q_aload X dX13_swap_306 5 rfl ?_
        refine q_callV X (c_made hBz hg h150) Y_X13_made tw_1339 tw_1341 sel_28 (kr p9 (sz3 LO HI)) rfl (by omega) rfl rfl (Nat.le_of_ble_eq_true rfl) (rc' := 0) (rs' := 0) (Nat.le_refl _) (Nat.le_refl _) dX13_swap_308 (fun v M' hp _ => ?_)
        obtain ⟨rfl, hz9⟩ := hp
        generalize M' = M9 at *
        show qJ G F _ 10 M9 0 0 311 [(0, .ref r), (1, .int (nI i)), (2, .int (nI ja)), (3, .int (nI jb)), (4, .ref o), (5, .ref q)] [.int (nI (aN σ).length)]
        exact q_iret X hr dX13_swap_311 (rfP_K (by rw [specE]; exact gLim_y hlim) hz9)
      have hzz : sz3 LO HI ≤ 4096 := by omega
      have L2 : ∀ (e j : Nat) (he : e < sN LO HI 0) (hj : j < sN LO HI 1) (kk : ∀ M2 : gMem, (∃ (p9 : Nat → Int32), M2 = mU (mU (mU M4 plA (aI G 3 p9)) va (aJ G (sz3 LO HI) (vF (vwD w LO HI (exT ja jb) 0) (c3 (sN LO HI 1) (sN LO HI 2) e j (sN LO HI 2))))) za (aZ G (sz3 LO HI) (zF (vwD w LO HI (exT ja jb) 0) (c3 (sN LO HI 1) (sN LO HI 2) e j (sN LO HI 2))))) → qJ G F (qQ G F (rfP G r cOp (some (.int 0)) (sp_swap σ (nI i) (nI ja) (nI jb)))) 10 M2 0 0 293 [(0, .ref r), (1, .int (nI i)), (2, .int (nI ja)), (3, .int (nI jb)), (4, .ref o), (5, .ref q), (6, .int (LO 0 + nI (e))), (7, .int (LO 1 + nI (j)))] []) (t k : Nat) (M1 : gMem), k + t = sN LO HI 2 → (∃ (p9 : Nat → Int32), M1 = mU (mU (mU M4 plA (aI G 3 p9)) va (aJ G (sz3 LO HI) (vF (vwD w LO HI (exT ja jb) 0) (c3 (sN LO HI 1) (sN LO HI 2) e j k)))) za (aZ G (sz3 LO HI) (zF (vwD w LO HI (exT ja jb) 0) (c3 (sN LO HI 1) (sN LO HI 2) e j k)))) → qJ G F (qQ G F (rfP G r cOp (some (.int 0)) (sp_swap σ (nI i) (nI ja) (nI jb)))) 10 M1 0 0 187 [(0, .ref r), (1, .int (nI i)), (2, .int (nI ja)), (3, .int (nI jb)), (4, .ref o), (5, .ref q), (6, .int (LO 0 + nI (e))), (7, .int (LO 1 + nI (j))), (8, .int (LO 2 + nI (k)))] [] := by
        intro e j he hj kk t
        induction t with
        | zero =>
          intro k M1 hk0 hI
          obtain rfl : k = sN LO HI 2 := by omega
          have hI0 := hI
          obtain ⟨p9, rfl⟩ := hI
          refine q_iload X dX13_swap_187 8 rfl ?_
          refine q_aload X dX13_swap_189 5 rfl ?_
          refine q_get X (kq p9 (c3 (sN LO HI 1) (sN LO HI 2) e j (sN LO HI 2))) rfl in_RX12 3 (by decide) tw_1161 rfl rfl dX13_swap_191 ?_
          refine q_iconst (v := 2) X dX13_swap_194 (by decide) ?_
          refine q_ialdN X 2 (kha p9 (c3 (sN LO HI 1) (sN LO HI 2) e j (sN LO HI 2))) (rfl) (by decide) (by decide) dX13_swap_195 ?_
          refine q_icmp_gt X 293 dX13_swap_196 (by decide) (fun c_75 => ?_) (fun c_75 => absurd (by rw [y2]; exact (lo_lt l2.1 l2.2 (by omega) (by omega)).mpr (by omega)) c_75)
          refine q_sub [0, 1, 2, 3, 4, 5, 6, 7] rfl ?_
          exact kk _ hI0
        | succ t ih =>
          intro k M1 hk0 hI
          have hk : k < sN LO HI 2 := by omega
          have hI0 := hI
          obtain ⟨p9, rfl⟩ := hI
          have hc9 : c3 (sN LO HI 1) (sN LO HI 2) e j k < sz3 LO HI := c3_lt he hj hk
          have fr9 := sw_fr hw hja hjb hok hzz (p := p9) he hj hk
          refine q_iload X dX13_swap_187 8 rfl ?_
          refine q_aload X dX13_swap_189 5 rfl ?_
          refine q_get X (kq p9 (c3 (sN LO HI 1) (sN LO HI 2) e j k)) rfl in_RX12 3 (by decide) tw_1161 rfl rfl dX13_swap_191 ?_
          refine q_iconst (v := 2) X dX13_swap_194 (by decide) ?_
          refine q_ialdN X 2 (kha p9 (c3 (sN LO HI 1) (sN LO HI 2) e j k)) (rfl) (by decide) (by decide) dX13_swap_195 ?_
          refine q_icmp_gt X 293 dX13_swap_196 (by decide) (fun c_76 => absurd ((lo_lt l2.1 l2.2 (by omega) (by omega)).mp (y2 ▸ c_76)) (by omega)) (fun c_76 => ?_)
          refine q_aload_n X dX13_swap_199 0 rfl ?_
          refine q_get X (kr p9 (c3 (sN LO HI 1) (sN LO HI 2) e j k)) rfl in_RX13 4 (by decide) tw_1198 rfl rfl dX13_swap_200 ?_
          refine q_iconst (v := 0) X dX13_swap_203 (by decide) ?_
          refine q_iload X dX13_swap_204 6 rfl ?_
          refine q_iastN X 0 (kplA p9 (c3 (sN LO HI 1) (sN LO HI 2) e j k)) (rfl) (by decide) (by decide) dX13_swap_206 ?_
          have m_77 : (mU (mU (mU (mU M4 plA (aI G 3 p9)) va (aJ G (sz3 LO HI) (vF (vwD w LO HI (exT ja jb) 0) (c3 (sN LO HI 1) (sN LO HI 2) e j k)))) za (aZ G (sz3 LO HI) (zF (vwD w LO HI (exT ja jb) 0) (c3 (sN LO HI 1) (sN LO HI 2) e j k)))) plA (aI G 3 (upd p9 0 (LO 0 + nI (e))))) r = some (oB 13 [.int 0, .ref vA, .ref nA, .ref pA, .ref plA, .ref dg, .int (nI (aV σ).length), .int (nI (aN σ).length), .int (nI (aOf σ)), .int (nI (aBg σ)), .int tk, .long su, .long le, .long gr]) := (mU_n (g_neoa (kr p9 (c3 (sN LO HI 1) (sN LO HI 2) e j k)) (kplA p9 (c3 (sN LO HI 1) (sN LO HI 2) e j k)))).trans (kr p9 (c3 (sN LO HI 1) (sN LO HI 2) e j k))
          have m_78 : (mU (mU (mU (mU M4 plA (aI G 3 p9)) va (aJ G (sz3 LO HI) (vF (vwD w LO HI (exT ja jb) 0) (c3 (sN LO HI 1) (sN LO HI 2) e j k)))) za (aZ G (sz3 LO HI) (zF (vwD w LO HI (exT ja jb) 0) (c3 (sN LO HI 1) (sN LO HI 2) e j k)))) plA (aI G 3 (upd p9 0 (LO 0 + nI (e))))) plA = some (aI G 3 (upd p9 0 (LO 0 + nI (e)))) := mU_s
          have m_79 : (mU (mU (mU (mU M4 plA (aI G 3 p9)) va (aJ G (sz3 LO HI) (vF (vwD w LO HI (exT ja jb) 0) (c3 (sN LO HI 1) (sN LO HI 2) e j k)))) za (aZ G (sz3 LO HI) (zF (vwD w LO HI (exT ja jb) 0) (c3 (sN LO HI 1) (sN LO HI 2) e j k)))) plA (aI G 3 (upd p9 0 (LO 0 + nI (e))))) q = some (oB 12 [.int (nI (vm w)), .int (nI (vdp w + 1)), .ref la, .ref ha, .ref va, .ref za]) := (mU_n (g_neoa (kq p9 (c3 (sN LO HI 1) (sN LO HI 2) e j k)) (kplA p9 (c3 (sN LO HI 1) (sN LO HI 2) e j k)))).trans (kq p9 (c3 (sN LO HI 1) (sN LO HI 2) e j k))
          have m_80 : (mU (mU (mU (mU M4 plA (aI G 3 p9)) va (aJ G (sz3 LO HI) (vF (vwD w LO HI (exT ja jb) 0) (c3 (sN LO HI 1) (sN LO HI 2) e j k)))) za (aZ G (sz3 LO HI) (zF (vwD w LO HI (exT ja jb) 0) (c3 (sN LO HI 1) (sN LO HI 2) e j k)))) plA (aI G 3 (upd p9 0 (LO 0 + nI (e))))) la = some (aI G 3 LO) := (mU_n ((fun z => by rw [z, hpl0] at fla; cases fla))).trans (kla p9 (c3 (sN LO HI 1) (sN LO HI 2) e j k))
          have m_81 : (mU (mU (mU (mU M4 plA (aI G 3 p9)) va (aJ G (sz3 LO HI) (vF (vwD w LO HI (exT ja jb) 0) (c3 (sN LO HI 1) (sN LO HI 2) e j k)))) za (aZ G (sz3 LO HI) (zF (vwD w LO HI (exT ja jb) 0) (c3 (sN LO HI 1) (sN LO HI 2) e j k)))) plA (aI G 3 (upd p9 0 (LO 0 + nI (e))))) ha = some (aI G 3 HI) := (mU_n ((fun z => by rw [z, hpl0] at fha; cases fha))).trans (kha p9 (c3 (sN LO HI 1) (sN LO HI 2) e j k))
          have m_82 : (mU (mU (mU (mU M4 plA (aI G 3 p9)) va (aJ G (sz3 LO HI) (vF (vwD w LO HI (exT ja jb) 0) (c3 (sN LO HI 1) (sN LO HI 2) e j k)))) za (aZ G (sz3 LO HI) (zF (vwD w LO HI (exT ja jb) 0) (c3 (sN LO HI 1) (sN LO HI 2) e j k)))) plA (aI G 3 (upd p9 0 (LO 0 + nI (e))))) va = some (aJ G (sz3 LO HI) (vF (vwD w LO HI (exT ja jb) 0) (c3 (sN LO HI 1) (sN LO HI 2) e j k))) := (mU_n (Ne.symm plva)).trans (kva p9 (c3 (sN LO HI 1) (sN LO HI 2) e j k))
          have m_83 : (mU (mU (mU (mU M4 plA (aI G 3 p9)) va (aJ G (sz3 LO HI) (vF (vwD w LO HI (exT ja jb) 0) (c3 (sN LO HI 1) (sN LO HI 2) e j k)))) za (aZ G (sz3 LO HI) (zF (vwD w LO HI (exT ja jb) 0) (c3 (sN LO HI 1) (sN LO HI 2) e j k)))) plA (aI G 3 (upd p9 0 (LO 0 + nI (e))))) za = some (aZ G (sz3 LO HI) (zF (vwD w LO HI (exT ja jb) 0) (c3 (sN LO HI 1) (sN LO HI 2) e j k))) := (mU_n (Ne.symm plza)).trans (kza p9 (c3 (sN LO HI 1) (sN LO HI 2) e j k))
          have m_84 : (mU (mU (mU (mU M4 plA (aI G 3 p9)) va (aJ G (sz3 LO HI) (vF (vwD w LO HI (exT ja jb) 0) (c3 (sN LO HI 1) (sN LO HI 2) e j k)))) za (aZ G (sz3 LO HI) (zF (vwD w LO HI (exT ja jb) 0) (c3 (sN LO HI 1) (sN LO HI 2) e j k)))) plA (aI G 3 (upd p9 0 (LO 0 + nI (e))))) o = some (oB 12 [.int (nI (vm w)), .int (nI (vdp w)), .ref ola, .ref oha, .ref ova, .ref oza]) := (mU_n (g_neoa (ko p9 (c3 (sN LO HI 1) (sN LO HI 2) e j k)) (kplA p9 (c3 (sN LO HI 1) (sN LO HI 2) e j k)))).trans (ko p9 (c3 (sN LO HI 1) (sN LO HI 2) e j k))
          have m_85 : (mU (mU (mU (mU M4 plA (aI G 3 p9)) va (aJ G (sz3 LO HI) (vF (vwD w LO HI (exT ja jb) 0) (c3 (sN LO HI 1) (sN LO HI 2) e j k)))) za (aZ G (sz3 LO HI) (zF (vwD w LO HI (exT ja jb) 0) (c3 (sN LO HI 1) (sN LO HI 2) e j k)))) plA (aI G 3 (upd p9 0 (LO 0 + nI (e))))) ola = some (aI G 3 (vlo w)) := (mU_n ((fun z => bo1 (Or.inl z)))).trans (kola p9 (c3 (sN LO HI 1) (sN LO HI 2) e j k))
          have m_86 : (mU (mU (mU (mU M4 plA (aI G 3 p9)) va (aJ G (sz3 LO HI) (vF (vwD w LO HI (exT ja jb) 0) (c3 (sN LO HI 1) (sN LO HI 2) e j k)))) za (aZ G (sz3 LO HI) (zF (vwD w LO HI (exT ja jb) 0) (c3 (sN LO HI 1) (sN LO HI 2) e j k)))) plA (aI G 3 (upd p9 0 (LO 0 + nI (e))))) oha = some (aI G 3 (vhi w)) := (mU_n ((fun z => bo2 (Or.inl z)))).trans (koha p9 (c3 (sN LO HI 1) (sN LO HI 2) e j k))
          have m_87 : (mU (mU (mU (mU M4 plA (aI G 3 p9)) va (aJ G (sz3 LO HI) (vF (vwD w LO HI (exT ja jb) 0) (c3 (sN LO HI 1) (sN LO HI 2) e j k)))) za (aZ G (sz3 LO HI) (zF (vwD w LO HI (exT ja jb) 0) (c3 (sN LO HI 1) (sN LO HI 2) e j k)))) plA (aI G 3 (upd p9 0 (LO 0 + nI (e))))) ova = some (aJ G (wsz w) ovf) := (mU_n ((fun z => bo3 (Or.inl z)))).trans (kova p9 (c3 (sN LO HI 1) (sN LO HI 2) e j k))
          have m_88 : (mU (mU (mU (mU M4 plA (aI G 3 p9)) va (aJ G (sz3 LO HI) (vF (vwD w LO HI (exT ja jb) 0) (c3 (sN LO HI 1) (sN LO HI 2) e j k)))) za (aZ G (sz3 LO HI) (zF (vwD w LO HI (exT ja jb) 0) (c3 (sN LO HI 1) (sN LO HI 2) e j k)))) plA (aI G 3 (upd p9 0 (LO 0 + nI (e))))) oza = some (aZ G (wsz w) ozf) := (mU_n ((fun z => bo4 (Or.inl z)))).trans (koza p9 (c3 (sN LO HI 1) (sN LO HI 2) e j k))
          refine q_aload_n X dX13_swap_207 0 rfl ?_
          refine q_get X m_77 rfl in_RX13 4 (by decide) tw_1198 rfl rfl dX13_swap_208 ?_
          refine q_iconst (v := 1) X dX13_swap_211 (by decide) ?_
          refine q_iload X dX13_swap_212 7 rfl ?_
          refine q_iastN X 1 m_78 (rfl) (by decide) (by decide) dX13_swap_214 ?_
          have m_89 : (mU (mU (mU (mU (mU M4 plA (aI G 3 p9)) va (aJ G (sz3 LO HI) (vF (vwD w LO HI (exT ja jb) 0) (c3 (sN LO HI 1) (sN LO HI 2) e j k)))) za (aZ G (sz3 LO HI) (zF (vwD w LO HI (exT ja jb) 0) (c3 (sN LO HI 1) (sN LO HI 2) e j k)))) plA (aI G 3 (upd p9 0 (LO 0 + nI (e))))) plA (aI G 3 (upd (upd p9 0 (LO 0 + nI (e))) 1 (LO 1 + nI (j))))) r = some (oB 13 [.int 0, .ref vA, .ref nA, .ref pA, .ref plA, .ref dg, .int (nI (aV σ).length), .int (nI (aN σ).length), .int (nI (aOf σ)), .int (nI (aBg σ)), .int tk, .long su, .long le, .long gr]) := (mU_n (g_neoa m_77 m_78)).trans m_77
          have m_90 : (mU (mU (mU (mU (mU M4 plA (aI G 3 p9)) va (aJ G (sz3 LO HI) (vF (vwD w LO HI (exT ja jb) 0) (c3 (sN LO HI 1) (sN LO HI 2) e j k)))) za (aZ G (sz3 LO HI) (zF (vwD w LO HI (exT ja jb) 0) (c3 (sN LO HI 1) (sN LO HI 2) e j k)))) plA (aI G 3 (upd p9 0 (LO 0 + nI (e))))) plA (aI G 3 (upd (upd p9 0 (LO 0 + nI (e))) 1 (LO 1 + nI (j))))) plA = some (aI G 3 (upd (upd p9 0 (LO 0 + nI (e))) 1 (LO 1 + nI (j)))) := mU_s
          have m_91 : (mU (mU (mU (mU (mU M4 plA (aI G 3 p9)) va (aJ G (sz3 LO HI) (vF (vwD w LO HI (exT ja jb) 0) (c3 (sN LO HI 1) (sN LO HI 2) e j k)))) za (aZ G (sz3 LO HI) (zF (vwD w LO HI (exT ja jb) 0) (c3 (sN LO HI 1) (sN LO HI 2) e j k)))) plA (aI G 3 (upd p9 0 (LO 0 + nI (e))))) plA (aI G 3 (upd (upd p9 0 (LO 0 + nI (e))) 1 (LO 1 + nI (j))))) q = some (oB 12 [.int (nI (vm w)), .int (nI (vdp w + 1)), .ref la, .ref ha, .ref va, .ref za]) := (mU_n (g_neoa m_79 m_78)).trans m_79
          have m_92 : (mU (mU (mU (mU (mU M4 plA (aI G 3 p9)) va (aJ G (sz3 LO HI) (vF (vwD w LO HI (exT ja jb) 0) (c3 (sN LO HI 1) (sN LO HI 2) e j k)))) za (aZ G (sz3 LO HI) (zF (vwD w LO HI (exT ja jb) 0) (c3 (sN LO HI 1) (sN LO HI 2) e j k)))) plA (aI G 3 (upd p9 0 (LO 0 + nI (e))))) plA (aI G 3 (upd (upd p9 0 (LO 0 + nI (e))) 1 (LO 1 + nI (j))))) la = some (aI G 3 LO) := (mU_n ((fun z => by rw [z, hpl0] at fla; cases fla))).trans m_80
          have m_93 : (mU (mU (mU (mU (mU M4 plA (aI G 3 p9)) va (aJ G (sz3 LO HI) (vF (vwD w LO HI (exT ja jb) 0) (c3 (sN LO HI 1) (sN LO HI 2) e j k)))) za (aZ G (sz3 LO HI) (zF (vwD w LO HI (exT ja jb) 0) (c3 (sN LO HI 1) (sN LO HI 2) e j k)))) plA (aI G 3 (upd p9 0 (LO 0 + nI (e))))) plA (aI G 3 (upd (upd p9 0 (LO 0 + nI (e))) 1 (LO 1 + nI (j))))) ha = some (aI G 3 HI) := (mU_n ((fun z => by rw [z, hpl0] at fha; cases fha))).trans m_81
          have m_94 : (mU (mU (mU (mU (mU M4 plA (aI G 3 p9)) va (aJ G (sz3 LO HI) (vF (vwD w LO HI (exT ja jb) 0) (c3 (sN LO HI 1) (sN LO HI 2) e j k)))) za (aZ G (sz3 LO HI) (zF (vwD w LO HI (exT ja jb) 0) (c3 (sN LO HI 1) (sN LO HI 2) e j k)))) plA (aI G 3 (upd p9 0 (LO 0 + nI (e))))) plA (aI G 3 (upd (upd p9 0 (LO 0 + nI (e))) 1 (LO 1 + nI (j))))) va = some (aJ G (sz3 LO HI) (vF (vwD w LO HI (exT ja jb) 0) (c3 (sN LO HI 1) (sN LO HI 2) e j k))) := (mU_n (Ne.symm plva)).trans m_82
          have m_95 : (mU (mU (mU (mU (mU M4 plA (aI G 3 p9)) va (aJ G (sz3 LO HI) (vF (vwD w LO HI (exT ja jb) 0) (c3 (sN LO HI 1) (sN LO HI 2) e j k)))) za (aZ G (sz3 LO HI) (zF (vwD w LO HI (exT ja jb) 0) (c3 (sN LO HI 1) (sN LO HI 2) e j k)))) plA (aI G 3 (upd p9 0 (LO 0 + nI (e))))) plA (aI G 3 (upd (upd p9 0 (LO 0 + nI (e))) 1 (LO 1 + nI (j))))) za = some (aZ G (sz3 LO HI) (zF (vwD w LO HI (exT ja jb) 0) (c3 (sN LO HI 1) (sN LO HI 2) e j k))) := (mU_n (Ne.symm plza)).trans m_83
          have m_96 : (mU (mU (mU (mU (mU M4 plA (aI G 3 p9)) va (aJ G (sz3 LO HI) (vF (vwD w LO HI (exT ja jb) 0) (c3 (sN LO HI 1) (sN LO HI 2) e j k)))) za (aZ G (sz3 LO HI) (zF (vwD w LO HI (exT ja jb) 0) (c3 (sN LO HI 1) (sN LO HI 2) e j k)))) plA (aI G 3 (upd p9 0 (LO 0 + nI (e))))) plA (aI G 3 (upd (upd p9 0 (LO 0 + nI (e))) 1 (LO 1 + nI (j))))) o = some (oB 12 [.int (nI (vm w)), .int (nI (vdp w)), .ref ola, .ref oha, .ref ova, .ref oza]) := (mU_n (g_neoa m_84 m_78)).trans m_84
          have m_97 : (mU (mU (mU (mU (mU M4 plA (aI G 3 p9)) va (aJ G (sz3 LO HI) (vF (vwD w LO HI (exT ja jb) 0) (c3 (sN LO HI 1) (sN LO HI 2) e j k)))) za (aZ G (sz3 LO HI) (zF (vwD w LO HI (exT ja jb) 0) (c3 (sN LO HI 1) (sN LO HI 2) e j k)))) plA (aI G 3 (upd p9 0 (LO 0 + nI (e))))) plA (aI G 3 (upd (upd p9 0 (LO 0 + nI (e))) 1 (LO 1 + nI (j))))) ola = some (aI G 3 (vlo w)) := (mU_n ((fun z => bo1 (Or.inl z)))).trans m_85
          have m_98 : (mU (mU (mU (mU (mU M4 plA (aI G 3 p9)) va (aJ G (sz3 LO HI) (vF (vwD w LO HI (exT ja jb) 0) (c3 (sN LO HI 1) (sN LO HI 2) e j k)))) za (aZ G (sz3 LO HI) (zF (vwD w LO HI (exT ja jb) 0) (c3 (sN LO HI 1) (sN LO HI 2) e j k)))) plA (aI G 3 (upd p9 0 (LO 0 + nI (e))))) plA (aI G 3 (upd (upd p9 0 (LO 0 + nI (e))) 1 (LO 1 + nI (j))))) oha = some (aI G 3 (vhi w)) := (mU_n ((fun z => bo2 (Or.inl z)))).trans m_86
          have m_99 : (mU (mU (mU (mU (mU M4 plA (aI G 3 p9)) va (aJ G (sz3 LO HI) (vF (vwD w LO HI (exT ja jb) 0) (c3 (sN LO HI 1) (sN LO HI 2) e j k)))) za (aZ G (sz3 LO HI) (zF (vwD w LO HI (exT ja jb) 0) (c3 (sN LO HI 1) (sN LO HI 2) e j k)))) plA (aI G 3 (upd p9 0 (LO 0 + nI (e))))) plA (aI G 3 (upd (upd p9 0 (LO 0 + nI (e))) 1 (LO 1 + nI (j))))) ova = some (aJ G (wsz w) ovf) := (mU_n ((fun z => bo3 (Or.inl z)))).trans m_87
          have m_100 : (mU (mU (mU (mU (mU M4 plA (aI G 3 p9)) va (aJ G (sz3 LO HI) (vF (vwD w LO HI (exT ja jb) 0) (c3 (sN LO HI 1) (sN LO HI 2) e j k)))) za (aZ G (sz3 LO HI) (zF (vwD w LO HI (exT ja jb) 0) (c3 (sN LO HI 1) (sN LO HI 2) e j k)))) plA (aI G 3 (upd p9 0 (LO 0 + nI (e))))) plA (aI G 3 (upd (upd p9 0 (LO 0 + nI (e))) 1 (LO 1 + nI (j))))) oza = some (aZ G (wsz w) ozf) := (mU_n ((fun z => bo4 (Or.inl z)))).trans m_88
          refine q_aload_n X dX13_swap_215 0 rfl ?_
          refine q_get X m_89 rfl in_RX13 4 (by decide) tw_1198 rfl rfl dX13_swap_216 ?_
          refine q_iconst (v := 2) X dX13_swap_219 (by decide) ?_
          refine q_iload X dX13_swap_220 8 rfl ?_
          refine q_iastN X 2 m_90 (rfl) (by decide) (by decide) dX13_swap_222 ?_
          have m_101 : (mU (mU (mU (mU (mU (mU M4 plA (aI G 3 p9)) va (aJ G (sz3 LO HI) (vF (vwD w LO HI (exT ja jb) 0) (c3 (sN LO HI 1) (sN LO HI 2) e j k)))) za (aZ G (sz3 LO HI) (zF (vwD w LO HI (exT ja jb) 0) (c3 (sN LO HI 1) (sN LO HI 2) e j k)))) plA (aI G 3 (upd p9 0 (LO 0 + nI (e))))) plA (aI G 3 (upd (upd p9 0 (LO 0 + nI (e))) 1 (LO 1 + nI (j))))) plA (aI G 3 (upd (upd (upd p9 0 (LO 0 + nI (e))) 1 (LO 1 + nI (j))) 2 (LO 2 + nI (k))))) r = some (oB 13 [.int 0, .ref vA, .ref nA, .ref pA, .ref plA, .ref dg, .int (nI (aV σ).length), .int (nI (aN σ).length), .int (nI (aOf σ)), .int (nI (aBg σ)), .int tk, .long su, .long le, .long gr]) := (mU_n (g_neoa m_89 m_90)).trans m_89
          have m_102 : (mU (mU (mU (mU (mU (mU M4 plA (aI G 3 p9)) va (aJ G (sz3 LO HI) (vF (vwD w LO HI (exT ja jb) 0) (c3 (sN LO HI 1) (sN LO HI 2) e j k)))) za (aZ G (sz3 LO HI) (zF (vwD w LO HI (exT ja jb) 0) (c3 (sN LO HI 1) (sN LO HI 2) e j k)))) plA (aI G 3 (upd p9 0 (LO 0 + nI (e))))) plA (aI G 3 (upd (upd p9 0 (LO 0 + nI (e))) 1 (LO 1 + nI (j))))) plA (aI G 3 (upd (upd (upd p9 0 (LO 0 + nI (e))) 1 (LO 1 + nI (j))) 2 (LO 2 + nI (k))))) plA = some (aI G 3 (upd (upd (upd p9 0 (LO 0 + nI (e))) 1 (LO 1 + nI (j))) 2 (LO 2 + nI (k)))) := mU_s
          have m_103 : (mU (mU (mU (mU (mU (mU M4 plA (aI G 3 p9)) va (aJ G (sz3 LO HI) (vF (vwD w LO HI (exT ja jb) 0) (c3 (sN LO HI 1) (sN LO HI 2) e j k)))) za (aZ G (sz3 LO HI) (zF (vwD w LO HI (exT ja jb) 0) (c3 (sN LO HI 1) (sN LO HI 2) e j k)))) plA (aI G 3 (upd p9 0 (LO 0 + nI (e))))) plA (aI G 3 (upd (upd p9 0 (LO 0 + nI (e))) 1 (LO 1 + nI (j))))) plA (aI G 3 (upd (upd (upd p9 0 (LO 0 + nI (e))) 1 (LO 1 + nI (j))) 2 (LO 2 + nI (k))))) q = some (oB 12 [.int (nI (vm w)), .int (nI (vdp w + 1)), .ref la, .ref ha, .ref va, .ref za]) := (mU_n (g_neoa m_91 m_90)).trans m_91
          have m_104 : (mU (mU (mU (mU (mU (mU M4 plA (aI G 3 p9)) va (aJ G (sz3 LO HI) (vF (vwD w LO HI (exT ja jb) 0) (c3 (sN LO HI 1) (sN LO HI 2) e j k)))) za (aZ G (sz3 LO HI) (zF (vwD w LO HI (exT ja jb) 0) (c3 (sN LO HI 1) (sN LO HI 2) e j k)))) plA (aI G 3 (upd p9 0 (LO 0 + nI (e))))) plA (aI G 3 (upd (upd p9 0 (LO 0 + nI (e))) 1 (LO 1 + nI (j))))) plA (aI G 3 (upd (upd (upd p9 0 (LO 0 + nI (e))) 1 (LO 1 + nI (j))) 2 (LO 2 + nI (k))))) la = some (aI G 3 LO) := (mU_n ((fun z => by rw [z, hpl0] at fla; cases fla))).trans m_92
          have m_105 : (mU (mU (mU (mU (mU (mU M4 plA (aI G 3 p9)) va (aJ G (sz3 LO HI) (vF (vwD w LO HI (exT ja jb) 0) (c3 (sN LO HI 1) (sN LO HI 2) e j k)))) za (aZ G (sz3 LO HI) (zF (vwD w LO HI (exT ja jb) 0) (c3 (sN LO HI 1) (sN LO HI 2) e j k)))) plA (aI G 3 (upd p9 0 (LO 0 + nI (e))))) plA (aI G 3 (upd (upd p9 0 (LO 0 + nI (e))) 1 (LO 1 + nI (j))))) plA (aI G 3 (upd (upd (upd p9 0 (LO 0 + nI (e))) 1 (LO 1 + nI (j))) 2 (LO 2 + nI (k))))) ha = some (aI G 3 HI) := (mU_n ((fun z => by rw [z, hpl0] at fha; cases fha))).trans m_93
          have m_106 : (mU (mU (mU (mU (mU (mU M4 plA (aI G 3 p9)) va (aJ G (sz3 LO HI) (vF (vwD w LO HI (exT ja jb) 0) (c3 (sN LO HI 1) (sN LO HI 2) e j k)))) za (aZ G (sz3 LO HI) (zF (vwD w LO HI (exT ja jb) 0) (c3 (sN LO HI 1) (sN LO HI 2) e j k)))) plA (aI G 3 (upd p9 0 (LO 0 + nI (e))))) plA (aI G 3 (upd (upd p9 0 (LO 0 + nI (e))) 1 (LO 1 + nI (j))))) plA (aI G 3 (upd (upd (upd p9 0 (LO 0 + nI (e))) 1 (LO 1 + nI (j))) 2 (LO 2 + nI (k))))) va = some (aJ G (sz3 LO HI) (vF (vwD w LO HI (exT ja jb) 0) (c3 (sN LO HI 1) (sN LO HI 2) e j k))) := (mU_n (Ne.symm plva)).trans m_94
          have m_107 : (mU (mU (mU (mU (mU (mU M4 plA (aI G 3 p9)) va (aJ G (sz3 LO HI) (vF (vwD w LO HI (exT ja jb) 0) (c3 (sN LO HI 1) (sN LO HI 2) e j k)))) za (aZ G (sz3 LO HI) (zF (vwD w LO HI (exT ja jb) 0) (c3 (sN LO HI 1) (sN LO HI 2) e j k)))) plA (aI G 3 (upd p9 0 (LO 0 + nI (e))))) plA (aI G 3 (upd (upd p9 0 (LO 0 + nI (e))) 1 (LO 1 + nI (j))))) plA (aI G 3 (upd (upd (upd p9 0 (LO 0 + nI (e))) 1 (LO 1 + nI (j))) 2 (LO 2 + nI (k))))) za = some (aZ G (sz3 LO HI) (zF (vwD w LO HI (exT ja jb) 0) (c3 (sN LO HI 1) (sN LO HI 2) e j k))) := (mU_n (Ne.symm plza)).trans m_95
          have m_108 : (mU (mU (mU (mU (mU (mU M4 plA (aI G 3 p9)) va (aJ G (sz3 LO HI) (vF (vwD w LO HI (exT ja jb) 0) (c3 (sN LO HI 1) (sN LO HI 2) e j k)))) za (aZ G (sz3 LO HI) (zF (vwD w LO HI (exT ja jb) 0) (c3 (sN LO HI 1) (sN LO HI 2) e j k)))) plA (aI G 3 (upd p9 0 (LO 0 + nI (e))))) plA (aI G 3 (upd (upd p9 0 (LO 0 + nI (e))) 1 (LO 1 + nI (j))))) plA (aI G 3 (upd (upd (upd p9 0 (LO 0 + nI (e))) 1 (LO 1 + nI (j))) 2 (LO 2 + nI (k))))) o = some (oB 12 [.int (nI (vm w)), .int (nI (vdp w)), .ref ola, .ref oha, .ref ova, .ref oza]) := (mU_n (g_neoa m_96 m_90)).trans m_96
          have m_109 : (mU (mU (mU (mU (mU (mU M4 plA (aI G 3 p9)) va (aJ G (sz3 LO HI) (vF (vwD w LO HI (exT ja jb) 0) (c3 (sN LO HI 1) (sN LO HI 2) e j k)))) za (aZ G (sz3 LO HI) (zF (vwD w LO HI (exT ja jb) 0) (c3 (sN LO HI 1) (sN LO HI 2) e j k)))) plA (aI G 3 (upd p9 0 (LO 0 + nI (e))))) plA (aI G 3 (upd (upd p9 0 (LO 0 + nI (e))) 1 (LO 1 + nI (j))))) plA (aI G 3 (upd (upd (upd p9 0 (LO 0 + nI (e))) 1 (LO 1 + nI (j))) 2 (LO 2 + nI (k))))) ola = some (aI G 3 (vlo w)) := (mU_n ((fun z => bo1 (Or.inl z)))).trans m_97
          have m_110 : (mU (mU (mU (mU (mU (mU M4 plA (aI G 3 p9)) va (aJ G (sz3 LO HI) (vF (vwD w LO HI (exT ja jb) 0) (c3 (sN LO HI 1) (sN LO HI 2) e j k)))) za (aZ G (sz3 LO HI) (zF (vwD w LO HI (exT ja jb) 0) (c3 (sN LO HI 1) (sN LO HI 2) e j k)))) plA (aI G 3 (upd p9 0 (LO 0 + nI (e))))) plA (aI G 3 (upd (upd p9 0 (LO 0 + nI (e))) 1 (LO 1 + nI (j))))) plA (aI G 3 (upd (upd (upd p9 0 (LO 0 + nI (e))) 1 (LO 1 + nI (j))) 2 (LO 2 + nI (k))))) oha = some (aI G 3 (vhi w)) := (mU_n ((fun z => bo2 (Or.inl z)))).trans m_98
          have m_111 : (mU (mU (mU (mU (mU (mU M4 plA (aI G 3 p9)) va (aJ G (sz3 LO HI) (vF (vwD w LO HI (exT ja jb) 0) (c3 (sN LO HI 1) (sN LO HI 2) e j k)))) za (aZ G (sz3 LO HI) (zF (vwD w LO HI (exT ja jb) 0) (c3 (sN LO HI 1) (sN LO HI 2) e j k)))) plA (aI G 3 (upd p9 0 (LO 0 + nI (e))))) plA (aI G 3 (upd (upd p9 0 (LO 0 + nI (e))) 1 (LO 1 + nI (j))))) plA (aI G 3 (upd (upd (upd p9 0 (LO 0 + nI (e))) 1 (LO 1 + nI (j))) 2 (LO 2 + nI (k))))) ova = some (aJ G (wsz w) ovf) := (mU_n ((fun z => bo3 (Or.inl z)))).trans m_99
          have m_112 : (mU (mU (mU (mU (mU (mU M4 plA (aI G 3 p9)) va (aJ G (sz3 LO HI) (vF (vwD w LO HI (exT ja jb) 0) (c3 (sN LO HI 1) (sN LO HI 2) e j k)))) za (aZ G (sz3 LO HI) (zF (vwD w LO HI (exT ja jb) 0) (c3 (sN LO HI 1) (sN LO HI 2) e j k)))) plA (aI G 3 (upd p9 0 (LO 0 + nI (e))))) plA (aI G 3 (upd (upd p9 0 (LO 0 + nI (e))) 1 (LO 1 + nI (j))))) plA (aI G 3 (upd (upd (upd p9 0 (LO 0 + nI (e))) 1 (LO 1 + nI (j))) 2 (LO 2 + nI (k))))) oza = some (aZ G (wsz w) ozf) := (mU_n ((fun z => bo4 (Or.inl z)))).trans m_100
          refine q_aload_n X dX13_swap_223 0 rfl ?_
          refine q_get X m_101 rfl in_RX13 4 (by decide) tw_1198 rfl rfl dX13_swap_224 ?_
          refine q_iload_n X dX13_swap_227 2 rfl ?_
          refine q_ialdN X ja m_102 (rfl) (hja3) (by decide) dX13_swap_228 ?_
          refine q_istore (lv' := [(9, .int ((upd (upd (upd p9 0 (LO 0 + nI (e))) 1 (LO 1 + nI (j))) 2 (LO 2 + nI (k))) ja)), (0, .ref r), (1, .int (nI i)), (2, .int (nI ja)), (3, .int (nI jb)), (4, .ref o), (5, .ref q), (6, .int (LO 0 + nI (e))), (7, .int (LO 1 + nI (j))), (8, .int (LO 2 + nI (k)))]) X dX13_swap_229 (by decide) rfl ?_
          refine q_aload_n X dX13_swap_231 1 rfl ?_
          refine q_get X m_101 rfl in_RX13 4 (by decide) tw_1198 rfl rfl dX13_swap_232 ?_
          refine q_iload_n X dX13_swap_235 3 rfl ?_
          refine q_aload_n X dX13_swap_236 1 rfl ?_
          refine q_get X m_101 rfl in_RX13 4 (by decide) tw_1198 rfl rfl dX13_swap_237 ?_
          refine q_iload_n X dX13_swap_240 4 rfl ?_
          refine q_ialdN X jb m_102 (rfl) (hjb3) (by decide) dX13_swap_241 ?_
          refine q_iastN X ja m_102 (rfl) (hja3) (by decide) dX13_swap_242 ?_
          have m_113 : (mU (mU (mU (mU (mU (mU (mU M4 plA (aI G 3 p9)) va (aJ G (sz3 LO HI) (vF (vwD w LO HI (exT ja jb) 0) (c3 (sN LO HI 1) (sN LO HI 2) e j k)))) za (aZ G (sz3 LO HI) (zF (vwD w LO HI (exT ja jb) 0) (c3 (sN LO HI 1) (sN LO HI 2) e j k)))) plA (aI G 3 (upd p9 0 (LO 0 + nI (e))))) plA (aI G 3 (upd (upd p9 0 (LO 0 + nI (e))) 1 (LO 1 + nI (j))))) plA (aI G 3 (upd (upd (upd p9 0 (LO 0 + nI (e))) 1 (LO 1 + nI (j))) 2 (LO 2 + nI (k))))) plA (aI G 3 (upd (upd (upd (upd p9 0 (LO 0 + nI (e))) 1 (LO 1 + nI (j))) 2 (LO 2 + nI (k))) ja ((upd (upd (upd p9 0 (LO 0 + nI (e))) 1 (LO 1 + nI (j))) 2 (LO 2 + nI (k))) jb)))) r = some (oB 13 [.int 0, .ref vA, .ref nA, .ref pA, .ref plA, .ref dg, .int (nI (aV σ).length), .int (nI (aN σ).length), .int (nI (aOf σ)), .int (nI (aBg σ)), .int tk, .long su, .long le, .long gr]) := (mU_n (g_neoa m_101 m_102)).trans m_101
          have m_114 : (mU (mU (mU (mU (mU (mU (mU M4 plA (aI G 3 p9)) va (aJ G (sz3 LO HI) (vF (vwD w LO HI (exT ja jb) 0) (c3 (sN LO HI 1) (sN LO HI 2) e j k)))) za (aZ G (sz3 LO HI) (zF (vwD w LO HI (exT ja jb) 0) (c3 (sN LO HI 1) (sN LO HI 2) e j k)))) plA (aI G 3 (upd p9 0 (LO 0 + nI (e))))) plA (aI G 3 (upd (upd p9 0 (LO 0 + nI (e))) 1 (LO 1 + nI (j))))) plA (aI G 3 (upd (upd (upd p9 0 (LO 0 + nI (e))) 1 (LO 1 + nI (j))) 2 (LO 2 + nI (k))))) plA (aI G 3 (upd (upd (upd (upd p9 0 (LO 0 + nI (e))) 1 (LO 1 + nI (j))) 2 (LO 2 + nI (k))) ja ((upd (upd (upd p9 0 (LO 0 + nI (e))) 1 (LO 1 + nI (j))) 2 (LO 2 + nI (k))) jb)))) plA = some (aI G 3 (upd (upd (upd (upd p9 0 (LO 0 + nI (e))) 1 (LO 1 + nI (j))) 2 (LO 2 + nI (k))) ja ((upd (upd (upd p9 0 (LO 0 + nI (e))) 1 (LO 1 + nI (j))) 2 (LO 2 + nI (k))) jb))) := mU_s
          have m_115 : (mU (mU (mU (mU (mU (mU (mU M4 plA (aI G 3 p9)) va (aJ G (sz3 LO HI) (vF (vwD w LO HI (exT ja jb) 0) (c3 (sN LO HI 1) (sN LO HI 2) e j k)))) za (aZ G (sz3 LO HI) (zF (vwD w LO HI (exT ja jb) 0) (c3 (sN LO HI 1) (sN LO HI 2) e j k)))) plA (aI G 3 (upd p9 0 (LO 0 + nI (e))))) plA (aI G 3 (upd (upd p9 0 (LO 0 + nI (e))) 1 (LO 1 + nI (j))))) plA (aI G 3 (upd (upd (upd p9 0 (LO 0 + nI (e))) 1 (LO 1 + nI (j))) 2 (LO 2 + nI (k))))) plA (aI G 3 (upd (upd (upd (upd p9 0 (LO 0 + nI (e))) 1 (LO 1 + nI (j))) 2 (LO 2 + nI (k))) ja ((upd (upd (upd p9 0 (LO 0 + nI (e))) 1 (LO 1 + nI (j))) 2 (LO 2 + nI (k))) jb)))) q = some (oB 12 [.int (nI (vm w)), .int (nI (vdp w + 1)), .ref la, .ref ha, .ref va, .ref za]) := (mU_n (g_neoa m_103 m_102)).trans m_103
          have m_116 : (mU (mU (mU (mU (mU (mU (mU M4 plA (aI G 3 p9)) va (aJ G (sz3 LO HI) (vF (vwD w LO HI (exT ja jb) 0) (c3 (sN LO HI 1) (sN LO HI 2) e j k)))) za (aZ G (sz3 LO HI) (zF (vwD w LO HI (exT ja jb) 0) (c3 (sN LO HI 1) (sN LO HI 2) e j k)))) plA (aI G 3 (upd p9 0 (LO 0 + nI (e))))) plA (aI G 3 (upd (upd p9 0 (LO 0 + nI (e))) 1 (LO 1 + nI (j))))) plA (aI G 3 (upd (upd (upd p9 0 (LO 0 + nI (e))) 1 (LO 1 + nI (j))) 2 (LO 2 + nI (k))))) plA (aI G 3 (upd (upd (upd (upd p9 0 (LO 0 + nI (e))) 1 (LO 1 + nI (j))) 2 (LO 2 + nI (k))) ja ((upd (upd (upd p9 0 (LO 0 + nI (e))) 1 (LO 1 + nI (j))) 2 (LO 2 + nI (k))) jb)))) la = some (aI G 3 LO) := (mU_n ((fun z => by rw [z, hpl0] at fla; cases fla))).trans m_104
          have m_117 : (mU (mU (mU (mU (mU (mU (mU M4 plA (aI G 3 p9)) va (aJ G (sz3 LO HI) (vF (vwD w LO HI (exT ja jb) 0) (c3 (sN LO HI 1) (sN LO HI 2) e j k)))) za (aZ G (sz3 LO HI) (zF (vwD w LO HI (exT ja jb) 0) (c3 (sN LO HI 1) (sN LO HI 2) e j k)))) plA (aI G 3 (upd p9 0 (LO 0 + nI (e))))) plA (aI G 3 (upd (upd p9 0 (LO 0 + nI (e))) 1 (LO 1 + nI (j))))) plA (aI G 3 (upd (upd (upd p9 0 (LO 0 + nI (e))) 1 (LO 1 + nI (j))) 2 (LO 2 + nI (k))))) plA (aI G 3 (upd (upd (upd (upd p9 0 (LO 0 + nI (e))) 1 (LO 1 + nI (j))) 2 (LO 2 + nI (k))) ja ((upd (upd (upd p9 0 (LO 0 + nI (e))) 1 (LO 1 + nI (j))) 2 (LO 2 + nI (k))) jb)))) ha = some (aI G 3 HI) := (mU_n ((fun z => by rw [z, hpl0] at fha; cases fha))).trans m_105
          have m_118 : (mU (mU (mU (mU (mU (mU (mU M4 plA (aI G 3 p9)) va (aJ G (sz3 LO HI) (vF (vwD w LO HI (exT ja jb) 0) (c3 (sN LO HI 1) (sN LO HI 2) e j k)))) za (aZ G (sz3 LO HI) (zF (vwD w LO HI (exT ja jb) 0) (c3 (sN LO HI 1) (sN LO HI 2) e j k)))) plA (aI G 3 (upd p9 0 (LO 0 + nI (e))))) plA (aI G 3 (upd (upd p9 0 (LO 0 + nI (e))) 1 (LO 1 + nI (j))))) plA (aI G 3 (upd (upd (upd p9 0 (LO 0 + nI (e))) 1 (LO 1 + nI (j))) 2 (LO 2 + nI (k))))) plA (aI G 3 (upd (upd (upd (upd p9 0 (LO 0 + nI (e))) 1 (LO 1 + nI (j))) 2 (LO 2 + nI (k))) ja ((upd (upd (upd p9 0 (LO 0 + nI (e))) 1 (LO 1 + nI (j))) 2 (LO 2 + nI (k))) jb)))) va = some (aJ G (sz3 LO HI) (vF (vwD w LO HI (exT ja jb) 0) (c3 (sN LO HI 1) (sN LO HI 2) e j k))) := (mU_n (Ne.symm plva)).trans m_106
          have m_119 : (mU (mU (mU (mU (mU (mU (mU M4 plA (aI G 3 p9)) va (aJ G (sz3 LO HI) (vF (vwD w LO HI (exT ja jb) 0) (c3 (sN LO HI 1) (sN LO HI 2) e j k)))) za (aZ G (sz3 LO HI) (zF (vwD w LO HI (exT ja jb) 0) (c3 (sN LO HI 1) (sN LO HI 2) e j k)))) plA (aI G 3 (upd p9 0 (LO 0 + nI (e))))) plA (aI G 3 (upd (upd p9 0 (LO 0 + nI (e))) 1 (LO 1 + nI (j))))) plA (aI G 3 (upd (upd (upd p9 0 (LO 0 + nI (e))) 1 (LO 1 + nI (j))) 2 (LO 2 + nI (k))))) plA (aI G 3 (upd (upd (upd (upd p9 0 (LO 0 + nI (e))) 1 (LO 1 + nI (j))) 2 (LO 2 + nI (k))) ja ((upd (upd (upd p9 0 (LO 0 + nI (e))) 1 (LO 1 + nI (j))) 2 (LO 2 + nI (k))) jb)))) za = some (aZ G (sz3 LO HI) (zF (vwD w LO HI (exT ja jb) 0) (c3 (sN LO HI 1) (sN LO HI 2) e j k))) := (mU_n (Ne.symm plza)).trans m_107
          have m_120 : (mU (mU (mU (mU (mU (mU (mU M4 plA (aI G 3 p9)) va (aJ G (sz3 LO HI) (vF (vwD w LO HI (exT ja jb) 0) (c3 (sN LO HI 1) (sN LO HI 2) e j k)))) za (aZ G (sz3 LO HI) (zF (vwD w LO HI (exT ja jb) 0) (c3 (sN LO HI 1) (sN LO HI 2) e j k)))) plA (aI G 3 (upd p9 0 (LO 0 + nI (e))))) plA (aI G 3 (upd (upd p9 0 (LO 0 + nI (e))) 1 (LO 1 + nI (j))))) plA (aI G 3 (upd (upd (upd p9 0 (LO 0 + nI (e))) 1 (LO 1 + nI (j))) 2 (LO 2 + nI (k))))) plA (aI G 3 (upd (upd (upd (upd p9 0 (LO 0 + nI (e))) 1 (LO 1 + nI (j))) 2 (LO 2 + nI (k))) ja ((upd (upd (upd p9 0 (LO 0 + nI (e))) 1 (LO 1 + nI (j))) 2 (LO 2 + nI (k))) jb)))) o = some (oB 12 [.int (nI (vm w)), .int (nI (vdp w)), .ref ola, .ref oha, .ref ova, .ref oza]) := (mU_n (g_neoa m_108 m_102)).trans m_108
          have m_121 : (mU (mU (mU (mU (mU (mU (mU M4 plA (aI G 3 p9)) va (aJ G (sz3 LO HI) (vF (vwD w LO HI (exT ja jb) 0) (c3 (sN LO HI 1) (sN LO HI 2) e j k)))) za (aZ G (sz3 LO HI) (zF (vwD w LO HI (exT ja jb) 0) (c3 (sN LO HI 1) (sN LO HI 2) e j k)))) plA (aI G 3 (upd p9 0 (LO 0 + nI (e))))) plA (aI G 3 (upd (upd p9 0 (LO 0 + nI (e))) 1 (LO 1 + nI (j))))) plA (aI G 3 (upd (upd (upd p9 0 (LO 0 + nI (e))) 1 (LO 1 + nI (j))) 2 (LO 2 + nI (k))))) plA (aI G 3 (upd (upd (upd (upd p9 0 (LO 0 + nI (e))) 1 (LO 1 + nI (j))) 2 (LO 2 + nI (k))) ja ((upd (upd (upd p9 0 (LO 0 + nI (e))) 1 (LO 1 + nI (j))) 2 (LO 2 + nI (k))) jb)))) ola = some (aI G 3 (vlo w)) := (mU_n ((fun z => bo1 (Or.inl z)))).trans m_109
          have m_122 : (mU (mU (mU (mU (mU (mU (mU M4 plA (aI G 3 p9)) va (aJ G (sz3 LO HI) (vF (vwD w LO HI (exT ja jb) 0) (c3 (sN LO HI 1) (sN LO HI 2) e j k)))) za (aZ G (sz3 LO HI) (zF (vwD w LO HI (exT ja jb) 0) (c3 (sN LO HI 1) (sN LO HI 2) e j k)))) plA (aI G 3 (upd p9 0 (LO 0 + nI (e))))) plA (aI G 3 (upd (upd p9 0 (LO 0 + nI (e))) 1 (LO 1 + nI (j))))) plA (aI G 3 (upd (upd (upd p9 0 (LO 0 + nI (e))) 1 (LO 1 + nI (j))) 2 (LO 2 + nI (k))))) plA (aI G 3 (upd (upd (upd (upd p9 0 (LO 0 + nI (e))) 1 (LO 1 + nI (j))) 2 (LO 2 + nI (k))) ja ((upd (upd (upd p9 0 (LO 0 + nI (e))) 1 (LO 1 + nI (j))) 2 (LO 2 + nI (k))) jb)))) oha = some (aI G 3 (vhi w)) := (mU_n ((fun z => bo2 (Or.inl z)))).trans m_110
          have m_123 : (mU (mU (mU (mU (mU (mU (mU M4 plA (aI G 3 p9)) va (aJ G (sz3 LO HI) (vF (vwD w LO HI (exT ja jb) 0) (c3 (sN LO HI 1) (sN LO HI 2) e j k)))) za (aZ G (sz3 LO HI) (zF (vwD w LO HI (exT ja jb) 0) (c3 (sN LO HI 1) (sN LO HI 2) e j k)))) plA (aI G 3 (upd p9 0 (LO 0 + nI (e))))) plA (aI G 3 (upd (upd p9 0 (LO 0 + nI (e))) 1 (LO 1 + nI (j))))) plA (aI G 3 (upd (upd (upd p9 0 (LO 0 + nI (e))) 1 (LO 1 + nI (j))) 2 (LO 2 + nI (k))))) plA (aI G 3 (upd (upd (upd (upd p9 0 (LO 0 + nI (e))) 1 (LO 1 + nI (j))) 2 (LO 2 + nI (k))) ja ((upd (upd (upd p9 0 (LO 0 + nI (e))) 1 (LO 1 + nI (j))) 2 (LO 2 + nI (k))) jb)))) ova = some (aJ G (wsz w) ovf) := (mU_n ((fun z => bo3 (Or.inl z)))).trans m_111
          have m_124 : (mU (mU (mU (mU (mU (mU (mU M4 plA (aI G 3 p9)) va (aJ G (sz3 LO HI) (vF (vwD w LO HI (exT ja jb) 0) (c3 (sN LO HI 1) (sN LO HI 2) e j k)))) za (aZ G (sz3 LO HI) (zF (vwD w LO HI (exT ja jb) 0) (c3 (sN LO HI 1) (sN LO HI 2) e j k)))) plA (aI G 3 (upd p9 0 (LO 0 + nI (e))))) plA (aI G 3 (upd (upd p9 0 (LO 0 + nI (e))) 1 (LO 1 + nI (j))))) plA (aI G 3 (upd (upd (upd p9 0 (LO 0 + nI (e))) 1 (LO 1 + nI (j))) 2 (LO 2 + nI (k))))) plA (aI G 3 (upd (upd (upd (upd p9 0 (LO 0 + nI (e))) 1 (LO 1 + nI (j))) 2 (LO 2 + nI (k))) ja ((upd (upd (upd p9 0 (LO 0 + nI (e))) 1 (LO 1 + nI (j))) 2 (LO 2 + nI (k))) jb)))) oza = some (aZ G (wsz w) ozf) := (mU_n ((fun z => bo4 (Or.inl z)))).trans m_112
          refine q_aload_n X dX13_swap_243 1 rfl ?_
          refine q_get X m_113 rfl in_RX13 4 (by decide) tw_1198 rfl rfl dX13_swap_244 ?_
          refine q_iload_n X dX13_swap_247 4 rfl ?_
          refine q_iload X dX13_swap_248 0 rfl ?_
          refine q_iastN X jb m_114 (rfl) (hjb3) (by decide) dX13_swap_250 ?_
          have m_125 : (mU (mU (mU (mU (mU (mU (mU (mU M4 plA (aI G 3 p9)) va (aJ G (sz3 LO HI) (vF (vwD w LO HI (exT ja jb) 0) (c3 (sN LO HI 1) (sN LO HI 2) e j k)))) za (aZ G (sz3 LO HI) (zF (vwD w LO HI (exT ja jb) 0) (c3 (sN LO HI 1) (sN LO HI 2) e j k)))) plA (aI G 3 (upd p9 0 (LO 0 + nI (e))))) plA (aI G 3 (upd (upd p9 0 (LO 0 + nI (e))) 1 (LO 1 + nI (j))))) plA (aI G 3 (upd (upd (upd p9 0 (LO 0 + nI (e))) 1 (LO 1 + nI (j))) 2 (LO 2 + nI (k))))) plA (aI G 3 (upd (upd (upd (upd p9 0 (LO 0 + nI (e))) 1 (LO 1 + nI (j))) 2 (LO 2 + nI (k))) ja ((upd (upd (upd p9 0 (LO 0 + nI (e))) 1 (LO 1 + nI (j))) 2 (LO 2 + nI (k))) jb)))) plA (aI G 3 (upd (upd (upd (upd (upd p9 0 (LO 0 + nI (e))) 1 (LO 1 + nI (j))) 2 (LO 2 + nI (k))) ja ((upd (upd (upd p9 0 (LO 0 + nI (e))) 1 (LO 1 + nI (j))) 2 (LO 2 + nI (k))) jb)) jb ((upd (upd (upd p9 0 (LO 0 + nI (e))) 1 (LO 1 + nI (j))) 2 (LO 2 + nI (k))) ja)))) r = some (oB 13 [.int 0, .ref vA, .ref nA, .ref pA, .ref plA, .ref dg, .int (nI (aV σ).length), .int (nI (aN σ).length), .int (nI (aOf σ)), .int (nI (aBg σ)), .int tk, .long su, .long le, .long gr]) := (mU_n (g_neoa m_113 m_114)).trans m_113
          have m_126 : (mU (mU (mU (mU (mU (mU (mU (mU M4 plA (aI G 3 p9)) va (aJ G (sz3 LO HI) (vF (vwD w LO HI (exT ja jb) 0) (c3 (sN LO HI 1) (sN LO HI 2) e j k)))) za (aZ G (sz3 LO HI) (zF (vwD w LO HI (exT ja jb) 0) (c3 (sN LO HI 1) (sN LO HI 2) e j k)))) plA (aI G 3 (upd p9 0 (LO 0 + nI (e))))) plA (aI G 3 (upd (upd p9 0 (LO 0 + nI (e))) 1 (LO 1 + nI (j))))) plA (aI G 3 (upd (upd (upd p9 0 (LO 0 + nI (e))) 1 (LO 1 + nI (j))) 2 (LO 2 + nI (k))))) plA (aI G 3 (upd (upd (upd (upd p9 0 (LO 0 + nI (e))) 1 (LO 1 + nI (j))) 2 (LO 2 + nI (k))) ja ((upd (upd (upd p9 0 (LO 0 + nI (e))) 1 (LO 1 + nI (j))) 2 (LO 2 + nI (k))) jb)))) plA (aI G 3 (upd (upd (upd (upd (upd p9 0 (LO 0 + nI (e))) 1 (LO 1 + nI (j))) 2 (LO 2 + nI (k))) ja ((upd (upd (upd p9 0 (LO 0 + nI (e))) 1 (LO 1 + nI (j))) 2 (LO 2 + nI (k))) jb)) jb ((upd (upd (upd p9 0 (LO 0 + nI (e))) 1 (LO 1 + nI (j))) 2 (LO 2 + nI (k))) ja)))) plA = some (aI G 3 (upd (upd (upd (upd (upd p9 0 (LO 0 + nI (e))) 1 (LO 1 + nI (j))) 2 (LO 2 + nI (k))) ja ((upd (upd (upd p9 0 (LO 0 + nI (e))) 1 (LO 1 + nI (j))) 2 (LO 2 + nI (k))) jb)) jb ((upd (upd (upd p9 0 (LO 0 + nI (e))) 1 (LO 1 + nI (j))) 2 (LO 2 + nI (k))) ja))) := mU_s
          have m_127 : (mU (mU (mU (mU (mU (mU (mU (mU M4 plA (aI G 3 p9)) va (aJ G (sz3 LO HI) (vF (vwD w LO HI (exT ja jb) 0) (c3 (sN LO HI 1) (sN LO HI 2) e j k)))) za (aZ G (sz3 LO HI) (zF (vwD w LO HI (exT ja jb) 0) (c3 (sN LO HI 1) (sN LO HI 2) e j k)))) plA (aI G 3 (upd p9 0 (LO 0 + nI (e))))) plA (aI G 3 (upd (upd p9 0 (LO 0 + nI (e))) 1 (LO 1 + nI (j))))) plA (aI G 3 (upd (upd (upd p9 0 (LO 0 + nI (e))) 1 (LO 1 + nI (j))) 2 (LO 2 + nI (k))))) plA (aI G 3 (upd (upd (upd (upd p9 0 (LO 0 + nI (e))) 1 (LO 1 + nI (j))) 2 (LO 2 + nI (k))) ja ((upd (upd (upd p9 0 (LO 0 + nI (e))) 1 (LO 1 + nI (j))) 2 (LO 2 + nI (k))) jb)))) plA (aI G 3 (upd (upd (upd (upd (upd p9 0 (LO 0 + nI (e))) 1 (LO 1 + nI (j))) 2 (LO 2 + nI (k))) ja ((upd (upd (upd p9 0 (LO 0 + nI (e))) 1 (LO 1 + nI (j))) 2 (LO 2 + nI (k))) jb)) jb ((upd (upd (upd p9 0 (LO 0 + nI (e))) 1 (LO 1 + nI (j))) 2 (LO 2 + nI (k))) ja)))) q = some (oB 12 [.int (nI (vm w)), .int (nI (vdp w + 1)), .ref la, .ref ha, .ref va, .ref za]) := (mU_n (g_neoa m_115 m_114)).trans m_115
          have m_128 : (mU (mU (mU (mU (mU (mU (mU (mU M4 plA (aI G 3 p9)) va (aJ G (sz3 LO HI) (vF (vwD w LO HI (exT ja jb) 0) (c3 (sN LO HI 1) (sN LO HI 2) e j k)))) za (aZ G (sz3 LO HI) (zF (vwD w LO HI (exT ja jb) 0) (c3 (sN LO HI 1) (sN LO HI 2) e j k)))) plA (aI G 3 (upd p9 0 (LO 0 + nI (e))))) plA (aI G 3 (upd (upd p9 0 (LO 0 + nI (e))) 1 (LO 1 + nI (j))))) plA (aI G 3 (upd (upd (upd p9 0 (LO 0 + nI (e))) 1 (LO 1 + nI (j))) 2 (LO 2 + nI (k))))) plA (aI G 3 (upd (upd (upd (upd p9 0 (LO 0 + nI (e))) 1 (LO 1 + nI (j))) 2 (LO 2 + nI (k))) ja ((upd (upd (upd p9 0 (LO 0 + nI (e))) 1 (LO 1 + nI (j))) 2 (LO 2 + nI (k))) jb)))) plA (aI G 3 (upd (upd (upd (upd (upd p9 0 (LO 0 + nI (e))) 1 (LO 1 + nI (j))) 2 (LO 2 + nI (k))) ja ((upd (upd (upd p9 0 (LO 0 + nI (e))) 1 (LO 1 + nI (j))) 2 (LO 2 + nI (k))) jb)) jb ((upd (upd (upd p9 0 (LO 0 + nI (e))) 1 (LO 1 + nI (j))) 2 (LO 2 + nI (k))) ja)))) la = some (aI G 3 LO) := (mU_n ((fun z => by rw [z, hpl0] at fla; cases fla))).trans m_116
          have m_129 : (mU (mU (mU (mU (mU (mU (mU (mU M4 plA (aI G 3 p9)) va (aJ G (sz3 LO HI) (vF (vwD w LO HI (exT ja jb) 0) (c3 (sN LO HI 1) (sN LO HI 2) e j k)))) za (aZ G (sz3 LO HI) (zF (vwD w LO HI (exT ja jb) 0) (c3 (sN LO HI 1) (sN LO HI 2) e j k)))) plA (aI G 3 (upd p9 0 (LO 0 + nI (e))))) plA (aI G 3 (upd (upd p9 0 (LO 0 + nI (e))) 1 (LO 1 + nI (j))))) plA (aI G 3 (upd (upd (upd p9 0 (LO 0 + nI (e))) 1 (LO 1 + nI (j))) 2 (LO 2 + nI (k))))) plA (aI G 3 (upd (upd (upd (upd p9 0 (LO 0 + nI (e))) 1 (LO 1 + nI (j))) 2 (LO 2 + nI (k))) ja ((upd (upd (upd p9 0 (LO 0 + nI (e))) 1 (LO 1 + nI (j))) 2 (LO 2 + nI (k))) jb)))) plA (aI G 3 (upd (upd (upd (upd (upd p9 0 (LO 0 + nI (e))) 1 (LO 1 + nI (j))) 2 (LO 2 + nI (k))) ja ((upd (upd (upd p9 0 (LO 0 + nI (e))) 1 (LO 1 + nI (j))) 2 (LO 2 + nI (k))) jb)) jb ((upd (upd (upd p9 0 (LO 0 + nI (e))) 1 (LO 1 + nI (j))) 2 (LO 2 + nI (k))) ja)))) ha = some (aI G 3 HI) := (mU_n ((fun z => by rw [z, hpl0] at fha; cases fha))).trans m_117
          have m_130 : (mU (mU (mU (mU (mU (mU (mU (mU M4 plA (aI G 3 p9)) va (aJ G (sz3 LO HI) (vF (vwD w LO HI (exT ja jb) 0) (c3 (sN LO HI 1) (sN LO HI 2) e j k)))) za (aZ G (sz3 LO HI) (zF (vwD w LO HI (exT ja jb) 0) (c3 (sN LO HI 1) (sN LO HI 2) e j k)))) plA (aI G 3 (upd p9 0 (LO 0 + nI (e))))) plA (aI G 3 (upd (upd p9 0 (LO 0 + nI (e))) 1 (LO 1 + nI (j))))) plA (aI G 3 (upd (upd (upd p9 0 (LO 0 + nI (e))) 1 (LO 1 + nI (j))) 2 (LO 2 + nI (k))))) plA (aI G 3 (upd (upd (upd (upd p9 0 (LO 0 + nI (e))) 1 (LO 1 + nI (j))) 2 (LO 2 + nI (k))) ja ((upd (upd (upd p9 0 (LO 0 + nI (e))) 1 (LO 1 + nI (j))) 2 (LO 2 + nI (k))) jb)))) plA (aI G 3 (upd (upd (upd (upd (upd p9 0 (LO 0 + nI (e))) 1 (LO 1 + nI (j))) 2 (LO 2 + nI (k))) ja ((upd (upd (upd p9 0 (LO 0 + nI (e))) 1 (LO 1 + nI (j))) 2 (LO 2 + nI (k))) jb)) jb ((upd (upd (upd p9 0 (LO 0 + nI (e))) 1 (LO 1 + nI (j))) 2 (LO 2 + nI (k))) ja)))) va = some (aJ G (sz3 LO HI) (vF (vwD w LO HI (exT ja jb) 0) (c3 (sN LO HI 1) (sN LO HI 2) e j k))) := (mU_n (Ne.symm plva)).trans m_118
          have m_131 : (mU (mU (mU (mU (mU (mU (mU (mU M4 plA (aI G 3 p9)) va (aJ G (sz3 LO HI) (vF (vwD w LO HI (exT ja jb) 0) (c3 (sN LO HI 1) (sN LO HI 2) e j k)))) za (aZ G (sz3 LO HI) (zF (vwD w LO HI (exT ja jb) 0) (c3 (sN LO HI 1) (sN LO HI 2) e j k)))) plA (aI G 3 (upd p9 0 (LO 0 + nI (e))))) plA (aI G 3 (upd (upd p9 0 (LO 0 + nI (e))) 1 (LO 1 + nI (j))))) plA (aI G 3 (upd (upd (upd p9 0 (LO 0 + nI (e))) 1 (LO 1 + nI (j))) 2 (LO 2 + nI (k))))) plA (aI G 3 (upd (upd (upd (upd p9 0 (LO 0 + nI (e))) 1 (LO 1 + nI (j))) 2 (LO 2 + nI (k))) ja ((upd (upd (upd p9 0 (LO 0 + nI (e))) 1 (LO 1 + nI (j))) 2 (LO 2 + nI (k))) jb)))) plA (aI G 3 (upd (upd (upd (upd (upd p9 0 (LO 0 + nI (e))) 1 (LO 1 + nI (j))) 2 (LO 2 + nI (k))) ja ((upd (upd (upd p9 0 (LO 0 + nI (e))) 1 (LO 1 + nI (j))) 2 (LO 2 + nI (k))) jb)) jb ((upd (upd (upd p9 0 (LO 0 + nI (e))) 1 (LO 1 + nI (j))) 2 (LO 2 + nI (k))) ja)))) za = some (aZ G (sz3 LO HI) (zF (vwD w LO HI (exT ja jb) 0) (c3 (sN LO HI 1) (sN LO HI 2) e j k))) := (mU_n (Ne.symm plza)).trans m_119
          have m_132 : (mU (mU (mU (mU (mU (mU (mU (mU M4 plA (aI G 3 p9)) va (aJ G (sz3 LO HI) (vF (vwD w LO HI (exT ja jb) 0) (c3 (sN LO HI 1) (sN LO HI 2) e j k)))) za (aZ G (sz3 LO HI) (zF (vwD w LO HI (exT ja jb) 0) (c3 (sN LO HI 1) (sN LO HI 2) e j k)))) plA (aI G 3 (upd p9 0 (LO 0 + nI (e))))) plA (aI G 3 (upd (upd p9 0 (LO 0 + nI (e))) 1 (LO 1 + nI (j))))) plA (aI G 3 (upd (upd (upd p9 0 (LO 0 + nI (e))) 1 (LO 1 + nI (j))) 2 (LO 2 + nI (k))))) plA (aI G 3 (upd (upd (upd (upd p9 0 (LO 0 + nI (e))) 1 (LO 1 + nI (j))) 2 (LO 2 + nI (k))) ja ((upd (upd (upd p9 0 (LO 0 + nI (e))) 1 (LO 1 + nI (j))) 2 (LO 2 + nI (k))) jb)))) plA (aI G 3 (upd (upd (upd (upd (upd p9 0 (LO 0 + nI (e))) 1 (LO 1 + nI (j))) 2 (LO 2 + nI (k))) ja ((upd (upd (upd p9 0 (LO 0 + nI (e))) 1 (LO 1 + nI (j))) 2 (LO 2 + nI (k))) jb)) jb ((upd (upd (upd p9 0 (LO 0 + nI (e))) 1 (LO 1 + nI (j))) 2 (LO 2 + nI (k))) ja)))) o = some (oB 12 [.int (nI (vm w)), .int (nI (vdp w)), .ref ola, .ref oha, .ref ova, .ref oza]) := (mU_n (g_neoa m_120 m_114)).trans m_120
          have m_133 : (mU (mU (mU (mU (mU (mU (mU (mU M4 plA (aI G 3 p9)) va (aJ G (sz3 LO HI) (vF (vwD w LO HI (exT ja jb) 0) (c3 (sN LO HI 1) (sN LO HI 2) e j k)))) za (aZ G (sz3 LO HI) (zF (vwD w LO HI (exT ja jb) 0) (c3 (sN LO HI 1) (sN LO HI 2) e j k)))) plA (aI G 3 (upd p9 0 (LO 0 + nI (e))))) plA (aI G 3 (upd (upd p9 0 (LO 0 + nI (e))) 1 (LO 1 + nI (j))))) plA (aI G 3 (upd (upd (upd p9 0 (LO 0 + nI (e))) 1 (LO 1 + nI (j))) 2 (LO 2 + nI (k))))) plA (aI G 3 (upd (upd (upd (upd p9 0 (LO 0 + nI (e))) 1 (LO 1 + nI (j))) 2 (LO 2 + nI (k))) ja ((upd (upd (upd p9 0 (LO 0 + nI (e))) 1 (LO 1 + nI (j))) 2 (LO 2 + nI (k))) jb)))) plA (aI G 3 (upd (upd (upd (upd (upd p9 0 (LO 0 + nI (e))) 1 (LO 1 + nI (j))) 2 (LO 2 + nI (k))) ja ((upd (upd (upd p9 0 (LO 0 + nI (e))) 1 (LO 1 + nI (j))) 2 (LO 2 + nI (k))) jb)) jb ((upd (upd (upd p9 0 (LO 0 + nI (e))) 1 (LO 1 + nI (j))) 2 (LO 2 + nI (k))) ja)))) ola = some (aI G 3 (vlo w)) := (mU_n ((fun z => bo1 (Or.inl z)))).trans m_121
          have m_134 : (mU (mU (mU (mU (mU (mU (mU (mU M4 plA (aI G 3 p9)) va (aJ G (sz3 LO HI) (vF (vwD w LO HI (exT ja jb) 0) (c3 (sN LO HI 1) (sN LO HI 2) e j k)))) za (aZ G (sz3 LO HI) (zF (vwD w LO HI (exT ja jb) 0) (c3 (sN LO HI 1) (sN LO HI 2) e j k)))) plA (aI G 3 (upd p9 0 (LO 0 + nI (e))))) plA (aI G 3 (upd (upd p9 0 (LO 0 + nI (e))) 1 (LO 1 + nI (j))))) plA (aI G 3 (upd (upd (upd p9 0 (LO 0 + nI (e))) 1 (LO 1 + nI (j))) 2 (LO 2 + nI (k))))) plA (aI G 3 (upd (upd (upd (upd p9 0 (LO 0 + nI (e))) 1 (LO 1 + nI (j))) 2 (LO 2 + nI (k))) ja ((upd (upd (upd p9 0 (LO 0 + nI (e))) 1 (LO 1 + nI (j))) 2 (LO 2 + nI (k))) jb)))) plA (aI G 3 (upd (upd (upd (upd (upd p9 0 (LO 0 + nI (e))) 1 (LO 1 + nI (j))) 2 (LO 2 + nI (k))) ja ((upd (upd (upd p9 0 (LO 0 + nI (e))) 1 (LO 1 + nI (j))) 2 (LO 2 + nI (k))) jb)) jb ((upd (upd (upd p9 0 (LO 0 + nI (e))) 1 (LO 1 + nI (j))) 2 (LO 2 + nI (k))) ja)))) oha = some (aI G 3 (vhi w)) := (mU_n ((fun z => bo2 (Or.inl z)))).trans m_122
          have m_135 : (mU (mU (mU (mU (mU (mU (mU (mU M4 plA (aI G 3 p9)) va (aJ G (sz3 LO HI) (vF (vwD w LO HI (exT ja jb) 0) (c3 (sN LO HI 1) (sN LO HI 2) e j k)))) za (aZ G (sz3 LO HI) (zF (vwD w LO HI (exT ja jb) 0) (c3 (sN LO HI 1) (sN LO HI 2) e j k)))) plA (aI G 3 (upd p9 0 (LO 0 + nI (e))))) plA (aI G 3 (upd (upd p9 0 (LO 0 + nI (e))) 1 (LO 1 + nI (j))))) plA (aI G 3 (upd (upd (upd p9 0 (LO 0 + nI (e))) 1 (LO 1 + nI (j))) 2 (LO 2 + nI (k))))) plA (aI G 3 (upd (upd (upd (upd p9 0 (LO 0 + nI (e))) 1 (LO 1 + nI (j))) 2 (LO 2 + nI (k))) ja ((upd (upd (upd p9 0 (LO 0 + nI (e))) 1 (LO 1 + nI (j))) 2 (LO 2 + nI (k))) jb)))) plA (aI G 3 (upd (upd (upd (upd (upd p9 0 (LO 0 + nI (e))) 1 (LO 1 + nI (j))) 2 (LO 2 + nI (k))) ja ((upd (upd (upd p9 0 (LO 0 + nI (e))) 1 (LO 1 + nI (j))) 2 (LO 2 + nI (k))) jb)) jb ((upd (upd (upd p9 0 (LO 0 + nI (e))) 1 (LO 1 + nI (j))) 2 (LO 2 + nI (k))) ja)))) ova = some (aJ G (wsz w) ovf) := (mU_n ((fun z => bo3 (Or.inl z)))).trans m_123
          have m_136 : (mU (mU (mU (mU (mU (mU (mU (mU M4 plA (aI G 3 p9)) va (aJ G (sz3 LO HI) (vF (vwD w LO HI (exT ja jb) 0) (c3 (sN LO HI 1) (sN LO HI 2) e j k)))) za (aZ G (sz3 LO HI) (zF (vwD w LO HI (exT ja jb) 0) (c3 (sN LO HI 1) (sN LO HI 2) e j k)))) plA (aI G 3 (upd p9 0 (LO 0 + nI (e))))) plA (aI G 3 (upd (upd p9 0 (LO 0 + nI (e))) 1 (LO 1 + nI (j))))) plA (aI G 3 (upd (upd (upd p9 0 (LO 0 + nI (e))) 1 (LO 1 + nI (j))) 2 (LO 2 + nI (k))))) plA (aI G 3 (upd (upd (upd (upd p9 0 (LO 0 + nI (e))) 1 (LO 1 + nI (j))) 2 (LO 2 + nI (k))) ja ((upd (upd (upd p9 0 (LO 0 + nI (e))) 1 (LO 1 + nI (j))) 2 (LO 2 + nI (k))) jb)))) plA (aI G 3 (upd (upd (upd (upd (upd p9 0 (LO 0 + nI (e))) 1 (LO 1 + nI (j))) 2 (LO 2 + nI (k))) ja ((upd (upd (upd p9 0 (LO 0 + nI (e))) 1 (LO 1 + nI (j))) 2 (LO 2 + nI (k))) jb)) jb ((upd (upd (upd p9 0 (LO 0 + nI (e))) 1 (LO 1 + nI (j))) 2 (LO 2 + nI (k))) ja)))) oza = some (aZ G (wsz w) ozf) := (mU_n ((fun z => bo4 (Or.inl z)))).trans m_124
          refine q_aload X dX13_swap_251 6 rfl ?_
          refine q_aload X dX13_swap_253 6 rfl ?_
          refine q_iload X dX13_swap_255 7 rfl ?_
          refine q_iload X dX13_swap_257 8 rfl ?_
          refine q_iload X dX13_swap_259 9 rfl ?_
          refine q_callVp X (c_X12_at m_127 m_128 m_129) Y_X12_at tw_1269 tw_1270 tw_1271 m_127 rfl (by omega) rfl rfl (Nat.le_of_ble_eq_true rfl) dX13_swap_261 ?_
          rw [gAt_lo hok]
          refine q_aload X dX13_swap_264 5 rfl ?_
          refine q_aload_n X dX13_swap_266 1 rfl ?_
          refine q_get X m_125 rfl in_RX13 4 (by decide) tw_1198 rfl rfl dX13_swap_267 ?_
          refine q_iconst (v := 0) X dX13_swap_270 (by decide) ?_
          refine q_ialdN X 0 m_126 (rfl) (by decide) (by decide) dX13_swap_271 ?_
          refine q_aload_n X dX13_swap_272 1 rfl ?_
          refine q_get X m_125 rfl in_RX13 4 (by decide) tw_1198 rfl rfl dX13_swap_273 ?_
          refine q_iconst (v := 1) X dX13_swap_276 (by decide) ?_
          refine q_ialdN X 1 m_126 (rfl) (by decide) (by decide) dX13_swap_277 ?_
          refine q_aload_n X dX13_swap_278 1 rfl ?_
          refine q_get X m_125 rfl in_RX13 4 (by decide) tw_1198 rfl rfl dX13_swap_279 ?_
          refine q_iconst (v := 2) X dX13_swap_282 (by decide) ?_
          refine q_ialdN X 2 m_126 (rfl) (by decide) (by decide) dX13_swap_283 ?_
          refine q_callS X (c_from hw ⟨m_132, m_133, m_134, m_135, m_136, hO.2.2.2.2.2⟩ m_127 m_130 m_131 hc9 (by omega)) Y_X13_from tw_1364 tw_1365 (by omega) rfl rfl (Nat.le_of_ble_eq_true rfl) (rc' := 0) (rs' := 0) (Nat.le_refl _) (Nat.le_refl _) dX13_swap_284 (fun v M' hp _ => ?_)
          obtain ⟨rfl, eM⟩ := hp
          rw [eM]
          clear eM
          refine q_memE (M' := mU (mU (mU M4 plA (aI G 3 (swQ p9 (LO 0 + nI (e)) (LO 1 + nI (j)) (LO 2 + nI (k)) ja jb))) va (aJ G (sz3 LO HI) (vF (vwD w LO HI (exT ja jb) 0) (c3 (sN LO HI 1) (sN LO HI 2) e j (k + 1))))) za (aZ G (sz3 LO HI) (zF (vwD w LO HI (exT ja jb) 0) (c3 (sN LO HI 1) (sN LO HI 2) e j (k + 1))))) (by rw [show c3 (sN LO HI 1) (sN LO HI 2) e j (k + 1) = c3 (sN LO HI 1) (sN LO HI 2) e j k + 1 from rfl, ← vF_s fr9, ← zF_s fr9]; exact mU_z) ?_
          show qJ G F _ 10 (mU (mU (mU M4 plA (aI G 3 (swQ p9 (LO 0 + nI (e)) (LO 1 + nI (j)) (LO 2 + nI (k)) ja jb))) va (aJ G (sz3 LO HI) (vF (vwD w LO HI (exT ja jb) 0) (c3 (sN LO HI 1) (sN LO HI 2) e j (k + 1))))) za (aZ G (sz3 LO HI) (zF (vwD w LO HI (exT ja jb) 0) (c3 (sN LO HI 1) (sN LO HI 2) e j (k + 1))))) 0 0 287 [(9, .int ((upd (upd (upd p9 0 (LO 0 + nI (e))) 1 (LO 1 + nI (j))) 2 (LO 2 + nI (k))) ja)), (0, .ref r), (1, .int (nI i)), (2, .int (nI ja)), (3, .int (nI jb)), (4, .ref o), (5, .ref q), (6, .int (LO 0 + nI (e))), (7, .int (LO 1 + nI (j))), (8, .int (LO 2 + nI (k)))] []
          refine q_iinc (v := (LO 2 + nI (k + 1))) (lv' := [(8, .int (LO 2 + nI (k + 1))), (9, .int ((upd (upd (upd p9 0 (LO 0 + nI (e))) 1 (LO 1 + nI (j))) 2 (LO 2 + nI (k))) ja)), (0, .ref r), (1, .int (nI i)), (2, .int (nI ja)), (3, .int (nI jb)), (4, .ref o), (5, .ref q), (6, .int (LO 0 + nI (e))), (7, .int (LO 1 + nI (j)))]) X dX13_swap_287 9 rfl (lo_s) (by decide) rfl ?_
          refine q_goto X 187 dX13_swap_290 (by decide) ?_
          refine q_sub [2, 3, 4, 5, 6, 7, 8, 9, 0] rfl ?_
          exact ih (k + 1) _ (by omega) ⟨_, rfl⟩
      have L1 : ∀ (e : Nat) (he : e < sN LO HI 0) (kk : ∀ M2 : gMem, (∃ (p9 : Nat → Int32), M2 = mU (mU (mU M4 plA (aI G 3 p9)) va (aJ G (sz3 LO HI) (vF (vwD w LO HI (exT ja jb) 0) (c3 (sN LO HI 1) (sN LO HI 2) e (sN LO HI 1) 0)))) za (aZ G (sz3 LO HI) (zF (vwD w LO HI (exT ja jb) 0) (c3 (sN LO HI 1) (sN LO HI 2) e (sN LO HI 1) 0)))) → qJ G F (qQ G F (rfP G r cOp (some (.int 0)) (sp_swap σ (nI i) (nI ja) (nI jb)))) 10 M2 0 0 299 [(0, .ref r), (1, .int (nI i)), (2, .int (nI ja)), (3, .int (nI jb)), (4, .ref o), (5, .ref q), (6, .int (LO 0 + nI (e)))] []) (t j : Nat) (M1 : gMem), j + t = sN LO HI 1 → (∃ (p9 : Nat → Int32), M1 = mU (mU (mU M4 plA (aI G 3 p9)) va (aJ G (sz3 LO HI) (vF (vwD w LO HI (exT ja jb) 0) (c3 (sN LO HI 1) (sN LO HI 2) e j 0)))) za (aZ G (sz3 LO HI) (zF (vwD w LO HI (exT ja jb) 0) (c3 (sN LO HI 1) (sN LO HI 2) e j 0)))) → qJ G F (qQ G F (rfP G r cOp (some (.int 0)) (sp_swap σ (nI i) (nI ja) (nI jb)))) 10 M1 0 0 166 [(0, .ref r), (1, .int (nI i)), (2, .int (nI ja)), (3, .int (nI jb)), (4, .ref o), (5, .ref q), (6, .int (LO 0 + nI (e))), (7, .int (LO 1 + nI (j)))] [] := by
        intro e he kk t
        induction t with
        | zero =>
          intro j M1 hj0 hI
          obtain rfl : j = sN LO HI 1 := by omega
          have hI0 := hI
          obtain ⟨p9, rfl⟩ := hI
          refine q_iload X dX13_swap_166 7 rfl ?_
          refine q_aload X dX13_swap_168 5 rfl ?_
          refine q_get X (kq p9 (c3 (sN LO HI 1) (sN LO HI 2) e (sN LO HI 1) 0)) rfl in_RX12 3 (by decide) tw_1161 rfl rfl dX13_swap_170 ?_
          refine q_iconst (v := 1) X dX13_swap_173 (by decide) ?_
          refine q_ialdN X 1 (kha p9 (c3 (sN LO HI 1) (sN LO HI 2) e (sN LO HI 1) 0)) (rfl) (by decide) (by decide) dX13_swap_174 ?_
          refine q_icmp_gt X 299 dX13_swap_175 (by decide) (fun c_137 => ?_) (fun c_137 => absurd (by rw [y1]; exact (lo_lt l1.1 l1.2 (by omega) (by omega)).mpr (by omega)) c_137)
          refine q_sub [0, 1, 2, 3, 4, 5, 6] rfl ?_
          exact kk _ hI0
        | succ t ih =>
          intro j M1 hj0 hI
          have hj : j < sN LO HI 1 := by omega
          have hI0 := hI
          obtain ⟨p9, rfl⟩ := hI
          refine q_iload X dX13_swap_166 7 rfl ?_
          refine q_aload X dX13_swap_168 5 rfl ?_
          refine q_get X (kq p9 (c3 (sN LO HI 1) (sN LO HI 2) e j 0)) rfl in_RX12 3 (by decide) tw_1161 rfl rfl dX13_swap_170 ?_
          refine q_iconst (v := 1) X dX13_swap_173 (by decide) ?_
          refine q_ialdN X 1 (kha p9 (c3 (sN LO HI 1) (sN LO HI 2) e j 0)) (rfl) (by decide) (by decide) dX13_swap_174 ?_
          refine q_icmp_gt X 299 dX13_swap_175 (by decide) (fun c_138 => absurd ((lo_lt l1.1 l1.2 (by omega) (by omega)).mp (y1 ▸ c_138)) (by omega)) (fun c_138 => ?_)
          refine q_aload X dX13_swap_178 5 rfl ?_
          refine q_get X (kq p9 (c3 (sN LO HI 1) (sN LO HI 2) e j 0)) rfl in_RX12 2 (by decide) tw_1159 rfl rfl dX13_swap_180 ?_
          refine q_iconst (v := 2) X dX13_swap_183 (by decide) ?_
          refine q_ialdN X 2 (kla p9 (c3 (sN LO HI 1) (sN LO HI 2) e j 0)) (rfl) (by decide) (by decide) dX13_swap_184 ?_
          rw [show LO 2 = LO 2 + nI 0 from lo_0.symm]
          refine q_istore (lv' := [(8, .int (LO 2 + nI (0))), (0, .ref r), (1, .int (nI i)), (2, .int (nI ja)), (3, .int (nI jb)), (4, .ref o), (5, .ref q), (6, .int (LO 0 + nI (e))), (7, .int (LO 1 + nI (j)))]) X dX13_swap_185 (by decide) rfl ?_
          refine q_sub [1, 2, 3, 4, 5, 6, 7, 8, 0] rfl ?_
          refine L2 e j he hj (fun M2 hI2 => ?_) (sN LO HI 2) 0 _ (Nat.zero_add _) hI0
          rw [c3_k] at hI2
          refine q_iinc (v := (LO 1 + nI (j + 1))) (lv' := [(7, .int (LO 1 + nI (j + 1))), (0, .ref r), (1, .int (nI i)), (2, .int (nI ja)), (3, .int (nI jb)), (4, .ref o), (5, .ref q), (6, .int (LO 0 + nI (e)))]) X dX13_swap_293 7 rfl (lo_s) (by decide) rfl ?_
          refine q_goto X 166 dX13_swap_296 (by decide) ?_
          refine q_sub [1, 2, 3, 4, 5, 6, 7, 0] rfl ?_
          exact ih (j + 1) M2 (by omega) hI2
      have L0 : ∀ (kk : ∀ M2 : gMem, (∃ (p9 : Nat → Int32), M2 = mU (mU (mU M4 plA (aI G 3 p9)) va (aJ G (sz3 LO HI) (vF (vwD w LO HI (exT ja jb) 0) (c3 (sN LO HI 1) (sN LO HI 2) (sN LO HI 0) 0 0)))) za (aZ G (sz3 LO HI) (zF (vwD w LO HI (exT ja jb) 0) (c3 (sN LO HI 1) (sN LO HI 2) (sN LO HI 0) 0 0)))) → qJ G F (qQ G F (rfP G r cOp (some (.int 0)) (sp_swap σ (nI i) (nI ja) (nI jb)))) 10 M2 0 0 305 [(0, .ref r), (1, .int (nI i)), (2, .int (nI ja)), (3, .int (nI jb)), (4, .ref o), (5, .ref q)] []) (t e : Nat) (M1 : gMem), e + t = sN LO HI 0 → (∃ (p9 : Nat → Int32), M1 = mU (mU (mU M4 plA (aI G 3 p9)) va (aJ G (sz3 LO HI) (vF (vwD w LO HI (exT ja jb) 0) (c3 (sN LO HI 1) (sN LO HI 2) e 0 0)))) za (aZ G (sz3 LO HI) (zF (vwD w LO HI (exT ja jb) 0) (c3 (sN LO HI 1) (sN LO HI 2) e 0 0)))) → qJ G F (qQ G F (rfP G r cOp (some (.int 0)) (sp_swap σ (nI i) (nI ja) (nI jb)))) 10 M1 0 0 145 [(0, .ref r), (1, .int (nI i)), (2, .int (nI ja)), (3, .int (nI jb)), (4, .ref o), (5, .ref q), (6, .int (LO 0 + nI (e)))] [] := by
        intro  kk t
        induction t with
        | zero =>
          intro e M1 he0 hI
          obtain rfl : e = sN LO HI 0 := by omega
          have hI0 := hI
          obtain ⟨p9, rfl⟩ := hI
          refine q_iload X dX13_swap_145 6 rfl ?_
          refine q_aload X dX13_swap_147 5 rfl ?_
          refine q_get X (kq p9 (c3 (sN LO HI 1) (sN LO HI 2) (sN LO HI 0) 0 0)) rfl in_RX12 3 (by decide) tw_1161 rfl rfl dX13_swap_149 ?_
          refine q_iconst (v := 0) X dX13_swap_152 (by decide) ?_
          refine q_ialdN X 0 (kha p9 (c3 (sN LO HI 1) (sN LO HI 2) (sN LO HI 0) 0 0)) (rfl) (by decide) (by decide) dX13_swap_153 ?_
          refine q_icmp_gt X 305 dX13_swap_154 (by decide) (fun c_139 => ?_) (fun c_139 => absurd (by rw [y0]; exact (lo_lt l0.1 l0.2 (by omega) (by omega)).mpr (by omega)) c_139)
          refine q_sub [0, 1, 2, 3, 4, 5] rfl ?_
          exact kk _ hI0
        | succ t ih =>
          intro e M1 he0 hI
          have he : e < sN LO HI 0 := by omega
          have hI0 := hI
          obtain ⟨p9, rfl⟩ := hI
          refine q_iload X dX13_swap_145 6 rfl ?_
          refine q_aload X dX13_swap_147 5 rfl ?_
          refine q_get X (kq p9 (c3 (sN LO HI 1) (sN LO HI 2) e 0 0)) rfl in_RX12 3 (by decide) tw_1161 rfl rfl dX13_swap_149 ?_
          refine q_iconst (v := 0) X dX13_swap_152 (by decide) ?_
          refine q_ialdN X 0 (kha p9 (c3 (sN LO HI 1) (sN LO HI 2) e 0 0)) (rfl) (by decide) (by decide) dX13_swap_153 ?_
          refine q_icmp_gt X 305 dX13_swap_154 (by decide) (fun c_140 => absurd ((lo_lt l0.1 l0.2 (by omega) (by omega)).mp (y0 ▸ c_140)) (by omega)) (fun c_140 => ?_)
          refine q_aload X dX13_swap_157 5 rfl ?_
          refine q_get X (kq p9 (c3 (sN LO HI 1) (sN LO HI 2) e 0 0)) rfl in_RX12 2 (by decide) tw_1159 rfl rfl dX13_swap_159 ?_
          refine q_iconst (v := 1) X dX13_swap_162 (by decide) ?_
          refine q_ialdN X 1 (kla p9 (c3 (sN LO HI 1) (sN LO HI 2) e 0 0)) (rfl) (by decide) (by decide) dX13_swap_163 ?_
          rw [show LO 1 = LO 1 + nI 0 from lo_0.symm]
          refine q_istore (lv' := [(7, .int (LO 1 + nI (0))), (0, .ref r), (1, .int (nI i)), (2, .int (nI ja)), (3, .int (nI jb)), (4, .ref o), (5, .ref q), (6, .int (LO 0 + nI (e)))]) X dX13_swap_164 (by decide) rfl ?_
          refine q_sub [1, 2, 3, 4, 5, 6, 7, 0] rfl ?_
          refine L1 e he (fun M2 hI2 => ?_) (sN LO HI 1) 0 _ (Nat.zero_add _) hI0
          rw [c3_j] at hI2
          refine q_iinc (v := (LO 0 + nI (e + 1))) (lv' := [(6, .int (LO 0 + nI (e + 1))), (0, .ref r), (1, .int (nI i)), (2, .int (nI ja)), (3, .int (nI jb)), (4, .ref o), (5, .ref q)]) X dX13_swap_299 6 rfl (lo_s) (by decide) rfl ?_
          refine q_goto X 145 dX13_swap_302 (by decide) ?_
          refine q_sub [1, 2, 3, 4, 5, 6, 0] rfl ?_
          exact ih (e + 1) M2 (by omega) hI2
      refine q_aload X dX13_swap_136 0 rfl ?_
      refine q_get X hq4 rfl in_RX12 2 (by decide) tw_1159 rfl rfl dX13_swap_138 ?_
      refine q_iconst (v := 0) X dX13_swap_141 (by decide) ?_
      refine q_ialdN X 0 m_73 (rfl) (by decide) (by decide) dX13_swap_142 ?_
      rw [show LO 0 = LO 0 + nI 0 from lo_0.symm]
      refine q_istore (lv' := [(6, .int (LO 0 + nI (0))), (5, .ref q), (4, .ref o), (0, .ref r), (1, .int (nI i)), (2, .int (nI ja)), (3, .int (nI jb))]) X dX13_swap_143 (by decide) rfl ?_
      refine q_sub [3, 4, 5, 6, 2, 1, 0] rfl ?_
      refine L0 hfin (sN LO HI 0) 0 M4 (Nat.zero_add _) ⟨pl0, ?_⟩
      rw [c3_0, vF_0, zF_0, mU_id m_72, mU_id hva4, mU_id hza4]
    · refine q_callV X (c_large_n hB2 hok hd40 m_50 m_51 m_52 hlim) Y_X13_large tw_1359 tw_1361 sel_32 m_42 rfl (by omega) rfl rfl (Nat.le_of_ble_eq_true rfl) (rc' := 2) (rs' := 4096) (by omega) (by omega) dX13_swap_123 (fun v M' hp _ => ?_)
      obtain ⟨rfl, eM⟩ := hp
      have m_141 : M' r = some (oB 13 [.int 3, .ref vA, .ref nA, .ref pA, .ref plA, .ref dg, .int (nI (aV σ).length), .int (nI (aN σ).length), .int (nI (aOf σ)), .int (nI (aBg σ)), .int tk, .long su, .long le, .long gr]) := by rw [eM]; exact mU_s
      have m_142 : M' nA = some (aG G 150 nf) := by rw [eM]; exact (mU_n (Ne.symm (g_neoa m_42 m_43))).trans m_43
      have m_143 : M' o = some (oB 12 [.int (nI (vm w)), .int (nI (vdp w)), .ref ola, .ref oha, .ref ova, .ref oza]) := by rw [eM]; exact (mU_n (g_neoo m_44 m_42 (by decide))).trans m_44
      have m_144 : M' ola = some (aI G 3 (vlo w)) := by rw [eM]; exact (mU_n (Ne.symm (g_neoa m_42 m_45))).trans m_45
      have m_145 : M' oha = some (aI G 3 (vhi w)) := by rw [eM]; exact (mU_n (Ne.symm (g_neoa m_42 m_46))).trans m_46
      have m_146 : M' ova = some (aJ G (wsz w) ovf) := by rw [eM]; exact (mU_n (Ne.symm (g_neoa m_42 m_47))).trans m_47
      have m_147 : M' oza = some (aZ G (wsz w) ozf) := by rw [eM]; exact (mU_n (Ne.symm (g_neoa m_42 m_48))).trans m_48
      have m_148 : M' plA = some (aI G 3 pl0) := by rw [eM]; exact (mU_n (Ne.symm (g_neoa m_42 m_49))).trans m_49
      have m_149 : M' q = some (oB 12 [.int (nI (vm w)), .int (nI (vdp w + 1)), .ref la, .ref ha, .null, .null]) := by rw [eM]; exact (mU_n (Ne.symm (g_nef hB.1 fq))).trans m_50
      have m_150 : M' la = some (aI G 3 LO) := by rw [eM]; exact (mU_n (Ne.symm (g_nef hB.1 fla))).trans m_51
      have m_151 : M' ha = some (aI G 3 HI) := by rw [eM]; exact (mU_n (Ne.symm (g_nef hB.1 fha))).trans m_52
      have evK3 : mEv (fun x => x = r ∨ x = plA) M M' := by rw [eM]; exact evM2.trans (mEv_upd (K := (fun x => x = r ∨ x = plA)) (Or.inl rfl))
      have hB3 : rfB G M' r 3 σ vA nA pA plA dg dla dha dva dza dvf dzf vf nf pf tk su le gr := by rw [eM]; exact hB2.ro
      clear eM
      generalize M' = M3 at *
      show qJ G F _ 10 M3 2 4096 126 [(5, .ref q), (4, .ref o), (0, .ref r), (1, .int (nI i)), (2, .int (nI ja)), (3, .int (nI jb))] [.int 1]
      refine q_if_eq X 131 dX13_swap_126 (by decide) (fun c_152 => absurd c_152 (by decide)) (fun c_152 => ?_)
      refine q_iconst (v := 0) X dX13_swap_129 (by decide) ?_
      exact q_iret X hr dX13_swap_130 (rfP_T (by rw [specE]; exact gLim_n hlim) cOp_UO ⟨vA, nA, pA, plA, dg, dla, dha, dva, dza, dvf, dzf, vf, nf, pf, tk, su, le, gr, hB3⟩)
  show qJ G F _ 10 M 5 4108 0 [(0, .ref r), (1, .int a), (2, .int d), (3, .int e2)] []
  refine q_aload_n X dX13_swap_0 0 rfl ?_
  rcases Nat.lt_or_ge (aN σ).length 150 with q150 | q150
  · refine q_callV X (c_full_y hB q150) Y_X13_full tw_1332 tw_1334 sel_27 hB.1 rfl (by omega) rfl rfl (Nat.le_of_ble_eq_true rfl) (rc' := 5) (rs' := 4108) (by omega) (by omega) dX13_swap_1 (fun v M' hp _ => ?_)
    obtain ⟨rfl, eM⟩ := hp
    have hB253 : rfB G M' r 0 σ vA nA pA plA dg dla dha dva dza dvf dzf vf nf pf tk su le gr := by rw [eM]; exact hB.ro
    clear eM
    generalize M' = M253 at *
    show qJ G F _ 10 M253 5 4108 4 [(0, .ref r), (1, .int a), (2, .int d), (3, .int e2)] [.int 0]
    obtain ⟨z_154r, z_1541, z_1542, z_1543, ⟨z_154x, z_1544⟩, z_1545, z_1546, z_1547, z_1548, z_1549, z_15410⟩ := id hB253
    refine q_if_eq X 9 dX13_swap_4 (by decide) (fun c_155 => ?_) (fun c_155 => absurd (by decide) c_155)
    refine q_aload_n X dX13_swap_9 0 rfl ?_
    refine q_aload_n X dX13_swap_10 0 rfl ?_
    refine q_iload_n X dX13_swap_11 1 rfl ?_
    refine q_iload_n X dX13_swap_12 2 rfl ?_
    rcases hnd : ndAt σ a with _ | w
    · refine q_callVp X (c_noDim_n hB253 (by omega) hnd) Y_X13_noDim tw_1347 tw_1349 sel_29 z_154r rfl (by omega) rfl rfl (Nat.le_of_ble_eq_true rfl) dX13_swap_13 ?_
      refine q_if_ne X 28 dX13_swap_16 (by decide) (fun c16 => ?_) (fun c16 => absurd c16 (by decide))
      refine q_iconst (v := 1) X dX13_swap_28 (by decide) ?_
      refine q_goto X 33 dX13_swap_29 (by decide) ?_
      refine q_iconst (v := 1) X dX13_swap_33 (by decide) ?_
      refine q_callV X (c_fails1 (why := 1) hB253.1) Y_X13_fails tw_1246 tw_1248 sel_23 z_154r rfl (by omega) rfl rfl (Nat.le_of_ble_eq_true rfl) (rc' := 5) (rs' := 4108) (by omega) (by omega) dX13_swap_34 (fun v M' hp _ => ?_)
      obtain ⟨rfl, eM⟩ := hp
      have hB256 : rfB G M' r 1 σ vA nA pA plA dg dla dha dva dza dvf dzf vf nf pf tk su le gr := by rw [eM]; exact hB253.ro
      clear eM
      generalize M' = M256 at *
      show qJ G F _ 10 M256 5 4108 37 [(0, .ref r), (1, .int a), (2, .int d), (3, .int e2)] [.int 1]
      obtain ⟨z_157r, z_1571, z_1572, z_1573, ⟨z_157x, z_1574⟩, z_1575, z_1576, z_1577, z_1578, z_1579, z_15710⟩ := id hB256
      refine q_if_eq X 42 dX13_swap_37 (by decide) (fun c_158 => absurd c_158 (by decide)) (fun c_158 => ?_)
      refine q_iconst (v := 0) X dX13_swap_40 (by decide) ?_
      exact q_iret X hr dX13_swap_41 (rfP_T ((gRoom_y q150).trans (gNode_n hnd)) cOp_IA ⟨vA, nA, pA, plA, dg, dla, dha, dva, dza, dvf, dzf, vf, nf, pf, tk, su, le, gr, hB256⟩)
    · obtain ⟨i, hi9, rfl, hi⟩ := ndAt_some hnd
      have hw := hW.2 i w hi
      have hi150 : i < 150 := by omega
      obtain ⟨o, hnfo, ola, oha, ova, oza, ovf, ozf, hO, bo1, bo2, bo3, bo4⟩ := hB253.2.2.2.2.2.2.2.2.1 i w hi
      refine q_callVp X (c_noDim_y hB253 hl150 hi) Y_X13_noDim tw_1347 tw_1349 sel_29 z_154r rfl (by omega) rfl rfl (Nat.le_of_ble_eq_true rfl) dX13_swap_13 ?_
      refine q_if_ne X 28 dX13_swap_16 (by decide) (fun c16 => ?_) (fun c16 => ?_)
      · refine q_iconst (v := 1) X dX13_swap_28 (by decide) ?_
        refine q_goto X 33 dX13_swap_29 (by decide) ?_
        refine q_iconst (v := 1) X dX13_swap_33 (by decide) ?_
        refine q_callV X (c_fails1 (why := 1) hB253.1) Y_X13_fails tw_1246 tw_1248 sel_23 z_154r rfl (by omega) rfl rfl (Nat.le_of_ble_eq_true rfl) (rc' := 5) (rs' := 4108) (by omega) (by omega) dX13_swap_34 (fun v M' hp _ => ?_)
        obtain ⟨rfl, eM⟩ := hp
        have hB259 : rfB G M' r 1 σ vA nA pA plA dg dla dha dva dza dvf dzf vf nf pf tk su le gr := by rw [eM]; exact hB253.ro
        clear eM
        generalize M' = M259 at *
        show qJ G F _ 10 M259 5 4108 37 [(0, .ref r), (1, .int (nI i)), (2, .int d), (3, .int e2)] [.int 1]
        obtain ⟨z_160r, z_1601, z_1602, z_1603, ⟨z_160x, z_1604⟩, z_1605, z_1606, z_1607, z_1608, z_1609, z_16010⟩ := id hB259
        refine q_if_eq X 42 dX13_swap_37 (by decide) (fun c_161 => absurd c_161 (by decide)) (fun c_161 => ?_)
        refine q_iconst (v := 0) X dX13_swap_40 (by decide) ?_
        exact q_iret X hr dX13_swap_41 (rfP_T ((gRoom_y q150).trans ((gNode_y hnd).trans (gNeed_n (fun z => z.1 (Classical.not_not.mp (mt nHas_0.mpr c16)))))) cOp_IA ⟨vA, nA, pA, plA, dg, dla, dha, dva, dza, dvf, dzf, vf, nf, pf, tk, su, le, gr, hB259⟩)
      · refine q_aload_n X dX13_swap_19 0 rfl ?_
        refine q_iload_n X dX13_swap_20 1 rfl ?_
        refine q_iload_n X dX13_swap_21 3 rfl ?_
        refine q_callVp X (c_noDim_y hB253 hl150 hi) Y_X13_noDim tw_1347 tw_1349 sel_29 z_154r rfl (by omega) rfl rfl (Nat.le_of_ble_eq_true rfl) dX13_swap_22 ?_
        refine q_if_eq X 32 dX13_swap_25 (by decide) (fun c25 => ?_) (fun c25 => ?_)
        · refine q_iconst (v := 0) X dX13_swap_32 (by decide) ?_
          refine q_iconst (v := 1) X dX13_swap_33 (by decide) ?_
          refine q_callV X (c_fails0 (why := 1) hB253.1) Y_X13_fails tw_1246 tw_1248 sel_23 z_154r rfl (by omega) rfl rfl (Nat.le_of_ble_eq_true rfl) (rc' := 5) (rs' := 4108) (by omega) (by omega) dX13_swap_34 (fun v M' hp _ => ?_)
          obtain ⟨rfl, eM⟩ := hp
          have hB262 : rfB G M' r 0 σ vA nA pA plA dg dla dha dva dza dvf dzf vf nf pf tk su le gr := by rw [eM]; exact hB253.ro
          clear eM
          generalize M' = M262 at *
          show qJ G F _ 10 M262 5 4108 37 [(0, .ref r), (1, .int (nI i)), (2, .int d), (3, .int e2)] [.int 0]
          obtain ⟨z_163r, z_1631, z_1632, z_1633, ⟨z_163x, z_1634⟩, z_1635, z_1636, z_1637, z_1638, z_1639, z_16310⟩ := id hB262
          refine q_if_eq X 42 dX13_swap_37 (by decide) (fun c_164 => ?_) (fun c_164 => absurd (by decide) c_164)
          obtain ⟨ja, hja, rfl⟩ := sHas_in hw.1.2.1 (nHas_0.mp c16)
          obtain ⟨jb, hjb, rfl⟩ := sHas_in hw.1.2.1 (nHas_0.mp c25)
          refine q_sub [0, 1, 2, 3] rfl ?_
          exact tail _ i w hB262 hi hw q150 ja jb hja hjb (by unfold sp_swap; rw [nI_nn (show ja < 2 ^ 31 by have := hw.1.2.1; omega), nI_nn (show jb < 2 ^ 31 by have := hw.1.2.1; omega)]; exact (gRoom_y q150).trans ((gNode_y hnd).trans (gNeed_y ⟨nHas_0.mp c16, nHas_0.mp c25⟩)))
        · refine q_iconst (v := 1) X dX13_swap_28 (by decide) ?_
          refine q_goto X 33 dX13_swap_29 (by decide) ?_
          refine q_iconst (v := 1) X dX13_swap_33 (by decide) ?_
          refine q_callV X (c_fails1 (why := 1) hB253.1) Y_X13_fails tw_1246 tw_1248 sel_23 z_154r rfl (by omega) rfl rfl (Nat.le_of_ble_eq_true rfl) (rc' := 5) (rs' := 4108) (by omega) (by omega) dX13_swap_34 (fun v M' hp _ => ?_)
          obtain ⟨rfl, eM⟩ := hp
          have hB265 : rfB G M' r 1 σ vA nA pA plA dg dla dha dva dza dvf dzf vf nf pf tk su le gr := by rw [eM]; exact hB253.ro
          clear eM
          generalize M' = M265 at *
          show qJ G F _ 10 M265 5 4108 37 [(0, .ref r), (1, .int (nI i)), (2, .int d), (3, .int e2)] [.int 1]
          obtain ⟨z_166r, z_1661, z_1662, z_1663, ⟨z_166x, z_1664⟩, z_1665, z_1666, z_1667, z_1668, z_1669, z_16610⟩ := id hB265
          refine q_if_eq X 42 dX13_swap_37 (by decide) (fun c_167 => absurd c_167 (by decide)) (fun c_167 => ?_)
          refine q_iconst (v := 0) X dX13_swap_40 (by decide) ?_
          exact q_iret X hr dX13_swap_41 (rfP_T ((gRoom_y q150).trans ((gNode_y hnd).trans (gNeed_n (fun z => z.2 (Classical.not_not.mp (mt nHas_0.mpr c25)))))) cOp_IA ⟨vA, nA, pA, plA, dg, dla, dha, dva, dza, dvf, dzf, vf, nf, pf, tk, su, le, gr, hB265⟩)
  · refine q_callV X (c_full_n hB q150 hl150) Y_X13_full tw_1332 tw_1334 sel_27 hB.1 rfl (by omega) rfl rfl (Nat.le_of_ble_eq_true rfl) (rc' := 5) (rs' := 4108) (by omega) (by omega) dX13_swap_1 (fun v M' hp _ => ?_)
    obtain ⟨rfl, eM⟩ := hp
    have hB268 : rfB G M' r 2 σ vA nA pA plA dg dla dha dva dza dvf dzf vf nf pf tk su le gr := by rw [eM]; exact hB.ro
    clear eM
    generalize M' = M268 at *
    show qJ G F _ 10 M268 5 4108 4 [(0, .ref r), (1, .int a), (2, .int d), (3, .int e2)] [.int 1]
    obtain ⟨z_169r, z_1691, z_1692, z_1693, ⟨z_169x, z_1694⟩, z_1695, z_1696, z_1697, z_1698, z_1699, z_16910⟩ := id hB268
    refine q_if_eq X 9 dX13_swap_4 (by decide) (fun c_170 => absurd c_170 (by decide)) (fun c_170 => ?_)
    refine q_iconst (v := 0) X dX13_swap_7 (by decide) ?_
    exact q_iret X hr dX13_swap_8 (rfP_T (gRoom_n (Nat.not_lt.mpr q150)) cOp_IO ⟨vA, nA, pA, plA, dg, dla, dha, dva, dza, dvf, dzf, vf, nf, pf, tk, su, le, gr, hB268⟩)
